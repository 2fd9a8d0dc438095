theorem dL_law_0 : decode cL_law 0 = .ok (.new 8, 3) := by decide +kernel
theorem w_124 : Cond.classLink "QuarterWalksLaw" 8 "QuarterWalks" ∈ wAll := wIn 124 (by decide +kernel) (by decide +kernel)
theorem w_125 : Cond.instantiable "QuarterWalks" 10 ∈ wAll := wIn 125 (by decide +kernel) (by decide +kernel)
theorem nw_L_8 : nw RL 8 11 10 [.null, .null, .null, .null, .null, .null, .null, .null, .null, .null] := ⟨RX10, TX10, tyX10, rfl, inA_X10, tyX10_ok, w_124, w_125, w_96, by decide +kernel⟩
theorem dL_law_3 : decode cL_law 3 = .ok (.dup, 1) := by decide +kernel
theorem dL_law_4 : decode cL_law 4 = .ok (.invokespecial 15, 3) := by decide +kernel
theorem w_126 : Cond.methodLink "QuarterWalksLaw" 15 yX10_init ∈ wAll := wIn 126 (by decide +kernel) (by decide +kernel)
theorem mk_X10_init : mk yX10_init 0 := ⟨by decide +kernel, w_96⟩
theorem w_127 : Cond.instanceMethod yX10_init ∈ wAll := wIn 127 (by decide +kernel) (by decide +kernel)
theorem w_128 : Cond.code yX10_init cX10_init 1 none ∈ wAll := wIn 128 (by decide +kernel) (by decide +kernel)
theorem dL_law_7 : decode cL_law 7 = .ok (.astore_n 1, 1) := by decide +kernel
theorem dL_law_8 : decode cL_law 8 = .ok (.new 16, 3) := by decide +kernel
theorem w_1427 : Cond.classLink "QuarterWalksLaw" 16 "QuarterWalksModel" ∈ wAll := wIn 1427 (by decide +kernel) (by decide +kernel)
theorem w_1428 : Cond.instantiable "QuarterWalksModel" 32 ∈ wAll := wIn 1428 (by decide +kernel) (by decide +kernel)
theorem nw_L_16 : nw RL 16 12 32 [.int 0, .null, .int 0, .int 0, .int 0, .null, .null, .null, .null, .null, .int 0, .int 0, .null, .null, .int 0, .null, .null, .null, .long 0, .null, .null, .null, .null, .null, .null, .null, .null, .int 0, .int 0, .null, .null, .int 0] := ⟨RX11, TX11, tyX11, rfl, inA_X11, tyX11_ok, w_1427, w_1428, w_110, by decide +kernel⟩
theorem dL_law_11 : decode cL_law 11 = .ok (.dup, 1) := by decide +kernel
theorem dL_law_12 : decode cL_law 12 = .ok (.invokespecial 18, 3) := by decide +kernel
theorem w_1429 : Cond.methodLink "QuarterWalksLaw" 18 yX11_init ∈ wAll := wIn 1429 (by decide +kernel) (by decide +kernel)
theorem mk_X11_init : mk yX11_init 0 := ⟨by decide +kernel, w_110⟩
theorem w_1430 : Cond.instanceMethod yX11_init ∈ wAll := wIn 1430 (by decide +kernel) (by decide +kernel)
theorem w_1431 : Cond.code yX11_init cX11_init 1 none ∈ wAll := wIn 1431 (by decide +kernel) (by decide +kernel)
theorem dL_law_15 : decode cL_law 15 = .ok (.astore_n 2, 1) := by decide +kernel
theorem dL_law_16 : decode cL_law 16 = .ok (.iconst 1, 1) := by decide +kernel
theorem dL_law_17 : decode cL_law 17 = .ok (.newarray .long, 2) := by decide +kernel
theorem dL_law_19 : decode cL_law 19 = .ok (.astore_n 3, 1) := by decide +kernel
theorem dL_law_20 : decode cL_law 20 = .ok (.iconst 0, 1) := by decide +kernel
theorem dL_law_21 : decode cL_law 21 = .ok (.istore 4, 2) := by decide +kernel
theorem dL_law_33 : decode cL_law 33 = .ok (.aload_n 0, 1) := by decide +kernel
theorem dL_law_34 : decode cL_law 34 = .ok (.iload 4, 2) := by decide +kernel
theorem dL_law_36 : decode cL_law 36 = .ok (.iaload, 1) := by decide +kernel
theorem dL_law_37 : decode cL_law 37 = .ok (.bipush 63, 2) := by decide +kernel
theorem dL_law_39 : decode cL_law 39 = .ok (.iand, 1) := by decide +kernel
theorem dL_law_40 : decode cL_law 40 = .ok (.tableswitch 2553 0 50 #[220, 293, 318, 331, 344, 369, 394, 419, 456, 493, 542, 591, 659, 732, 781, 843, 904, 965, 1002, 1051, 1100, 1173, 1210, 1247, 1308, 1395, 1516, 1565, 1602, 1651, 1676, 1725, 1774, 1835, 1908, 1933, 1982, 2007, 2032, 2057, 2144, 2205, 2292, 2353, 2402, 2439, 2452, 2465, 2478, 2503, 2528], 220) := by decide +kernel

theorem len8 : ∀ L : Nat, L ≤ 8 → ¬ (Int32.ofNat L - 8 < (0 : Int32)) → L = 8 := by decide
set_option maxRecDepth 100000 in
set_option maxHeartbeats 4000000 in
theorem law_sw {p : Program} {l : Launch} {e : Env} {s : State} {m : MethodId} {below : List Frame} {meth : Method} {c : Code} (hst : l.stackTraces = false) {b : Nat} {xs : Nat → Int32} (C0 : lw_At p s m meth c b 8 xs) {D : va_G} {G : Nat → Nat} {b0 : Nat} (hb0 : s.heap.size = b0) (hE0 : hE D G b0 s s.heap) {f : hM} {X M : Nat → Nat} {o : Nat} (hX : xw G f X) (hM : mw G f M) (hMX : ∀ i, i ∈ XI → M 0 ≠ X i ∧ M 1 ≠ X i ∧ M 2 ≠ X i ∧ M 3 ≠ X i ∧ M 4 ≠ X i ∧ M 6 ≠ X i) {H : Heap} {locs : List Loc} {ls : Array Slot} (h : hw D b0 s.heap f H locs) (hl : lv_has ls 7 [(4, .int 0), (3, .ref o), (2, .ref (M 0)), (1, .ref (X 0)), (0, .ref b)]) : ∀ (j : Nat), j < 2 ^ 6 → W p l e room_1 s m #[Value.ref b] below meth c H locs 125 106894 (lw_Z below #[Value.ref b] s) (F0 m 40 ls [.int (nI j)])
  | 0, _ => lv_tableIn (tgt := 260) C0.1 C0.2.1 dL_law_40 (by decide) (by decide) (off := 220) rfl (by decide) (law_0 hst C0 hb0 hE0 hX hM hMX h hl)
  | 1, _ => lv_tableIn (tgt := 333) C0.1 C0.2.1 dL_law_40 (by decide) (by decide) (off := 293) rfl (by decide) (law_1 hst C0 hb0 hE0 hX hM hMX h hl)
  | 2, _ => lv_tableIn (tgt := 358) C0.1 C0.2.1 dL_law_40 (by decide) (by decide) (off := 318) rfl (by decide) (law_2 hst C0 hb0 hE0 hX hM hMX h hl)
  | 3, _ => lv_tableIn (tgt := 371) C0.1 C0.2.1 dL_law_40 (by decide) (by decide) (off := 331) rfl (by decide) (law_3 hst C0 hb0 hE0 hX hM hMX h hl)
  | 4, _ => lv_tableIn (tgt := 384) C0.1 C0.2.1 dL_law_40 (by decide) (by decide) (off := 344) rfl (by decide) (law_4 hst C0 hb0 hE0 hX hM hMX h hl)
  | 5, _ => lv_tableIn (tgt := 409) C0.1 C0.2.1 dL_law_40 (by decide) (by decide) (off := 369) rfl (by decide) (law_5 hst C0 hb0 hE0 hX hM hMX h hl)
  | 6, _ => lv_tableIn (tgt := 434) C0.1 C0.2.1 dL_law_40 (by decide) (by decide) (off := 394) rfl (by decide) (law_6 hst C0 hb0 hE0 hX hM hMX h hl)
  | 7, _ => lv_tableIn (tgt := 459) C0.1 C0.2.1 dL_law_40 (by decide) (by decide) (off := 419) rfl (by decide) (law_7 hst C0 hb0 hE0 hX hM hMX h hl)
  | 8, _ => lv_tableIn (tgt := 496) C0.1 C0.2.1 dL_law_40 (by decide) (by decide) (off := 456) rfl (by decide) (law_8 hst C0 hb0 hE0 hX hM hMX h hl)
  | 9, _ => lv_tableIn (tgt := 533) C0.1 C0.2.1 dL_law_40 (by decide) (by decide) (off := 493) rfl (by decide) (law_9 hst C0 hb0 hE0 hX hM hMX h hl)
  | 10, _ => lv_tableIn (tgt := 582) C0.1 C0.2.1 dL_law_40 (by decide) (by decide) (off := 542) rfl (by decide) (law_10 hst C0 hb0 hE0 hX hM hMX h hl)
  | 11, _ => lv_tableIn (tgt := 631) C0.1 C0.2.1 dL_law_40 (by decide) (by decide) (off := 591) rfl (by decide) (law_11 hst C0 hb0 hE0 hX hM hMX h hl)
  | 12, _ => lv_tableIn (tgt := 699) C0.1 C0.2.1 dL_law_40 (by decide) (by decide) (off := 659) rfl (by decide) (law_12 hst C0 hb0 hE0 hX hM hMX h hl)
  | 13, _ => lv_tableIn (tgt := 772) C0.1 C0.2.1 dL_law_40 (by decide) (by decide) (off := 732) rfl (by decide) (law_13 hst C0 hb0 hE0 hX hM hMX h hl)
  | 14, _ => lv_tableIn (tgt := 821) C0.1 C0.2.1 dL_law_40 (by decide) (by decide) (off := 781) rfl (by decide) (law_14 hst C0 hb0 hE0 hX hM hMX h hl)
  | 15, _ => lv_tableIn (tgt := 883) C0.1 C0.2.1 dL_law_40 (by decide) (by decide) (off := 843) rfl (by decide) (law_15 hst C0 hb0 hE0 hX hM hMX h hl)
  | 16, _ => lv_tableIn (tgt := 944) C0.1 C0.2.1 dL_law_40 (by decide) (by decide) (off := 904) rfl (by decide) (law_16 hst C0 hb0 hE0 hX hM hMX h hl)
  | 17, _ => lv_tableIn (tgt := 1005) C0.1 C0.2.1 dL_law_40 (by decide) (by decide) (off := 965) rfl (by decide) (law_17 hst C0 hb0 hE0 hX hM hMX h hl)
  | 18, _ => lv_tableIn (tgt := 1042) C0.1 C0.2.1 dL_law_40 (by decide) (by decide) (off := 1002) rfl (by decide) (law_18 hst C0 hb0 hE0 hX hM hMX h hl)
  | 19, _ => lv_tableIn (tgt := 1091) C0.1 C0.2.1 dL_law_40 (by decide) (by decide) (off := 1051) rfl (by decide) (law_19 hst C0 hb0 hE0 hX hM hMX h hl)
  | 20, _ => lv_tableIn (tgt := 1140) C0.1 C0.2.1 dL_law_40 (by decide) (by decide) (off := 1100) rfl (by decide) (law_20 hst C0 hb0 hE0 hX hM hMX h hl)
  | 21, _ => lv_tableIn (tgt := 1213) C0.1 C0.2.1 dL_law_40 (by decide) (by decide) (off := 1173) rfl (by decide) (law_21 hst C0 hb0 hE0 hX hM hMX h hl)
  | 22, _ => lv_tableIn (tgt := 1250) C0.1 C0.2.1 dL_law_40 (by decide) (by decide) (off := 1210) rfl (by decide) (law_22 hst C0 hb0 hE0 hX hM hMX h hl)
  | 23, _ => lv_tableIn (tgt := 1287) C0.1 C0.2.1 dL_law_40 (by decide) (by decide) (off := 1247) rfl (by decide) (law_23 hst C0 hb0 hE0 hX hM hMX h hl)
  | 24, _ => lv_tableIn (tgt := 1348) C0.1 C0.2.1 dL_law_40 (by decide) (by decide) (off := 1308) rfl (by decide) (law_24 hst C0 hb0 hE0 hX hM hMX h hl)
  | 25, _ => lv_tableIn (tgt := 1435) C0.1 C0.2.1 dL_law_40 (by decide) (by decide) (off := 1395) rfl (by decide) (law_25 hst C0 hb0 hE0 hX hM hMX h hl)
  | 26, _ => lv_tableIn (tgt := 1556) C0.1 C0.2.1 dL_law_40 (by decide) (by decide) (off := 1516) rfl (by decide) (law_26 hst C0 hb0 hE0 hX hM hMX h hl)
  | 27, _ => lv_tableIn (tgt := 1605) C0.1 C0.2.1 dL_law_40 (by decide) (by decide) (off := 1565) rfl (by decide) (law_27 hst C0 hb0 hE0 hX hM hMX h hl)
  | 28, _ => lv_tableIn (tgt := 1642) C0.1 C0.2.1 dL_law_40 (by decide) (by decide) (off := 1602) rfl (by decide) (law_28 hst C0 hb0 hE0 hX hM hMX h hl)
  | 29, _ => lv_tableIn (tgt := 1691) C0.1 C0.2.1 dL_law_40 (by decide) (by decide) (off := 1651) rfl (by decide) (law_29 hst C0 hb0 hE0 hX hM hMX h hl)
  | 30, _ => lv_tableIn (tgt := 1716) C0.1 C0.2.1 dL_law_40 (by decide) (by decide) (off := 1676) rfl (by decide) (law_30 hst C0 hb0 hE0 hX hM hMX h hl)
  | 31, _ => lv_tableIn (tgt := 1765) C0.1 C0.2.1 dL_law_40 (by decide) (by decide) (off := 1725) rfl (by decide) (law_31 hst C0 hb0 hE0 hX hM hMX h hl)
  | 32, _ => lv_tableIn (tgt := 1814) C0.1 C0.2.1 dL_law_40 (by decide) (by decide) (off := 1774) rfl (by decide) (law_32 hst C0 hb0 hE0 hX hM hMX h hl)
  | 33, _ => lv_tableIn (tgt := 1875) C0.1 C0.2.1 dL_law_40 (by decide) (by decide) (off := 1835) rfl (by decide) (law_33 hst C0 hb0 hE0 hX hM hMX h hl)
  | 34, _ => lv_tableIn (tgt := 1948) C0.1 C0.2.1 dL_law_40 (by decide) (by decide) (off := 1908) rfl (by decide) (law_34 hst C0 hb0 hE0 hX hM hMX h hl)
  | 35, _ => lv_tableIn (tgt := 1973) C0.1 C0.2.1 dL_law_40 (by decide) (by decide) (off := 1933) rfl (by decide) (law_35 hst C0 hb0 hE0 hX hM hMX h hl)
  | 36, _ => lv_tableIn (tgt := 2022) C0.1 C0.2.1 dL_law_40 (by decide) (by decide) (off := 1982) rfl (by decide) (law_36 hst C0 hb0 hE0 hX hM hMX h hl)
  | 37, _ => lv_tableIn (tgt := 2047) C0.1 C0.2.1 dL_law_40 (by decide) (by decide) (off := 2007) rfl (by decide) (law_37 hst C0 hb0 hE0 hX hM hMX h hl)
  | 38, _ => lv_tableIn (tgt := 2072) C0.1 C0.2.1 dL_law_40 (by decide) (by decide) (off := 2032) rfl (by decide) (law_38 hst C0 hb0 hE0 hX hM hMX h hl)
  | 39, _ => lv_tableIn (tgt := 2097) C0.1 C0.2.1 dL_law_40 (by decide) (by decide) (off := 2057) rfl (by decide) (law_39 hst C0 hb0 hE0 hX hM hMX h hl)
  | 40, _ => lv_tableIn (tgt := 2184) C0.1 C0.2.1 dL_law_40 (by decide) (by decide) (off := 2144) rfl (by decide) (law_40 hst C0 hb0 hE0 hX hM hMX h hl)
  | 41, _ => lv_tableIn (tgt := 2245) C0.1 C0.2.1 dL_law_40 (by decide) (by decide) (off := 2205) rfl (by decide) (law_41 hst C0 hb0 hE0 hX hM hMX h hl)
  | 42, _ => lv_tableIn (tgt := 2332) C0.1 C0.2.1 dL_law_40 (by decide) (by decide) (off := 2292) rfl (by decide) (law_42 hst C0 hb0 hE0 hX hM hMX h hl)
  | 43, _ => lv_tableIn (tgt := 2393) C0.1 C0.2.1 dL_law_40 (by decide) (by decide) (off := 2353) rfl (by decide) (law_43 hst C0 hb0 hE0 hX hM hMX h hl)
  | 44, _ => lv_tableIn (tgt := 2442) C0.1 C0.2.1 dL_law_40 (by decide) (by decide) (off := 2402) rfl (by decide) (law_44 hst C0 hb0 hE0 hX hM hMX h hl)
  | 45, _ => lv_tableIn (tgt := 2479) C0.1 C0.2.1 dL_law_40 (by decide) (by decide) (off := 2439) rfl (by decide) (law_45 hst C0 hb0 hE0 hX hM hMX h hl)
  | 46, _ => lv_tableIn (tgt := 2492) C0.1 C0.2.1 dL_law_40 (by decide) (by decide) (off := 2452) rfl (by decide) (law_46 hst C0 hb0 hE0 hX hM hMX h hl)
  | 47, _ => lv_tableIn (tgt := 2505) C0.1 C0.2.1 dL_law_40 (by decide) (by decide) (off := 2465) rfl (by decide) (law_47 hst C0 hb0 hE0 hX hM hMX h hl)
  | 48, _ => lv_tableIn (tgt := 2518) C0.1 C0.2.1 dL_law_40 (by decide) (by decide) (off := 2478) rfl (by decide) (law_48 hst C0 hb0 hE0 hX hM hMX h hl)
  | 49, _ => lv_tableIn (tgt := 2543) C0.1 C0.2.1 dL_law_40 (by decide) (by decide) (off := 2503) rfl (by decide) (law_49 hst C0 hb0 hE0 hX hM hMX h hl)
  | 50, _ => lv_tableIn (tgt := 2568) C0.1 C0.2.1 dL_law_40 (by decide) (by decide) (off := 2528) rfl (by decide) (law_50 hst C0 hb0 hE0 hX hM hMX h hl)
  | j + 51, hj => lv_tableOut (tgt := 2593) C0.1 C0.2.1 dL_law_40 (Or.inr (by rw [nI_toInt (by omega)]; omega)) (by decide) (law_end C0 hb0 hE0 h (lv_sub hl [0, 4] rfl) (Nat.le_of_ble_eq_true rfl) (Nat.le_of_ble_eq_true rfl))
