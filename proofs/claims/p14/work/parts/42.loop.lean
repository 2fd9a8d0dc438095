set_option maxRecDepth 100000 in
set_option maxHeartbeats 4000000 in
theorem law_sw {p : Program} {l : Launch} {e : Env} {s : State} {m : MethodId} {below : List Frame} {meth : Method} {c : Code} (hst : l.stackTraces = false) {b L : Nat} {xs : Nat → Int32} (C0 : lw_At p s m meth c b L xs) {D : va_G} {G : Nat → Nat} {b0 : Nat} (hb0 : s.heap.size = b0) (hE0 : hE D G b0 s s.heap) {i : Int32} (hin : ∀ k : Int32, 0 ≤ k.toInt → k.toInt ≤ 7 → vp_in (i + k) L) {τ : Nat → Nat} {f : hM} {K sh qs M : Nat → Nat} {o : Nat} (h0 : LI G τ f K sh qs M o) {H : Heap} {locs : List Loc} {ls : Array Slot} (h : hw D b0 s.heap f H locs) (hl : lv_has ls 7 [(4, .int i), (3, .ref o), (2, .ref (M 0)), (1, .ref (K 0)), (0, .ref b)]) {cells slots : Nat} (hc : cells + 49 ≤ 601024) (hs : slots + 4900 ≤ 7293034) {Q : State → Prop} (kk : ∀ (τ1 : Nat → Nat) (f1 : hM) (H1 : Heap) (locs1 : List Loc) (ls1 : Array Slot), LI G τ1 f1 K sh qs M o → hw D b0 s.heap f1 H1 locs1 → lv_has ls1 7 [(4, .int i), (3, .ref o), (2, .ref (M 0)), (1, .ref (K 0)), (0, .ref b)] → W p l e room_1 s m #[Value.ref b] below meth c H1 locs1 (cells + 49) (slots + 4900) Q (F0 m 2564 ls1 [])) : ∀ (j : Nat), j < 2 ^ 6 → W p l e room_1 s m #[Value.ref b] below meth c H locs cells slots Q (F0 m 40 ls [.int (nI j)])
  | 0, _ => lv_tableIn (tgt := 260) C0.1 C0.2.1 dL_law_40 (by decide) (by decide) (off := 220) rfl (by decide) (law_0 hst C0 hb0 hE0 hin h0 h hl hc hs kk)
  | 1, _ => lv_tableIn (tgt := 333) C0.1 C0.2.1 dL_law_40 (by decide) (by decide) (off := 293) rfl (by decide) (law_1 hst C0 hb0 hE0 hin h0 h hl hc hs kk)
  | 2, _ => lv_tableIn (tgt := 358) C0.1 C0.2.1 dL_law_40 (by decide) (by decide) (off := 318) rfl (by decide) (law_2 hst C0 hb0 hE0 hin h0 h hl hc hs kk)
  | 3, _ => lv_tableIn (tgt := 371) C0.1 C0.2.1 dL_law_40 (by decide) (by decide) (off := 331) rfl (by decide) (law_3 hst C0 hb0 hE0 hin h0 h hl hc hs kk)
  | 4, _ => lv_tableIn (tgt := 384) C0.1 C0.2.1 dL_law_40 (by decide) (by decide) (off := 344) rfl (by decide) (law_4 hst C0 hb0 hE0 hin h0 h hl hc hs kk)
  | 5, _ => lv_tableIn (tgt := 409) C0.1 C0.2.1 dL_law_40 (by decide) (by decide) (off := 369) rfl (by decide) (law_5 hst C0 hb0 hE0 hin h0 h hl hc hs kk)
  | 6, _ => lv_tableIn (tgt := 434) C0.1 C0.2.1 dL_law_40 (by decide) (by decide) (off := 394) rfl (by decide) (law_6 hst C0 hb0 hE0 hin h0 h hl hc hs kk)
  | 7, _ => lv_tableIn (tgt := 459) C0.1 C0.2.1 dL_law_40 (by decide) (by decide) (off := 419) rfl (by decide) (law_7 hst C0 hb0 hE0 hin h0 h hl hc hs kk)
  | 8, _ => lv_tableIn (tgt := 496) C0.1 C0.2.1 dL_law_40 (by decide) (by decide) (off := 456) rfl (by decide) (law_8 hst C0 hb0 hE0 hin h0 h hl hc hs kk)
  | 9, _ => lv_tableIn (tgt := 533) C0.1 C0.2.1 dL_law_40 (by decide) (by decide) (off := 493) rfl (by decide) (law_9 hst C0 hb0 hE0 hin h0 h hl hc hs kk)
  | 10, _ => lv_tableIn (tgt := 582) C0.1 C0.2.1 dL_law_40 (by decide) (by decide) (off := 542) rfl (by decide) (law_10 hst C0 hb0 hE0 hin h0 h hl hc hs kk)
  | 11, _ => lv_tableIn (tgt := 631) C0.1 C0.2.1 dL_law_40 (by decide) (by decide) (off := 591) rfl (by decide) (law_11 hst C0 hb0 hE0 hin h0 h hl hc hs kk)
  | 12, _ => lv_tableIn (tgt := 671) C0.1 C0.2.1 dL_law_40 (by decide) (by decide) (off := 631) rfl (by decide) (law_12 hst C0 hb0 hE0 hin h0 h hl hc hs kk)
  | 13, _ => lv_tableIn (tgt := 744) C0.1 C0.2.1 dL_law_40 (by decide) (by decide) (off := 704) rfl (by decide) (law_13 hst C0 hb0 hE0 hin h0 h hl hc hs kk)
  | 14, _ => lv_tableIn (tgt := 793) C0.1 C0.2.1 dL_law_40 (by decide) (by decide) (off := 753) rfl (by decide) (law_14 hst C0 hb0 hE0 hin h0 h hl hc hs kk)
  | 15, _ => lv_tableIn (tgt := 854) C0.1 C0.2.1 dL_law_40 (by decide) (by decide) (off := 814) rfl (by decide) (law_15 hst C0 hb0 hE0 hin h0 h hl hc hs kk)
  | 16, _ => lv_tableIn (tgt := 915) C0.1 C0.2.1 dL_law_40 (by decide) (by decide) (off := 875) rfl (by decide) (law_16 hst C0 hb0 hE0 hin h0 h hl hc hs kk)
  | 17, _ => lv_tableIn (tgt := 976) C0.1 C0.2.1 dL_law_40 (by decide) (by decide) (off := 936) rfl (by decide) (law_17 hst C0 hb0 hE0 hin h0 h hl hc hs kk)
  | 18, _ => lv_tableIn (tgt := 1013) C0.1 C0.2.1 dL_law_40 (by decide) (by decide) (off := 973) rfl (by decide) (law_18 hst C0 hb0 hE0 hin h0 h hl hc hs kk)
  | 19, _ => lv_tableIn (tgt := 1062) C0.1 C0.2.1 dL_law_40 (by decide) (by decide) (off := 1022) rfl (by decide) (law_19 hst C0 hb0 hE0 hin h0 h hl hc hs kk)
  | 20, _ => lv_tableIn (tgt := 1111) C0.1 C0.2.1 dL_law_40 (by decide) (by decide) (off := 1071) rfl (by decide) (law_20 hst C0 hb0 hE0 hin h0 h hl hc hs kk)
  | 21, _ => lv_tableIn (tgt := 1184) C0.1 C0.2.1 dL_law_40 (by decide) (by decide) (off := 1144) rfl (by decide) (law_21 hst C0 hb0 hE0 hin h0 h hl hc hs kk)
  | 22, _ => lv_tableIn (tgt := 1221) C0.1 C0.2.1 dL_law_40 (by decide) (by decide) (off := 1181) rfl (by decide) (law_22 hst C0 hb0 hE0 hin h0 h hl hc hs kk)
  | 23, _ => lv_tableIn (tgt := 1258) C0.1 C0.2.1 dL_law_40 (by decide) (by decide) (off := 1218) rfl (by decide) (law_23 hst C0 hb0 hE0 hin h0 h hl hc hs kk)
  | 24, _ => lv_tableIn (tgt := 1319) C0.1 C0.2.1 dL_law_40 (by decide) (by decide) (off := 1279) rfl (by decide) (law_24 hst C0 hb0 hE0 hin h0 h hl hc hs kk)
  | 25, _ => lv_tableIn (tgt := 1406) C0.1 C0.2.1 dL_law_40 (by decide) (by decide) (off := 1366) rfl (by decide) (law_25 hst C0 hb0 hE0 hin h0 h hl hc hs kk)
  | 26, _ => lv_tableIn (tgt := 1527) C0.1 C0.2.1 dL_law_40 (by decide) (by decide) (off := 1487) rfl (by decide) (law_26 hst C0 hb0 hE0 hin h0 h hl hc hs kk)
  | 27, _ => lv_tableIn (tgt := 1576) C0.1 C0.2.1 dL_law_40 (by decide) (by decide) (off := 1536) rfl (by decide) (law_27 hst C0 hb0 hE0 hin h0 h hl hc hs kk)
  | 28, _ => lv_tableIn (tgt := 1613) C0.1 C0.2.1 dL_law_40 (by decide) (by decide) (off := 1573) rfl (by decide) (law_28 hst C0 hb0 hE0 hin h0 h hl hc hs kk)
  | 29, _ => lv_tableIn (tgt := 1662) C0.1 C0.2.1 dL_law_40 (by decide) (by decide) (off := 1622) rfl (by decide) (law_29 hst C0 hb0 hE0 hin h0 h hl hc hs kk)
  | 30, _ => lv_tableIn (tgt := 1687) C0.1 C0.2.1 dL_law_40 (by decide) (by decide) (off := 1647) rfl (by decide) (law_30 hst C0 hb0 hE0 hin h0 h hl hc hs kk)
  | 31, _ => lv_tableIn (tgt := 1736) C0.1 C0.2.1 dL_law_40 (by decide) (by decide) (off := 1696) rfl (by decide) (law_31 hst C0 hb0 hE0 hin h0 h hl hc hs kk)
  | 32, _ => lv_tableIn (tgt := 1785) C0.1 C0.2.1 dL_law_40 (by decide) (by decide) (off := 1745) rfl (by decide) (law_32 hst C0 hb0 hE0 hin h0 h hl hc hs kk)
  | 33, _ => lv_tableIn (tgt := 1846) C0.1 C0.2.1 dL_law_40 (by decide) (by decide) (off := 1806) rfl (by decide) (law_33 hst C0 hb0 hE0 hin h0 h hl hc hs kk)
  | 34, _ => lv_tableIn (tgt := 1919) C0.1 C0.2.1 dL_law_40 (by decide) (by decide) (off := 1879) rfl (by decide) (law_34 hst C0 hb0 hE0 hin h0 h hl hc hs kk)
  | 35, _ => lv_tableIn (tgt := 1944) C0.1 C0.2.1 dL_law_40 (by decide) (by decide) (off := 1904) rfl (by decide) (law_35 hst C0 hb0 hE0 hin h0 h hl hc hs kk)
  | 36, _ => lv_tableIn (tgt := 1993) C0.1 C0.2.1 dL_law_40 (by decide) (by decide) (off := 1953) rfl (by decide) (law_36 hst C0 hb0 hE0 hin h0 h hl hc hs kk)
  | 37, _ => lv_tableIn (tgt := 2018) C0.1 C0.2.1 dL_law_40 (by decide) (by decide) (off := 1978) rfl (by decide) (law_37 hst C0 hb0 hE0 hin h0 h hl hc hs kk)
  | 38, _ => lv_tableIn (tgt := 2043) C0.1 C0.2.1 dL_law_40 (by decide) (by decide) (off := 2003) rfl (by decide) (law_38 hst C0 hb0 hE0 hin h0 h hl hc hs kk)
  | 39, _ => lv_tableIn (tgt := 2068) C0.1 C0.2.1 dL_law_40 (by decide) (by decide) (off := 2028) rfl (by decide) (law_39 hst C0 hb0 hE0 hin h0 h hl hc hs kk)
  | 40, _ => lv_tableIn (tgt := 2155) C0.1 C0.2.1 dL_law_40 (by decide) (by decide) (off := 2115) rfl (by decide) (law_40 hst C0 hb0 hE0 hin h0 h hl hc hs kk)
  | 41, _ => lv_tableIn (tgt := 2216) C0.1 C0.2.1 dL_law_40 (by decide) (by decide) (off := 2176) rfl (by decide) (law_41 hst C0 hb0 hE0 hin h0 h hl hc hs kk)
  | 42, _ => lv_tableIn (tgt := 2303) C0.1 C0.2.1 dL_law_40 (by decide) (by decide) (off := 2263) rfl (by decide) (law_42 hst C0 hb0 hE0 hin h0 h hl hc hs kk)
  | 43, _ => lv_tableIn (tgt := 2364) C0.1 C0.2.1 dL_law_40 (by decide) (by decide) (off := 2324) rfl (by decide) (law_43 hst C0 hb0 hE0 hin h0 h hl hc hs kk)
  | 44, _ => lv_tableIn (tgt := 2413) C0.1 C0.2.1 dL_law_40 (by decide) (by decide) (off := 2373) rfl (by decide) (law_44 hst C0 hb0 hE0 hin h0 h hl hc hs kk)
  | 45, _ => lv_tableIn (tgt := 2450) C0.1 C0.2.1 dL_law_40 (by decide) (by decide) (off := 2410) rfl (by decide) (law_45 hst C0 hb0 hE0 hin h0 h hl hc hs kk)
  | 46, _ => lv_tableIn (tgt := 2463) C0.1 C0.2.1 dL_law_40 (by decide) (by decide) (off := 2423) rfl (by decide) (law_46 hst C0 hb0 hE0 hin h0 h hl hc hs kk)
  | 47, _ => lv_tableIn (tgt := 2476) C0.1 C0.2.1 dL_law_40 (by decide) (by decide) (off := 2436) rfl (by decide) (law_47 hst C0 hb0 hE0 hin h0 h hl hc hs kk)
  | 48, _ => lv_tableIn (tgt := 2489) C0.1 C0.2.1 dL_law_40 (by decide) (by decide) (off := 2449) rfl (by decide) (law_48 hst C0 hb0 hE0 hin h0 h hl hc hs kk)
  | 49, _ => lv_tableIn (tgt := 2514) C0.1 C0.2.1 dL_law_40 (by decide) (by decide) (off := 2474) rfl (by decide) (law_49 hst C0 hb0 hE0 hin h0 h hl hc hs kk)
  | 50, _ => lv_tableIn (tgt := 2539) C0.1 C0.2.1 dL_law_40 (by decide) (by decide) (off := 2499) rfl (by decide) (law_50 hst C0 hb0 hE0 hin h0 h hl hc hs kk)
  | j + 51, hj => lv_tableOut (tgt := 2564) C0.1 C0.2.1 dL_law_40 (Or.inr (by rw [nI_toInt (by omega)]; omega)) (by decide) (W.widen (k := cells + 49) (n := slots + 4900) (Nat.le_add_right _ _) (Nat.le_add_right _ _) (kk _ _ _ _ _ h0 h hl))

theorem len_toInt {L : Nat} (hL : L ≤ 4096) : (Int32.ofNat L).toInt = L := by
  exact nI_toInt (by omega)
theorem law_hin {L n : Nat} {i : Int32} (hL : L ≤ 4096) (hi : i.toInt = 8 * n) (h8 : 8 * n + 8 ≤ L) : ∀ k : Int32, 0 ≤ k.toInt → k.toInt ≤ 7 → vp_in (i + k) L := fun k k0 k7 => by
  refine vp_in_iff.mpr ?_
  rw [iv_addE (a := i) (b := k) (l1 := 0) (h1 := 4096) (l2 := 0) (h2 := 7) ⟨by omega, by omega⟩ ⟨k0, k7⟩ (by decide)]
  omega
set_option maxRecDepth 100000 in
set_option maxHeartbeats 4000000 in
theorem law_loop {p : Program} {l : Launch} {e : Env} {s : State} {m : MethodId} {below : List Frame} {meth : Method} {c : Code} (hst : l.stackTraces = false) {b L : Nat} {xs : Nat → Int32} (C0 : lw_At p s m meth c b L xs) {D : va_G} {G : Nat → Nat} {b0 : Nat} (hb0 : s.heap.size = b0) (hE0 : hE D G b0 s s.heap) {K sh qs M : Nat → Nat} {o CC SS : Nat} (hL : L ≤ 4096) (hCC : CC + 49 * 512 ≤ 601024) (hSS : SS + 4900 * 512 ≤ 7293034) : ∀ (N n : Nat), 512 - n < N → n ≤ 512 → 8 * n ≤ L → ∀ (i : Int32) (τ : Nat → Nat) (f : hM) (H : Heap) (locs : List Loc) (ls : Array Slot), i.toInt = 8 * n → LI G τ f K sh qs M o → hw D b0 s.heap f H locs → lv_has ls 7 [(4, .int i), (3, .ref o), (2, .ref (M 0)), (1, .ref (K 0)), (0, .ref b)] → W p l e room_1 s m #[Value.ref b] below meth c H locs (CC + 49 * n) (SS + 4900 * n) (lw_Z below #[Value.ref b] s) (F0 m 23 ls [])
  | 0, n, hN, _, _ => absurd hN (Nat.not_lt_zero _)
  | N + 1, n, hN, hn, hnL => fun i τ f H locs ls hi h0 h hl => by
    obtain ⟨hx, hb, hr, hml, hown, hts0, hXs, hbl, hlk, hgv⟩ := id C0
    have hts : ∀ w ∈ wAll, w.before #[Value.ref b] s = true := fun w hw => hts0 w (wAll_tbl w hw)
    have C : hC p s m #[Value.ref b] meth c cL_law 7 RL D G b0 := ⟨hx, hb, hml, hown, hts, hE0, hlk⟩
    have hbA : ¬ hA b0 b := by rw [← hb0]; exact Nat.not_le.mpr hbl
    have eL := len_toInt hL
    refine lv_iload hx hb dL_law_23 (lv_at hl 0 rfl) ?_
    refine lv_aload_n hx hb dL_law_25 rfl (lv_at hl 4 rfl) ?_
    refine va_slen hx hb hXs hbl hbA h.2.2.1 dL_law_26 ?_
    refine lv_bipush (v := 8) hx hb dL_law_27 (by decide) ?_
    refine lv_isub hx hb dL_law_29 ?_
    have e8 : (Int32.ofNat L - 8).toInt = (L : Int) - 8 := by
      rw [iv_subE (a := Int32.ofNat L) (b := 8) (l1 := 0) (h1 := 4096) (l2 := 8) (h2 := 8) ⟨by omega, by omega⟩ ⟨by decide, by decide⟩ (by decide), eL]
      rfl
    refine lv_icmp_gt (tgt := 2570) hx hb dL_law_30 (by decide) (fun c_ => ?_) (fun c_ => ?_)
    · refine lv_iconst (v := 1) hx hb dL_law_2570 (by decide) ?_
      refine va_forget (fun q hq => by have := h.2.2.1.2.2 q hq; rw [hb0]; exact this) ?_
      refine W.widen (k := 601024) (n := 7293034) (by omega) (by omega) ?_
      exact lw_ret hx hb hr hlk dL_law_2571
    · have c1 : ¬ (Int32.ofNat L - 8) < i := c_
      rw [Int32.lt_iff_toInt_lt, e8, hi] at c1
      have h8 : 8 * n + 8 ≤ L := by omega
      refine lv_aload_n hx hb dL_law_33 rfl (lv_at hl 4 rfl) ?_
      refine lv_iload hx hb dL_law_34 (lv_at hl 0 rfl) ?_
      refine va_sld hx hb hXs hbl hbA h.2.2.1 (vp_in_iff.mpr (by omega)) dL_law_36 ?_
      refine lv_bipush (v := 63) hx hb dL_law_37 (by decide) ?_
      refine lv_iand hx hb dL_law_39 ?_
      obtain ⟨j, hj, ej⟩ := pk_andE (xs (Int32.toNatClampNeg i)) (m := 63) 6 (by decide)
      rw [ej]
      refine law_sw hst C0 hb0 hE0 (law_hin hL hi h8) h0 h hl (by omega) (by omega) (fun τ f H locs ls h0 h hl => ?_) j hj
      refine lv_iinc (v := i + 8) (lv' := [(4, .int (i + 8)), (3, .ref o), (2, .ref (M 0)), (1, .ref (K 0)), (0, .ref b)]) hx hb dL_law_2564 hl (k := 0) rfl rfl (by decide) rfl (fun ls hl => ?_)
      refine lv_goto (tgt := 23) hx hb dL_law_2567 (by decide) ?_
      have e9 : (i + 8).toInt = 8 * ((n + 1 : Nat) : Int) := by
        rw [iv_addE (a := i) (b := 8) (l1 := 0) (h1 := 4096) (l2 := 8) (h2 := 8) ⟨by omega, by omega⟩ ⟨by decide, by decide⟩ (by decide), hi, show (8 : Int32).toInt = 8 from rfl]
        omega
      have q := law_loop (e := e) (below := below) hst C0 hb0 hE0 hL hCC hSS N (n + 1) (by omega) (by omega) (by omega) (i + 8) τ f H locs ls e9 h0 h hl
      rw [show CC + 49 * (n + 1) = CC + 49 * n + 49 by omega, show SS + 4900 * (n + 1) = SS + 4900 * n + 4900 by omega] at q
      exact q
