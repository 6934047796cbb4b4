set_option maxHeartbeats 4000000 in
set_option maxRecDepth 100000 in
theorem lc_measure {p : Program} {e : Env} {s : State} {m : MethodId} {below : List Frame} {meth : Method} {c : Code} {l : Launch} {D : va_G} {cA : Nat → ClassId} {A : Nat → Prop} {b L : Nat} {xs : Nat → Int32} (C : lwC p l s m c D cA A b L xs) (Q9 : State → Prop) (i : Int) (hi : 0 ≤ i ∧ i + 5 ≤ L) (nc ns : Nat) (hnc : nc + 10 ≤ room_1.cells ∧ ns + 500 ≤ room_1.slots)
  (kk : ∀ (ad : Nat → Nat) (w : Nat → Option va_E) (sc : Nat → Int) (fn : Nat → Int → Int) (H : Heap) (locs : List Loc) (ls : Array Slot), lwS cA ad w sc fn → gP D vwCl ad w H → gD A ad w → va_S A s.heap H locs → lv_has ls 9 [(0, .ref b), (1, .ref (ad 0)), (2, .ref (ad 200)), (3, .ref (ad 301)), (4, .ref (ad 302)), (5, .int (iI i))] → W p l e room_1 s m #[Value.ref b] below meth c H locs (nc + 10) (ns + 500) Q9 (F0 m 1710 ls []))
  (ad : Nat → Nat) (w : Nat → Option va_E) (sc : Nat → Int) (fn : Nat → Int → Int) (H : Heap) (locs : List Loc) (ls : Array Slot) (hW : lwS cA ad w sc fn) (hP : gP D vwCl ad w H) (hD : gD A ad w) (hS : va_S A s.heap H locs) (hl : lv_has ls 9 [(0, .ref b), (1, .ref (ad 0)), (2, .ref (ad 200)), (3, .ref (ad 301)), (4, .ref (ad 302)), (5, .int (iI i))]) : W p l e room_1 s m #[Value.ref b] below meth c H locs nc ns Q9 (F0 m 1449 ls []) := by
  obtain ⟨hl0, hx, hb, hml, hown, hts, hK, hB, hZ, hA, hX, hbl, hbA, hL⟩ := C
  obtain ⟨hbk, hI, ⟨th, hmd⟩, ⟨o, ho⟩, ⟨g, hg⟩⟩ := hW
  obtain ⟨fs0, hq0⟩ := bookS_0 hbk
  refine lv_aload_n (pc := 1449) hx hb dL_law_1449 rfl (lv_at hl 1 rfl) ?_
  refine lv_aload_n (pc := 1450) hx hb dL_law_1450 rfl (lv_at hl 0 rfl) ?_
  refine lv_iload (pc := 1451) hx hb dL_law_1451 (lv_at hl 5 rfl) ?_
  refine k_iconst (pc := 1453) hx hb dL_law_1453 ?_
  refine k_iadd (pc := 1454) hx hb dL_law_1454 ?_
  refine k_sld (pc := 1455) hx hb hX hbl hbA hS (i := (i + 1)) (by omega) (by omega) hL dL_law_1455 ?_
  refine W.eq (g2 := F0 m 1456 ls [.int (iI (sV xs (i + 1))), .ref (ad 0)]) rfl ?_
  refine lv_aload_n (pc := 1456) hx hb dL_law_1456 rfl (lv_at hl 0 rfl) ?_
  refine lv_iload (pc := 1457) hx hb dL_law_1457 (lv_at hl 5 rfl) ?_
  refine k_iconst (pc := 1459) hx hb dL_law_1459 ?_
  refine k_iadd (pc := 1460) hx hb dL_law_1460 ?_
  refine k_sld (pc := 1461) hx hb hX hbl hbA hS (i := (i + 2)) (by omega) (by omega) hL dL_law_1461 ?_
  refine W.eq (g2 := F0 m 1462 ls [.int (iI (sV xs (i + 2))), .int (iI (sV xs (i + 1))), .ref (ad 0)]) rfl ?_
  refine lv_aload_n (pc := 1462) hx hb dL_law_1462 rfl (lv_at hl 0 rfl) ?_
  refine lv_iload (pc := 1463) hx hb dL_law_1463 (lv_at hl 5 rfl) ?_
  refine k_iconst (pc := 1465) hx hb dL_law_1465 ?_
  refine k_iadd (pc := 1466) hx hb dL_law_1466 ?_
  refine k_sld (pc := 1467) hx hb hX hbl hbA hS (i := (i + 3)) (by omega) (by omega) hL dL_law_1467 ?_
  refine W.eq (g2 := F0 m 1468 ls [.int (iI (sV xs (i + 3))), .int (iI (sV xs (i + 2))), .int (iI (sV xs (i + 1))), .ref (ad 0)]) rfl ?_
  refine lv_aload_n (pc := 1468) hx hb dL_law_1468 rfl (lv_at hl 3 rfl) ?_
  refine k_call1 (pc := 1469) (vx_runSW (As := [.ref (ad 0), .int (iI (sV xs (i + 1))), .int (iI (sV xs (i + 2))), .int (iI (sV xs (i + 3))), .ref (ad 301)]) (rest := []) ⟨hx, hb, hml, hown, hts⟩ (c_L_measure l hl0 D cA ad w H.size sc fn hI hbk (sV xs (i + 1)) (sV xs (i + 2)) (sV xs (i + 3)) (sV_r _ _) (sV_r _ _) (sV_r _ _) o ho) (vx_cwSW 5 hts gL_law_L_measure rfl rfl rfl (by decide +kernel) ⟨Nat.le_of_ble_eq_true rfl, Nat.le_of_ble_eq_true rfl⟩) (gV_S hP hD hK hB hS hA hZ) rfl rfl hl.1 rfl (lv_room (Nat.le_of_ble_eq_true rfl)) dL_law_1469 ⟨Nat.le_trans (show nc + 4 ≤ nc + 10 by omega) hnc.1, Nat.le_trans (show ns + 24 ≤ ns + 500 by omega) hnc.2⟩) hS (gA_sub hD hS hA) (fun v_1469 ad_1469 w_1469 H locs hv_1469 hP hD hS => ?_)
  obtain ⟨k1, sc1, fn1, vA, oA, hvk, hbA9, hIA, hkA, hoA, hrA, hrcA, hkrA⟩ := hv_1469
  subst hvk
  have hmA : mdS cA ad_1469 w_1469 th sc fn := mdS_of (fun r h1 h2 => ⟨(hkA.2 r h1).2 (by omega), (hkA.2 r h1).1⟩) hmd
  have hgA : w_1469 302 = some (eD (cA 3) 1 g) := ((hkA.2 302 (by omega)).2 (by omega)).trans hg
  rw [← hkA.1, ← (hkA.2 200 (by omega)).1, ← (hkA.2 301 (by omega)).1, ← (hkA.2 302 (by omega)).1] at hl
  obtain ⟨fs2, hq2⟩ := mdS_0 hmA
  refine W.eq (g2 := F0 m 1472 ls [.int (iI k1)]) rfl ?_
  refine W.cs (cells' := (nc + 4)) (slots' := (ns + 24)) rfl rfl ?_
  refine lv_istore (pc := 1472) (lv' := [(6, .int (iI k1)), (0, .ref b), (1, .ref (ad_1469 0)), (2, .ref (ad_1469 200)), (3, .ref (ad_1469 301)), (4, .ref (ad_1469 302)), (5, .int (iI i))]) hx hb dL_law_1472 hl (by decide) rfl (fun ls hl => ?_)
  refine lv_aload_n (pc := 1474) hx hb dL_law_1474 rfl (lv_at hl 3 rfl) ?_
  refine lv_aload_n (pc := 1475) hx hb dL_law_1475 rfl (lv_at hl 1 rfl) ?_
  refine lv_iload (pc := 1476) hx hb dL_law_1476 (lv_at hl 6 rfl) ?_
  refine k_iconst (pc := 1478) hx hb dL_law_1478 ?_
  refine k_iadd (pc := 1479) hx hb dL_law_1479 ?_
  refine k_sld (pc := 1480) hx hb hX hbl hbA hS (i := (i + 1)) (by omega) (by omega) hL dL_law_1480 ?_
  refine W.eq (g2 := F0 m 1481 ls [.int (iI (sV xs (i + 1))), .ref (ad_1469 200)]) rfl ?_
  refine lv_aload_n (pc := 1481) hx hb dL_law_1481 rfl (lv_at hl 1 rfl) ?_
  refine lv_iload (pc := 1482) hx hb dL_law_1482 (lv_at hl 6 rfl) ?_
  refine k_iconst (pc := 1484) hx hb dL_law_1484 ?_
  refine k_iadd (pc := 1485) hx hb dL_law_1485 ?_
  refine k_sld (pc := 1486) hx hb hX hbl hbA hS (i := (i + 2)) (by omega) (by omega) hL dL_law_1486 ?_
  refine W.eq (g2 := F0 m 1487 ls [.int (iI (sV xs (i + 2))), .int (iI (sV xs (i + 1))), .ref (ad_1469 200)]) rfl ?_
  refine lv_aload_n (pc := 1487) hx hb dL_law_1487 rfl (lv_at hl 1 rfl) ?_
  refine lv_iload (pc := 1488) hx hb dL_law_1488 (lv_at hl 6 rfl) ?_
  refine k_iconst (pc := 1490) hx hb dL_law_1490 ?_
  refine k_iadd (pc := 1491) hx hb dL_law_1491 ?_
  refine k_sld (pc := 1492) hx hb hX hbl hbA hS (i := (i + 3)) (by omega) (by omega) hL dL_law_1492 ?_
  refine W.eq (g2 := F0 m 1493 ls [.int (iI (sV xs (i + 3))), .int (iI (sV xs (i + 2))), .int (iI (sV xs (i + 1))), .ref (ad_1469 200)]) rfl ?_
  refine k_call1 (pc := 1493) (va_runV (As := [.int (iI (sV xs (i + 1))), .int (iI (sV xs (i + 2))), .int (iI (sV xs (i + 3)))]) (rest := []) ⟨hx, hb, hml, hown, hts⟩ (c_X6_measure l D cA ad_1469 w_1469 H.size th sc fn hI hmA (sV xs (i + 1)) (sV xs (i + 2)) (sV xs (i + 3)) (sV_r _ _) (sV_r _ _) (sV_r _ _)) (cwV 3 hts gL_law_X6_measure rfl rfl rfl (by decide +kernel) ⟨Nat.le_of_ble_eq_true rfl, Nat.le_of_ble_eq_true rfl⟩) (gV_V hP hD hK hB hS hA hZ 200 (ci := 6) rfl hq2) rfl rfl hl.1 rfl (lv_room (Nat.le_of_ble_eq_true rfl)) dL_law_1493 ⟨Nat.le_trans (show (nc + 4) + 1 ≤ nc + 10 by omega) hnc.1, Nat.le_trans (show (ns + 24) + 3 ≤ ns + 500 by omega) hnc.2⟩) hS (gA_sub hD hS hA) (fun v_1493 ad_1493 w_1493 H locs hv_1493 hP hD hS => ?_)
  obtain ⟨th2, sc2, fn2, hmB, hIB, hkB, hokB⟩ := hv_1493
  obtain ⟨hrB, zB, hzB⟩ := md_measure hokB
  subst hzB
  obtain ⟨e1, e2, e3, e4⟩ := dt_measure sc fn _ _ _ hrA hrB
  have hbB : bookS cA ad_1493 w_1493 sc2 fn2 := bookS_of hIB (fun r h => ⟨(hkB.2 r (Or.inl h)).1, (hkB.2 r (Or.inl h)).2⟩) (by rw [← e2, ← e3]; exact hbA9)
  rw [← hkB.1, ← (hkB.2 0 (by omega)).2, ← (hkB.2 301 (by omega)).2, ← (hkB.2 302 (by omega)).2] at hl
  have hoX := (hkB.2 301 (by omega)).1.trans hoA
  have hgB := (hkB.2 302 (by omega)).1.trans hgA
  obtain ⟨frB, hk0B⟩ := mdS_k hmB
  refine W.eq (g2 := F0 m 1496 ls [.int (iI zB)]) rfl ?_
  refine W.cs (cells' := (nc + 5)) (slots' := (ns + 27)) rfl rfl ?_
  refine lv_istore (pc := 1496) (lv' := [(7, .int (iI zB)), (6, .int (iI k1)), (0, .ref b), (1, .ref (ad_1493 0)), (2, .ref (ad_1493 200)), (3, .ref (ad_1493 301)), (4, .ref (ad_1493 302)), (5, .int (iI i))]) hx hb dL_law_1496 hl (by decide) rfl (fun ls hl => ?_)
  refine lv_aload_n (pc := 1498) hx hb dL_law_1498 rfl (lv_at hl 4 rfl) ?_
  refine k_call0 (pc := 1499) (va_runV (As := []) (rest := []) ⟨hx, hb, hml, hown, hts⟩ (c_X6_thrown l D cA ad_1493 w_1493 sc2 fn2 th2 frB hk0B) (cwV 0 hts gL_law_X6_thrown rfl rfl rfl (by decide +kernel) ⟨Nat.le_of_ble_eq_true rfl, Nat.le_of_ble_eq_true rfl⟩) (gR_V hP hK hB 200 (ci := 6) rfl hk0B) rfl rfl hl.1 rfl (lv_room (Nat.le_of_ble_eq_true rfl)) dL_law_1499 ⟨Nat.le_trans (show (nc + 5) + 0 ≤ nc + 10 by omega) hnc.1, Nat.le_trans (show (ns + 27) + 0 ≤ ns + 500 by omega) hnc.2⟩) (fun v_1499 hv_1499 => ?_)
  obtain ⟨z_1499, rfl, hz_1499⟩ := hv_1499
  refine W.eq (g2 := F0 m 1502 ls [.int (iI z_1499)]) rfl ?_
  refine lv_iload (pc := 1502) hx hb dL_law_1502 (lv_at hl 1 rfl) ?_
  refine k_icmp_eq (pc := 1504) (tgt := 1509) hx hb ⟨by omega, by omega⟩ ⟨by omega, by omega⟩ dL_law_1504 (by decide) (fun hc_1504 => ?_) (fun hc_1504 => ?_)
  · skip
    refine lv_iload (pc := 1509) hx hb dL_law_1509 (lv_at hl 1 rfl) ?_
    refine k_if_ne (pc := 1511) (tgt := 1526) hx hb ⟨by omega, by omega⟩ dL_law_1511 (by decide) (fun hc_1511 => ?_) (fun hc_1511 => ?_)
    · skip
      refine lv_goto (pc := 1526) (tgt := 1710) hx hb dL_law_1526 (by decide) ?_
      refine W.widen (k := nc + 10) (n := ns + 500) (by omega) (by omega) ?_
      exact kk ad_1493 w_1493 sc2 fn2 H locs ls ⟨hbB, hIB, ⟨th2, hmB⟩, ⟨_, hoX⟩, ⟨_, hgB⟩⟩ hP hD hS (lv_sub hl [2, 3, 4, 5, 6, 7] rfl)
    · skip
      refine lv_aload_n (pc := 1514) hx hb dL_law_1514 rfl (lv_at hl 5 rfl) ?_
      refine k_iconst (pc := 1515) hx hb dL_law_1515 ?_
      refine k_lald (pc := 1516) hx hb hK hP 301 2 hoX rfl (by omega) (by omega) (by omega) dL_law_1516 ?_
      refine lv_iload (pc := 1517) hx hb dL_law_1517 (lv_at hl 0 rfl) ?_
      refine k_i2lw (pc := 1519) hx hb dL_law_1519 ?_
      have e5 := e4 hc_1511
      have e6 := (hrcA hc_1511 zB).1 e5
      rw [e6]
      refine k_lcmpS (pc := 1520) (tgt := 1526) hx hb dL_law_1520 dL_law_1521 (by decide) ?_
      refine lv_goto (pc := 1526) (tgt := 1710) hx hb dL_law_1526 (by decide) ?_
      refine W.widen (k := nc + 10) (n := ns + 500) (by omega) (by omega) ?_
      exact kk ad_1493 w_1493 sc2 fn2 H locs ls ⟨hbB, hIB, ⟨th2, hmB⟩, ⟨_, hoX⟩, ⟨_, hgB⟩⟩ hP hD hS (lv_sub hl [2, 3, 4, 5, 6, 7] rfl)
  · skip
    exfalso
    omega

set_option maxHeartbeats 4000000 in
set_option maxRecDepth 100000 in
theorem lc_deviation {p : Program} {e : Env} {s : State} {m : MethodId} {below : List Frame} {meth : Method} {c : Code} {l : Launch} {D : va_G} {cA : Nat → ClassId} {A : Nat → Prop} {b L : Nat} {xs : Nat → Int32} (C : lwC p l s m c D cA A b L xs) (Q9 : State → Prop) (i : Int) (hi : 0 ≤ i ∧ i + 5 ≤ L) (nc ns : Nat) (hnc : nc + 10 ≤ room_1.cells ∧ ns + 500 ≤ room_1.slots)
  (kk : ∀ (ad : Nat → Nat) (w : Nat → Option va_E) (sc : Nat → Int) (fn : Nat → Int → Int) (H : Heap) (locs : List Loc) (ls : Array Slot), lwS cA ad w sc fn → gP D vwCl ad w H → gD A ad w → va_S A s.heap H locs → lv_has ls 9 [(0, .ref b), (1, .ref (ad 0)), (2, .ref (ad 200)), (3, .ref (ad 301)), (4, .ref (ad 302)), (5, .int (iI i))] → W p l e room_1 s m #[Value.ref b] below meth c H locs (nc + 10) (ns + 500) Q9 (F0 m 1710 ls []))
  (ad : Nat → Nat) (w : Nat → Option va_E) (sc : Nat → Int) (fn : Nat → Int → Int) (H : Heap) (locs : List Loc) (ls : Array Slot) (hW : lwS cA ad w sc fn) (hP : gP D vwCl ad w H) (hD : gD A ad w) (hS : va_S A s.heap H locs) (hl : lv_has ls 9 [(0, .ref b), (1, .ref (ad 0)), (2, .ref (ad 200)), (3, .ref (ad 301)), (4, .ref (ad 302)), (5, .int (iI i))]) : W p l e room_1 s m #[Value.ref b] below meth c H locs nc ns Q9 (F0 m 1529 ls []) := by
  obtain ⟨hl0, hx, hb, hml, hown, hts, hK, hB, hZ, hA, hX, hbl, hbA, hL⟩ := C
  obtain ⟨hbk, hI, ⟨th, hmd⟩, ⟨o, ho⟩, ⟨g, hg⟩⟩ := hW
  obtain ⟨fs0, hq0⟩ := bookS_0 hbk
  refine lv_aload_n (pc := 1529) hx hb dL_law_1529 rfl (lv_at hl 1 rfl) ?_
  refine lv_aload_n (pc := 1530) hx hb dL_law_1530 rfl (lv_at hl 0 rfl) ?_
  refine lv_iload (pc := 1531) hx hb dL_law_1531 (lv_at hl 5 rfl) ?_
  refine k_iconst (pc := 1533) hx hb dL_law_1533 ?_
  refine k_iadd (pc := 1534) hx hb dL_law_1534 ?_
  refine k_sld (pc := 1535) hx hb hX hbl hbA hS (i := (i + 1)) (by omega) (by omega) hL dL_law_1535 ?_
  refine W.eq (g2 := F0 m 1536 ls [.int (iI (sV xs (i + 1))), .ref (ad 0)]) rfl ?_
  refine lv_aload_n (pc := 1536) hx hb dL_law_1536 rfl (lv_at hl 3 rfl) ?_
  refine k_call1 (pc := 1537) (vx_runSW (As := [.ref (ad 0), .int (iI (sV xs (i + 1))), .ref (ad 301)]) (rest := []) ⟨hx, hb, hml, hown, hts⟩ (c_L_deviation l hl0 D cA ad w H.size sc fn hI hbk (sV xs (i + 1)) (sV_r _ _) o ho) (vx_cwSW 3 hts gL_law_L_deviation rfl rfl rfl (by decide +kernel) ⟨Nat.le_of_ble_eq_true rfl, Nat.le_of_ble_eq_true rfl⟩) (gV_S hP hD hK hB hS hA hZ) rfl rfl hl.1 rfl (lv_room (Nat.le_of_ble_eq_true rfl)) dL_law_1537 ⟨Nat.le_trans (show nc + 1 ≤ nc + 10 by omega) hnc.1, Nat.le_trans (show ns + 6 ≤ ns + 500 by omega) hnc.2⟩) hS (gA_sub hD hS hA) (fun v_1537 ad_1537 w_1537 H locs hv_1537 hP hD hS => ?_)
  obtain ⟨k1, sc1, fn1, vA, oA, hvk, hbA9, hIA, hkA, hoA, hrA, hrcA, hkrA⟩ := hv_1537
  subst hvk
  have hmA : mdS cA ad_1537 w_1537 th sc fn := mdS_of (fun r h1 h2 => ⟨(hkA.2 r h1).2 (by omega), (hkA.2 r h1).1⟩) hmd
  have hgA : w_1537 302 = some (eD (cA 3) 1 g) := ((hkA.2 302 (by omega)).2 (by omega)).trans hg
  rw [← hkA.1, ← (hkA.2 200 (by omega)).1, ← (hkA.2 301 (by omega)).1, ← (hkA.2 302 (by omega)).1] at hl
  obtain ⟨fs2, hq2⟩ := mdS_0 hmA
  refine W.eq (g2 := F0 m 1540 ls [.int (iI k1)]) rfl ?_
  refine W.cs (cells' := (nc + 1)) (slots' := (ns + 6)) rfl rfl ?_
  refine lv_istore (pc := 1540) (lv' := [(6, .int (iI k1)), (0, .ref b), (1, .ref (ad_1537 0)), (2, .ref (ad_1537 200)), (3, .ref (ad_1537 301)), (4, .ref (ad_1537 302)), (5, .int (iI i))]) hx hb dL_law_1540 hl (by decide) rfl (fun ls hl => ?_)
  refine lv_aload_n (pc := 1542) hx hb dL_law_1542 rfl (lv_at hl 3 rfl) ?_
  refine lv_aload_n (pc := 1543) hx hb dL_law_1543 rfl (lv_at hl 1 rfl) ?_
  refine lv_iload (pc := 1544) hx hb dL_law_1544 (lv_at hl 6 rfl) ?_
  refine k_iconst (pc := 1546) hx hb dL_law_1546 ?_
  refine k_iadd (pc := 1547) hx hb dL_law_1547 ?_
  refine k_sld (pc := 1548) hx hb hX hbl hbA hS (i := (i + 1)) (by omega) (by omega) hL dL_law_1548 ?_
  refine W.eq (g2 := F0 m 1549 ls [.int (iI (sV xs (i + 1))), .ref (ad_1537 200)]) rfl ?_
  refine k_call1 (pc := 1549) (va_runV (As := [.int (iI (sV xs (i + 1)))]) (rest := []) ⟨hx, hb, hml, hown, hts⟩ (c_X6_deviation l D cA ad_1537 w_1537 H.size th sc fn hI hmA (sV xs (i + 1)) (sV_r _ _)) (cwV 1 hts gL_law_X6_deviation rfl rfl rfl (by decide +kernel) ⟨Nat.le_of_ble_eq_true rfl, Nat.le_of_ble_eq_true rfl⟩) (gV_V hP hD hK hB hS hA hZ 200 (ci := 6) rfl hq2) rfl rfl hl.1 rfl (lv_room (Nat.le_of_ble_eq_true rfl)) dL_law_1549 ⟨Nat.le_trans (show (nc + 1) + 0 ≤ nc + 10 by omega) hnc.1, Nat.le_trans (show (ns + 6) + 0 ≤ ns + 500 by omega) hnc.2⟩) hS (gA_sub hD hS hA) (fun v_1549 ad_1549 w_1549 H locs hv_1549 hP hD hS => ?_)
  obtain ⟨th2, sc2, fn2, hmB, hIB, hkB, hokB⟩ := hv_1549
  obtain ⟨hrB, zB, hzB⟩ := md_deviation hokB
  subst hzB
  obtain ⟨e1, e2, e3, e4⟩ := dt_deviation sc fn _ hrA hrB
  have hbB : bookS cA ad_1549 w_1549 sc2 fn2 := bookS_of hIB (fun r h => ⟨(hkB.2 r (Or.inl h)).1, (hkB.2 r (Or.inl h)).2⟩) (by rw [← e2, ← e3]; exact hbA9)
  rw [← hkB.1, ← (hkB.2 0 (by omega)).2, ← (hkB.2 301 (by omega)).2, ← (hkB.2 302 (by omega)).2] at hl
  have hoX := (hkB.2 301 (by omega)).1.trans hoA
  have hgB := (hkB.2 302 (by omega)).1.trans hgA
  obtain ⟨frB, hk0B⟩ := mdS_k hmB
  refine W.eq (g2 := F0 m 1552 ls [.long (lI zB)]) rfl ?_
  refine W.cs (cells' := (nc + 1)) (slots' := (ns + 6)) rfl rfl ?_
  refine lv_lstore (pc := 1552) (lv' := [(7, .long (lI zB)), (6, .int (iI k1)), (0, .ref b), (1, .ref (ad_1549 0)), (2, .ref (ad_1549 200)), (3, .ref (ad_1549 301)), (4, .ref (ad_1549 302)), (5, .int (iI i))]) hx hb dL_law_1552 hl (by decide) rfl (fun ls hl => ?_)
  refine lv_aload_n (pc := 1554) hx hb dL_law_1554 rfl (lv_at hl 4 rfl) ?_
  refine k_call0 (pc := 1555) (va_runV (As := []) (rest := []) ⟨hx, hb, hml, hown, hts⟩ (c_X6_thrown l D cA ad_1549 w_1549 sc2 fn2 th2 frB hk0B) (cwV 0 hts gL_law_X6_thrown rfl rfl rfl (by decide +kernel) ⟨Nat.le_of_ble_eq_true rfl, Nat.le_of_ble_eq_true rfl⟩) (gR_V hP hK hB 200 (ci := 6) rfl hk0B) rfl rfl hl.1 rfl (lv_room (Nat.le_of_ble_eq_true rfl)) dL_law_1555 ⟨Nat.le_trans (show (nc + 1) + 0 ≤ nc + 10 by omega) hnc.1, Nat.le_trans (show (ns + 6) + 0 ≤ ns + 500 by omega) hnc.2⟩) (fun v_1555 hv_1555 => ?_)
  obtain ⟨z_1555, rfl, hz_1555⟩ := hv_1555
  refine W.eq (g2 := F0 m 1558 ls [.int (iI z_1555)]) rfl ?_
  refine lv_iload (pc := 1558) hx hb dL_law_1558 (lv_at hl 1 rfl) ?_
  refine k_icmp_eq (pc := 1560) (tgt := 1565) hx hb ⟨by omega, by omega⟩ ⟨by omega, by omega⟩ dL_law_1560 (by decide) (fun hc_1560 => ?_) (fun hc_1560 => ?_)
  · skip
    refine lv_iload (pc := 1565) hx hb dL_law_1565 (lv_at hl 1 rfl) ?_
    refine k_if_ne (pc := 1567) (tgt := 1581) hx hb ⟨by omega, by omega⟩ dL_law_1567 (by decide) (fun hc_1567 => ?_) (fun hc_1567 => ?_)
    · skip
      refine lv_goto (pc := 1581) (tgt := 1710) hx hb dL_law_1581 (by decide) ?_
      refine W.widen (k := nc + 10) (n := ns + 500) (by omega) (by omega) ?_
      exact kk ad_1549 w_1549 sc2 fn2 H locs ls ⟨hbB, hIB, ⟨th2, hmB⟩, ⟨_, hoX⟩, ⟨_, hgB⟩⟩ hP hD hS (lv_sub hl [2, 3, 4, 5, 6, 7] rfl)
    · skip
      refine lv_aload_n (pc := 1570) hx hb dL_law_1570 rfl (lv_at hl 5 rfl) ?_
      refine k_iconst (pc := 1571) hx hb dL_law_1571 ?_
      refine k_lald (pc := 1572) hx hb hK hP 301 2 hoX rfl (by omega) (by omega) (by omega) dL_law_1572 ?_
      refine lv_lload (pc := 1573) hx hb dL_law_1573 (lv_at hl 0 rfl) ?_
      have e5 := e4 hc_1567
      have e6 := (hrcA hc_1567 zB).2 e5
      rw [e6]
      refine k_lcmpS (pc := 1575) (tgt := 1581) hx hb dL_law_1575 dL_law_1576 (by decide) ?_
      refine lv_goto (pc := 1581) (tgt := 1710) hx hb dL_law_1581 (by decide) ?_
      refine W.widen (k := nc + 10) (n := ns + 500) (by omega) (by omega) ?_
      exact kk ad_1549 w_1549 sc2 fn2 H locs ls ⟨hbB, hIB, ⟨th2, hmB⟩, ⟨_, hoX⟩, ⟨_, hgB⟩⟩ hP hD hS (lv_sub hl [2, 3, 4, 5, 6, 7] rfl)
  · skip
    exfalso
    omega

set_option maxHeartbeats 4000000 in
set_option maxRecDepth 100000 in
theorem lc_wouldShift {p : Program} {e : Env} {s : State} {m : MethodId} {below : List Frame} {meth : Method} {c : Code} {l : Launch} {D : va_G} {cA : Nat → ClassId} {A : Nat → Prop} {b L : Nat} {xs : Nat → Int32} (C : lwC p l s m c D cA A b L xs) (Q9 : State → Prop) (i : Int) (hi : 0 ≤ i ∧ i + 5 ≤ L) (nc ns : Nat) (hnc : nc + 10 ≤ room_1.cells ∧ ns + 500 ≤ room_1.slots)
  (kk : ∀ (ad : Nat → Nat) (w : Nat → Option va_E) (sc : Nat → Int) (fn : Nat → Int → Int) (H : Heap) (locs : List Loc) (ls : Array Slot), lwS cA ad w sc fn → gP D vwCl ad w H → gD A ad w → va_S A s.heap H locs → lv_has ls 9 [(0, .ref b), (1, .ref (ad 0)), (2, .ref (ad 200)), (3, .ref (ad 301)), (4, .ref (ad 302)), (5, .int (iI i))] → W p l e room_1 s m #[Value.ref b] below meth c H locs (nc + 10) (ns + 500) Q9 (F0 m 1710 ls []))
  (ad : Nat → Nat) (w : Nat → Option va_E) (sc : Nat → Int) (fn : Nat → Int → Int) (H : Heap) (locs : List Loc) (ls : Array Slot) (hW : lwS cA ad w sc fn) (hP : gP D vwCl ad w H) (hD : gD A ad w) (hS : va_S A s.heap H locs) (hl : lv_has ls 9 [(0, .ref b), (1, .ref (ad 0)), (2, .ref (ad 200)), (3, .ref (ad 301)), (4, .ref (ad 302)), (5, .int (iI i))]) : W p l e room_1 s m #[Value.ref b] below meth c H locs nc ns Q9 (F0 m 1584 ls []) := by
  obtain ⟨hl0, hx, hb, hml, hown, hts, hK, hB, hZ, hA, hX, hbl, hbA, hL⟩ := C
  obtain ⟨hbk, hI, ⟨th, hmd⟩, ⟨o, ho⟩, ⟨g, hg⟩⟩ := hW
  obtain ⟨fs0, hq0⟩ := bookS_0 hbk
  refine lv_aload_n (pc := 1584) hx hb dL_law_1584 rfl (lv_at hl 1 rfl) ?_
  refine lv_aload_n (pc := 1585) hx hb dL_law_1585 rfl (lv_at hl 0 rfl) ?_
  refine lv_iload (pc := 1586) hx hb dL_law_1586 (lv_at hl 5 rfl) ?_
  refine k_iconst (pc := 1588) hx hb dL_law_1588 ?_
  refine k_iadd (pc := 1589) hx hb dL_law_1589 ?_
  refine k_sld (pc := 1590) hx hb hX hbl hbA hS (i := (i + 1)) (by omega) (by omega) hL dL_law_1590 ?_
  refine W.eq (g2 := F0 m 1591 ls [.int (iI (sV xs (i + 1))), .ref (ad 0)]) rfl ?_
  refine lv_aload_n (pc := 1591) hx hb dL_law_1591 rfl (lv_at hl 3 rfl) ?_
  refine k_call1 (pc := 1592) (vx_runSW (As := [.ref (ad 0), .int (iI (sV xs (i + 1))), .ref (ad 301)]) (rest := []) ⟨hx, hb, hml, hown, hts⟩ (c_L_wouldShift l hl0 D cA ad w H.size sc fn hI hbk (sV xs (i + 1)) (sV_r _ _) o ho) (vx_cwSW 3 hts gL_law_L_wouldShift rfl rfl rfl (by decide +kernel) ⟨Nat.le_of_ble_eq_true rfl, Nat.le_of_ble_eq_true rfl⟩) (gV_S hP hD hK hB hS hA hZ) rfl rfl hl.1 rfl (lv_room (Nat.le_of_ble_eq_true rfl)) dL_law_1592 ⟨Nat.le_trans (show nc + 1 ≤ nc + 10 by omega) hnc.1, Nat.le_trans (show ns + 6 ≤ ns + 500 by omega) hnc.2⟩) hS (gA_sub hD hS hA) (fun v_1592 ad_1592 w_1592 H locs hv_1592 hP hD hS => ?_)
  obtain ⟨k1, sc1, fn1, vA, oA, hvk, hbA9, hIA, hkA, hoA, hrA, hrcA, hkrA⟩ := hv_1592
  subst hvk
  have hmA : mdS cA ad_1592 w_1592 th sc fn := mdS_of (fun r h1 h2 => ⟨(hkA.2 r h1).2 (by omega), (hkA.2 r h1).1⟩) hmd
  have hgA : w_1592 302 = some (eD (cA 3) 1 g) := ((hkA.2 302 (by omega)).2 (by omega)).trans hg
  rw [← hkA.1, ← (hkA.2 200 (by omega)).1, ← (hkA.2 301 (by omega)).1, ← (hkA.2 302 (by omega)).1] at hl
  obtain ⟨fs2, hq2⟩ := mdS_0 hmA
  refine W.eq (g2 := F0 m 1595 ls [.int (iI k1)]) rfl ?_
  refine W.cs (cells' := (nc + 1)) (slots' := (ns + 6)) rfl rfl ?_
  refine lv_istore (pc := 1595) (lv' := [(6, .int (iI k1)), (0, .ref b), (1, .ref (ad_1592 0)), (2, .ref (ad_1592 200)), (3, .ref (ad_1592 301)), (4, .ref (ad_1592 302)), (5, .int (iI i))]) hx hb dL_law_1595 hl (by decide) rfl (fun ls hl => ?_)
  refine lv_aload_n (pc := 1597) hx hb dL_law_1597 rfl (lv_at hl 3 rfl) ?_
  refine lv_aload_n (pc := 1598) hx hb dL_law_1598 rfl (lv_at hl 1 rfl) ?_
  refine lv_iload (pc := 1599) hx hb dL_law_1599 (lv_at hl 6 rfl) ?_
  refine k_iconst (pc := 1601) hx hb dL_law_1601 ?_
  refine k_iadd (pc := 1602) hx hb dL_law_1602 ?_
  refine k_sld (pc := 1603) hx hb hX hbl hbA hS (i := (i + 1)) (by omega) (by omega) hL dL_law_1603 ?_
  refine W.eq (g2 := F0 m 1604 ls [.int (iI (sV xs (i + 1))), .ref (ad_1592 200)]) rfl ?_
  refine k_call1 (pc := 1604) (va_runV (As := [.int (iI (sV xs (i + 1)))]) (rest := []) ⟨hx, hb, hml, hown, hts⟩ (c_X6_wouldShift l D cA ad_1592 w_1592 H.size th sc fn hI hmA (sV xs (i + 1)) (sV_r _ _)) (cwV 1 hts gL_law_X6_wouldShift rfl rfl rfl (by decide +kernel) ⟨Nat.le_of_ble_eq_true rfl, Nat.le_of_ble_eq_true rfl⟩) (gV_V hP hD hK hB hS hA hZ 200 (ci := 6) rfl hq2) rfl rfl hl.1 rfl (lv_room (Nat.le_of_ble_eq_true rfl)) dL_law_1604 ⟨Nat.le_trans (show (nc + 1) + 0 ≤ nc + 10 by omega) hnc.1, Nat.le_trans (show (ns + 6) + 0 ≤ ns + 500 by omega) hnc.2⟩) hS (gA_sub hD hS hA) (fun v_1604 ad_1604 w_1604 H locs hv_1604 hP hD hS => ?_)
  obtain ⟨th2, sc2, fn2, hmB, hIB, hkB, hokB⟩ := hv_1604
  obtain ⟨hrB, zB, hzB⟩ := md_wouldShift hokB
  subst hzB
  obtain ⟨e1, e2, e3, e4⟩ := dt_wouldShift sc fn _ hrA hrB
  have hbB : bookS cA ad_1604 w_1604 sc2 fn2 := bookS_of hIB (fun r h => ⟨(hkB.2 r (Or.inl h)).1, (hkB.2 r (Or.inl h)).2⟩) (by rw [← e2, ← e3]; exact hbA9)
  rw [← hkB.1, ← (hkB.2 0 (by omega)).2, ← (hkB.2 301 (by omega)).2, ← (hkB.2 302 (by omega)).2] at hl
  have hoX := (hkB.2 301 (by omega)).1.trans hoA
  have hgB := (hkB.2 302 (by omega)).1.trans hgA
  obtain ⟨frB, hk0B⟩ := mdS_k hmB
  refine W.eq (g2 := F0 m 1607 ls [.int (iI zB)]) rfl ?_
  refine W.cs (cells' := (nc + 1)) (slots' := (ns + 6)) rfl rfl ?_
  refine lv_istore (pc := 1607) (lv' := [(7, .int (iI zB)), (6, .int (iI k1)), (0, .ref b), (1, .ref (ad_1604 0)), (2, .ref (ad_1604 200)), (3, .ref (ad_1604 301)), (4, .ref (ad_1604 302)), (5, .int (iI i))]) hx hb dL_law_1607 hl (by decide) rfl (fun ls hl => ?_)
  refine lv_aload_n (pc := 1609) hx hb dL_law_1609 rfl (lv_at hl 4 rfl) ?_
  refine k_call0 (pc := 1610) (va_runV (As := []) (rest := []) ⟨hx, hb, hml, hown, hts⟩ (c_X6_thrown l D cA ad_1604 w_1604 sc2 fn2 th2 frB hk0B) (cwV 0 hts gL_law_X6_thrown rfl rfl rfl (by decide +kernel) ⟨Nat.le_of_ble_eq_true rfl, Nat.le_of_ble_eq_true rfl⟩) (gR_V hP hK hB 200 (ci := 6) rfl hk0B) rfl rfl hl.1 rfl (lv_room (Nat.le_of_ble_eq_true rfl)) dL_law_1610 ⟨Nat.le_trans (show (nc + 1) + 0 ≤ nc + 10 by omega) hnc.1, Nat.le_trans (show (ns + 6) + 0 ≤ ns + 500 by omega) hnc.2⟩) (fun v_1610 hv_1610 => ?_)
  obtain ⟨z_1610, rfl, hz_1610⟩ := hv_1610
  refine W.eq (g2 := F0 m 1613 ls [.int (iI z_1610)]) rfl ?_
  refine lv_iload (pc := 1613) hx hb dL_law_1613 (lv_at hl 1 rfl) ?_
  refine k_icmp_eq (pc := 1615) (tgt := 1620) hx hb ⟨by omega, by omega⟩ ⟨by omega, by omega⟩ dL_law_1615 (by decide) (fun hc_1615 => ?_) (fun hc_1615 => ?_)
  · skip
    refine lv_iload (pc := 1620) hx hb dL_law_1620 (lv_at hl 1 rfl) ?_
    refine k_if_ne (pc := 1622) (tgt := 1637) hx hb ⟨by omega, by omega⟩ dL_law_1622 (by decide) (fun hc_1622 => ?_) (fun hc_1622 => ?_)
    · skip
      refine lv_goto (pc := 1637) (tgt := 1710) hx hb dL_law_1637 (by decide) ?_
      refine W.widen (k := nc + 10) (n := ns + 500) (by omega) (by omega) ?_
      exact kk ad_1604 w_1604 sc2 fn2 H locs ls ⟨hbB, hIB, ⟨th2, hmB⟩, ⟨_, hoX⟩, ⟨_, hgB⟩⟩ hP hD hS (lv_sub hl [2, 3, 4, 5, 6, 7] rfl)
    · skip
      refine lv_aload_n (pc := 1625) hx hb dL_law_1625 rfl (lv_at hl 5 rfl) ?_
      refine k_iconst (pc := 1626) hx hb dL_law_1626 ?_
      refine k_lald (pc := 1627) hx hb hK hP 301 2 hoX rfl (by omega) (by omega) (by omega) dL_law_1627 ?_
      refine lv_iload (pc := 1628) hx hb dL_law_1628 (lv_at hl 0 rfl) ?_
      refine k_i2lw (pc := 1630) hx hb dL_law_1630 ?_
      have e5 := e4 hc_1622
      have e6 := (hrcA hc_1622 zB).1 e5
      rw [e6]
      refine k_lcmpS (pc := 1631) (tgt := 1637) hx hb dL_law_1631 dL_law_1632 (by decide) ?_
      refine lv_goto (pc := 1637) (tgt := 1710) hx hb dL_law_1637 (by decide) ?_
      refine W.widen (k := nc + 10) (n := ns + 500) (by omega) (by omega) ?_
      exact kk ad_1604 w_1604 sc2 fn2 H locs ls ⟨hbB, hIB, ⟨th2, hmB⟩, ⟨_, hoX⟩, ⟨_, hgB⟩⟩ hP hD hS (lv_sub hl [2, 3, 4, 5, 6, 7] rfl)
  · skip
    exfalso
    omega

set_option maxHeartbeats 4000000 in
set_option maxRecDepth 100000 in
theorem lc_count {p : Program} {e : Env} {s : State} {m : MethodId} {below : List Frame} {meth : Method} {c : Code} {l : Launch} {D : va_G} {cA : Nat → ClassId} {A : Nat → Prop} {b L : Nat} {xs : Nat → Int32} (C : lwC p l s m c D cA A b L xs) (Q9 : State → Prop) (i : Int) (hi : 0 ≤ i ∧ i + 5 ≤ L) (nc ns : Nat) (hnc : nc + 10 ≤ room_1.cells ∧ ns + 500 ≤ room_1.slots)
  (kk : ∀ (ad : Nat → Nat) (w : Nat → Option va_E) (sc : Nat → Int) (fn : Nat → Int → Int) (H : Heap) (locs : List Loc) (ls : Array Slot), lwS cA ad w sc fn → gP D vwCl ad w H → gD A ad w → va_S A s.heap H locs → lv_has ls 9 [(0, .ref b), (1, .ref (ad 0)), (2, .ref (ad 200)), (3, .ref (ad 301)), (4, .ref (ad 302)), (5, .int (iI i))] → W p l e room_1 s m #[Value.ref b] below meth c H locs (nc + 10) (ns + 500) Q9 (F0 m 1710 ls []))
  (ad : Nat → Nat) (w : Nat → Option va_E) (sc : Nat → Int) (fn : Nat → Int → Int) (H : Heap) (locs : List Loc) (ls : Array Slot) (hW : lwS cA ad w sc fn) (hP : gP D vwCl ad w H) (hD : gD A ad w) (hS : va_S A s.heap H locs) (hl : lv_has ls 9 [(0, .ref b), (1, .ref (ad 0)), (2, .ref (ad 200)), (3, .ref (ad 301)), (4, .ref (ad 302)), (5, .int (iI i))]) : W p l e room_1 s m #[Value.ref b] below meth c H locs nc ns Q9 (F0 m 1640 ls []) := by
  obtain ⟨hl0, hx, hb, hml, hown, hts, hK, hB, hZ, hA, hX, hbl, hbA, hL⟩ := C
  obtain ⟨hbk, hI, ⟨th, hmd⟩, ⟨o, ho⟩, ⟨g, hg⟩⟩ := hW
  obtain ⟨fs0, hq0⟩ := bookS_0 hbk
  refine lv_aload_n (pc := 1640) hx hb dL_law_1640 rfl (lv_at hl 1 rfl) ?_
  refine lv_aload_n (pc := 1641) hx hb dL_law_1641 rfl (lv_at hl 0 rfl) ?_
  refine lv_iload (pc := 1642) hx hb dL_law_1642 (lv_at hl 5 rfl) ?_
  refine k_iconst (pc := 1644) hx hb dL_law_1644 ?_
  refine k_iadd (pc := 1645) hx hb dL_law_1645 ?_
  refine k_sld (pc := 1646) hx hb hX hbl hbA hS (i := (i + 1)) (by omega) (by omega) hL dL_law_1646 ?_
  refine W.eq (g2 := F0 m 1647 ls [.int (iI (sV xs (i + 1))), .ref (ad 0)]) rfl ?_
  refine lv_aload_n (pc := 1647) hx hb dL_law_1647 rfl (lv_at hl 3 rfl) ?_
  refine k_call1 (pc := 1648) (vx_runSW (As := [.ref (ad 0), .int (iI (sV xs (i + 1))), .ref (ad 301)]) (rest := []) ⟨hx, hb, hml, hown, hts⟩ (c_L_count l hl0 D cA ad w H.size sc fn hI hbk (sV xs (i + 1)) (sV_r _ _) o ho) (vx_cwSW 3 hts gL_law_L_count rfl rfl rfl (by decide +kernel) ⟨Nat.le_of_ble_eq_true rfl, Nat.le_of_ble_eq_true rfl⟩) (gV_S hP hD hK hB hS hA hZ) rfl rfl hl.1 rfl (lv_room (Nat.le_of_ble_eq_true rfl)) dL_law_1648 ⟨Nat.le_trans (show nc + 1 ≤ nc + 10 by omega) hnc.1, Nat.le_trans (show ns + 6 ≤ ns + 500 by omega) hnc.2⟩) hS (gA_sub hD hS hA) (fun v_1648 ad_1648 w_1648 H locs hv_1648 hP hD hS => ?_)
  obtain ⟨k1, sc1, fn1, vA, oA, hvk, hbA9, hIA, hkA, hoA, hrA, hrcA, hkrA⟩ := hv_1648
  subst hvk
  have hmA : mdS cA ad_1648 w_1648 th sc fn := mdS_of (fun r h1 h2 => ⟨(hkA.2 r h1).2 (by omega), (hkA.2 r h1).1⟩) hmd
  have hgA : w_1648 302 = some (eD (cA 3) 1 g) := ((hkA.2 302 (by omega)).2 (by omega)).trans hg
  rw [← hkA.1, ← (hkA.2 200 (by omega)).1, ← (hkA.2 301 (by omega)).1, ← (hkA.2 302 (by omega)).1] at hl
  obtain ⟨fs2, hq2⟩ := mdS_0 hmA
  refine W.eq (g2 := F0 m 1651 ls [.int (iI k1)]) rfl ?_
  refine W.cs (cells' := (nc + 1)) (slots' := (ns + 6)) rfl rfl ?_
  refine lv_istore (pc := 1651) (lv' := [(6, .int (iI k1)), (0, .ref b), (1, .ref (ad_1648 0)), (2, .ref (ad_1648 200)), (3, .ref (ad_1648 301)), (4, .ref (ad_1648 302)), (5, .int (iI i))]) hx hb dL_law_1651 hl (by decide) rfl (fun ls hl => ?_)
  refine lv_aload_n (pc := 1653) hx hb dL_law_1653 rfl (lv_at hl 3 rfl) ?_
  refine lv_aload_n (pc := 1654) hx hb dL_law_1654 rfl (lv_at hl 1 rfl) ?_
  refine lv_iload (pc := 1655) hx hb dL_law_1655 (lv_at hl 6 rfl) ?_
  refine k_iconst (pc := 1657) hx hb dL_law_1657 ?_
  refine k_iadd (pc := 1658) hx hb dL_law_1658 ?_
  refine k_sld (pc := 1659) hx hb hX hbl hbA hS (i := (i + 1)) (by omega) (by omega) hL dL_law_1659 ?_
  refine W.eq (g2 := F0 m 1660 ls [.int (iI (sV xs (i + 1))), .ref (ad_1648 200)]) rfl ?_
  refine k_call1 (pc := 1660) (va_runV (As := [.int (iI (sV xs (i + 1)))]) (rest := []) ⟨hx, hb, hml, hown, hts⟩ (c_X6_count l D cA ad_1648 w_1648 H.size th sc fn hI hmA (sV xs (i + 1)) (sV_r _ _)) (cwV 1 hts gL_law_X6_count rfl rfl rfl (by decide +kernel) ⟨Nat.le_of_ble_eq_true rfl, Nat.le_of_ble_eq_true rfl⟩) (gV_V hP hD hK hB hS hA hZ 200 (ci := 6) rfl hq2) rfl rfl hl.1 rfl (lv_room (Nat.le_of_ble_eq_true rfl)) dL_law_1660 ⟨Nat.le_trans (show (nc + 1) + 0 ≤ nc + 10 by omega) hnc.1, Nat.le_trans (show (ns + 6) + 0 ≤ ns + 500 by omega) hnc.2⟩) hS (gA_sub hD hS hA) (fun v_1660 ad_1660 w_1660 H locs hv_1660 hP hD hS => ?_)
  obtain ⟨th2, sc2, fn2, hmB, hIB, hkB, hokB⟩ := hv_1660
  obtain ⟨hrB, zB, hzB⟩ := md_count hokB
  subst hzB
  obtain ⟨e1, e2, e3, e4⟩ := dt_count sc fn _ hrA hrB
  have hbB : bookS cA ad_1660 w_1660 sc2 fn2 := bookS_of hIB (fun r h => ⟨(hkB.2 r (Or.inl h)).1, (hkB.2 r (Or.inl h)).2⟩) (by rw [← e2, ← e3]; exact hbA9)
  rw [← hkB.1, ← (hkB.2 0 (by omega)).2, ← (hkB.2 301 (by omega)).2, ← (hkB.2 302 (by omega)).2] at hl
  have hoX := (hkB.2 301 (by omega)).1.trans hoA
  have hgB := (hkB.2 302 (by omega)).1.trans hgA
  obtain ⟨frB, hk0B⟩ := mdS_k hmB
  refine W.eq (g2 := F0 m 1663 ls [.int (iI zB)]) rfl ?_
  refine W.cs (cells' := (nc + 1)) (slots' := (ns + 6)) rfl rfl ?_
  refine lv_istore (pc := 1663) (lv' := [(7, .int (iI zB)), (6, .int (iI k1)), (0, .ref b), (1, .ref (ad_1660 0)), (2, .ref (ad_1660 200)), (3, .ref (ad_1660 301)), (4, .ref (ad_1660 302)), (5, .int (iI i))]) hx hb dL_law_1663 hl (by decide) rfl (fun ls hl => ?_)
  refine lv_aload_n (pc := 1665) hx hb dL_law_1665 rfl (lv_at hl 4 rfl) ?_
  refine k_call0 (pc := 1666) (va_runV (As := []) (rest := []) ⟨hx, hb, hml, hown, hts⟩ (c_X6_thrown l D cA ad_1660 w_1660 sc2 fn2 th2 frB hk0B) (cwV 0 hts gL_law_X6_thrown rfl rfl rfl (by decide +kernel) ⟨Nat.le_of_ble_eq_true rfl, Nat.le_of_ble_eq_true rfl⟩) (gR_V hP hK hB 200 (ci := 6) rfl hk0B) rfl rfl hl.1 rfl (lv_room (Nat.le_of_ble_eq_true rfl)) dL_law_1666 ⟨Nat.le_trans (show (nc + 1) + 0 ≤ nc + 10 by omega) hnc.1, Nat.le_trans (show (ns + 6) + 0 ≤ ns + 500 by omega) hnc.2⟩) (fun v_1666 hv_1666 => ?_)
  obtain ⟨z_1666, rfl, hz_1666⟩ := hv_1666
  refine W.eq (g2 := F0 m 1669 ls [.int (iI z_1666)]) rfl ?_
  refine lv_iload (pc := 1669) hx hb dL_law_1669 (lv_at hl 1 rfl) ?_
  refine k_icmp_eq (pc := 1671) (tgt := 1676) hx hb ⟨by omega, by omega⟩ ⟨by omega, by omega⟩ dL_law_1671 (by decide) (fun hc_1671 => ?_) (fun hc_1671 => ?_)
  · skip
    refine lv_iload (pc := 1676) hx hb dL_law_1676 (lv_at hl 1 rfl) ?_
    refine k_if_ne (pc := 1678) (tgt := 1693) hx hb ⟨by omega, by omega⟩ dL_law_1678 (by decide) (fun hc_1678 => ?_) (fun hc_1678 => ?_)
    · skip
      refine lv_goto (pc := 1693) (tgt := 1710) hx hb dL_law_1693 (by decide) ?_
      refine W.widen (k := nc + 10) (n := ns + 500) (by omega) (by omega) ?_
      exact kk ad_1660 w_1660 sc2 fn2 H locs ls ⟨hbB, hIB, ⟨th2, hmB⟩, ⟨_, hoX⟩, ⟨_, hgB⟩⟩ hP hD hS (lv_sub hl [2, 3, 4, 5, 6, 7] rfl)
    · skip
      refine lv_aload_n (pc := 1681) hx hb dL_law_1681 rfl (lv_at hl 5 rfl) ?_
      refine k_iconst (pc := 1682) hx hb dL_law_1682 ?_
      refine k_lald (pc := 1683) hx hb hK hP 301 2 hoX rfl (by omega) (by omega) (by omega) dL_law_1683 ?_
      refine lv_iload (pc := 1684) hx hb dL_law_1684 (lv_at hl 0 rfl) ?_
      refine k_i2lw (pc := 1686) hx hb dL_law_1686 ?_
      have e5 := e4 hc_1678
      have e6 := (hrcA hc_1678 zB).1 e5
      rw [e6]
      refine k_lcmpS (pc := 1687) (tgt := 1693) hx hb dL_law_1687 dL_law_1688 (by decide) ?_
      refine lv_goto (pc := 1693) (tgt := 1710) hx hb dL_law_1693 (by decide) ?_
      refine W.widen (k := nc + 10) (n := ns + 500) (by omega) (by omega) ?_
      exact kk ad_1660 w_1660 sc2 fn2 H locs ls ⟨hbB, hIB, ⟨th2, hmB⟩, ⟨_, hoX⟩, ⟨_, hgB⟩⟩ hP hD hS (lv_sub hl [2, 3, 4, 5, 6, 7] rfl)
  · skip
    exfalso
    omega
