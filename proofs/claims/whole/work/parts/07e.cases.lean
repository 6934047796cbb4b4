set_option maxHeartbeats 4000000 in
set_option maxRecDepth 100000 in
theorem lc_shift {p : Program} {e : Env} {s : State} {m : MethodId} {below : List Frame} {meth : Method} {c : Code} {l : Launch} {D : va_G} {cA : Nat → ClassId} {A : Nat → Prop} {b L : Nat} {xs : Nat → Int32} (C : lwC p l s m c D cA A b L xs) (Q9 : State → Prop) (i : Int) (hi : 0 ≤ i ∧ i + 5 ≤ L) (nc ns : Nat) (hnc : nc + 10 ≤ room_1.cells ∧ ns + 500 ≤ room_1.slots)
  (kk : ∀ (ad : Nat → Nat) (w : Nat → Option va_E) (sc : Nat → Int) (fn : Nat → Int → Int) (H : Heap) (locs : List Loc) (ls : Array Slot), lwS cA ad w sc fn → gP D vwCl ad w H → gD A ad w → va_S A s.heap H locs → lv_has ls 9 [(0, .ref b), (1, .ref (ad 0)), (2, .ref (ad 200)), (3, .ref (ad 301)), (4, .ref (ad 302)), (5, .int (iI i))] → W p l e room_1 s m #[Value.ref b] below meth c H locs (nc + 10) (ns + 500) Q9 (F0 m 1710 ls []))
  (ad : Nat → Nat) (w : Nat → Option va_E) (sc : Nat → Int) (fn : Nat → Int → Int) (H : Heap) (locs : List Loc) (ls : Array Slot) (hW : lwS cA ad w sc fn) (hP : gP D vwCl ad w H) (hD : gD A ad w) (hS : va_S A s.heap H locs) (hl : lv_has ls 9 [(0, .ref b), (1, .ref (ad 0)), (2, .ref (ad 200)), (3, .ref (ad 301)), (4, .ref (ad 302)), (5, .int (iI i))]) : W p l e room_1 s m #[Value.ref b] below meth c H locs nc ns Q9 (F0 m 547 ls []) := by
  obtain ⟨hl0, hx, hb, hml, hown, hts, hK, hB, hZ, hA, hX, hbl, hbA, hL⟩ := C
  obtain ⟨hbk, hI, ⟨th, hmd⟩, ⟨o, ho⟩, ⟨g, hg⟩⟩ := hW
  obtain ⟨fs0, hq0⟩ := bookS_0 hbk
  refine lv_aload_n (pc := 547) hx hb dL_law_547 rfl (lv_at hl 1 rfl) ?_
  refine lv_aload_n (pc := 548) hx hb dL_law_548 rfl (lv_at hl 0 rfl) ?_
  refine lv_iload (pc := 549) hx hb dL_law_549 (lv_at hl 5 rfl) ?_
  refine k_iconst (pc := 551) hx hb dL_law_551 ?_
  refine k_iadd (pc := 552) hx hb dL_law_552 ?_
  refine k_sld (pc := 553) hx hb hX hbl hbA hS (i := (i + 1)) (by omega) (by omega) hL dL_law_553 ?_
  refine W.eq (g2 := F0 m 554 ls [.int (iI (sV xs (i + 1))), .ref (ad 0)]) rfl ?_
  refine lv_aload_n (pc := 554) hx hb dL_law_554 rfl (lv_at hl 3 rfl) ?_
  refine k_call1 (pc := 555) (vx_runSW (As := [.ref (ad 0), .int (iI (sV xs (i + 1))), .ref (ad 301)]) (rest := []) ⟨hx, hb, hml, hown, hts⟩ (c_L_shift l hl0 D cA ad w H.size sc fn hI hbk (sV xs (i + 1)) (sV_r _ _) o ho) (vx_cwSW 3 hts gL_law_L_shift rfl rfl rfl (by decide +kernel) ⟨Nat.le_of_ble_eq_true rfl, Nat.le_of_ble_eq_true rfl⟩) (gV_S hP hD hK hB hS hA hZ) rfl rfl hl.1 rfl (lv_room (Nat.le_of_ble_eq_true rfl)) dL_law_555 ⟨Nat.le_trans (show nc + 1 ≤ nc + 10 by omega) hnc.1, Nat.le_trans (show ns + 6 ≤ ns + 500 by omega) hnc.2⟩) hS (gA_sub hD hS hA) (fun v_555 ad_555 w_555 H locs hv_555 hP hD hS => ?_)
  obtain ⟨k1, sc1, fn1, vA, oA, hvk, hbA9, hIA, hkA, hoA, hrA, hrcA, hkrA⟩ := hv_555
  subst hvk
  have hmA : mdS cA ad_555 w_555 th sc fn := mdS_of (fun r h1 h2 => ⟨(hkA.2 r h1).2 (by omega), (hkA.2 r h1).1⟩) hmd
  have hgA : w_555 302 = some (eD (cA 3) 1 g) := ((hkA.2 302 (by omega)).2 (by omega)).trans hg
  rw [← hkA.1, ← (hkA.2 200 (by omega)).1, ← (hkA.2 301 (by omega)).1, ← (hkA.2 302 (by omega)).1] at hl
  obtain ⟨fs2, hq2⟩ := mdS_0 hmA
  refine W.eq (g2 := F0 m 558 ls [.int (iI k1)]) rfl ?_
  refine W.cs (cells' := (nc + 1)) (slots' := (ns + 6)) rfl rfl ?_
  refine lv_istore (pc := 558) (lv' := [(6, .int (iI k1)), (0, .ref b), (1, .ref (ad_555 0)), (2, .ref (ad_555 200)), (3, .ref (ad_555 301)), (4, .ref (ad_555 302)), (5, .int (iI i))]) hx hb dL_law_558 hl (by decide) rfl (fun ls hl => ?_)
  refine lv_aload_n (pc := 560) hx hb dL_law_560 rfl (lv_at hl 3 rfl) ?_
  refine lv_aload_n (pc := 561) hx hb dL_law_561 rfl (lv_at hl 1 rfl) ?_
  refine lv_iload (pc := 562) hx hb dL_law_562 (lv_at hl 6 rfl) ?_
  refine k_iconst (pc := 564) hx hb dL_law_564 ?_
  refine k_iadd (pc := 565) hx hb dL_law_565 ?_
  refine k_sld (pc := 566) hx hb hX hbl hbA hS (i := (i + 1)) (by omega) (by omega) hL dL_law_566 ?_
  refine W.eq (g2 := F0 m 567 ls [.int (iI (sV xs (i + 1))), .ref (ad_555 200)]) rfl ?_
  refine k_call1 (pc := 567) (va_runV (As := [.int (iI (sV xs (i + 1)))]) (rest := []) ⟨hx, hb, hml, hown, hts⟩ (c_X6_shift l D cA ad_555 w_555 H.size th sc fn hI hmA (sV xs (i + 1)) (sV_r _ _)) (cwV 1 hts gL_law_X6_shift rfl rfl rfl (by decide +kernel) ⟨Nat.le_of_ble_eq_true rfl, Nat.le_of_ble_eq_true rfl⟩) (gV_V hP hD hK hB hS hA hZ 200 (ci := 6) rfl hq2) rfl rfl hl.1 rfl (lv_room (Nat.le_of_ble_eq_true rfl)) dL_law_567 ⟨Nat.le_trans (show (nc + 1) + 0 ≤ nc + 10 by omega) hnc.1, Nat.le_trans (show (ns + 6) + 0 ≤ ns + 500 by omega) hnc.2⟩) hS (gA_sub hD hS hA) (fun v_567 ad_567 w_567 H locs hv_567 hP hD hS => ?_)
  obtain ⟨th2, sc2, fn2, hmB, hIB, hkB, hokB⟩ := hv_567
  obtain ⟨hrB, zB, hzB⟩ := md_shift hokB
  subst hzB
  obtain ⟨e1, e2, e3, e4⟩ := dt_shift sc fn _ hrA hrB
  have hbB : bookS cA ad_567 w_567 sc2 fn2 := bookS_of hIB (fun r h => ⟨(hkB.2 r (Or.inl h)).1, (hkB.2 r (Or.inl h)).2⟩) (by rw [← e2, ← e3]; exact hbA9)
  rw [← hkB.1, ← (hkB.2 0 (by omega)).2, ← (hkB.2 301 (by omega)).2, ← (hkB.2 302 (by omega)).2] at hl
  have hoX := (hkB.2 301 (by omega)).1.trans hoA
  have hgB := (hkB.2 302 (by omega)).1.trans hgA
  obtain ⟨frB, hk0B⟩ := mdS_k hmB
  refine W.eq (g2 := F0 m 570 ls [.int (iI zB)]) rfl ?_
  refine W.cs (cells' := (nc + 1)) (slots' := (ns + 6)) rfl rfl ?_
  refine lv_istore (pc := 570) (lv' := [(7, .int (iI zB)), (6, .int (iI k1)), (0, .ref b), (1, .ref (ad_567 0)), (2, .ref (ad_567 200)), (3, .ref (ad_567 301)), (4, .ref (ad_567 302)), (5, .int (iI i))]) hx hb dL_law_570 hl (by decide) rfl (fun ls hl => ?_)
  refine lv_aload_n (pc := 572) hx hb dL_law_572 rfl (lv_at hl 4 rfl) ?_
  refine k_call0 (pc := 573) (va_runV (As := []) (rest := []) ⟨hx, hb, hml, hown, hts⟩ (c_X6_thrown l D cA ad_567 w_567 sc2 fn2 th2 frB hk0B) (cwV 0 hts gL_law_X6_thrown rfl rfl rfl (by decide +kernel) ⟨Nat.le_of_ble_eq_true rfl, Nat.le_of_ble_eq_true rfl⟩) (gR_V hP hK hB 200 (ci := 6) rfl hk0B) rfl rfl hl.1 rfl (lv_room (Nat.le_of_ble_eq_true rfl)) dL_law_573 ⟨Nat.le_trans (show (nc + 1) + 0 ≤ nc + 10 by omega) hnc.1, Nat.le_trans (show (ns + 6) + 0 ≤ ns + 500 by omega) hnc.2⟩) (fun v_573 hv_573 => ?_)
  obtain ⟨z_573, rfl, hz_573⟩ := hv_573
  refine W.eq (g2 := F0 m 576 ls [.int (iI z_573)]) rfl ?_
  refine lv_iload (pc := 576) hx hb dL_law_576 (lv_at hl 1 rfl) ?_
  refine k_icmp_eq (pc := 578) (tgt := 583) hx hb ⟨by omega, by omega⟩ ⟨by omega, by omega⟩ dL_law_578 (by decide) (fun hc_578 => ?_) (fun hc_578 => ?_)
  · skip
    refine lv_iload (pc := 583) hx hb dL_law_583 (lv_at hl 1 rfl) ?_
    refine k_if_ne (pc := 585) (tgt := 600) hx hb ⟨by omega, by omega⟩ dL_law_585 (by decide) (fun hc_585 => ?_) (fun hc_585 => ?_)
    · skip
      refine lv_goto (pc := 600) (tgt := 1710) hx hb dL_law_600 (by decide) ?_
      refine W.widen (k := nc + 10) (n := ns + 500) (by omega) (by omega) ?_
      exact kk ad_567 w_567 sc2 fn2 H locs ls ⟨hbB, hIB, ⟨th2, hmB⟩, ⟨_, hoX⟩, ⟨_, hgB⟩⟩ hP hD hS (lv_sub hl [2, 3, 4, 5, 6, 7] rfl)
    · skip
      refine lv_aload_n (pc := 588) hx hb dL_law_588 rfl (lv_at hl 5 rfl) ?_
      refine k_iconst (pc := 589) hx hb dL_law_589 ?_
      refine k_lald (pc := 590) hx hb hK hP 301 2 hoX rfl (by omega) (by omega) (by omega) dL_law_590 ?_
      refine lv_iload (pc := 591) hx hb dL_law_591 (lv_at hl 0 rfl) ?_
      refine k_i2lw (pc := 593) hx hb dL_law_593 ?_
      have e5 := e4 hc_585
      have e6 := (hrcA hc_585 zB).1 e5
      rw [e6]
      refine k_lcmpS (pc := 594) (tgt := 600) hx hb dL_law_594 dL_law_595 (by decide) ?_
      refine lv_goto (pc := 600) (tgt := 1710) hx hb dL_law_600 (by decide) ?_
      refine W.widen (k := nc + 10) (n := ns + 500) (by omega) (by omega) ?_
      exact kk ad_567 w_567 sc2 fn2 H locs ls ⟨hbB, hIB, ⟨th2, hmB⟩, ⟨_, hoX⟩, ⟨_, hgB⟩⟩ hP hD hS (lv_sub hl [2, 3, 4, 5, 6, 7] rfl)
  · skip
    exfalso
    omega

set_option maxHeartbeats 4000000 in
set_option maxRecDepth 100000 in
theorem lc_read {p : Program} {e : Env} {s : State} {m : MethodId} {below : List Frame} {meth : Method} {c : Code} {l : Launch} {D : va_G} {cA : Nat → ClassId} {A : Nat → Prop} {b L : Nat} {xs : Nat → Int32} (C : lwC p l s m c D cA A b L xs) (Q9 : State → Prop) (i : Int) (hi : 0 ≤ i ∧ i + 5 ≤ L) (nc ns : Nat) (hnc : nc + 10 ≤ room_1.cells ∧ ns + 500 ≤ room_1.slots)
  (kk : ∀ (ad : Nat → Nat) (w : Nat → Option va_E) (sc : Nat → Int) (fn : Nat → Int → Int) (H : Heap) (locs : List Loc) (ls : Array Slot), lwS cA ad w sc fn → gP D vwCl ad w H → gD A ad w → va_S A s.heap H locs → lv_has ls 9 [(0, .ref b), (1, .ref (ad 0)), (2, .ref (ad 200)), (3, .ref (ad 301)), (4, .ref (ad 302)), (5, .int (iI i))] → W p l e room_1 s m #[Value.ref b] below meth c H locs (nc + 10) (ns + 500) Q9 (F0 m 1710 ls []))
  (ad : Nat → Nat) (w : Nat → Option va_E) (sc : Nat → Int) (fn : Nat → Int → Int) (H : Heap) (locs : List Loc) (ls : Array Slot) (hW : lwS cA ad w sc fn) (hP : gP D vwCl ad w H) (hD : gD A ad w) (hS : va_S A s.heap H locs) (hl : lv_has ls 9 [(0, .ref b), (1, .ref (ad 0)), (2, .ref (ad 200)), (3, .ref (ad 301)), (4, .ref (ad 302)), (5, .int (iI i))]) : W p l e room_1 s m #[Value.ref b] below meth c H locs nc ns Q9 (F0 m 603 ls []) := by
  obtain ⟨hl0, hx, hb, hml, hown, hts, hK, hB, hZ, hA, hX, hbl, hbA, hL⟩ := C
  obtain ⟨hbk, hI, ⟨th, hmd⟩, ⟨o, ho⟩, ⟨g, hg⟩⟩ := hW
  obtain ⟨fs0, hq0⟩ := bookS_0 hbk
  refine lv_aload_n (pc := 603) hx hb dL_law_603 rfl (lv_at hl 1 rfl) ?_
  refine lv_aload_n (pc := 604) hx hb dL_law_604 rfl (lv_at hl 0 rfl) ?_
  refine lv_iload (pc := 605) hx hb dL_law_605 (lv_at hl 5 rfl) ?_
  refine k_iconst (pc := 607) hx hb dL_law_607 ?_
  refine k_iadd (pc := 608) hx hb dL_law_608 ?_
  refine k_sld (pc := 609) hx hb hX hbl hbA hS (i := (i + 1)) (by omega) (by omega) hL dL_law_609 ?_
  refine W.eq (g2 := F0 m 610 ls [.int (iI (sV xs (i + 1))), .ref (ad 0)]) rfl ?_
  refine lv_aload_n (pc := 610) hx hb dL_law_610 rfl (lv_at hl 0 rfl) ?_
  refine lv_iload (pc := 611) hx hb dL_law_611 (lv_at hl 5 rfl) ?_
  refine k_iconst (pc := 613) hx hb dL_law_613 ?_
  refine k_iadd (pc := 614) hx hb dL_law_614 ?_
  refine k_sld (pc := 615) hx hb hX hbl hbA hS (i := (i + 2)) (by omega) (by omega) hL dL_law_615 ?_
  refine W.eq (g2 := F0 m 616 ls [.int (iI (sV xs (i + 2))), .int (iI (sV xs (i + 1))), .ref (ad 0)]) rfl ?_
  refine lv_aload_n (pc := 616) hx hb dL_law_616 rfl (lv_at hl 0 rfl) ?_
  refine lv_iload (pc := 617) hx hb dL_law_617 (lv_at hl 5 rfl) ?_
  refine k_iconst (pc := 619) hx hb dL_law_619 ?_
  refine k_iadd (pc := 620) hx hb dL_law_620 ?_
  refine k_sld (pc := 621) hx hb hX hbl hbA hS (i := (i + 3)) (by omega) (by omega) hL dL_law_621 ?_
  refine W.eq (g2 := F0 m 622 ls [.int (iI (sV xs (i + 3))), .int (iI (sV xs (i + 2))), .int (iI (sV xs (i + 1))), .ref (ad 0)]) rfl ?_
  refine lv_aload_n (pc := 622) hx hb dL_law_622 rfl (lv_at hl 0 rfl) ?_
  refine lv_iload (pc := 623) hx hb dL_law_623 (lv_at hl 5 rfl) ?_
  refine k_iconst (pc := 625) hx hb dL_law_625 ?_
  refine k_iadd (pc := 626) hx hb dL_law_626 ?_
  refine k_sld (pc := 627) hx hb hX hbl hbA hS (i := (i + 4)) (by omega) (by omega) hL dL_law_627 ?_
  refine W.eq (g2 := F0 m 628 ls [.int (iI (sV xs (i + 4))), .int (iI (sV xs (i + 3))), .int (iI (sV xs (i + 2))), .int (iI (sV xs (i + 1))), .ref (ad 0)]) rfl ?_
  refine lv_aload_n (pc := 628) hx hb dL_law_628 rfl (lv_at hl 3 rfl) ?_
  refine k_call1 (pc := 629) (vx_runSW (As := [.ref (ad 0), .int (iI (sV xs (i + 1))), .int (iI (sV xs (i + 2))), .int (iI (sV xs (i + 3))), .int (iI (sV xs (i + 4))), .ref (ad 301)]) (rest := []) ⟨hx, hb, hml, hown, hts⟩ (c_L_read l hl0 D cA ad w H.size sc fn hI hbk (sV xs (i + 1)) (sV xs (i + 2)) (sV_r _ _) (sV_r _ _) (sV xs (i + 3)) (sV xs (i + 4)) (sV_r _ _) (sV_r _ _) o ho) (vx_cwSW 6 hts gL_law_L_read rfl rfl rfl (by decide +kernel) ⟨Nat.le_of_ble_eq_true rfl, Nat.le_of_ble_eq_true rfl⟩) (gV_S hP hD hK hB hS hA hZ) rfl rfl hl.1 rfl (lv_room (Nat.le_of_ble_eq_true rfl)) dL_law_629 ⟨Nat.le_trans (show nc + 4 ≤ nc + 10 by omega) hnc.1, Nat.le_trans (show ns + 24 ≤ ns + 500 by omega) hnc.2⟩) hS (gA_sub hD hS hA) (fun v_629 ad_629 w_629 H locs hv_629 hP hD hS => ?_)
  obtain ⟨k1, sc1, fn1, vA, oA, hvk, hbA9, hIA, hkA, hoA, hrA, hrcA, hkrA⟩ := hv_629
  subst hvk
  have hmA : mdS cA ad_629 w_629 th sc fn := mdS_of (fun r h1 h2 => ⟨(hkA.2 r h1).2 (by omega), (hkA.2 r h1).1⟩) hmd
  have hgA : w_629 302 = some (eD (cA 3) 1 g) := ((hkA.2 302 (by omega)).2 (by omega)).trans hg
  rw [← hkA.1, ← (hkA.2 200 (by omega)).1, ← (hkA.2 301 (by omega)).1, ← (hkA.2 302 (by omega)).1] at hl
  obtain ⟨fs2, hq2⟩ := mdS_0 hmA
  refine W.eq (g2 := F0 m 632 ls [.int (iI k1)]) rfl ?_
  refine W.cs (cells' := (nc + 4)) (slots' := (ns + 24)) rfl rfl ?_
  refine lv_istore (pc := 632) (lv' := [(6, .int (iI k1)), (0, .ref b), (1, .ref (ad_629 0)), (2, .ref (ad_629 200)), (3, .ref (ad_629 301)), (4, .ref (ad_629 302)), (5, .int (iI i))]) hx hb dL_law_632 hl (by decide) rfl (fun ls hl => ?_)
  refine lv_aload_n (pc := 634) hx hb dL_law_634 rfl (lv_at hl 3 rfl) ?_
  refine lv_aload_n (pc := 635) hx hb dL_law_635 rfl (lv_at hl 1 rfl) ?_
  refine lv_iload (pc := 636) hx hb dL_law_636 (lv_at hl 6 rfl) ?_
  refine k_iconst (pc := 638) hx hb dL_law_638 ?_
  refine k_iadd (pc := 639) hx hb dL_law_639 ?_
  refine k_sld (pc := 640) hx hb hX hbl hbA hS (i := (i + 1)) (by omega) (by omega) hL dL_law_640 ?_
  refine W.eq (g2 := F0 m 641 ls [.int (iI (sV xs (i + 1))), .ref (ad_629 200)]) rfl ?_
  refine lv_aload_n (pc := 641) hx hb dL_law_641 rfl (lv_at hl 1 rfl) ?_
  refine lv_iload (pc := 642) hx hb dL_law_642 (lv_at hl 6 rfl) ?_
  refine k_iconst (pc := 644) hx hb dL_law_644 ?_
  refine k_iadd (pc := 645) hx hb dL_law_645 ?_
  refine k_sld (pc := 646) hx hb hX hbl hbA hS (i := (i + 2)) (by omega) (by omega) hL dL_law_646 ?_
  refine W.eq (g2 := F0 m 647 ls [.int (iI (sV xs (i + 2))), .int (iI (sV xs (i + 1))), .ref (ad_629 200)]) rfl ?_
  refine lv_aload_n (pc := 647) hx hb dL_law_647 rfl (lv_at hl 1 rfl) ?_
  refine lv_iload (pc := 648) hx hb dL_law_648 (lv_at hl 6 rfl) ?_
  refine k_iconst (pc := 650) hx hb dL_law_650 ?_
  refine k_iadd (pc := 651) hx hb dL_law_651 ?_
  refine k_sld (pc := 652) hx hb hX hbl hbA hS (i := (i + 3)) (by omega) (by omega) hL dL_law_652 ?_
  refine W.eq (g2 := F0 m 653 ls [.int (iI (sV xs (i + 3))), .int (iI (sV xs (i + 2))), .int (iI (sV xs (i + 1))), .ref (ad_629 200)]) rfl ?_
  refine lv_aload_n (pc := 653) hx hb dL_law_653 rfl (lv_at hl 1 rfl) ?_
  refine lv_iload (pc := 654) hx hb dL_law_654 (lv_at hl 6 rfl) ?_
  refine k_iconst (pc := 656) hx hb dL_law_656 ?_
  refine k_iadd (pc := 657) hx hb dL_law_657 ?_
  refine k_sld (pc := 658) hx hb hX hbl hbA hS (i := (i + 4)) (by omega) (by omega) hL dL_law_658 ?_
  refine W.eq (g2 := F0 m 659 ls [.int (iI (sV xs (i + 4))), .int (iI (sV xs (i + 3))), .int (iI (sV xs (i + 2))), .int (iI (sV xs (i + 1))), .ref (ad_629 200)]) rfl ?_
  refine k_call1 (pc := 659) (va_runV (As := [.int (iI (sV xs (i + 1))), .int (iI (sV xs (i + 2))), .int (iI (sV xs (i + 3))), .int (iI (sV xs (i + 4)))]) (rest := []) ⟨hx, hb, hml, hown, hts⟩ (c_X6_read l D cA ad_629 w_629 H.size th sc fn hI hmA (sV xs (i + 1)) (sV xs (i + 2)) (sV_r _ _) (sV_r _ _) (sV xs (i + 3)) (sV xs (i + 4)) (sV_r _ _) (sV_r _ _)) (cwV 4 hts gL_law_X6_read rfl rfl rfl (by decide +kernel) ⟨Nat.le_of_ble_eq_true rfl, Nat.le_of_ble_eq_true rfl⟩) (gV_V hP hD hK hB hS hA hZ 200 (ci := 6) rfl hq2) rfl rfl hl.1 rfl (lv_room (Nat.le_of_ble_eq_true rfl)) dL_law_659 ⟨Nat.le_trans (show (nc + 4) + 0 ≤ nc + 10 by omega) hnc.1, Nat.le_trans (show (ns + 24) + 0 ≤ ns + 500 by omega) hnc.2⟩) hS (gA_sub hD hS hA) (fun v_659 ad_659 w_659 H locs hv_659 hP hD hS => ?_)
  obtain ⟨th2, sc2, fn2, hmB, hIB, hkB, hokB⟩ := hv_659
  obtain ⟨hrB, zB, hzB⟩ := md_read hokB
  subst hzB
  obtain ⟨e1, e2, e3, e4⟩ := dt_read sc fn _ _ _ _ hrA hrB
  have hbB : bookS cA ad_659 w_659 sc2 fn2 := bookS_of hIB (fun r h => ⟨(hkB.2 r (Or.inl h)).1, (hkB.2 r (Or.inl h)).2⟩) (by rw [← e2, ← e3]; exact hbA9)
  rw [← hkB.1, ← (hkB.2 0 (by omega)).2, ← (hkB.2 301 (by omega)).2, ← (hkB.2 302 (by omega)).2] at hl
  have hoX := (hkB.2 301 (by omega)).1.trans hoA
  have hgB := (hkB.2 302 (by omega)).1.trans hgA
  obtain ⟨frB, hk0B⟩ := mdS_k hmB
  refine W.eq (g2 := F0 m 662 ls [.int (iI zB)]) rfl ?_
  refine W.cs (cells' := (nc + 4)) (slots' := (ns + 24)) rfl rfl ?_
  refine lv_istore (pc := 662) (lv' := [(7, .int (iI zB)), (6, .int (iI k1)), (0, .ref b), (1, .ref (ad_659 0)), (2, .ref (ad_659 200)), (3, .ref (ad_659 301)), (4, .ref (ad_659 302)), (5, .int (iI i))]) hx hb dL_law_662 hl (by decide) rfl (fun ls hl => ?_)
  refine lv_aload_n (pc := 664) hx hb dL_law_664 rfl (lv_at hl 4 rfl) ?_
  refine k_call0 (pc := 665) (va_runV (As := []) (rest := []) ⟨hx, hb, hml, hown, hts⟩ (c_X6_thrown l D cA ad_659 w_659 sc2 fn2 th2 frB hk0B) (cwV 0 hts gL_law_X6_thrown rfl rfl rfl (by decide +kernel) ⟨Nat.le_of_ble_eq_true rfl, Nat.le_of_ble_eq_true rfl⟩) (gR_V hP hK hB 200 (ci := 6) rfl hk0B) rfl rfl hl.1 rfl (lv_room (Nat.le_of_ble_eq_true rfl)) dL_law_665 ⟨Nat.le_trans (show (nc + 4) + 0 ≤ nc + 10 by omega) hnc.1, Nat.le_trans (show (ns + 24) + 0 ≤ ns + 500 by omega) hnc.2⟩) (fun v_665 hv_665 => ?_)
  obtain ⟨z_665, rfl, hz_665⟩ := hv_665
  refine W.eq (g2 := F0 m 668 ls [.int (iI z_665)]) rfl ?_
  refine lv_iload (pc := 668) hx hb dL_law_668 (lv_at hl 1 rfl) ?_
  refine k_icmp_eq (pc := 670) (tgt := 675) hx hb ⟨by omega, by omega⟩ ⟨by omega, by omega⟩ dL_law_670 (by decide) (fun hc_670 => ?_) (fun hc_670 => ?_)
  · skip
    refine lv_iload (pc := 675) hx hb dL_law_675 (lv_at hl 1 rfl) ?_
    refine k_if_ne (pc := 677) (tgt := 692) hx hb ⟨by omega, by omega⟩ dL_law_677 (by decide) (fun hc_677 => ?_) (fun hc_677 => ?_)
    · skip
      refine lv_goto (pc := 692) (tgt := 1710) hx hb dL_law_692 (by decide) ?_
      refine W.widen (k := nc + 10) (n := ns + 500) (by omega) (by omega) ?_
      exact kk ad_659 w_659 sc2 fn2 H locs ls ⟨hbB, hIB, ⟨th2, hmB⟩, ⟨_, hoX⟩, ⟨_, hgB⟩⟩ hP hD hS (lv_sub hl [2, 3, 4, 5, 6, 7] rfl)
    · skip
      refine lv_aload_n (pc := 680) hx hb dL_law_680 rfl (lv_at hl 5 rfl) ?_
      refine k_iconst (pc := 681) hx hb dL_law_681 ?_
      refine k_lald (pc := 682) hx hb hK hP 301 2 hoX rfl (by omega) (by omega) (by omega) dL_law_682 ?_
      refine lv_iload (pc := 683) hx hb dL_law_683 (lv_at hl 0 rfl) ?_
      refine k_i2lw (pc := 685) hx hb dL_law_685 ?_
      have e5 := e4 hc_677
      have e6 := (hrcA hc_677 zB).1 e5
      rw [e6]
      refine k_lcmpS (pc := 686) (tgt := 692) hx hb dL_law_686 dL_law_687 (by decide) ?_
      refine lv_goto (pc := 692) (tgt := 1710) hx hb dL_law_692 (by decide) ?_
      refine W.widen (k := nc + 10) (n := ns + 500) (by omega) (by omega) ?_
      exact kk ad_659 w_659 sc2 fn2 H locs ls ⟨hbB, hIB, ⟨th2, hmB⟩, ⟨_, hoX⟩, ⟨_, hgB⟩⟩ hP hD hS (lv_sub hl [2, 3, 4, 5, 6, 7] rfl)
  · skip
    exfalso
    omega

set_option maxHeartbeats 4000000 in
set_option maxRecDepth 100000 in
theorem lc_erase {p : Program} {e : Env} {s : State} {m : MethodId} {below : List Frame} {meth : Method} {c : Code} {l : Launch} {D : va_G} {cA : Nat → ClassId} {A : Nat → Prop} {b L : Nat} {xs : Nat → Int32} (C : lwC p l s m c D cA A b L xs) (Q9 : State → Prop) (i : Int) (hi : 0 ≤ i ∧ i + 5 ≤ L) (nc ns : Nat) (hnc : nc + 10 ≤ room_1.cells ∧ ns + 500 ≤ room_1.slots)
  (kk : ∀ (ad : Nat → Nat) (w : Nat → Option va_E) (sc : Nat → Int) (fn : Nat → Int → Int) (H : Heap) (locs : List Loc) (ls : Array Slot), lwS cA ad w sc fn → gP D vwCl ad w H → gD A ad w → va_S A s.heap H locs → lv_has ls 9 [(0, .ref b), (1, .ref (ad 0)), (2, .ref (ad 200)), (3, .ref (ad 301)), (4, .ref (ad 302)), (5, .int (iI i))] → W p l e room_1 s m #[Value.ref b] below meth c H locs (nc + 10) (ns + 500) Q9 (F0 m 1710 ls []))
  (ad : Nat → Nat) (w : Nat → Option va_E) (sc : Nat → Int) (fn : Nat → Int → Int) (H : Heap) (locs : List Loc) (ls : Array Slot) (hW : lwS cA ad w sc fn) (hP : gP D vwCl ad w H) (hD : gD A ad w) (hS : va_S A s.heap H locs) (hl : lv_has ls 9 [(0, .ref b), (1, .ref (ad 0)), (2, .ref (ad 200)), (3, .ref (ad 301)), (4, .ref (ad 302)), (5, .int (iI i))]) : W p l e room_1 s m #[Value.ref b] below meth c H locs nc ns Q9 (F0 m 695 ls []) := by
  obtain ⟨hl0, hx, hb, hml, hown, hts, hK, hB, hZ, hA, hX, hbl, hbA, hL⟩ := C
  obtain ⟨hbk, hI, ⟨th, hmd⟩, ⟨o, ho⟩, ⟨g, hg⟩⟩ := hW
  obtain ⟨fs0, hq0⟩ := bookS_0 hbk
  refine lv_aload_n (pc := 695) hx hb dL_law_695 rfl (lv_at hl 1 rfl) ?_
  refine lv_aload_n (pc := 696) hx hb dL_law_696 rfl (lv_at hl 0 rfl) ?_
  refine lv_iload (pc := 697) hx hb dL_law_697 (lv_at hl 5 rfl) ?_
  refine k_iconst (pc := 699) hx hb dL_law_699 ?_
  refine k_iadd (pc := 700) hx hb dL_law_700 ?_
  refine k_sld (pc := 701) hx hb hX hbl hbA hS (i := (i + 1)) (by omega) (by omega) hL dL_law_701 ?_
  refine W.eq (g2 := F0 m 702 ls [.int (iI (sV xs (i + 1))), .ref (ad 0)]) rfl ?_
  refine lv_aload_n (pc := 702) hx hb dL_law_702 rfl (lv_at hl 0 rfl) ?_
  refine lv_iload (pc := 703) hx hb dL_law_703 (lv_at hl 5 rfl) ?_
  refine k_iconst (pc := 705) hx hb dL_law_705 ?_
  refine k_iadd (pc := 706) hx hb dL_law_706 ?_
  refine k_sld (pc := 707) hx hb hX hbl hbA hS (i := (i + 2)) (by omega) (by omega) hL dL_law_707 ?_
  refine W.eq (g2 := F0 m 708 ls [.int (iI (sV xs (i + 2))), .int (iI (sV xs (i + 1))), .ref (ad 0)]) rfl ?_
  refine lv_aload_n (pc := 708) hx hb dL_law_708 rfl (lv_at hl 3 rfl) ?_
  refine k_call1 (pc := 709) (vx_runSW (As := [.ref (ad 0), .int (iI (sV xs (i + 1))), .int (iI (sV xs (i + 2))), .ref (ad 301)]) (rest := []) ⟨hx, hb, hml, hown, hts⟩ (c_L_erase l hl0 D cA ad w H.size sc fn hI hbk (sV xs (i + 1)) (sV xs (i + 2)) (sV_r _ _) (sV_r _ _) o ho) (vx_cwSW 4 hts gL_law_L_erase rfl rfl rfl (by decide +kernel) ⟨Nat.le_of_ble_eq_true rfl, Nat.le_of_ble_eq_true rfl⟩) (gV_S hP hD hK hB hS hA hZ) rfl rfl hl.1 rfl (lv_room (Nat.le_of_ble_eq_true rfl)) dL_law_709 ⟨Nat.le_trans (show nc + 2 ≤ nc + 10 by omega) hnc.1, Nat.le_trans (show ns + 12 ≤ ns + 500 by omega) hnc.2⟩) hS (gA_sub hD hS hA) (fun v_709 ad_709 w_709 H locs hv_709 hP hD hS => ?_)
  obtain ⟨k1, sc1, fn1, vA, oA, hvk, hbA9, hIA, hkA, hoA, hrA, hrcA, hkrA⟩ := hv_709
  subst hvk
  have hmA : mdS cA ad_709 w_709 th sc fn := mdS_of (fun r h1 h2 => ⟨(hkA.2 r h1).2 (by omega), (hkA.2 r h1).1⟩) hmd
  have hgA : w_709 302 = some (eD (cA 3) 1 g) := ((hkA.2 302 (by omega)).2 (by omega)).trans hg
  rw [← hkA.1, ← (hkA.2 200 (by omega)).1, ← (hkA.2 301 (by omega)).1, ← (hkA.2 302 (by omega)).1] at hl
  obtain ⟨fs2, hq2⟩ := mdS_0 hmA
  refine W.eq (g2 := F0 m 712 ls [.int (iI k1)]) rfl ?_
  refine W.cs (cells' := (nc + 2)) (slots' := (ns + 12)) rfl rfl ?_
  refine lv_istore (pc := 712) (lv' := [(6, .int (iI k1)), (0, .ref b), (1, .ref (ad_709 0)), (2, .ref (ad_709 200)), (3, .ref (ad_709 301)), (4, .ref (ad_709 302)), (5, .int (iI i))]) hx hb dL_law_712 hl (by decide) rfl (fun ls hl => ?_)
  refine lv_aload_n (pc := 714) hx hb dL_law_714 rfl (lv_at hl 3 rfl) ?_
  refine lv_aload_n (pc := 715) hx hb dL_law_715 rfl (lv_at hl 1 rfl) ?_
  refine lv_iload (pc := 716) hx hb dL_law_716 (lv_at hl 6 rfl) ?_
  refine k_iconst (pc := 718) hx hb dL_law_718 ?_
  refine k_iadd (pc := 719) hx hb dL_law_719 ?_
  refine k_sld (pc := 720) hx hb hX hbl hbA hS (i := (i + 1)) (by omega) (by omega) hL dL_law_720 ?_
  refine W.eq (g2 := F0 m 721 ls [.int (iI (sV xs (i + 1))), .ref (ad_709 200)]) rfl ?_
  refine lv_aload_n (pc := 721) hx hb dL_law_721 rfl (lv_at hl 1 rfl) ?_
  refine lv_iload (pc := 722) hx hb dL_law_722 (lv_at hl 6 rfl) ?_
  refine k_iconst (pc := 724) hx hb dL_law_724 ?_
  refine k_iadd (pc := 725) hx hb dL_law_725 ?_
  refine k_sld (pc := 726) hx hb hX hbl hbA hS (i := (i + 2)) (by omega) (by omega) hL dL_law_726 ?_
  refine W.eq (g2 := F0 m 727 ls [.int (iI (sV xs (i + 2))), .int (iI (sV xs (i + 1))), .ref (ad_709 200)]) rfl ?_
  refine k_call1 (pc := 727) (va_runV (As := [.int (iI (sV xs (i + 1))), .int (iI (sV xs (i + 2)))]) (rest := []) ⟨hx, hb, hml, hown, hts⟩ (c_X6_erase l D cA ad_709 w_709 H.size th sc fn hI hmA (sV xs (i + 1)) (sV xs (i + 2)) (sV_r _ _) (sV_r _ _)) (cwV 2 hts gL_law_X6_erase rfl rfl rfl (by decide +kernel) ⟨Nat.le_of_ble_eq_true rfl, Nat.le_of_ble_eq_true rfl⟩) (gV_V hP hD hK hB hS hA hZ 200 (ci := 6) rfl hq2) rfl rfl hl.1 rfl (lv_room (Nat.le_of_ble_eq_true rfl)) dL_law_727 ⟨Nat.le_trans (show (nc + 2) + 0 ≤ nc + 10 by omega) hnc.1, Nat.le_trans (show (ns + 12) + 0 ≤ ns + 500 by omega) hnc.2⟩) hS (gA_sub hD hS hA) (fun v_727 ad_727 w_727 H locs hv_727 hP hD hS => ?_)
  obtain ⟨th2, sc2, fn2, hmB, hIB, hkB, hokB⟩ := hv_727
  obtain ⟨hrB, zB, hzB⟩ := md_erase hokB
  subst hzB
  obtain ⟨e1, e2, e3, e4⟩ := dt_erase sc fn _ _ hrA hrB
  have hbB : bookS cA ad_727 w_727 sc2 fn2 := bookS_of hIB (fun r h => ⟨(hkB.2 r (Or.inl h)).1, (hkB.2 r (Or.inl h)).2⟩) (by rw [← e2, ← e3]; exact hbA9)
  rw [← hkB.1, ← (hkB.2 0 (by omega)).2, ← (hkB.2 301 (by omega)).2, ← (hkB.2 302 (by omega)).2] at hl
  have hoX := (hkB.2 301 (by omega)).1.trans hoA
  have hgB := (hkB.2 302 (by omega)).1.trans hgA
  obtain ⟨frB, hk0B⟩ := mdS_k hmB
  refine W.eq (g2 := F0 m 730 ls [.int (iI zB)]) rfl ?_
  refine W.cs (cells' := (nc + 2)) (slots' := (ns + 12)) rfl rfl ?_
  refine lv_istore (pc := 730) (lv' := [(7, .int (iI zB)), (6, .int (iI k1)), (0, .ref b), (1, .ref (ad_727 0)), (2, .ref (ad_727 200)), (3, .ref (ad_727 301)), (4, .ref (ad_727 302)), (5, .int (iI i))]) hx hb dL_law_730 hl (by decide) rfl (fun ls hl => ?_)
  refine lv_aload_n (pc := 732) hx hb dL_law_732 rfl (lv_at hl 4 rfl) ?_
  refine k_call0 (pc := 733) (va_runV (As := []) (rest := []) ⟨hx, hb, hml, hown, hts⟩ (c_X6_thrown l D cA ad_727 w_727 sc2 fn2 th2 frB hk0B) (cwV 0 hts gL_law_X6_thrown rfl rfl rfl (by decide +kernel) ⟨Nat.le_of_ble_eq_true rfl, Nat.le_of_ble_eq_true rfl⟩) (gR_V hP hK hB 200 (ci := 6) rfl hk0B) rfl rfl hl.1 rfl (lv_room (Nat.le_of_ble_eq_true rfl)) dL_law_733 ⟨Nat.le_trans (show (nc + 2) + 0 ≤ nc + 10 by omega) hnc.1, Nat.le_trans (show (ns + 12) + 0 ≤ ns + 500 by omega) hnc.2⟩) (fun v_733 hv_733 => ?_)
  obtain ⟨z_733, rfl, hz_733⟩ := hv_733
  refine W.eq (g2 := F0 m 736 ls [.int (iI z_733)]) rfl ?_
  refine lv_iload (pc := 736) hx hb dL_law_736 (lv_at hl 1 rfl) ?_
  refine k_icmp_eq (pc := 738) (tgt := 743) hx hb ⟨by omega, by omega⟩ ⟨by omega, by omega⟩ dL_law_738 (by decide) (fun hc_738 => ?_) (fun hc_738 => ?_)
  · skip
    refine lv_iload (pc := 743) hx hb dL_law_743 (lv_at hl 1 rfl) ?_
    refine k_if_ne (pc := 745) (tgt := 760) hx hb ⟨by omega, by omega⟩ dL_law_745 (by decide) (fun hc_745 => ?_) (fun hc_745 => ?_)
    · skip
      refine lv_goto (pc := 760) (tgt := 1710) hx hb dL_law_760 (by decide) ?_
      refine W.widen (k := nc + 10) (n := ns + 500) (by omega) (by omega) ?_
      exact kk ad_727 w_727 sc2 fn2 H locs ls ⟨hbB, hIB, ⟨th2, hmB⟩, ⟨_, hoX⟩, ⟨_, hgB⟩⟩ hP hD hS (lv_sub hl [2, 3, 4, 5, 6, 7] rfl)
    · skip
      refine lv_aload_n (pc := 748) hx hb dL_law_748 rfl (lv_at hl 5 rfl) ?_
      refine k_iconst (pc := 749) hx hb dL_law_749 ?_
      refine k_lald (pc := 750) hx hb hK hP 301 2 hoX rfl (by omega) (by omega) (by omega) dL_law_750 ?_
      refine lv_iload (pc := 751) hx hb dL_law_751 (lv_at hl 0 rfl) ?_
      refine k_i2lw (pc := 753) hx hb dL_law_753 ?_
      have e5 := e4 hc_745
      have e6 := (hrcA hc_745 zB).1 e5
      rw [e6]
      refine k_lcmpS (pc := 754) (tgt := 760) hx hb dL_law_754 dL_law_755 (by decide) ?_
      refine lv_goto (pc := 760) (tgt := 1710) hx hb dL_law_760 (by decide) ?_
      refine W.widen (k := nc + 10) (n := ns + 500) (by omega) (by omega) ?_
      exact kk ad_727 w_727 sc2 fn2 H locs ls ⟨hbB, hIB, ⟨th2, hmB⟩, ⟨_, hoX⟩, ⟨_, hgB⟩⟩ hP hD hS (lv_sub hl [2, 3, 4, 5, 6, 7] rfl)
  · skip
    exfalso
    omega

set_option maxHeartbeats 4000000 in
set_option maxRecDepth 100000 in
theorem lc_freeze {p : Program} {e : Env} {s : State} {m : MethodId} {below : List Frame} {meth : Method} {c : Code} {l : Launch} {D : va_G} {cA : Nat → ClassId} {A : Nat → Prop} {b L : Nat} {xs : Nat → Int32} (C : lwC p l s m c D cA A b L xs) (Q9 : State → Prop) (i : Int) (hi : 0 ≤ i ∧ i + 5 ≤ L) (nc ns : Nat) (hnc : nc + 10 ≤ room_1.cells ∧ ns + 500 ≤ room_1.slots)
  (kk : ∀ (ad : Nat → Nat) (w : Nat → Option va_E) (sc : Nat → Int) (fn : Nat → Int → Int) (H : Heap) (locs : List Loc) (ls : Array Slot), lwS cA ad w sc fn → gP D vwCl ad w H → gD A ad w → va_S A s.heap H locs → lv_has ls 9 [(0, .ref b), (1, .ref (ad 0)), (2, .ref (ad 200)), (3, .ref (ad 301)), (4, .ref (ad 302)), (5, .int (iI i))] → W p l e room_1 s m #[Value.ref b] below meth c H locs (nc + 10) (ns + 500) Q9 (F0 m 1710 ls []))
  (ad : Nat → Nat) (w : Nat → Option va_E) (sc : Nat → Int) (fn : Nat → Int → Int) (H : Heap) (locs : List Loc) (ls : Array Slot) (hW : lwS cA ad w sc fn) (hP : gP D vwCl ad w H) (hD : gD A ad w) (hS : va_S A s.heap H locs) (hl : lv_has ls 9 [(0, .ref b), (1, .ref (ad 0)), (2, .ref (ad 200)), (3, .ref (ad 301)), (4, .ref (ad 302)), (5, .int (iI i))]) : W p l e room_1 s m #[Value.ref b] below meth c H locs nc ns Q9 (F0 m 763 ls []) := by
  obtain ⟨hl0, hx, hb, hml, hown, hts, hK, hB, hZ, hA, hX, hbl, hbA, hL⟩ := C
  obtain ⟨hbk, hI, ⟨th, hmd⟩, ⟨o, ho⟩, ⟨g, hg⟩⟩ := hW
  obtain ⟨fs0, hq0⟩ := bookS_0 hbk
  refine lv_aload_n (pc := 763) hx hb dL_law_763 rfl (lv_at hl 1 rfl) ?_
  refine lv_aload_n (pc := 764) hx hb dL_law_764 rfl (lv_at hl 0 rfl) ?_
  refine lv_iload (pc := 765) hx hb dL_law_765 (lv_at hl 5 rfl) ?_
  refine k_iconst (pc := 767) hx hb dL_law_767 ?_
  refine k_iadd (pc := 768) hx hb dL_law_768 ?_
  refine k_sld (pc := 769) hx hb hX hbl hbA hS (i := (i + 1)) (by omega) (by omega) hL dL_law_769 ?_
  refine W.eq (g2 := F0 m 770 ls [.int (iI (sV xs (i + 1))), .ref (ad 0)]) rfl ?_
  refine lv_aload_n (pc := 770) hx hb dL_law_770 rfl (lv_at hl 0 rfl) ?_
  refine lv_iload (pc := 771) hx hb dL_law_771 (lv_at hl 5 rfl) ?_
  refine k_iconst (pc := 773) hx hb dL_law_773 ?_
  refine k_iadd (pc := 774) hx hb dL_law_774 ?_
  refine k_sld (pc := 775) hx hb hX hbl hbA hS (i := (i + 2)) (by omega) (by omega) hL dL_law_775 ?_
  refine W.eq (g2 := F0 m 776 ls [.int (iI (sV xs (i + 2))), .int (iI (sV xs (i + 1))), .ref (ad 0)]) rfl ?_
  refine lv_aload_n (pc := 776) hx hb dL_law_776 rfl (lv_at hl 0 rfl) ?_
  refine lv_iload (pc := 777) hx hb dL_law_777 (lv_at hl 5 rfl) ?_
  refine k_iconst (pc := 779) hx hb dL_law_779 ?_
  refine k_iadd (pc := 780) hx hb dL_law_780 ?_
  refine k_sld (pc := 781) hx hb hX hbl hbA hS (i := (i + 3)) (by omega) (by omega) hL dL_law_781 ?_
  refine W.eq (g2 := F0 m 782 ls [.int (iI (sV xs (i + 3))), .int (iI (sV xs (i + 2))), .int (iI (sV xs (i + 1))), .ref (ad 0)]) rfl ?_
  refine k_if_eq (pc := 782) (tgt := 789) hx hb (sV_r _ _) dL_law_782 (by decide) (fun hc_782 => ?_) (fun hc_782 => ?_)
  · skip
    refine k_iconst (pc := 789) hx hb dL_law_789 ?_
    refine lv_aload_n (pc := 790) hx hb dL_law_790 rfl (lv_at hl 3 rfl) ?_
    refine k_call1 (pc := 791) (vx_runSW (As := [.ref (ad 0), .int (iI (sV xs (i + 1))), .int (iI (sV xs (i + 2))), .int (iI 0), .ref (ad 301)]) (rest := []) ⟨hx, hb, hml, hown, hts⟩ (c_L_freeze l hl0 D cA ad w H.size sc fn hI hbk (sV xs (i + 1)) (sV xs (i + 2)) (sV_r _ _) (sV_r _ _) 0 (Or.inl rfl) o ho) (vx_cwSW 5 hts gL_law_L_freeze rfl rfl rfl (by decide +kernel) ⟨Nat.le_of_ble_eq_true rfl, Nat.le_of_ble_eq_true rfl⟩) (gV_S hP hD hK hB hS hA hZ) rfl rfl hl.1 rfl (lv_room (Nat.le_of_ble_eq_true rfl)) dL_law_791 ⟨Nat.le_trans (show nc + 2 ≤ nc + 10 by omega) hnc.1, Nat.le_trans (show ns + 12 ≤ ns + 500 by omega) hnc.2⟩) hS (gA_sub hD hS hA) (fun v_791 ad_791 w_791 H locs hv_791 hP hD hS => ?_)
    obtain ⟨k1, sc1, fn1, vA, oA, hvk, hbA9, hIA, hkA, hoA, hrA, hrcA, hkrA⟩ := hv_791
    subst hvk
    have hmA : mdS cA ad_791 w_791 th sc fn := mdS_of (fun r h1 h2 => ⟨(hkA.2 r h1).2 (by omega), (hkA.2 r h1).1⟩) hmd
    have hgA : w_791 302 = some (eD (cA 3) 1 g) := ((hkA.2 302 (by omega)).2 (by omega)).trans hg
    rw [← hkA.1, ← (hkA.2 200 (by omega)).1, ← (hkA.2 301 (by omega)).1, ← (hkA.2 302 (by omega)).1] at hl
    obtain ⟨fs2, hq2⟩ := mdS_0 hmA
    refine W.eq (g2 := F0 m 794 ls [.int (iI k1)]) rfl ?_
    refine W.cs (cells' := (nc + 2)) (slots' := (ns + 12)) rfl rfl ?_
    refine lv_istore (pc := 794) (lv' := [(6, .int (iI k1)), (0, .ref b), (1, .ref (ad_791 0)), (2, .ref (ad_791 200)), (3, .ref (ad_791 301)), (4, .ref (ad_791 302)), (5, .int (iI i))]) hx hb dL_law_794 hl (by decide) rfl (fun ls hl => ?_)
    refine lv_aload_n (pc := 796) hx hb dL_law_796 rfl (lv_at hl 3 rfl) ?_
    refine lv_aload_n (pc := 797) hx hb dL_law_797 rfl (lv_at hl 1 rfl) ?_
    refine lv_iload (pc := 798) hx hb dL_law_798 (lv_at hl 6 rfl) ?_
    refine k_iconst (pc := 800) hx hb dL_law_800 ?_
    refine k_iadd (pc := 801) hx hb dL_law_801 ?_
    refine k_sld (pc := 802) hx hb hX hbl hbA hS (i := (i + 1)) (by omega) (by omega) hL dL_law_802 ?_
    refine W.eq (g2 := F0 m 803 ls [.int (iI (sV xs (i + 1))), .ref (ad_791 200)]) rfl ?_
    refine lv_aload_n (pc := 803) hx hb dL_law_803 rfl (lv_at hl 1 rfl) ?_
    refine lv_iload (pc := 804) hx hb dL_law_804 (lv_at hl 6 rfl) ?_
    refine k_iconst (pc := 806) hx hb dL_law_806 ?_
    refine k_iadd (pc := 807) hx hb dL_law_807 ?_
    refine k_sld (pc := 808) hx hb hX hbl hbA hS (i := (i + 2)) (by omega) (by omega) hL dL_law_808 ?_
    refine W.eq (g2 := F0 m 809 ls [.int (iI (sV xs (i + 2))), .int (iI (sV xs (i + 1))), .ref (ad_791 200)]) rfl ?_
    refine lv_aload_n (pc := 809) hx hb dL_law_809 rfl (lv_at hl 1 rfl) ?_
    refine lv_iload (pc := 810) hx hb dL_law_810 (lv_at hl 6 rfl) ?_
    refine k_iconst (pc := 812) hx hb dL_law_812 ?_
    refine k_iadd (pc := 813) hx hb dL_law_813 ?_
    refine k_sld (pc := 814) hx hb hX hbl hbA hS (i := (i + 3)) (by omega) (by omega) hL dL_law_814 ?_
    refine W.eq (g2 := F0 m 815 ls [.int (iI (sV xs (i + 3))), .int (iI (sV xs (i + 2))), .int (iI (sV xs (i + 1))), .ref (ad_791 200)]) rfl ?_
    refine k_if_eq (pc := 815) (tgt := 822) hx hb (sV_r _ _) dL_law_815 (by decide) (fun hc_815 => ?_) (fun hc_815 => ?_)
    · skip
      refine k_iconst (pc := 822) hx hb dL_law_822 ?_
      refine k_call1 (pc := 823) (va_runV (As := [.int (iI (sV xs (i + 1))), .int (iI (sV xs (i + 2))), .int (iI 0)]) (rest := []) ⟨hx, hb, hml, hown, hts⟩ (c_X6_freeze l D cA ad_791 w_791 H.size th sc fn hI hmA (sV xs (i + 1)) (sV xs (i + 2)) (sV_r _ _) (sV_r _ _) 0 (Or.inl rfl)) (cwV 3 hts gL_law_X6_freeze rfl rfl rfl (by decide +kernel) ⟨Nat.le_of_ble_eq_true rfl, Nat.le_of_ble_eq_true rfl⟩) (gV_V hP hD hK hB hS hA hZ 200 (ci := 6) rfl hq2) rfl rfl hl.1 rfl (lv_room (Nat.le_of_ble_eq_true rfl)) dL_law_823 ⟨Nat.le_trans (show (nc + 2) + 0 ≤ nc + 10 by omega) hnc.1, Nat.le_trans (show (ns + 12) + 0 ≤ ns + 500 by omega) hnc.2⟩) hS (gA_sub hD hS hA) (fun v_823 ad_823 w_823 H locs hv_823 hP hD hS => ?_)
      obtain ⟨th2, sc2, fn2, hmB, hIB, hkB, hokB⟩ := hv_823
      obtain ⟨hrB, zB, hzB⟩ := md_freeze hokB
      subst hzB
      obtain ⟨e1, e2, e3, e4⟩ := dt_freeze sc fn _ _ _ hrA hrB
      have hbB : bookS cA ad_823 w_823 sc2 fn2 := bookS_of hIB (fun r h => ⟨(hkB.2 r (Or.inl h)).1, (hkB.2 r (Or.inl h)).2⟩) (by rw [← e2, ← e3]; exact hbA9)
      rw [← hkB.1, ← (hkB.2 0 (by omega)).2, ← (hkB.2 301 (by omega)).2, ← (hkB.2 302 (by omega)).2] at hl
      have hoX := (hkB.2 301 (by omega)).1.trans hoA
      have hgB := (hkB.2 302 (by omega)).1.trans hgA
      obtain ⟨frB, hk0B⟩ := mdS_k hmB
      refine W.eq (g2 := F0 m 826 ls [.int (iI zB)]) rfl ?_
      refine W.cs (cells' := (nc + 2)) (slots' := (ns + 12)) rfl rfl ?_
      refine lv_istore (pc := 826) (lv' := [(7, .int (iI zB)), (6, .int (iI k1)), (0, .ref b), (1, .ref (ad_823 0)), (2, .ref (ad_823 200)), (3, .ref (ad_823 301)), (4, .ref (ad_823 302)), (5, .int (iI i))]) hx hb dL_law_826 hl (by decide) rfl (fun ls hl => ?_)
      refine lv_aload_n (pc := 828) hx hb dL_law_828 rfl (lv_at hl 4 rfl) ?_
      refine k_call0 (pc := 829) (va_runV (As := []) (rest := []) ⟨hx, hb, hml, hown, hts⟩ (c_X6_thrown l D cA ad_823 w_823 sc2 fn2 th2 frB hk0B) (cwV 0 hts gL_law_X6_thrown rfl rfl rfl (by decide +kernel) ⟨Nat.le_of_ble_eq_true rfl, Nat.le_of_ble_eq_true rfl⟩) (gR_V hP hK hB 200 (ci := 6) rfl hk0B) rfl rfl hl.1 rfl (lv_room (Nat.le_of_ble_eq_true rfl)) dL_law_829 ⟨Nat.le_trans (show (nc + 2) + 0 ≤ nc + 10 by omega) hnc.1, Nat.le_trans (show (ns + 12) + 0 ≤ ns + 500 by omega) hnc.2⟩) (fun v_829 hv_829 => ?_)
      obtain ⟨z_829, rfl, hz_829⟩ := hv_829
      refine W.eq (g2 := F0 m 832 ls [.int (iI z_829)]) rfl ?_
      refine lv_iload (pc := 832) hx hb dL_law_832 (lv_at hl 1 rfl) ?_
      refine k_icmp_eq (pc := 834) (tgt := 839) hx hb ⟨by omega, by omega⟩ ⟨by omega, by omega⟩ dL_law_834 (by decide) (fun hc_834 => ?_) (fun hc_834 => ?_)
      · skip
        refine lv_iload (pc := 839) hx hb dL_law_839 (lv_at hl 1 rfl) ?_
        refine k_if_ne (pc := 841) (tgt := 856) hx hb ⟨by omega, by omega⟩ dL_law_841 (by decide) (fun hc_841 => ?_) (fun hc_841 => ?_)
        · skip
          refine lv_goto (pc := 856) (tgt := 1710) hx hb dL_law_856 (by decide) ?_
          refine W.widen (k := nc + 10) (n := ns + 500) (by omega) (by omega) ?_
          exact kk ad_823 w_823 sc2 fn2 H locs ls ⟨hbB, hIB, ⟨th2, hmB⟩, ⟨_, hoX⟩, ⟨_, hgB⟩⟩ hP hD hS (lv_sub hl [2, 3, 4, 5, 6, 7] rfl)
        · skip
          refine lv_aload_n (pc := 844) hx hb dL_law_844 rfl (lv_at hl 5 rfl) ?_
          refine k_iconst (pc := 845) hx hb dL_law_845 ?_
          refine k_lald (pc := 846) hx hb hK hP 301 2 hoX rfl (by omega) (by omega) (by omega) dL_law_846 ?_
          refine lv_iload (pc := 847) hx hb dL_law_847 (lv_at hl 0 rfl) ?_
          refine k_i2lw (pc := 849) hx hb dL_law_849 ?_
          have e5 := e4 hc_841
          have e6 := (hrcA hc_841 zB).1 e5
          rw [e6]
          refine k_lcmpS (pc := 850) (tgt := 856) hx hb dL_law_850 dL_law_851 (by decide) ?_
          refine lv_goto (pc := 856) (tgt := 1710) hx hb dL_law_856 (by decide) ?_
          refine W.widen (k := nc + 10) (n := ns + 500) (by omega) (by omega) ?_
          exact kk ad_823 w_823 sc2 fn2 H locs ls ⟨hbB, hIB, ⟨th2, hmB⟩, ⟨_, hoX⟩, ⟨_, hgB⟩⟩ hP hD hS (lv_sub hl [2, 3, 4, 5, 6, 7] rfl)
      · skip
        exfalso
        omega
    · skip
      exfalso
      omega
  · skip
    refine k_iconst (pc := 785) hx hb dL_law_785 ?_
    refine lv_goto (pc := 786) (tgt := 790) hx hb dL_law_786 (by decide) ?_
    refine lv_aload_n (pc := 790) hx hb dL_law_790 rfl (lv_at hl 3 rfl) ?_
    refine k_call1 (pc := 791) (vx_runSW (As := [.ref (ad 0), .int (iI (sV xs (i + 1))), .int (iI (sV xs (i + 2))), .int (iI 1), .ref (ad 301)]) (rest := []) ⟨hx, hb, hml, hown, hts⟩ (c_L_freeze l hl0 D cA ad w H.size sc fn hI hbk (sV xs (i + 1)) (sV xs (i + 2)) (sV_r _ _) (sV_r _ _) 1 (Or.inr rfl) o ho) (vx_cwSW 5 hts gL_law_L_freeze rfl rfl rfl (by decide +kernel) ⟨Nat.le_of_ble_eq_true rfl, Nat.le_of_ble_eq_true rfl⟩) (gV_S hP hD hK hB hS hA hZ) rfl rfl hl.1 rfl (lv_room (Nat.le_of_ble_eq_true rfl)) dL_law_791 ⟨Nat.le_trans (show nc + 2 ≤ nc + 10 by omega) hnc.1, Nat.le_trans (show ns + 12 ≤ ns + 500 by omega) hnc.2⟩) hS (gA_sub hD hS hA) (fun v_791 ad_791 w_791 H locs hv_791 hP hD hS => ?_)
    obtain ⟨k1, sc1, fn1, vA, oA, hvk, hbA9, hIA, hkA, hoA, hrA, hrcA, hkrA⟩ := hv_791
    subst hvk
    have hmA : mdS cA ad_791 w_791 th sc fn := mdS_of (fun r h1 h2 => ⟨(hkA.2 r h1).2 (by omega), (hkA.2 r h1).1⟩) hmd
    have hgA : w_791 302 = some (eD (cA 3) 1 g) := ((hkA.2 302 (by omega)).2 (by omega)).trans hg
    rw [← hkA.1, ← (hkA.2 200 (by omega)).1, ← (hkA.2 301 (by omega)).1, ← (hkA.2 302 (by omega)).1] at hl
    obtain ⟨fs2, hq2⟩ := mdS_0 hmA
    refine W.eq (g2 := F0 m 794 ls [.int (iI k1)]) rfl ?_
    refine W.cs (cells' := (nc + 2)) (slots' := (ns + 12)) rfl rfl ?_
    refine lv_istore (pc := 794) (lv' := [(6, .int (iI k1)), (0, .ref b), (1, .ref (ad_791 0)), (2, .ref (ad_791 200)), (3, .ref (ad_791 301)), (4, .ref (ad_791 302)), (5, .int (iI i))]) hx hb dL_law_794 hl (by decide) rfl (fun ls hl => ?_)
    refine lv_aload_n (pc := 796) hx hb dL_law_796 rfl (lv_at hl 3 rfl) ?_
    refine lv_aload_n (pc := 797) hx hb dL_law_797 rfl (lv_at hl 1 rfl) ?_
    refine lv_iload (pc := 798) hx hb dL_law_798 (lv_at hl 6 rfl) ?_
    refine k_iconst (pc := 800) hx hb dL_law_800 ?_
    refine k_iadd (pc := 801) hx hb dL_law_801 ?_
    refine k_sld (pc := 802) hx hb hX hbl hbA hS (i := (i + 1)) (by omega) (by omega) hL dL_law_802 ?_
    refine W.eq (g2 := F0 m 803 ls [.int (iI (sV xs (i + 1))), .ref (ad_791 200)]) rfl ?_
    refine lv_aload_n (pc := 803) hx hb dL_law_803 rfl (lv_at hl 1 rfl) ?_
    refine lv_iload (pc := 804) hx hb dL_law_804 (lv_at hl 6 rfl) ?_
    refine k_iconst (pc := 806) hx hb dL_law_806 ?_
    refine k_iadd (pc := 807) hx hb dL_law_807 ?_
    refine k_sld (pc := 808) hx hb hX hbl hbA hS (i := (i + 2)) (by omega) (by omega) hL dL_law_808 ?_
    refine W.eq (g2 := F0 m 809 ls [.int (iI (sV xs (i + 2))), .int (iI (sV xs (i + 1))), .ref (ad_791 200)]) rfl ?_
    refine lv_aload_n (pc := 809) hx hb dL_law_809 rfl (lv_at hl 1 rfl) ?_
    refine lv_iload (pc := 810) hx hb dL_law_810 (lv_at hl 6 rfl) ?_
    refine k_iconst (pc := 812) hx hb dL_law_812 ?_
    refine k_iadd (pc := 813) hx hb dL_law_813 ?_
    refine k_sld (pc := 814) hx hb hX hbl hbA hS (i := (i + 3)) (by omega) (by omega) hL dL_law_814 ?_
    refine W.eq (g2 := F0 m 815 ls [.int (iI (sV xs (i + 3))), .int (iI (sV xs (i + 2))), .int (iI (sV xs (i + 1))), .ref (ad_791 200)]) rfl ?_
    refine k_if_eq (pc := 815) (tgt := 822) hx hb (sV_r _ _) dL_law_815 (by decide) (fun hc_815 => ?_) (fun hc_815 => ?_)
    · skip
      exfalso
      omega
    · skip
      refine k_iconst (pc := 818) hx hb dL_law_818 ?_
      refine lv_goto (pc := 819) (tgt := 823) hx hb dL_law_819 (by decide) ?_
      refine k_call1 (pc := 823) (va_runV (As := [.int (iI (sV xs (i + 1))), .int (iI (sV xs (i + 2))), .int (iI 1)]) (rest := []) ⟨hx, hb, hml, hown, hts⟩ (c_X6_freeze l D cA ad_791 w_791 H.size th sc fn hI hmA (sV xs (i + 1)) (sV xs (i + 2)) (sV_r _ _) (sV_r _ _) 1 (Or.inr rfl)) (cwV 3 hts gL_law_X6_freeze rfl rfl rfl (by decide +kernel) ⟨Nat.le_of_ble_eq_true rfl, Nat.le_of_ble_eq_true rfl⟩) (gV_V hP hD hK hB hS hA hZ 200 (ci := 6) rfl hq2) rfl rfl hl.1 rfl (lv_room (Nat.le_of_ble_eq_true rfl)) dL_law_823 ⟨Nat.le_trans (show (nc + 2) + 0 ≤ nc + 10 by omega) hnc.1, Nat.le_trans (show (ns + 12) + 0 ≤ ns + 500 by omega) hnc.2⟩) hS (gA_sub hD hS hA) (fun v_823 ad_823 w_823 H locs hv_823 hP hD hS => ?_)
      obtain ⟨th2, sc2, fn2, hmB, hIB, hkB, hokB⟩ := hv_823
      obtain ⟨hrB, zB, hzB⟩ := md_freeze hokB
      subst hzB
      obtain ⟨e1, e2, e3, e4⟩ := dt_freeze sc fn _ _ _ hrA hrB
      have hbB : bookS cA ad_823 w_823 sc2 fn2 := bookS_of hIB (fun r h => ⟨(hkB.2 r (Or.inl h)).1, (hkB.2 r (Or.inl h)).2⟩) (by rw [← e2, ← e3]; exact hbA9)
      rw [← hkB.1, ← (hkB.2 0 (by omega)).2, ← (hkB.2 301 (by omega)).2, ← (hkB.2 302 (by omega)).2] at hl
      have hoX := (hkB.2 301 (by omega)).1.trans hoA
      have hgB := (hkB.2 302 (by omega)).1.trans hgA
      obtain ⟨frB, hk0B⟩ := mdS_k hmB
      refine W.eq (g2 := F0 m 826 ls [.int (iI zB)]) rfl ?_
      refine W.cs (cells' := (nc + 2)) (slots' := (ns + 12)) rfl rfl ?_
      refine lv_istore (pc := 826) (lv' := [(7, .int (iI zB)), (6, .int (iI k1)), (0, .ref b), (1, .ref (ad_823 0)), (2, .ref (ad_823 200)), (3, .ref (ad_823 301)), (4, .ref (ad_823 302)), (5, .int (iI i))]) hx hb dL_law_826 hl (by decide) rfl (fun ls hl => ?_)
      refine lv_aload_n (pc := 828) hx hb dL_law_828 rfl (lv_at hl 4 rfl) ?_
      refine k_call0 (pc := 829) (va_runV (As := []) (rest := []) ⟨hx, hb, hml, hown, hts⟩ (c_X6_thrown l D cA ad_823 w_823 sc2 fn2 th2 frB hk0B) (cwV 0 hts gL_law_X6_thrown rfl rfl rfl (by decide +kernel) ⟨Nat.le_of_ble_eq_true rfl, Nat.le_of_ble_eq_true rfl⟩) (gR_V hP hK hB 200 (ci := 6) rfl hk0B) rfl rfl hl.1 rfl (lv_room (Nat.le_of_ble_eq_true rfl)) dL_law_829 ⟨Nat.le_trans (show (nc + 2) + 0 ≤ nc + 10 by omega) hnc.1, Nat.le_trans (show (ns + 12) + 0 ≤ ns + 500 by omega) hnc.2⟩) (fun v_829 hv_829 => ?_)
      obtain ⟨z_829, rfl, hz_829⟩ := hv_829
      refine W.eq (g2 := F0 m 832 ls [.int (iI z_829)]) rfl ?_
      refine lv_iload (pc := 832) hx hb dL_law_832 (lv_at hl 1 rfl) ?_
      refine k_icmp_eq (pc := 834) (tgt := 839) hx hb ⟨by omega, by omega⟩ ⟨by omega, by omega⟩ dL_law_834 (by decide) (fun hc_834 => ?_) (fun hc_834 => ?_)
      · skip
        refine lv_iload (pc := 839) hx hb dL_law_839 (lv_at hl 1 rfl) ?_
        refine k_if_ne (pc := 841) (tgt := 856) hx hb ⟨by omega, by omega⟩ dL_law_841 (by decide) (fun hc_841 => ?_) (fun hc_841 => ?_)
        · skip
          refine lv_goto (pc := 856) (tgt := 1710) hx hb dL_law_856 (by decide) ?_
          refine W.widen (k := nc + 10) (n := ns + 500) (by omega) (by omega) ?_
          exact kk ad_823 w_823 sc2 fn2 H locs ls ⟨hbB, hIB, ⟨th2, hmB⟩, ⟨_, hoX⟩, ⟨_, hgB⟩⟩ hP hD hS (lv_sub hl [2, 3, 4, 5, 6, 7] rfl)
        · skip
          refine lv_aload_n (pc := 844) hx hb dL_law_844 rfl (lv_at hl 5 rfl) ?_
          refine k_iconst (pc := 845) hx hb dL_law_845 ?_
          refine k_lald (pc := 846) hx hb hK hP 301 2 hoX rfl (by omega) (by omega) (by omega) dL_law_846 ?_
          refine lv_iload (pc := 847) hx hb dL_law_847 (lv_at hl 0 rfl) ?_
          refine k_i2lw (pc := 849) hx hb dL_law_849 ?_
          have e5 := e4 hc_841
          have e6 := (hrcA hc_841 zB).1 e5
          rw [e6]
          refine k_lcmpS (pc := 850) (tgt := 856) hx hb dL_law_850 dL_law_851 (by decide) ?_
          refine lv_goto (pc := 856) (tgt := 1710) hx hb dL_law_856 (by decide) ?_
          refine W.widen (k := nc + 10) (n := ns + 500) (by omega) (by omega) ?_
          exact kk ad_823 w_823 sc2 fn2 H locs ls ⟨hbB, hIB, ⟨th2, hmB⟩, ⟨_, hoX⟩, ⟨_, hgB⟩⟩ hP hD hS (lv_sub hl [2, 3, 4, 5, 6, 7] rfl)
      · skip
        exfalso
        omega

set_option maxHeartbeats 4000000 in
set_option maxRecDepth 100000 in
theorem lc_setRules {p : Program} {e : Env} {s : State} {m : MethodId} {below : List Frame} {meth : Method} {c : Code} {l : Launch} {D : va_G} {cA : Nat → ClassId} {A : Nat → Prop} {b L : Nat} {xs : Nat → Int32} (C : lwC p l s m c D cA A b L xs) (Q9 : State → Prop) (i : Int) (hi : 0 ≤ i ∧ i + 5 ≤ L) (nc ns : Nat) (hnc : nc + 10 ≤ room_1.cells ∧ ns + 500 ≤ room_1.slots)
  (kk : ∀ (ad : Nat → Nat) (w : Nat → Option va_E) (sc : Nat → Int) (fn : Nat → Int → Int) (H : Heap) (locs : List Loc) (ls : Array Slot), lwS cA ad w sc fn → gP D vwCl ad w H → gD A ad w → va_S A s.heap H locs → lv_has ls 9 [(0, .ref b), (1, .ref (ad 0)), (2, .ref (ad 200)), (3, .ref (ad 301)), (4, .ref (ad 302)), (5, .int (iI i))] → W p l e room_1 s m #[Value.ref b] below meth c H locs (nc + 10) (ns + 500) Q9 (F0 m 1710 ls []))
  (ad : Nat → Nat) (w : Nat → Option va_E) (sc : Nat → Int) (fn : Nat → Int → Int) (H : Heap) (locs : List Loc) (ls : Array Slot) (hW : lwS cA ad w sc fn) (hP : gP D vwCl ad w H) (hD : gD A ad w) (hS : va_S A s.heap H locs) (hl : lv_has ls 9 [(0, .ref b), (1, .ref (ad 0)), (2, .ref (ad 200)), (3, .ref (ad 301)), (4, .ref (ad 302)), (5, .int (iI i))]) : W p l e room_1 s m #[Value.ref b] below meth c H locs nc ns Q9 (F0 m 859 ls []) := by
  obtain ⟨hl0, hx, hb, hml, hown, hts, hK, hB, hZ, hA, hX, hbl, hbA, hL⟩ := C
  obtain ⟨hbk, hI, ⟨th, hmd⟩, ⟨o, ho⟩, ⟨g, hg⟩⟩ := hW
  obtain ⟨fs0, hq0⟩ := bookS_0 hbk
  refine lv_aload_n (pc := 859) hx hb dL_law_859 rfl (lv_at hl 1 rfl) ?_
  refine lv_aload_n (pc := 860) hx hb dL_law_860 rfl (lv_at hl 0 rfl) ?_
  refine lv_iload (pc := 861) hx hb dL_law_861 (lv_at hl 5 rfl) ?_
  refine k_iconst (pc := 863) hx hb dL_law_863 ?_
  refine k_iadd (pc := 864) hx hb dL_law_864 ?_
  refine k_sld (pc := 865) hx hb hX hbl hbA hS (i := (i + 1)) (by omega) (by omega) hL dL_law_865 ?_
  refine W.eq (g2 := F0 m 866 ls [.int (iI (sV xs (i + 1))), .ref (ad 0)]) rfl ?_
  refine lv_aload_n (pc := 866) hx hb dL_law_866 rfl (lv_at hl 0 rfl) ?_
  refine lv_iload (pc := 867) hx hb dL_law_867 (lv_at hl 5 rfl) ?_
  refine k_iconst (pc := 869) hx hb dL_law_869 ?_
  refine k_iadd (pc := 870) hx hb dL_law_870 ?_
  refine k_sld (pc := 871) hx hb hX hbl hbA hS (i := (i + 2)) (by omega) (by omega) hL dL_law_871 ?_
  refine W.eq (g2 := F0 m 872 ls [.int (iI (sV xs (i + 2))), .int (iI (sV xs (i + 1))), .ref (ad 0)]) rfl ?_
  refine lv_aload_n (pc := 872) hx hb dL_law_872 rfl (lv_at hl 3 rfl) ?_
  refine k_call1 (pc := 873) (vx_runSW (As := [.ref (ad 0), .int (iI (sV xs (i + 1))), .int (iI (sV xs (i + 2))), .ref (ad 301)]) (rest := []) ⟨hx, hb, hml, hown, hts⟩ (c_L_setRules l hl0 D cA ad w H.size sc fn hI hbk (sV xs (i + 1)) (sV xs (i + 2)) (sV_r _ _) (sV_r _ _) o ho) (vx_cwSW 4 hts gL_law_L_setRules rfl rfl rfl (by decide +kernel) ⟨Nat.le_of_ble_eq_true rfl, Nat.le_of_ble_eq_true rfl⟩) (gV_S hP hD hK hB hS hA hZ) rfl rfl hl.1 rfl (lv_room (Nat.le_of_ble_eq_true rfl)) dL_law_873 ⟨Nat.le_trans (show nc + 1 ≤ nc + 10 by omega) hnc.1, Nat.le_trans (show ns + 6 ≤ ns + 500 by omega) hnc.2⟩) hS (gA_sub hD hS hA) (fun v_873 ad_873 w_873 H locs hv_873 hP hD hS => ?_)
  obtain ⟨k1, sc1, fn1, vA, oA, hvk, hbA9, hIA, hkA, hoA, hrA, hrcA, hkrA⟩ := hv_873
  subst hvk
  have hmA : mdS cA ad_873 w_873 th sc fn := mdS_of (fun r h1 h2 => ⟨(hkA.2 r h1).2 (by omega), (hkA.2 r h1).1⟩) hmd
  have hgA : w_873 302 = some (eD (cA 3) 1 g) := ((hkA.2 302 (by omega)).2 (by omega)).trans hg
  rw [← hkA.1, ← (hkA.2 200 (by omega)).1, ← (hkA.2 301 (by omega)).1, ← (hkA.2 302 (by omega)).1] at hl
  obtain ⟨fs2, hq2⟩ := mdS_0 hmA
  refine W.eq (g2 := F0 m 876 ls [.int (iI k1)]) rfl ?_
  refine W.cs (cells' := (nc + 1)) (slots' := (ns + 6)) rfl rfl ?_
  refine lv_istore (pc := 876) (lv' := [(6, .int (iI k1)), (0, .ref b), (1, .ref (ad_873 0)), (2, .ref (ad_873 200)), (3, .ref (ad_873 301)), (4, .ref (ad_873 302)), (5, .int (iI i))]) hx hb dL_law_876 hl (by decide) rfl (fun ls hl => ?_)
  refine lv_aload_n (pc := 878) hx hb dL_law_878 rfl (lv_at hl 3 rfl) ?_
  refine lv_aload_n (pc := 879) hx hb dL_law_879 rfl (lv_at hl 1 rfl) ?_
  refine lv_iload (pc := 880) hx hb dL_law_880 (lv_at hl 6 rfl) ?_
  refine k_iconst (pc := 882) hx hb dL_law_882 ?_
  refine k_iadd (pc := 883) hx hb dL_law_883 ?_
  refine k_sld (pc := 884) hx hb hX hbl hbA hS (i := (i + 1)) (by omega) (by omega) hL dL_law_884 ?_
  refine W.eq (g2 := F0 m 885 ls [.int (iI (sV xs (i + 1))), .ref (ad_873 200)]) rfl ?_
  refine lv_aload_n (pc := 885) hx hb dL_law_885 rfl (lv_at hl 1 rfl) ?_
  refine lv_iload (pc := 886) hx hb dL_law_886 (lv_at hl 6 rfl) ?_
  refine k_iconst (pc := 888) hx hb dL_law_888 ?_
  refine k_iadd (pc := 889) hx hb dL_law_889 ?_
  refine k_sld (pc := 890) hx hb hX hbl hbA hS (i := (i + 2)) (by omega) (by omega) hL dL_law_890 ?_
  refine W.eq (g2 := F0 m 891 ls [.int (iI (sV xs (i + 2))), .int (iI (sV xs (i + 1))), .ref (ad_873 200)]) rfl ?_
  refine k_call1 (pc := 891) (va_runV (As := [.int (iI (sV xs (i + 1))), .int (iI (sV xs (i + 2)))]) (rest := []) ⟨hx, hb, hml, hown, hts⟩ (c_X6_setRules l D cA ad_873 w_873 H.size th sc fn hI hmA (sV xs (i + 1)) (sV xs (i + 2)) (sV_r _ _) (sV_r _ _)) (cwV 2 hts gL_law_X6_setRules rfl rfl rfl (by decide +kernel) ⟨Nat.le_of_ble_eq_true rfl, Nat.le_of_ble_eq_true rfl⟩) (gV_V hP hD hK hB hS hA hZ 200 (ci := 6) rfl hq2) rfl rfl hl.1 rfl (lv_room (Nat.le_of_ble_eq_true rfl)) dL_law_891 ⟨Nat.le_trans (show (nc + 1) + 0 ≤ nc + 10 by omega) hnc.1, Nat.le_trans (show (ns + 6) + 0 ≤ ns + 500 by omega) hnc.2⟩) hS (gA_sub hD hS hA) (fun v_891 ad_891 w_891 H locs hv_891 hP hD hS => ?_)
  obtain ⟨th2, sc2, fn2, hmB, hIB, hkB, hokB⟩ := hv_891
  obtain ⟨hrB, zB, hzB⟩ := md_setRules hokB
  subst hzB
  obtain ⟨e1, e2, e3, e4⟩ := dt_setRules sc fn _ _ hrA hrB
  have hbB : bookS cA ad_891 w_891 sc2 fn2 := bookS_of hIB (fun r h => ⟨(hkB.2 r (Or.inl h)).1, (hkB.2 r (Or.inl h)).2⟩) (by rw [← e2, ← e3]; exact hbA9)
  rw [← hkB.1, ← (hkB.2 0 (by omega)).2, ← (hkB.2 301 (by omega)).2, ← (hkB.2 302 (by omega)).2] at hl
  have hoX := (hkB.2 301 (by omega)).1.trans hoA
  have hgB := (hkB.2 302 (by omega)).1.trans hgA
  obtain ⟨frB, hk0B⟩ := mdS_k hmB
  refine W.eq (g2 := F0 m 894 ls [.int (iI zB)]) rfl ?_
  refine W.cs (cells' := (nc + 1)) (slots' := (ns + 6)) rfl rfl ?_
  refine lv_istore (pc := 894) (lv' := [(7, .int (iI zB)), (6, .int (iI k1)), (0, .ref b), (1, .ref (ad_891 0)), (2, .ref (ad_891 200)), (3, .ref (ad_891 301)), (4, .ref (ad_891 302)), (5, .int (iI i))]) hx hb dL_law_894 hl (by decide) rfl (fun ls hl => ?_)
  refine lv_aload_n (pc := 896) hx hb dL_law_896 rfl (lv_at hl 4 rfl) ?_
  refine k_call0 (pc := 897) (va_runV (As := []) (rest := []) ⟨hx, hb, hml, hown, hts⟩ (c_X6_thrown l D cA ad_891 w_891 sc2 fn2 th2 frB hk0B) (cwV 0 hts gL_law_X6_thrown rfl rfl rfl (by decide +kernel) ⟨Nat.le_of_ble_eq_true rfl, Nat.le_of_ble_eq_true rfl⟩) (gR_V hP hK hB 200 (ci := 6) rfl hk0B) rfl rfl hl.1 rfl (lv_room (Nat.le_of_ble_eq_true rfl)) dL_law_897 ⟨Nat.le_trans (show (nc + 1) + 0 ≤ nc + 10 by omega) hnc.1, Nat.le_trans (show (ns + 6) + 0 ≤ ns + 500 by omega) hnc.2⟩) (fun v_897 hv_897 => ?_)
  obtain ⟨z_897, rfl, hz_897⟩ := hv_897
  refine W.eq (g2 := F0 m 900 ls [.int (iI z_897)]) rfl ?_
  refine lv_iload (pc := 900) hx hb dL_law_900 (lv_at hl 1 rfl) ?_
  refine k_icmp_eq (pc := 902) (tgt := 907) hx hb ⟨by omega, by omega⟩ ⟨by omega, by omega⟩ dL_law_902 (by decide) (fun hc_902 => ?_) (fun hc_902 => ?_)
  · skip
    refine lv_iload (pc := 907) hx hb dL_law_907 (lv_at hl 1 rfl) ?_
    refine k_if_ne (pc := 909) (tgt := 924) hx hb ⟨by omega, by omega⟩ dL_law_909 (by decide) (fun hc_909 => ?_) (fun hc_909 => ?_)
    · skip
      refine lv_goto (pc := 924) (tgt := 1710) hx hb dL_law_924 (by decide) ?_
      refine W.widen (k := nc + 10) (n := ns + 500) (by omega) (by omega) ?_
      exact kk ad_891 w_891 sc2 fn2 H locs ls ⟨hbB, hIB, ⟨th2, hmB⟩, ⟨_, hoX⟩, ⟨_, hgB⟩⟩ hP hD hS (lv_sub hl [2, 3, 4, 5, 6, 7] rfl)
    · skip
      refine lv_aload_n (pc := 912) hx hb dL_law_912 rfl (lv_at hl 5 rfl) ?_
      refine k_iconst (pc := 913) hx hb dL_law_913 ?_
      refine k_lald (pc := 914) hx hb hK hP 301 2 hoX rfl (by omega) (by omega) (by omega) dL_law_914 ?_
      refine lv_iload (pc := 915) hx hb dL_law_915 (lv_at hl 0 rfl) ?_
      refine k_i2lw (pc := 917) hx hb dL_law_917 ?_
      have e5 := e4 hc_909
      have e6 := (hrcA hc_909 zB).1 e5
      rw [e6]
      refine k_lcmpS (pc := 918) (tgt := 924) hx hb dL_law_918 dL_law_919 (by decide) ?_
      refine lv_goto (pc := 924) (tgt := 1710) hx hb dL_law_924 (by decide) ?_
      refine W.widen (k := nc + 10) (n := ns + 500) (by omega) (by omega) ?_
      exact kk ad_891 w_891 sc2 fn2 H locs ls ⟨hbB, hIB, ⟨th2, hmB⟩, ⟨_, hoX⟩, ⟨_, hgB⟩⟩ hP hD hS (lv_sub hl [2, 3, 4, 5, 6, 7] rfl)
  · skip
    exfalso
    omega

set_option maxHeartbeats 4000000 in
set_option maxRecDepth 100000 in
theorem lc_state {p : Program} {e : Env} {s : State} {m : MethodId} {below : List Frame} {meth : Method} {c : Code} {l : Launch} {D : va_G} {cA : Nat → ClassId} {A : Nat → Prop} {b L : Nat} {xs : Nat → Int32} (C : lwC p l s m c D cA A b L xs) (Q9 : State → Prop) (i : Int) (hi : 0 ≤ i ∧ i + 5 ≤ L) (nc ns : Nat) (hnc : nc + 10 ≤ room_1.cells ∧ ns + 500 ≤ room_1.slots)
  (kk : ∀ (ad : Nat → Nat) (w : Nat → Option va_E) (sc : Nat → Int) (fn : Nat → Int → Int) (H : Heap) (locs : List Loc) (ls : Array Slot), lwS cA ad w sc fn → gP D vwCl ad w H → gD A ad w → va_S A s.heap H locs → lv_has ls 9 [(0, .ref b), (1, .ref (ad 0)), (2, .ref (ad 200)), (3, .ref (ad 301)), (4, .ref (ad 302)), (5, .int (iI i))] → W p l e room_1 s m #[Value.ref b] below meth c H locs (nc + 10) (ns + 500) Q9 (F0 m 1710 ls []))
  (ad : Nat → Nat) (w : Nat → Option va_E) (sc : Nat → Int) (fn : Nat → Int → Int) (H : Heap) (locs : List Loc) (ls : Array Slot) (hW : lwS cA ad w sc fn) (hP : gP D vwCl ad w H) (hD : gD A ad w) (hS : va_S A s.heap H locs) (hl : lv_has ls 9 [(0, .ref b), (1, .ref (ad 0)), (2, .ref (ad 200)), (3, .ref (ad 301)), (4, .ref (ad 302)), (5, .int (iI i))]) : W p l e room_1 s m #[Value.ref b] below meth c H locs nc ns Q9 (F0 m 927 ls []) := by
  obtain ⟨hl0, hx, hb, hml, hown, hts, hK, hB, hZ, hA, hX, hbl, hbA, hL⟩ := C
  obtain ⟨hbk, hI, ⟨th, hmd⟩, ⟨o, ho⟩, ⟨g, hg⟩⟩ := hW
  obtain ⟨fs0, hq0⟩ := bookS_0 hbk
  refine lv_aload_n (pc := 927) hx hb dL_law_927 rfl (lv_at hl 1 rfl) ?_
  refine lv_aload_n (pc := 928) hx hb dL_law_928 rfl (lv_at hl 0 rfl) ?_
  refine lv_iload (pc := 929) hx hb dL_law_929 (lv_at hl 5 rfl) ?_
  refine k_iconst (pc := 931) hx hb dL_law_931 ?_
  refine k_iadd (pc := 932) hx hb dL_law_932 ?_
  refine k_sld (pc := 933) hx hb hX hbl hbA hS (i := (i + 1)) (by omega) (by omega) hL dL_law_933 ?_
  refine W.eq (g2 := F0 m 934 ls [.int (iI (sV xs (i + 1))), .ref (ad 0)]) rfl ?_
  refine lv_aload_n (pc := 934) hx hb dL_law_934 rfl (lv_at hl 3 rfl) ?_
  refine k_call1 (pc := 935) (vx_runSW (As := [.ref (ad 0), .int (iI (sV xs (i + 1))), .ref (ad 301)]) (rest := []) ⟨hx, hb, hml, hown, hts⟩ (c_L_state l hl0 D cA ad w H.size sc fn hI hbk (sV xs (i + 1)) (sV_r _ _) o ho) (vx_cwSW 3 hts gL_law_L_state rfl rfl rfl (by decide +kernel) ⟨Nat.le_of_ble_eq_true rfl, Nat.le_of_ble_eq_true rfl⟩) (gV_S hP hD hK hB hS hA hZ) rfl rfl hl.1 rfl (lv_room (Nat.le_of_ble_eq_true rfl)) dL_law_935 ⟨Nat.le_trans (show nc + 1 ≤ nc + 10 by omega) hnc.1, Nat.le_trans (show ns + 6 ≤ ns + 500 by omega) hnc.2⟩) hS (gA_sub hD hS hA) (fun v_935 ad_935 w_935 H locs hv_935 hP hD hS => ?_)
  obtain ⟨k1, sc1, fn1, vA, oA, hvk, hbA9, hIA, hkA, hoA, hrA, hrcA, hkrA⟩ := hv_935
  subst hvk
  have hmA : mdS cA ad_935 w_935 th sc fn := mdS_of (fun r h1 h2 => ⟨(hkA.2 r h1).2 (by omega), (hkA.2 r h1).1⟩) hmd
  have hgA : w_935 302 = some (eD (cA 3) 1 g) := ((hkA.2 302 (by omega)).2 (by omega)).trans hg
  rw [← hkA.1, ← (hkA.2 200 (by omega)).1, ← (hkA.2 301 (by omega)).1, ← (hkA.2 302 (by omega)).1] at hl
  obtain ⟨fs2, hq2⟩ := mdS_0 hmA
  refine W.eq (g2 := F0 m 938 ls [.int (iI k1)]) rfl ?_
  refine W.cs (cells' := (nc + 1)) (slots' := (ns + 6)) rfl rfl ?_
  refine lv_istore (pc := 938) (lv' := [(6, .int (iI k1)), (0, .ref b), (1, .ref (ad_935 0)), (2, .ref (ad_935 200)), (3, .ref (ad_935 301)), (4, .ref (ad_935 302)), (5, .int (iI i))]) hx hb dL_law_938 hl (by decide) rfl (fun ls hl => ?_)
  refine lv_aload_n (pc := 940) hx hb dL_law_940 rfl (lv_at hl 3 rfl) ?_
  refine lv_aload_n (pc := 941) hx hb dL_law_941 rfl (lv_at hl 1 rfl) ?_
  refine lv_iload (pc := 942) hx hb dL_law_942 (lv_at hl 6 rfl) ?_
  refine k_iconst (pc := 944) hx hb dL_law_944 ?_
  refine k_iadd (pc := 945) hx hb dL_law_945 ?_
  refine k_sld (pc := 946) hx hb hX hbl hbA hS (i := (i + 1)) (by omega) (by omega) hL dL_law_946 ?_
  refine W.eq (g2 := F0 m 947 ls [.int (iI (sV xs (i + 1))), .ref (ad_935 200)]) rfl ?_
  refine k_call1 (pc := 947) (va_runV (As := [.int (iI (sV xs (i + 1)))]) (rest := []) ⟨hx, hb, hml, hown, hts⟩ (c_X6_state l D cA ad_935 w_935 H.size th sc fn hI hmA (sV xs (i + 1)) (sV_r _ _)) (cwV 1 hts gL_law_X6_state rfl rfl rfl (by decide +kernel) ⟨Nat.le_of_ble_eq_true rfl, Nat.le_of_ble_eq_true rfl⟩) (gV_V hP hD hK hB hS hA hZ 200 (ci := 6) rfl hq2) rfl rfl hl.1 rfl (lv_room (Nat.le_of_ble_eq_true rfl)) dL_law_947 ⟨Nat.le_trans (show (nc + 1) + 0 ≤ nc + 10 by omega) hnc.1, Nat.le_trans (show (ns + 6) + 0 ≤ ns + 500 by omega) hnc.2⟩) hS (gA_sub hD hS hA) (fun v_947 ad_947 w_947 H locs hv_947 hP hD hS => ?_)
  obtain ⟨th2, sc2, fn2, hmB, hIB, hkB, hokB⟩ := hv_947
  obtain ⟨hrB, zB, hzB⟩ := md_state hokB
  subst hzB
  obtain ⟨e1, e2, e3, e4⟩ := dt_state sc fn _ hrA hrB
  have hbB : bookS cA ad_947 w_947 sc2 fn2 := bookS_of hIB (fun r h => ⟨(hkB.2 r (Or.inl h)).1, (hkB.2 r (Or.inl h)).2⟩) (by rw [← e2, ← e3]; exact hbA9)
  rw [← hkB.1, ← (hkB.2 0 (by omega)).2, ← (hkB.2 301 (by omega)).2, ← (hkB.2 302 (by omega)).2] at hl
  have hoX := (hkB.2 301 (by omega)).1.trans hoA
  have hgB := (hkB.2 302 (by omega)).1.trans hgA
  obtain ⟨frB, hk0B⟩ := mdS_k hmB
  refine W.eq (g2 := F0 m 950 ls [.int (iI zB)]) rfl ?_
  refine W.cs (cells' := (nc + 1)) (slots' := (ns + 6)) rfl rfl ?_
  refine lv_istore (pc := 950) (lv' := [(7, .int (iI zB)), (6, .int (iI k1)), (0, .ref b), (1, .ref (ad_947 0)), (2, .ref (ad_947 200)), (3, .ref (ad_947 301)), (4, .ref (ad_947 302)), (5, .int (iI i))]) hx hb dL_law_950 hl (by decide) rfl (fun ls hl => ?_)
  refine lv_aload_n (pc := 952) hx hb dL_law_952 rfl (lv_at hl 4 rfl) ?_
  refine k_call0 (pc := 953) (va_runV (As := []) (rest := []) ⟨hx, hb, hml, hown, hts⟩ (c_X6_thrown l D cA ad_947 w_947 sc2 fn2 th2 frB hk0B) (cwV 0 hts gL_law_X6_thrown rfl rfl rfl (by decide +kernel) ⟨Nat.le_of_ble_eq_true rfl, Nat.le_of_ble_eq_true rfl⟩) (gR_V hP hK hB 200 (ci := 6) rfl hk0B) rfl rfl hl.1 rfl (lv_room (Nat.le_of_ble_eq_true rfl)) dL_law_953 ⟨Nat.le_trans (show (nc + 1) + 0 ≤ nc + 10 by omega) hnc.1, Nat.le_trans (show (ns + 6) + 0 ≤ ns + 500 by omega) hnc.2⟩) (fun v_953 hv_953 => ?_)
  obtain ⟨z_953, rfl, hz_953⟩ := hv_953
  refine W.eq (g2 := F0 m 956 ls [.int (iI z_953)]) rfl ?_
  refine lv_iload (pc := 956) hx hb dL_law_956 (lv_at hl 1 rfl) ?_
  refine k_icmp_eq (pc := 958) (tgt := 963) hx hb ⟨by omega, by omega⟩ ⟨by omega, by omega⟩ dL_law_958 (by decide) (fun hc_958 => ?_) (fun hc_958 => ?_)
  · skip
    refine lv_iload (pc := 963) hx hb dL_law_963 (lv_at hl 1 rfl) ?_
    refine k_if_ne (pc := 965) (tgt := 980) hx hb ⟨by omega, by omega⟩ dL_law_965 (by decide) (fun hc_965 => ?_) (fun hc_965 => ?_)
    · skip
      refine lv_goto (pc := 980) (tgt := 1710) hx hb dL_law_980 (by decide) ?_
      refine W.widen (k := nc + 10) (n := ns + 500) (by omega) (by omega) ?_
      exact kk ad_947 w_947 sc2 fn2 H locs ls ⟨hbB, hIB, ⟨th2, hmB⟩, ⟨_, hoX⟩, ⟨_, hgB⟩⟩ hP hD hS (lv_sub hl [2, 3, 4, 5, 6, 7] rfl)
    · skip
      refine lv_aload_n (pc := 968) hx hb dL_law_968 rfl (lv_at hl 5 rfl) ?_
      refine k_iconst (pc := 969) hx hb dL_law_969 ?_
      refine k_lald (pc := 970) hx hb hK hP 301 2 hoX rfl (by omega) (by omega) (by omega) dL_law_970 ?_
      refine lv_iload (pc := 971) hx hb dL_law_971 (lv_at hl 0 rfl) ?_
      refine k_i2lw (pc := 973) hx hb dL_law_973 ?_
      have e5 := e4 hc_965
      have e6 := (hrcA hc_965 zB).1 e5
      rw [e6]
      refine k_lcmpS (pc := 974) (tgt := 980) hx hb dL_law_974 dL_law_975 (by decide) ?_
      refine lv_goto (pc := 980) (tgt := 1710) hx hb dL_law_980 (by decide) ?_
      refine W.widen (k := nc + 10) (n := ns + 500) (by omega) (by omega) ?_
      exact kk ad_947 w_947 sc2 fn2 H locs ls ⟨hbB, hIB, ⟨th2, hmB⟩, ⟨_, hoX⟩, ⟨_, hgB⟩⟩ hP hD hS (lv_sub hl [2, 3, 4, 5, 6, 7] rfl)
  · skip
    exfalso
    omega
