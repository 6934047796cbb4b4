set_option maxHeartbeats 4000000 in
set_option maxRecDepth 100000 in
theorem lc_digest {p : Program} {e : Env} {s : State} {m : MethodId} {below : List Frame} {meth : Method} {c : Code} {l : Launch} {D : va_G} {cA : Nat → ClassId} {A : Nat → Prop} {b L : Nat} {xs : Nat → Int32} (C : lwC p l s m c D cA A b L xs) (Q9 : State → Prop) (i : Int) (hi : 0 ≤ i ∧ i + 5 ≤ L) (nc ns : Nat) (hnc : nc + 10 ≤ room_1.cells ∧ ns + 500 ≤ room_1.slots)
  (kk : ∀ (ad : Nat → Nat) (w : Nat → Option va_E) (sc : Nat → Int) (fn : Nat → Int → Int) (H : Heap) (locs : List Loc) (ls : Array Slot), lwS cA ad w sc fn → gP D vwCl ad w H → gD A ad w → va_S A s.heap H locs → lv_has ls 9 [(0, .ref b), (1, .ref (ad 0)), (2, .ref (ad 200)), (3, .ref (ad 301)), (4, .ref (ad 302)), (5, .int (iI i))] → W p l e room_1 s m #[Value.ref b] below meth c H locs (nc + 10) (ns + 500) Q9 (F0 m 1710 ls []))
  (ad : Nat → Nat) (w : Nat → Option va_E) (sc : Nat → Int) (fn : Nat → Int → Int) (H : Heap) (locs : List Loc) (ls : Array Slot) (hW : lwS cA ad w sc fn) (hP : gP D vwCl ad w H) (hD : gD A ad w) (hS : va_S A s.heap H locs) (hl : lv_has ls 9 [(0, .ref b), (1, .ref (ad 0)), (2, .ref (ad 200)), (3, .ref (ad 301)), (4, .ref (ad 302)), (5, .int (iI i))]) : W p l e room_1 s m #[Value.ref b] below meth c H locs nc ns Q9 (F0 m 1696 ls []) := by
  obtain ⟨hl0, hx, hb, hml, hown, hts, hK, hB, hZ, hA, hX, hbl, hbA, hL⟩ := C
  obtain ⟨hbk, hI, ⟨th, hmd⟩, ⟨o, ho⟩, ⟨g, hg⟩⟩ := hW
  obtain ⟨fs0, hq0⟩ := bookS_0 hbk
  refine lv_aload_n (pc := 1696) hx hb dL_law_1696 rfl (lv_at hl 1 rfl) ?_
  refine k_call1 (pc := 1697) (va_runV (As := []) (rest := []) ⟨hx, hb, hml, hown, hts⟩ (c_X5_digest l D cA ad w H.size sc fn hI hbk) (cwV 0 hts gL_law_X5_digest rfl rfl rfl (by decide +kernel) ⟨Nat.le_of_ble_eq_true rfl, Nat.le_of_ble_eq_true rfl⟩) (gV_V hP hD hK hB hS hA hZ 0 (ci := 5) rfl hq0) rfl rfl hl.1 rfl (lv_room (Nat.le_of_ble_eq_true rfl)) dL_law_1697 ⟨Nat.le_trans (show nc + 0 ≤ nc + 10 by omega) hnc.1, Nat.le_trans (show ns + 0 ≤ ns + 500 by omega) hnc.2⟩) hS (gA_sub hD hS hA) (fun v_1697 ad_1697 w_1697 H locs hv_1697 hP hD hS => ?_)
  obtain ⟨sc1, fn1, hbA9, hIA, hkA, e2, e3, hvk⟩ := hv_1697
  rw [e2, e3] at hbA9
  obtain ⟨zD, hzD⟩ : ∃ z : Int, z = dgV sc fn := ⟨_, rfl⟩
  rw [← hzD] at hvk
  subst hvk
  have hmA : mdS cA ad_1697 w_1697 th sc fn := mdS_of (fun r h1 h2 => ⟨(hkA.2 r h1).1, (hkA.2 r h1).2⟩) hmd
  rw [← hkA.1, ← (hkA.2 200 (by omega)).2, ← (hkA.2 301 (by omega)).2, ← (hkA.2 302 (by omega)).2] at hl
  obtain ⟨fs2, hq2⟩ := mdS_0 hmA
  refine W.eq (g2 := F0 m 1700 ls [.long (lI zD)]) rfl ?_
  refine W.cs (cells' := nc) (slots' := ns) rfl rfl ?_
  refine lv_aload_n (pc := 1700) hx hb dL_law_1700 rfl (lv_at hl 2 rfl) ?_
  refine k_call1 (pc := 1701) (va_runV (As := []) (rest := [.long (lI zD)]) ⟨hx, hb, hml, hown, hts⟩ (c_X6_digest l D cA ad_1697 w_1697 H.size th sc fn hI hmA) (cwV 0 hts gL_law_X6_digest rfl rfl rfl (by decide +kernel) ⟨Nat.le_of_ble_eq_true rfl, Nat.le_of_ble_eq_true rfl⟩) (gV_V hP hD hK hB hS hA hZ 200 (ci := 6) rfl hq2) rfl rfl hl.1 rfl (lv_room (Nat.le_of_ble_eq_true rfl)) dL_law_1701 ⟨Nat.le_trans (show nc + 0 ≤ nc + 10 by omega) hnc.1, Nat.le_trans (show ns + 0 ≤ ns + 500 by omega) hnc.2⟩) hS (gA_sub hD hS hA) (fun v_1701 ad_1701 w_1701 H locs hv_1701 hP hD hS => ?_)
  obtain ⟨th2, sc2, fn2, hmB, hIB, hkB, e5, e6, e7, hvk2⟩ := hv_1701
  rw [e6, e7] at hmB
  rw [← hzD] at hvk2
  subst hvk2
  have hbB : bookS cA ad_1701 w_1701 sc fn := bookS_of hI (fun r h => ⟨(hkB.2 r (Or.inl h)).1, (hkB.2 r (Or.inl h)).2⟩) hbA9
  rw [← hkB.1, ← (hkB.2 0 (by omega)).2, ← (hkB.2 301 (by omega)).2, ← (hkB.2 302 (by omega)).2] at hl
  have hoX := ((hkB.2 301 (by omega)).1.trans (hkA.2 301 (by omega)).1).trans ho
  have hgB := ((hkB.2 302 (by omega)).1.trans (hkA.2 302 (by omega)).1).trans hg
  refine W.eq (g2 := F0 m 1704 ls [.long (lI zD), .long (lI zD)]) rfl ?_
  refine W.cs (cells' := nc) (slots' := ns) rfl rfl ?_
  refine k_lcmpS (pc := 1704) (tgt := 1710) hx hb dL_law_1704 dL_law_1705 (by decide) ?_
  refine W.widen (k := nc + 10) (n := ns + 500) (by omega) (by omega) ?_
  exact kk ad_1701 w_1701 sc fn H locs ls ⟨hbB, hI, ⟨_, hmB⟩, ⟨_, hoX⟩, ⟨_, hgB⟩⟩ hP hD hS (lv_sub hl [0, 1, 2, 3, 4, 5] rfl)
