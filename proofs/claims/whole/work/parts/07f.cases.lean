set_option maxHeartbeats 4000000 in
set_option maxRecDepth 100000 in
theorem lc_flow {p : Program} {e : Env} {s : State} {m : MethodId} {below : List Frame} {meth : Method} {c : Code} {l : Launch} {D : va_G} {cA : Nat → ClassId} {A : Nat → Prop} {b L : Nat} {xs : Nat → Int32} (C : lwC p l s m c D cA A b L xs) (Q9 : State → Prop) (i : Int) (hi : 0 ≤ i ∧ i + 5 ≤ L) (nc ns : Nat) (hnc : nc + 10 ≤ room_1.cells ∧ ns + 500 ≤ room_1.slots)
  (kk : ∀ (ad : Nat → Nat) (w : Nat → Option va_E) (sc : Nat → Int) (fn : Nat → Int → Int) (H : Heap) (locs : List Loc) (ls : Array Slot), lwS cA ad w sc fn → gP D vwCl ad w H → gD A ad w → va_S A s.heap H locs → lv_has ls 9 [(0, .ref b), (1, .ref (ad 0)), (2, .ref (ad 200)), (3, .ref (ad 301)), (4, .ref (ad 302)), (5, .int (iI i))] → W p l e room_1 s m #[Value.ref b] below meth c H locs (nc + 10) (ns + 500) Q9 (F0 m 1710 ls []))
  (ad : Nat → Nat) (w : Nat → Option va_E) (sc : Nat → Int) (fn : Nat → Int → Int) (H : Heap) (locs : List Loc) (ls : Array Slot) (hW : lwS cA ad w sc fn) (hP : gP D vwCl ad w H) (hD : gD A ad w) (hS : va_S A s.heap H locs) (hl : lv_has ls 9 [(0, .ref b), (1, .ref (ad 0)), (2, .ref (ad 200)), (3, .ref (ad 301)), (4, .ref (ad 302)), (5, .int (iI i))]) : W p l e room_1 s m #[Value.ref b] below meth c H locs nc ns Q9 (F0 m 983 ls []) := by
  obtain ⟨hl0, hx, hb, hml, hown, hts, hK, hB, hZ, hA, hX, hbl, hbA, hL⟩ := C
  obtain ⟨hbk, hI, ⟨th, hmd⟩, ⟨o, ho⟩, ⟨g, hg⟩⟩ := hW
  obtain ⟨fs0, hq0⟩ := bookS_0 hbk
  refine lv_aload_n (pc := 983) hx hb dL_law_983 rfl (lv_at hl 1 rfl) ?_
  refine lv_aload_n (pc := 984) hx hb dL_law_984 rfl (lv_at hl 0 rfl) ?_
  refine lv_iload (pc := 985) hx hb dL_law_985 (lv_at hl 5 rfl) ?_
  refine k_iconst (pc := 987) hx hb dL_law_987 ?_
  refine k_iadd (pc := 988) hx hb dL_law_988 ?_
  refine k_sld (pc := 989) hx hb hX hbl hbA hS (i := (i + 1)) (by omega) (by omega) hL dL_law_989 ?_
  refine W.eq (g2 := F0 m 990 ls [.int (iI (sV xs (i + 1))), .ref (ad 0)]) rfl ?_
  refine lv_aload_n (pc := 990) hx hb dL_law_990 rfl (lv_at hl 3 rfl) ?_
  refine k_call1 (pc := 991) (vx_runSW (As := [.ref (ad 0), .int (iI (sV xs (i + 1))), .ref (ad 301)]) (rest := []) ⟨hx, hb, hml, hown, hts⟩ (c_L_flow l hl0 D cA ad w H.size sc fn hI hbk (sV xs (i + 1)) (sV_r _ _) o ho) (vx_cwSW 3 hts gL_law_L_flow rfl rfl rfl (by decide +kernel) ⟨Nat.le_of_ble_eq_true rfl, Nat.le_of_ble_eq_true rfl⟩) (gV_S hP hD hK hB hS hA hZ) rfl rfl hl.1 rfl (lv_room (Nat.le_of_ble_eq_true rfl)) dL_law_991 ⟨Nat.le_trans (show nc + 1 ≤ nc + 10 by omega) hnc.1, Nat.le_trans (show ns + 6 ≤ ns + 500 by omega) hnc.2⟩) hS (gA_sub hD hS hA) (fun v_991 ad_991 w_991 H locs hv_991 hP hD hS => ?_)
  obtain ⟨k1, sc1, fn1, vA, oA, hvk, hbA9, hIA, hkA, hoA, hrA, hrcA, hkrA⟩ := hv_991
  subst hvk
  have hmA : mdS cA ad_991 w_991 th sc fn := mdS_of (fun r h1 h2 => ⟨(hkA.2 r h1).2 (by omega), (hkA.2 r h1).1⟩) hmd
  have hgA : w_991 302 = some (eD (cA 3) 1 g) := ((hkA.2 302 (by omega)).2 (by omega)).trans hg
  rw [← hkA.1, ← (hkA.2 200 (by omega)).1, ← (hkA.2 301 (by omega)).1, ← (hkA.2 302 (by omega)).1] at hl
  obtain ⟨fs2, hq2⟩ := mdS_0 hmA
  refine W.eq (g2 := F0 m 994 ls [.int (iI k1)]) rfl ?_
  refine W.cs (cells' := (nc + 1)) (slots' := (ns + 6)) rfl rfl ?_
  refine lv_istore (pc := 994) (lv' := [(6, .int (iI k1)), (0, .ref b), (1, .ref (ad_991 0)), (2, .ref (ad_991 200)), (3, .ref (ad_991 301)), (4, .ref (ad_991 302)), (5, .int (iI i))]) hx hb dL_law_994 hl (by decide) rfl (fun ls hl => ?_)
  refine lv_aload_n (pc := 996) hx hb dL_law_996 rfl (lv_at hl 3 rfl) ?_
  refine lv_aload_n (pc := 997) hx hb dL_law_997 rfl (lv_at hl 1 rfl) ?_
  refine lv_iload (pc := 998) hx hb dL_law_998 (lv_at hl 6 rfl) ?_
  refine k_iconst (pc := 1000) hx hb dL_law_1000 ?_
  refine k_iadd (pc := 1001) hx hb dL_law_1001 ?_
  refine k_sld (pc := 1002) hx hb hX hbl hbA hS (i := (i + 1)) (by omega) (by omega) hL dL_law_1002 ?_
  refine W.eq (g2 := F0 m 1003 ls [.int (iI (sV xs (i + 1))), .ref (ad_991 200)]) rfl ?_
  refine k_call1 (pc := 1003) (va_runV (As := [.int (iI (sV xs (i + 1)))]) (rest := []) ⟨hx, hb, hml, hown, hts⟩ (c_X6_flow l D cA ad_991 w_991 H.size th sc fn hI hmA (sV xs (i + 1)) (sV_r _ _)) (cwV 1 hts gL_law_X6_flow rfl rfl rfl (by decide +kernel) ⟨Nat.le_of_ble_eq_true rfl, Nat.le_of_ble_eq_true rfl⟩) (gV_V hP hD hK hB hS hA hZ 200 (ci := 6) rfl hq2) rfl rfl hl.1 rfl (lv_room (Nat.le_of_ble_eq_true rfl)) dL_law_1003 ⟨Nat.le_trans (show (nc + 1) + 0 ≤ nc + 10 by omega) hnc.1, Nat.le_trans (show (ns + 6) + 0 ≤ ns + 500 by omega) hnc.2⟩) hS (gA_sub hD hS hA) (fun v_1003 ad_1003 w_1003 H locs hv_1003 hP hD hS => ?_)
  obtain ⟨th2, sc2, fn2, hmB, hIB, hkB, hokB⟩ := hv_1003
  obtain ⟨hrB, zB, hzB⟩ := md_flow hokB
  subst hzB
  obtain ⟨e1, e2, e3, e4⟩ := dt_flow sc fn _ hrA hrB
  have hbB : bookS cA ad_1003 w_1003 sc2 fn2 := bookS_of hIB (fun r h => ⟨(hkB.2 r (Or.inl h)).1, (hkB.2 r (Or.inl h)).2⟩) (by rw [← e2, ← e3]; exact hbA9)
  rw [← hkB.1, ← (hkB.2 0 (by omega)).2, ← (hkB.2 301 (by omega)).2, ← (hkB.2 302 (by omega)).2] at hl
  have hoX := (hkB.2 301 (by omega)).1.trans hoA
  have hgB := (hkB.2 302 (by omega)).1.trans hgA
  obtain ⟨frB, hk0B⟩ := mdS_k hmB
  refine W.eq (g2 := F0 m 1006 ls [.long (lI zB)]) rfl ?_
  refine W.cs (cells' := (nc + 1)) (slots' := (ns + 6)) rfl rfl ?_
  refine lv_lstore (pc := 1006) (lv' := [(7, .long (lI zB)), (6, .int (iI k1)), (0, .ref b), (1, .ref (ad_1003 0)), (2, .ref (ad_1003 200)), (3, .ref (ad_1003 301)), (4, .ref (ad_1003 302)), (5, .int (iI i))]) hx hb dL_law_1006 hl (by decide) rfl (fun ls hl => ?_)
  refine lv_aload_n (pc := 1008) hx hb dL_law_1008 rfl (lv_at hl 4 rfl) ?_
  refine k_call0 (pc := 1009) (va_runV (As := []) (rest := []) ⟨hx, hb, hml, hown, hts⟩ (c_X6_thrown l D cA ad_1003 w_1003 sc2 fn2 th2 frB hk0B) (cwV 0 hts gL_law_X6_thrown rfl rfl rfl (by decide +kernel) ⟨Nat.le_of_ble_eq_true rfl, Nat.le_of_ble_eq_true rfl⟩) (gR_V hP hK hB 200 (ci := 6) rfl hk0B) rfl rfl hl.1 rfl (lv_room (Nat.le_of_ble_eq_true rfl)) dL_law_1009 ⟨Nat.le_trans (show (nc + 1) + 0 ≤ nc + 10 by omega) hnc.1, Nat.le_trans (show (ns + 6) + 0 ≤ ns + 500 by omega) hnc.2⟩) (fun v_1009 hv_1009 => ?_)
  obtain ⟨z_1009, rfl, hz_1009⟩ := hv_1009
  refine W.eq (g2 := F0 m 1012 ls [.int (iI z_1009)]) rfl ?_
  refine lv_iload (pc := 1012) hx hb dL_law_1012 (lv_at hl 1 rfl) ?_
  refine k_icmp_eq (pc := 1014) (tgt := 1019) hx hb ⟨by omega, by omega⟩ ⟨by omega, by omega⟩ dL_law_1014 (by decide) (fun hc_1014 => ?_) (fun hc_1014 => ?_)
  · skip
    refine lv_iload (pc := 1019) hx hb dL_law_1019 (lv_at hl 1 rfl) ?_
    refine k_if_ne (pc := 1021) (tgt := 1035) hx hb ⟨by omega, by omega⟩ dL_law_1021 (by decide) (fun hc_1021 => ?_) (fun hc_1021 => ?_)
    · skip
      refine lv_goto (pc := 1035) (tgt := 1710) hx hb dL_law_1035 (by decide) ?_
      refine W.widen (k := nc + 10) (n := ns + 500) (by omega) (by omega) ?_
      exact kk ad_1003 w_1003 sc2 fn2 H locs ls ⟨hbB, hIB, ⟨th2, hmB⟩, ⟨_, hoX⟩, ⟨_, hgB⟩⟩ hP hD hS (lv_sub hl [2, 3, 4, 5, 6, 7] rfl)
    · skip
      refine lv_aload_n (pc := 1024) hx hb dL_law_1024 rfl (lv_at hl 5 rfl) ?_
      refine k_iconst (pc := 1025) hx hb dL_law_1025 ?_
      refine k_lald (pc := 1026) hx hb hK hP 301 2 hoX rfl (by omega) (by omega) (by omega) dL_law_1026 ?_
      refine lv_lload (pc := 1027) hx hb dL_law_1027 (lv_at hl 0 rfl) ?_
      have e5 := e4 hc_1021
      have e6 := (hrcA hc_1021 zB).2 e5
      rw [e6]
      refine k_lcmpS (pc := 1029) (tgt := 1035) hx hb dL_law_1029 dL_law_1030 (by decide) ?_
      refine lv_goto (pc := 1035) (tgt := 1710) hx hb dL_law_1035 (by decide) ?_
      refine W.widen (k := nc + 10) (n := ns + 500) (by omega) (by omega) ?_
      exact kk ad_1003 w_1003 sc2 fn2 H locs ls ⟨hbB, hIB, ⟨th2, hmB⟩, ⟨_, hoX⟩, ⟨_, hgB⟩⟩ hP hD hS (lv_sub hl [2, 3, 4, 5, 6, 7] rfl)
  · skip
    exfalso
    omega

set_option maxHeartbeats 4000000 in
set_option maxRecDepth 100000 in
theorem lc_sum {p : Program} {e : Env} {s : State} {m : MethodId} {below : List Frame} {meth : Method} {c : Code} {l : Launch} {D : va_G} {cA : Nat → ClassId} {A : Nat → Prop} {b L : Nat} {xs : Nat → Int32} (C : lwC p l s m c D cA A b L xs) (Q9 : State → Prop) (i : Int) (hi : 0 ≤ i ∧ i + 5 ≤ L) (nc ns : Nat) (hnc : nc + 10 ≤ room_1.cells ∧ ns + 500 ≤ room_1.slots)
  (kk : ∀ (ad : Nat → Nat) (w : Nat → Option va_E) (sc : Nat → Int) (fn : Nat → Int → Int) (H : Heap) (locs : List Loc) (ls : Array Slot), lwS cA ad w sc fn → gP D vwCl ad w H → gD A ad w → va_S A s.heap H locs → lv_has ls 9 [(0, .ref b), (1, .ref (ad 0)), (2, .ref (ad 200)), (3, .ref (ad 301)), (4, .ref (ad 302)), (5, .int (iI i))] → W p l e room_1 s m #[Value.ref b] below meth c H locs (nc + 10) (ns + 500) Q9 (F0 m 1710 ls []))
  (ad : Nat → Nat) (w : Nat → Option va_E) (sc : Nat → Int) (fn : Nat → Int → Int) (H : Heap) (locs : List Loc) (ls : Array Slot) (hW : lwS cA ad w sc fn) (hP : gP D vwCl ad w H) (hD : gD A ad w) (hS : va_S A s.heap H locs) (hl : lv_has ls 9 [(0, .ref b), (1, .ref (ad 0)), (2, .ref (ad 200)), (3, .ref (ad 301)), (4, .ref (ad 302)), (5, .int (iI i))]) : W p l e room_1 s m #[Value.ref b] below meth c H locs nc ns Q9 (F0 m 1038 ls []) := by
  obtain ⟨hl0, hx, hb, hml, hown, hts, hK, hB, hZ, hA, hX, hbl, hbA, hL⟩ := C
  obtain ⟨hbk, hI, ⟨th, hmd⟩, ⟨o, ho⟩, ⟨g, hg⟩⟩ := hW
  obtain ⟨fs0, hq0⟩ := bookS_0 hbk
  refine lv_aload_n (pc := 1038) hx hb dL_law_1038 rfl (lv_at hl 1 rfl) ?_
  refine lv_aload_n (pc := 1039) hx hb dL_law_1039 rfl (lv_at hl 0 rfl) ?_
  refine lv_iload (pc := 1040) hx hb dL_law_1040 (lv_at hl 5 rfl) ?_
  refine k_iconst (pc := 1042) hx hb dL_law_1042 ?_
  refine k_iadd (pc := 1043) hx hb dL_law_1043 ?_
  refine k_sld (pc := 1044) hx hb hX hbl hbA hS (i := (i + 1)) (by omega) (by omega) hL dL_law_1044 ?_
  refine W.eq (g2 := F0 m 1045 ls [.int (iI (sV xs (i + 1))), .ref (ad 0)]) rfl ?_
  refine lv_aload_n (pc := 1045) hx hb dL_law_1045 rfl (lv_at hl 0 rfl) ?_
  refine lv_iload (pc := 1046) hx hb dL_law_1046 (lv_at hl 5 rfl) ?_
  refine k_iconst (pc := 1048) hx hb dL_law_1048 ?_
  refine k_iadd (pc := 1049) hx hb dL_law_1049 ?_
  refine k_sld (pc := 1050) hx hb hX hbl hbA hS (i := (i + 2)) (by omega) (by omega) hL dL_law_1050 ?_
  refine W.eq (g2 := F0 m 1051 ls [.int (iI (sV xs (i + 2))), .int (iI (sV xs (i + 1))), .ref (ad 0)]) rfl ?_
  refine lv_aload_n (pc := 1051) hx hb dL_law_1051 rfl (lv_at hl 0 rfl) ?_
  refine lv_iload (pc := 1052) hx hb dL_law_1052 (lv_at hl 5 rfl) ?_
  refine k_iconst (pc := 1054) hx hb dL_law_1054 ?_
  refine k_iadd (pc := 1055) hx hb dL_law_1055 ?_
  refine k_sld (pc := 1056) hx hb hX hbl hbA hS (i := (i + 3)) (by omega) (by omega) hL dL_law_1056 ?_
  refine W.eq (g2 := F0 m 1057 ls [.int (iI (sV xs (i + 3))), .int (iI (sV xs (i + 2))), .int (iI (sV xs (i + 1))), .ref (ad 0)]) rfl ?_
  refine lv_aload_n (pc := 1057) hx hb dL_law_1057 rfl (lv_at hl 3 rfl) ?_
  refine k_call1 (pc := 1058) (vx_runSW (As := [.ref (ad 0), .int (iI (sV xs (i + 1))), .int (iI (sV xs (i + 2))), .int (iI (sV xs (i + 3))), .ref (ad 301)]) (rest := []) ⟨hx, hb, hml, hown, hts⟩ (c_L_sum l hl0 D cA ad w H.size sc fn hI hbk (sV xs (i + 1)) (sV xs (i + 2)) (sV xs (i + 3)) (sV_r _ _) (sV_r _ _) (sV_r _ _) o ho) (vx_cwSW 5 hts gL_law_L_sum rfl rfl rfl (by decide +kernel) ⟨Nat.le_of_ble_eq_true rfl, Nat.le_of_ble_eq_true rfl⟩) (gV_S hP hD hK hB hS hA hZ) rfl rfl hl.1 rfl (lv_room (Nat.le_of_ble_eq_true rfl)) dL_law_1058 ⟨Nat.le_trans (show nc + 2 ≤ nc + 10 by omega) hnc.1, Nat.le_trans (show ns + 12 ≤ ns + 500 by omega) hnc.2⟩) hS (gA_sub hD hS hA) (fun v_1058 ad_1058 w_1058 H locs hv_1058 hP hD hS => ?_)
  obtain ⟨k1, sc1, fn1, vA, oA, hvk, hbA9, hIA, hkA, hoA, hrA, hrcA, hkrA⟩ := hv_1058
  subst hvk
  have hmA : mdS cA ad_1058 w_1058 th sc fn := mdS_of (fun r h1 h2 => ⟨(hkA.2 r h1).2 (by omega), (hkA.2 r h1).1⟩) hmd
  have hgA : w_1058 302 = some (eD (cA 3) 1 g) := ((hkA.2 302 (by omega)).2 (by omega)).trans hg
  rw [← hkA.1, ← (hkA.2 200 (by omega)).1, ← (hkA.2 301 (by omega)).1, ← (hkA.2 302 (by omega)).1] at hl
  obtain ⟨fs2, hq2⟩ := mdS_0 hmA
  refine W.eq (g2 := F0 m 1061 ls [.int (iI k1)]) rfl ?_
  refine W.cs (cells' := (nc + 2)) (slots' := (ns + 12)) rfl rfl ?_
  refine lv_istore (pc := 1061) (lv' := [(6, .int (iI k1)), (0, .ref b), (1, .ref (ad_1058 0)), (2, .ref (ad_1058 200)), (3, .ref (ad_1058 301)), (4, .ref (ad_1058 302)), (5, .int (iI i))]) hx hb dL_law_1061 hl (by decide) rfl (fun ls hl => ?_)
  refine lv_aload_n (pc := 1063) hx hb dL_law_1063 rfl (lv_at hl 3 rfl) ?_
  refine lv_aload_n (pc := 1064) hx hb dL_law_1064 rfl (lv_at hl 1 rfl) ?_
  refine lv_iload (pc := 1065) hx hb dL_law_1065 (lv_at hl 6 rfl) ?_
  refine k_iconst (pc := 1067) hx hb dL_law_1067 ?_
  refine k_iadd (pc := 1068) hx hb dL_law_1068 ?_
  refine k_sld (pc := 1069) hx hb hX hbl hbA hS (i := (i + 1)) (by omega) (by omega) hL dL_law_1069 ?_
  refine W.eq (g2 := F0 m 1070 ls [.int (iI (sV xs (i + 1))), .ref (ad_1058 200)]) rfl ?_
  refine lv_aload_n (pc := 1070) hx hb dL_law_1070 rfl (lv_at hl 1 rfl) ?_
  refine lv_iload (pc := 1071) hx hb dL_law_1071 (lv_at hl 6 rfl) ?_
  refine k_iconst (pc := 1073) hx hb dL_law_1073 ?_
  refine k_iadd (pc := 1074) hx hb dL_law_1074 ?_
  refine k_sld (pc := 1075) hx hb hX hbl hbA hS (i := (i + 2)) (by omega) (by omega) hL dL_law_1075 ?_
  refine W.eq (g2 := F0 m 1076 ls [.int (iI (sV xs (i + 2))), .int (iI (sV xs (i + 1))), .ref (ad_1058 200)]) rfl ?_
  refine lv_aload_n (pc := 1076) hx hb dL_law_1076 rfl (lv_at hl 1 rfl) ?_
  refine lv_iload (pc := 1077) hx hb dL_law_1077 (lv_at hl 6 rfl) ?_
  refine k_iconst (pc := 1079) hx hb dL_law_1079 ?_
  refine k_iadd (pc := 1080) hx hb dL_law_1080 ?_
  refine k_sld (pc := 1081) hx hb hX hbl hbA hS (i := (i + 3)) (by omega) (by omega) hL dL_law_1081 ?_
  refine W.eq (g2 := F0 m 1082 ls [.int (iI (sV xs (i + 3))), .int (iI (sV xs (i + 2))), .int (iI (sV xs (i + 1))), .ref (ad_1058 200)]) rfl ?_
  refine k_call1 (pc := 1082) (va_runV (As := [.int (iI (sV xs (i + 1))), .int (iI (sV xs (i + 2))), .int (iI (sV xs (i + 3)))]) (rest := []) ⟨hx, hb, hml, hown, hts⟩ (c_X6_sum l D cA ad_1058 w_1058 H.size th sc fn hI hmA (sV xs (i + 1)) (sV xs (i + 2)) (sV_r _ _) (sV_r _ _) (sV xs (i + 3)) (sV_r _ _)) (cwV 3 hts gL_law_X6_sum rfl rfl rfl (by decide +kernel) ⟨Nat.le_of_ble_eq_true rfl, Nat.le_of_ble_eq_true rfl⟩) (gV_V hP hD hK hB hS hA hZ 200 (ci := 6) rfl hq2) rfl rfl hl.1 rfl (lv_room (Nat.le_of_ble_eq_true rfl)) dL_law_1082 ⟨Nat.le_trans (show (nc + 2) + 1 ≤ nc + 10 by omega) hnc.1, Nat.le_trans (show (ns + 12) + 5 ≤ ns + 500 by omega) hnc.2⟩) hS (gA_sub hD hS hA) (fun v_1082 ad_1082 w_1082 H locs hv_1082 hP hD hS => ?_)
  obtain ⟨th2, sc2, fn2, hmB, hIB, hkB, hokB⟩ := hv_1082
  obtain ⟨hrB, zB, hzB⟩ := md_sum hokB
  subst hzB
  obtain ⟨e1, e2, e3, e4⟩ := dt_sum sc fn _ _ _ hrA hrB
  have hbB : bookS cA ad_1082 w_1082 sc2 fn2 := bookS_of hIB (fun r h => ⟨(hkB.2 r (Or.inl h)).1, (hkB.2 r (Or.inl h)).2⟩) (by rw [← e2, ← e3]; exact hbA9)
  rw [← hkB.1, ← (hkB.2 0 (by omega)).2, ← (hkB.2 301 (by omega)).2, ← (hkB.2 302 (by omega)).2] at hl
  have hoX := (hkB.2 301 (by omega)).1.trans hoA
  have hgB := (hkB.2 302 (by omega)).1.trans hgA
  obtain ⟨frB, hk0B⟩ := mdS_k hmB
  refine W.eq (g2 := F0 m 1085 ls [.long (lI zB)]) rfl ?_
  refine W.cs (cells' := (nc + 3)) (slots' := (ns + 17)) rfl rfl ?_
  refine lv_lstore (pc := 1085) (lv' := [(7, .long (lI zB)), (6, .int (iI k1)), (0, .ref b), (1, .ref (ad_1082 0)), (2, .ref (ad_1082 200)), (3, .ref (ad_1082 301)), (4, .ref (ad_1082 302)), (5, .int (iI i))]) hx hb dL_law_1085 hl (by decide) rfl (fun ls hl => ?_)
  refine lv_aload_n (pc := 1087) hx hb dL_law_1087 rfl (lv_at hl 4 rfl) ?_
  refine k_call0 (pc := 1088) (va_runV (As := []) (rest := []) ⟨hx, hb, hml, hown, hts⟩ (c_X6_thrown l D cA ad_1082 w_1082 sc2 fn2 th2 frB hk0B) (cwV 0 hts gL_law_X6_thrown rfl rfl rfl (by decide +kernel) ⟨Nat.le_of_ble_eq_true rfl, Nat.le_of_ble_eq_true rfl⟩) (gR_V hP hK hB 200 (ci := 6) rfl hk0B) rfl rfl hl.1 rfl (lv_room (Nat.le_of_ble_eq_true rfl)) dL_law_1088 ⟨Nat.le_trans (show (nc + 3) + 0 ≤ nc + 10 by omega) hnc.1, Nat.le_trans (show (ns + 17) + 0 ≤ ns + 500 by omega) hnc.2⟩) (fun v_1088 hv_1088 => ?_)
  obtain ⟨z_1088, rfl, hz_1088⟩ := hv_1088
  refine W.eq (g2 := F0 m 1091 ls [.int (iI z_1088)]) rfl ?_
  refine lv_iload (pc := 1091) hx hb dL_law_1091 (lv_at hl 1 rfl) ?_
  refine k_icmp_eq (pc := 1093) (tgt := 1098) hx hb ⟨by omega, by omega⟩ ⟨by omega, by omega⟩ dL_law_1093 (by decide) (fun hc_1093 => ?_) (fun hc_1093 => ?_)
  · skip
    refine lv_iload (pc := 1098) hx hb dL_law_1098 (lv_at hl 1 rfl) ?_
    refine k_if_ne (pc := 1100) (tgt := 1114) hx hb ⟨by omega, by omega⟩ dL_law_1100 (by decide) (fun hc_1100 => ?_) (fun hc_1100 => ?_)
    · skip
      refine lv_goto (pc := 1114) (tgt := 1710) hx hb dL_law_1114 (by decide) ?_
      refine W.widen (k := nc + 10) (n := ns + 500) (by omega) (by omega) ?_
      exact kk ad_1082 w_1082 sc2 fn2 H locs ls ⟨hbB, hIB, ⟨th2, hmB⟩, ⟨_, hoX⟩, ⟨_, hgB⟩⟩ hP hD hS (lv_sub hl [2, 3, 4, 5, 6, 7] rfl)
    · skip
      refine lv_aload_n (pc := 1103) hx hb dL_law_1103 rfl (lv_at hl 5 rfl) ?_
      refine k_iconst (pc := 1104) hx hb dL_law_1104 ?_
      refine k_lald (pc := 1105) hx hb hK hP 301 2 hoX rfl (by omega) (by omega) (by omega) dL_law_1105 ?_
      refine lv_lload (pc := 1106) hx hb dL_law_1106 (lv_at hl 0 rfl) ?_
      have e5 := e4 hc_1100
      have e6 := (hrcA hc_1100 zB).2 e5
      rw [e6]
      refine k_lcmpS (pc := 1108) (tgt := 1114) hx hb dL_law_1108 dL_law_1109 (by decide) ?_
      refine lv_goto (pc := 1114) (tgt := 1710) hx hb dL_law_1114 (by decide) ?_
      refine W.widen (k := nc + 10) (n := ns + 500) (by omega) (by omega) ?_
      exact kk ad_1082 w_1082 sc2 fn2 H locs ls ⟨hbB, hIB, ⟨th2, hmB⟩, ⟨_, hoX⟩, ⟨_, hgB⟩⟩ hP hD hS (lv_sub hl [2, 3, 4, 5, 6, 7] rfl)
  · skip
    exfalso
    omega

set_option maxHeartbeats 4000000 in
set_option maxRecDepth 100000 in
theorem lc_mean {p : Program} {e : Env} {s : State} {m : MethodId} {below : List Frame} {meth : Method} {c : Code} {l : Launch} {D : va_G} {cA : Nat → ClassId} {A : Nat → Prop} {b L : Nat} {xs : Nat → Int32} (C : lwC p l s m c D cA A b L xs) (Q9 : State → Prop) (i : Int) (hi : 0 ≤ i ∧ i + 5 ≤ L) (nc ns : Nat) (hnc : nc + 10 ≤ room_1.cells ∧ ns + 500 ≤ room_1.slots)
  (kk : ∀ (ad : Nat → Nat) (w : Nat → Option va_E) (sc : Nat → Int) (fn : Nat → Int → Int) (H : Heap) (locs : List Loc) (ls : Array Slot), lwS cA ad w sc fn → gP D vwCl ad w H → gD A ad w → va_S A s.heap H locs → lv_has ls 9 [(0, .ref b), (1, .ref (ad 0)), (2, .ref (ad 200)), (3, .ref (ad 301)), (4, .ref (ad 302)), (5, .int (iI i))] → W p l e room_1 s m #[Value.ref b] below meth c H locs (nc + 10) (ns + 500) Q9 (F0 m 1710 ls []))
  (ad : Nat → Nat) (w : Nat → Option va_E) (sc : Nat → Int) (fn : Nat → Int → Int) (H : Heap) (locs : List Loc) (ls : Array Slot) (hW : lwS cA ad w sc fn) (hP : gP D vwCl ad w H) (hD : gD A ad w) (hS : va_S A s.heap H locs) (hl : lv_has ls 9 [(0, .ref b), (1, .ref (ad 0)), (2, .ref (ad 200)), (3, .ref (ad 301)), (4, .ref (ad 302)), (5, .int (iI i))]) : W p l e room_1 s m #[Value.ref b] below meth c H locs nc ns Q9 (F0 m 1117 ls []) := by
  obtain ⟨hl0, hx, hb, hml, hown, hts, hK, hB, hZ, hA, hX, hbl, hbA, hL⟩ := C
  obtain ⟨hbk, hI, ⟨th, hmd⟩, ⟨o, ho⟩, ⟨g, hg⟩⟩ := hW
  obtain ⟨fs0, hq0⟩ := bookS_0 hbk
  refine lv_aload_n (pc := 1117) hx hb dL_law_1117 rfl (lv_at hl 1 rfl) ?_
  refine lv_aload_n (pc := 1118) hx hb dL_law_1118 rfl (lv_at hl 0 rfl) ?_
  refine lv_iload (pc := 1119) hx hb dL_law_1119 (lv_at hl 5 rfl) ?_
  refine k_iconst (pc := 1121) hx hb dL_law_1121 ?_
  refine k_iadd (pc := 1122) hx hb dL_law_1122 ?_
  refine k_sld (pc := 1123) hx hb hX hbl hbA hS (i := (i + 1)) (by omega) (by omega) hL dL_law_1123 ?_
  refine W.eq (g2 := F0 m 1124 ls [.int (iI (sV xs (i + 1))), .ref (ad 0)]) rfl ?_
  refine lv_aload_n (pc := 1124) hx hb dL_law_1124 rfl (lv_at hl 0 rfl) ?_
  refine lv_iload (pc := 1125) hx hb dL_law_1125 (lv_at hl 5 rfl) ?_
  refine k_iconst (pc := 1127) hx hb dL_law_1127 ?_
  refine k_iadd (pc := 1128) hx hb dL_law_1128 ?_
  refine k_sld (pc := 1129) hx hb hX hbl hbA hS (i := (i + 2)) (by omega) (by omega) hL dL_law_1129 ?_
  refine W.eq (g2 := F0 m 1130 ls [.int (iI (sV xs (i + 2))), .int (iI (sV xs (i + 1))), .ref (ad 0)]) rfl ?_
  refine lv_aload (pc := 1130) hx hb dL_law_1130 (lv_at hl 4 rfl) ?_
  refine k_call1 (pc := 1132) (vx_runSW (As := [.ref (ad 0), .int (iI (sV xs (i + 1))), .int (iI (sV xs (i + 2))), .ref (ad 302)]) (rest := []) ⟨hx, hb, hml, hown, hts⟩ (c_L_mean l hl0 D cA ad w H.size sc fn hI hbk (sV xs (i + 1)) (sV xs (i + 2)) (sV_r _ _) (sV_r _ _) g hg) (vx_cwSW 4 hts gL_law_L_mean rfl rfl rfl (by decide +kernel) ⟨Nat.le_of_ble_eq_true rfl, Nat.le_of_ble_eq_true rfl⟩) (gV_S hP hD hK hB hS hA hZ) rfl rfl hl.1 rfl (lv_room (Nat.le_of_ble_eq_true rfl)) dL_law_1132 ⟨Nat.le_trans (show nc + 2 ≤ nc + 10 by omega) hnc.1, Nat.le_trans (show ns + 12 ≤ ns + 500 by omega) hnc.2⟩) hS (gA_sub hD hS hA) (fun v_1132 ad_1132 w_1132 H locs hv_1132 hP hD hS => ?_)
  obtain ⟨k1, sc1, fn1, vA, oA, hvk, hbA9, hIA, hkA, hoA, hrA, hrcA, hkrA⟩ := hv_1132
  subst hvk
  have hmA : mdS cA ad_1132 w_1132 th sc fn := mdS_of (fun r h1 h2 => ⟨(hkA.2 r h1).2 (by omega), (hkA.2 r h1).1⟩) hmd
  have hgA : w_1132 301 = some (eJ (cA 2) 1 o) := ((hkA.2 301 (by omega)).2 (by omega)).trans ho
  rw [← hkA.1, ← (hkA.2 200 (by omega)).1, ← (hkA.2 301 (by omega)).1, ← (hkA.2 302 (by omega)).1] at hl
  obtain ⟨fs2, hq2⟩ := mdS_0 hmA
  refine W.eq (g2 := F0 m 1135 ls [.int (iI k1)]) rfl ?_
  refine W.cs (cells' := (nc + 2)) (slots' := (ns + 12)) rfl rfl ?_
  refine lv_istore (pc := 1135) (lv' := [(6, .int (iI k1)), (0, .ref b), (1, .ref (ad_1132 0)), (2, .ref (ad_1132 200)), (3, .ref (ad_1132 301)), (4, .ref (ad_1132 302)), (5, .int (iI i))]) hx hb dL_law_1135 hl (by decide) rfl (fun ls hl => ?_)
  refine lv_aload_n (pc := 1137) hx hb dL_law_1137 rfl (lv_at hl 3 rfl) ?_
  refine lv_aload_n (pc := 1138) hx hb dL_law_1138 rfl (lv_at hl 1 rfl) ?_
  refine lv_iload (pc := 1139) hx hb dL_law_1139 (lv_at hl 6 rfl) ?_
  refine k_iconst (pc := 1141) hx hb dL_law_1141 ?_
  refine k_iadd (pc := 1142) hx hb dL_law_1142 ?_
  refine k_sld (pc := 1143) hx hb hX hbl hbA hS (i := (i + 1)) (by omega) (by omega) hL dL_law_1143 ?_
  refine W.eq (g2 := F0 m 1144 ls [.int (iI (sV xs (i + 1))), .ref (ad_1132 200)]) rfl ?_
  refine lv_aload_n (pc := 1144) hx hb dL_law_1144 rfl (lv_at hl 1 rfl) ?_
  refine lv_iload (pc := 1145) hx hb dL_law_1145 (lv_at hl 6 rfl) ?_
  refine k_iconst (pc := 1147) hx hb dL_law_1147 ?_
  refine k_iadd (pc := 1148) hx hb dL_law_1148 ?_
  refine k_sld (pc := 1149) hx hb hX hbl hbA hS (i := (i + 2)) (by omega) (by omega) hL dL_law_1149 ?_
  refine W.eq (g2 := F0 m 1150 ls [.int (iI (sV xs (i + 2))), .int (iI (sV xs (i + 1))), .ref (ad_1132 200)]) rfl ?_
  refine k_call1 (pc := 1150) (va_runV (As := [.int (iI (sV xs (i + 1))), .int (iI (sV xs (i + 2)))]) (rest := []) ⟨hx, hb, hml, hown, hts⟩ (c_X6_mean l D cA ad_1132 w_1132 H.size th sc fn hI hmA (sV xs (i + 1)) (sV xs (i + 2)) (sV_r _ _) (sV_r _ _)) (cwV 2 hts gL_law_X6_mean rfl rfl rfl (by decide +kernel) ⟨Nat.le_of_ble_eq_true rfl, Nat.le_of_ble_eq_true rfl⟩) (gV_V hP hD hK hB hS hA hZ 200 (ci := 6) rfl hq2) rfl rfl hl.1 rfl (lv_room (Nat.le_of_ble_eq_true rfl)) dL_law_1150 ⟨Nat.le_trans (show (nc + 2) + 2 ≤ nc + 10 by omega) hnc.1, Nat.le_trans (show (ns + 12) + 10 ≤ ns + 500 by omega) hnc.2⟩) hS (gA_sub hD hS hA) (fun v_1150 ad_1150 w_1150 H locs hv_1150 hP hD hS => ?_)
  obtain ⟨th2, sc2, fn2, hmB, hIB, hkB, hokB⟩ := hv_1150
  obtain ⟨hrB, zB, hzB⟩ := md_mean hokB
  subst hzB
  obtain ⟨e1, e2, e3, e4⟩ := dt_mean sc fn _ _ hrA hrB
  have hbB : bookS cA ad_1150 w_1150 sc2 fn2 := bookS_of hIB (fun r h => ⟨(hkB.2 r (Or.inl h)).1, (hkB.2 r (Or.inl h)).2⟩) (by rw [← e2, ← e3]; exact hbA9)
  rw [← hkB.1, ← (hkB.2 0 (by omega)).2, ← (hkB.2 301 (by omega)).2, ← (hkB.2 302 (by omega)).2] at hl
  have hoX := (hkB.2 302 (by omega)).1.trans hoA
  have hoB := (hkB.2 301 (by omega)).1.trans hgA
  obtain ⟨frB, hk0B⟩ := mdS_k hmB
  refine W.eq (g2 := F0 m 1153 ls [.double zB]) rfl ?_
  refine W.cs (cells' := (nc + 4)) (slots' := (ns + 22)) rfl rfl ?_
  refine lv_dstore (pc := 1153) (lv' := [(7, .double zB), (6, .int (iI k1)), (0, .ref b), (1, .ref (ad_1150 0)), (2, .ref (ad_1150 200)), (3, .ref (ad_1150 301)), (4, .ref (ad_1150 302)), (5, .int (iI i))]) hx hb dL_law_1153 hl (by decide) rfl (fun ls hl => ?_)
  refine lv_aload_n (pc := 1155) hx hb dL_law_1155 rfl (lv_at hl 4 rfl) ?_
  refine k_call0 (pc := 1156) (va_runV (As := []) (rest := []) ⟨hx, hb, hml, hown, hts⟩ (c_X6_thrown l D cA ad_1150 w_1150 sc2 fn2 th2 frB hk0B) (cwV 0 hts gL_law_X6_thrown rfl rfl rfl (by decide +kernel) ⟨Nat.le_of_ble_eq_true rfl, Nat.le_of_ble_eq_true rfl⟩) (gR_V hP hK hB 200 (ci := 6) rfl hk0B) rfl rfl hl.1 rfl (lv_room (Nat.le_of_ble_eq_true rfl)) dL_law_1156 ⟨Nat.le_trans (show (nc + 4) + 0 ≤ nc + 10 by omega) hnc.1, Nat.le_trans (show (ns + 22) + 0 ≤ ns + 500 by omega) hnc.2⟩) (fun v_1156 hv_1156 => ?_)
  obtain ⟨z_1156, rfl, hz_1156⟩ := hv_1156
  refine W.eq (g2 := F0 m 1159 ls [.int (iI z_1156)]) rfl ?_
  refine lv_iload (pc := 1159) hx hb dL_law_1159 (lv_at hl 1 rfl) ?_
  refine k_icmp_eq (pc := 1161) (tgt := 1166) hx hb ⟨by omega, by omega⟩ ⟨by omega, by omega⟩ dL_law_1161 (by decide) (fun hc_1161 => ?_) (fun hc_1161 => ?_)
  · skip
    refine lv_iload (pc := 1166) hx hb dL_law_1166 (lv_at hl 1 rfl) ?_
    refine k_if_ne (pc := 1168) (tgt := 1203) hx hb ⟨by omega, by omega⟩ dL_law_1168 (by decide) (fun hc_1168 => ?_) (fun hc_1168 => ?_)
    · skip
      refine lv_goto (pc := 1203) (tgt := 1710) hx hb dL_law_1203 (by decide) ?_
      refine W.widen (k := nc + 10) (n := ns + 500) (by omega) (by omega) ?_
      exact kk ad_1150 w_1150 sc2 fn2 H locs ls ⟨hbB, hIB, ⟨th2, hmB⟩, ⟨_, hoB⟩, ⟨_, hoX⟩⟩ hP hD hS (lv_sub hl [2, 3, 4, 5, 6, 7] rfl)
    · skip
      refine lv_aload (pc := 1171) hx hb dL_law_1171 (lv_at hl 6 rfl) ?_
      refine k_iconst (pc := 1173) hx hb dL_law_1173 ?_
      refine k_dald (pc := 1174) hx hb hK hP 302 3 hoX rfl (by omega) (by omega) (by omega) dL_law_1174 ?_
      refine lv_dload (pc := 1175) hx hb dL_law_1175 (lv_at hl 0 rfl) ?_
      have e5 := e4 hc_1168
      have e6 := hrcA hc_1168 zB e5
      rw [e6]
      refine k_dcmpl (pc := 1177) hx hb dL_law_1177 ?_
      refine k_if_eq (pc := 1178) (tgt := 1203) hx hb (dcI_r _ _) dL_law_1178 (by decide) (fun hc_1178 => ?_) (fun hc_1178 => ?_)
      · skip
        refine lv_goto (pc := 1203) (tgt := 1710) hx hb dL_law_1203 (by decide) ?_
        refine W.widen (k := nc + 10) (n := ns + 500) (by omega) (by omega) ?_
        exact kk ad_1150 w_1150 sc2 fn2 H locs ls ⟨hbB, hIB, ⟨th2, hmB⟩, ⟨_, hoB⟩, ⟨_, hoX⟩⟩ hP hD hS (lv_sub hl [2, 3, 4, 5, 6, 7] rfl)
      · skip
        refine lv_aload (pc := 1181) hx hb dL_law_1181 (lv_at hl 6 rfl) ?_
        refine k_iconst (pc := 1183) hx hb dL_law_1183 ?_
        refine k_dald (pc := 1184) hx hb hK hP 302 3 hoX rfl (by omega) (by omega) (by omega) dL_law_1184 ?_
        refine lv_aload (pc := 1185) hx hb dL_law_1185 (lv_at hl 6 rfl) ?_
        refine k_iconst (pc := 1187) hx hb dL_law_1187 ?_
        refine k_dald (pc := 1188) hx hb hK hP 302 3 hoX rfl (by omega) (by omega) (by omega) dL_law_1188 ?_
        rw [e6]
        refine k_dcmpl (pc := 1189) hx hb dL_law_1189 ?_
        refine k_if_eq (pc := 1190) (tgt := 1201) hx hb (dcI_r _ _) dL_law_1190 (by decide) (fun hc_1190 => ?_) (fun hc_1190 => ?_)
        · skip
          exfalso
          omega
        · skip
          refine lv_dload (pc := 1193) hx hb dL_law_1193 (lv_at hl 0 rfl) ?_
          refine lv_dload (pc := 1195) hx hb dL_law_1195 (lv_at hl 0 rfl) ?_
          refine k_dcmpl (pc := 1197) hx hb dL_law_1197 ?_
          refine k_if_ne (pc := 1198) (tgt := 1203) hx hb (dcI_r _ _) dL_law_1198 (by decide) (fun hc_1198 => ?_) (fun hc_1198 => ?_)
          · skip
            refine lv_goto (pc := 1203) (tgt := 1710) hx hb dL_law_1203 (by decide) ?_
            refine W.widen (k := nc + 10) (n := ns + 500) (by omega) (by omega) ?_
            exact kk ad_1150 w_1150 sc2 fn2 H locs ls ⟨hbB, hIB, ⟨th2, hmB⟩, ⟨_, hoB⟩, ⟨_, hoX⟩⟩ hP hD hS (lv_sub hl [2, 3, 4, 5, 6, 7] rfl)
          · skip
            exfalso
            omega
  · skip
    exfalso
    omega

set_option maxHeartbeats 4000000 in
set_option maxRecDepth 100000 in
theorem lc_reached {p : Program} {e : Env} {s : State} {m : MethodId} {below : List Frame} {meth : Method} {c : Code} {l : Launch} {D : va_G} {cA : Nat → ClassId} {A : Nat → Prop} {b L : Nat} {xs : Nat → Int32} (C : lwC p l s m c D cA A b L xs) (Q9 : State → Prop) (i : Int) (hi : 0 ≤ i ∧ i + 5 ≤ L) (nc ns : Nat) (hnc : nc + 10 ≤ room_1.cells ∧ ns + 500 ≤ room_1.slots)
  (kk : ∀ (ad : Nat → Nat) (w : Nat → Option va_E) (sc : Nat → Int) (fn : Nat → Int → Int) (H : Heap) (locs : List Loc) (ls : Array Slot), lwS cA ad w sc fn → gP D vwCl ad w H → gD A ad w → va_S A s.heap H locs → lv_has ls 9 [(0, .ref b), (1, .ref (ad 0)), (2, .ref (ad 200)), (3, .ref (ad 301)), (4, .ref (ad 302)), (5, .int (iI i))] → W p l e room_1 s m #[Value.ref b] below meth c H locs (nc + 10) (ns + 500) Q9 (F0 m 1710 ls []))
  (ad : Nat → Nat) (w : Nat → Option va_E) (sc : Nat → Int) (fn : Nat → Int → Int) (H : Heap) (locs : List Loc) (ls : Array Slot) (hW : lwS cA ad w sc fn) (hP : gP D vwCl ad w H) (hD : gD A ad w) (hS : va_S A s.heap H locs) (hl : lv_has ls 9 [(0, .ref b), (1, .ref (ad 0)), (2, .ref (ad 200)), (3, .ref (ad 301)), (4, .ref (ad 302)), (5, .int (iI i))]) : W p l e room_1 s m #[Value.ref b] below meth c H locs nc ns Q9 (F0 m 1206 ls []) := by
  obtain ⟨hl0, hx, hb, hml, hown, hts, hK, hB, hZ, hA, hX, hbl, hbA, hL⟩ := C
  obtain ⟨hbk, hI, ⟨th, hmd⟩, ⟨o, ho⟩, ⟨g, hg⟩⟩ := hW
  obtain ⟨fs0, hq0⟩ := bookS_0 hbk
  refine lv_aload_n (pc := 1206) hx hb dL_law_1206 rfl (lv_at hl 1 rfl) ?_
  refine lv_aload_n (pc := 1207) hx hb dL_law_1207 rfl (lv_at hl 0 rfl) ?_
  refine lv_iload (pc := 1208) hx hb dL_law_1208 (lv_at hl 5 rfl) ?_
  refine k_iconst (pc := 1210) hx hb dL_law_1210 ?_
  refine k_iadd (pc := 1211) hx hb dL_law_1211 ?_
  refine k_sld (pc := 1212) hx hb hX hbl hbA hS (i := (i + 1)) (by omega) (by omega) hL dL_law_1212 ?_
  refine W.eq (g2 := F0 m 1213 ls [.int (iI (sV xs (i + 1))), .ref (ad 0)]) rfl ?_
  refine lv_aload_n (pc := 1213) hx hb dL_law_1213 rfl (lv_at hl 3 rfl) ?_
  refine k_call1 (pc := 1214) (vx_runSW (As := [.ref (ad 0), .int (iI (sV xs (i + 1))), .ref (ad 301)]) (rest := []) ⟨hx, hb, hml, hown, hts⟩ (c_L_reached l hl0 D cA ad w H.size sc fn hI hbk (sV xs (i + 1)) (sV_r _ _) o ho) (vx_cwSW 3 hts gL_law_L_reached rfl rfl rfl (by decide +kernel) ⟨Nat.le_of_ble_eq_true rfl, Nat.le_of_ble_eq_true rfl⟩) (gV_S hP hD hK hB hS hA hZ) rfl rfl hl.1 rfl (lv_room (Nat.le_of_ble_eq_true rfl)) dL_law_1214 ⟨Nat.le_trans (show nc + 2 ≤ nc + 10 by omega) hnc.1, Nat.le_trans (show ns + 12 ≤ ns + 500 by omega) hnc.2⟩) hS (gA_sub hD hS hA) (fun v_1214 ad_1214 w_1214 H locs hv_1214 hP hD hS => ?_)
  obtain ⟨k1, sc1, fn1, vA, oA, hvk, hbA9, hIA, hkA, hoA, hrA, hrcA, hkrA⟩ := hv_1214
  subst hvk
  have hmA : mdS cA ad_1214 w_1214 th sc fn := mdS_of (fun r h1 h2 => ⟨(hkA.2 r h1).2 (by omega), (hkA.2 r h1).1⟩) hmd
  have hgA : w_1214 302 = some (eD (cA 3) 1 g) := ((hkA.2 302 (by omega)).2 (by omega)).trans hg
  rw [← hkA.1, ← (hkA.2 200 (by omega)).1, ← (hkA.2 301 (by omega)).1, ← (hkA.2 302 (by omega)).1] at hl
  obtain ⟨fs2, hq2⟩ := mdS_0 hmA
  refine W.eq (g2 := F0 m 1217 ls [.int (iI k1)]) rfl ?_
  refine W.cs (cells' := (nc + 2)) (slots' := (ns + 12)) rfl rfl ?_
  refine lv_istore (pc := 1217) (lv' := [(6, .int (iI k1)), (0, .ref b), (1, .ref (ad_1214 0)), (2, .ref (ad_1214 200)), (3, .ref (ad_1214 301)), (4, .ref (ad_1214 302)), (5, .int (iI i))]) hx hb dL_law_1217 hl (by decide) rfl (fun ls hl => ?_)
  refine lv_aload_n (pc := 1219) hx hb dL_law_1219 rfl (lv_at hl 3 rfl) ?_
  refine lv_aload_n (pc := 1220) hx hb dL_law_1220 rfl (lv_at hl 1 rfl) ?_
  refine lv_iload (pc := 1221) hx hb dL_law_1221 (lv_at hl 6 rfl) ?_
  refine k_iconst (pc := 1223) hx hb dL_law_1223 ?_
  refine k_iadd (pc := 1224) hx hb dL_law_1224 ?_
  refine k_sld (pc := 1225) hx hb hX hbl hbA hS (i := (i + 1)) (by omega) (by omega) hL dL_law_1225 ?_
  refine W.eq (g2 := F0 m 1226 ls [.int (iI (sV xs (i + 1))), .ref (ad_1214 200)]) rfl ?_
  refine k_call1 (pc := 1226) (va_runV (As := [.int (iI (sV xs (i + 1)))]) (rest := []) ⟨hx, hb, hml, hown, hts⟩ (c_X6_reached l D cA ad_1214 w_1214 H.size th sc fn hI hmA (sV xs (i + 1)) (sV_r _ _)) (cwV 1 hts gL_law_X6_reached rfl rfl rfl (by decide +kernel) ⟨Nat.le_of_ble_eq_true rfl, Nat.le_of_ble_eq_true rfl⟩) (gV_V hP hD hK hB hS hA hZ 200 (ci := 6) rfl hq2) rfl rfl hl.1 rfl (lv_room (Nat.le_of_ble_eq_true rfl)) dL_law_1226 ⟨Nat.le_trans (show (nc + 2) + 1 ≤ nc + 10 by omega) hnc.1, Nat.le_trans (show (ns + 12) + 5 ≤ ns + 500 by omega) hnc.2⟩) hS (gA_sub hD hS hA) (fun v_1226 ad_1226 w_1226 H locs hv_1226 hP hD hS => ?_)
  obtain ⟨th2, sc2, fn2, hmB, hIB, hkB, hokB⟩ := hv_1226
  obtain ⟨hrB, zB, hzB⟩ := md_reached hokB
  subst hzB
  obtain ⟨e1, e2, e3, e4⟩ := dt_reached sc fn _ hrA hrB
  have hbB : bookS cA ad_1226 w_1226 sc2 fn2 := bookS_of hIB (fun r h => ⟨(hkB.2 r (Or.inl h)).1, (hkB.2 r (Or.inl h)).2⟩) (by rw [← e2, ← e3]; exact hbA9)
  rw [← hkB.1, ← (hkB.2 0 (by omega)).2, ← (hkB.2 301 (by omega)).2, ← (hkB.2 302 (by omega)).2] at hl
  have hoX := (hkB.2 301 (by omega)).1.trans hoA
  have hgB := (hkB.2 302 (by omega)).1.trans hgA
  obtain ⟨frB, hk0B⟩ := mdS_k hmB
  refine W.eq (g2 := F0 m 1229 ls [.long (lI zB)]) rfl ?_
  refine W.cs (cells' := (nc + 3)) (slots' := (ns + 17)) rfl rfl ?_
  refine lv_lstore (pc := 1229) (lv' := [(7, .long (lI zB)), (6, .int (iI k1)), (0, .ref b), (1, .ref (ad_1226 0)), (2, .ref (ad_1226 200)), (3, .ref (ad_1226 301)), (4, .ref (ad_1226 302)), (5, .int (iI i))]) hx hb dL_law_1229 hl (by decide) rfl (fun ls hl => ?_)
  refine lv_aload_n (pc := 1231) hx hb dL_law_1231 rfl (lv_at hl 4 rfl) ?_
  refine k_call0 (pc := 1232) (va_runV (As := []) (rest := []) ⟨hx, hb, hml, hown, hts⟩ (c_X6_thrown l D cA ad_1226 w_1226 sc2 fn2 th2 frB hk0B) (cwV 0 hts gL_law_X6_thrown rfl rfl rfl (by decide +kernel) ⟨Nat.le_of_ble_eq_true rfl, Nat.le_of_ble_eq_true rfl⟩) (gR_V hP hK hB 200 (ci := 6) rfl hk0B) rfl rfl hl.1 rfl (lv_room (Nat.le_of_ble_eq_true rfl)) dL_law_1232 ⟨Nat.le_trans (show (nc + 3) + 0 ≤ nc + 10 by omega) hnc.1, Nat.le_trans (show (ns + 17) + 0 ≤ ns + 500 by omega) hnc.2⟩) (fun v_1232 hv_1232 => ?_)
  obtain ⟨z_1232, rfl, hz_1232⟩ := hv_1232
  refine W.eq (g2 := F0 m 1235 ls [.int (iI z_1232)]) rfl ?_
  refine lv_iload (pc := 1235) hx hb dL_law_1235 (lv_at hl 1 rfl) ?_
  refine k_icmp_eq (pc := 1237) (tgt := 1242) hx hb ⟨by omega, by omega⟩ ⟨by omega, by omega⟩ dL_law_1237 (by decide) (fun hc_1237 => ?_) (fun hc_1237 => ?_)
  · skip
    refine lv_iload (pc := 1242) hx hb dL_law_1242 (lv_at hl 1 rfl) ?_
    refine k_if_ne (pc := 1244) (tgt := 1258) hx hb ⟨by omega, by omega⟩ dL_law_1244 (by decide) (fun hc_1244 => ?_) (fun hc_1244 => ?_)
    · skip
      refine lv_goto (pc := 1258) (tgt := 1710) hx hb dL_law_1258 (by decide) ?_
      refine W.widen (k := nc + 10) (n := ns + 500) (by omega) (by omega) ?_
      exact kk ad_1226 w_1226 sc2 fn2 H locs ls ⟨hbB, hIB, ⟨th2, hmB⟩, ⟨_, hoX⟩, ⟨_, hgB⟩⟩ hP hD hS (lv_sub hl [2, 3, 4, 5, 6, 7] rfl)
    · skip
      refine lv_aload_n (pc := 1247) hx hb dL_law_1247 rfl (lv_at hl 5 rfl) ?_
      refine k_iconst (pc := 1248) hx hb dL_law_1248 ?_
      refine k_lald (pc := 1249) hx hb hK hP 301 2 hoX rfl (by omega) (by omega) (by omega) dL_law_1249 ?_
      refine lv_lload (pc := 1250) hx hb dL_law_1250 (lv_at hl 0 rfl) ?_
      have e5 := e4 hc_1244
      have e6 := (hrcA hc_1244 zB).2 e5
      rw [e6]
      refine k_lcmpS (pc := 1252) (tgt := 1258) hx hb dL_law_1252 dL_law_1253 (by decide) ?_
      refine lv_goto (pc := 1258) (tgt := 1710) hx hb dL_law_1258 (by decide) ?_
      refine W.widen (k := nc + 10) (n := ns + 500) (by omega) (by omega) ?_
      exact kk ad_1226 w_1226 sc2 fn2 H locs ls ⟨hbB, hIB, ⟨th2, hmB⟩, ⟨_, hoX⟩, ⟨_, hgB⟩⟩ hP hD hS (lv_sub hl [2, 3, 4, 5, 6, 7] rfl)
  · skip
    exfalso
    omega

set_option maxHeartbeats 4000000 in
set_option maxRecDepth 100000 in
theorem lc_peaks {p : Program} {e : Env} {s : State} {m : MethodId} {below : List Frame} {meth : Method} {c : Code} {l : Launch} {D : va_G} {cA : Nat → ClassId} {A : Nat → Prop} {b L : Nat} {xs : Nat → Int32} (C : lwC p l s m c D cA A b L xs) (Q9 : State → Prop) (i : Int) (hi : 0 ≤ i ∧ i + 5 ≤ L) (nc ns : Nat) (hnc : nc + 10 ≤ room_1.cells ∧ ns + 500 ≤ room_1.slots)
  (kk : ∀ (ad : Nat → Nat) (w : Nat → Option va_E) (sc : Nat → Int) (fn : Nat → Int → Int) (H : Heap) (locs : List Loc) (ls : Array Slot), lwS cA ad w sc fn → gP D vwCl ad w H → gD A ad w → va_S A s.heap H locs → lv_has ls 9 [(0, .ref b), (1, .ref (ad 0)), (2, .ref (ad 200)), (3, .ref (ad 301)), (4, .ref (ad 302)), (5, .int (iI i))] → W p l e room_1 s m #[Value.ref b] below meth c H locs (nc + 10) (ns + 500) Q9 (F0 m 1710 ls []))
  (ad : Nat → Nat) (w : Nat → Option va_E) (sc : Nat → Int) (fn : Nat → Int → Int) (H : Heap) (locs : List Loc) (ls : Array Slot) (hW : lwS cA ad w sc fn) (hP : gP D vwCl ad w H) (hD : gD A ad w) (hS : va_S A s.heap H locs) (hl : lv_has ls 9 [(0, .ref b), (1, .ref (ad 0)), (2, .ref (ad 200)), (3, .ref (ad 301)), (4, .ref (ad 302)), (5, .int (iI i))]) : W p l e room_1 s m #[Value.ref b] below meth c H locs nc ns Q9 (F0 m 1261 ls []) := by
  obtain ⟨hl0, hx, hb, hml, hown, hts, hK, hB, hZ, hA, hX, hbl, hbA, hL⟩ := C
  obtain ⟨hbk, hI, ⟨th, hmd⟩, ⟨o, ho⟩, ⟨g, hg⟩⟩ := hW
  obtain ⟨fs0, hq0⟩ := bookS_0 hbk
  refine lv_aload_n (pc := 1261) hx hb dL_law_1261 rfl (lv_at hl 1 rfl) ?_
  refine lv_aload_n (pc := 1262) hx hb dL_law_1262 rfl (lv_at hl 0 rfl) ?_
  refine lv_iload (pc := 1263) hx hb dL_law_1263 (lv_at hl 5 rfl) ?_
  refine k_iconst (pc := 1265) hx hb dL_law_1265 ?_
  refine k_iadd (pc := 1266) hx hb dL_law_1266 ?_
  refine k_sld (pc := 1267) hx hb hX hbl hbA hS (i := (i + 1)) (by omega) (by omega) hL dL_law_1267 ?_
  refine W.eq (g2 := F0 m 1268 ls [.int (iI (sV xs (i + 1))), .ref (ad 0)]) rfl ?_
  refine k_i2l (pc := 1268) hx hb (sV_r _ _) dL_law_1268 ?_
  refine k_bipush (pc := 1269) hx hb dL_law_1269 (by decide +kernel) ?_
  refine k_lshl (pc := 1271) hx hb dL_law_1271 ?_
  refine lv_aload_n (pc := 1272) hx hb dL_law_1272 rfl (lv_at hl 0 rfl) ?_
  refine lv_iload (pc := 1273) hx hb dL_law_1273 (lv_at hl 5 rfl) ?_
  refine k_iconst (pc := 1275) hx hb dL_law_1275 ?_
  refine k_iadd (pc := 1276) hx hb dL_law_1276 ?_
  refine k_sld (pc := 1277) hx hb hX hbl hbA hS (i := (i + 2)) (by omega) (by omega) hL dL_law_1277 ?_
  refine W.eq (g2 := F0 m 1278 ls [.int (iI (sV xs (i + 2))), .long (lI (lShl (sV xs (i + 1)) 32)), .ref (ad 0)]) rfl ?_
  refine k_i2l (pc := 1278) hx hb (sV_r _ _) dL_law_1278 ?_
  refine k_ldc2 (z := 4294967295) (pc := 1279) hx hb hown (hts (.constantLong RL 156 (4294967295)) (by decide +kernel)) (by decide +kernel) dL_law_1279 ?_
  refine k_land (pc := 1282) hx hb dL_law_1282 ?_
  refine k_lor (pc := 1283) hx hb dL_law_1283 ?_
  refine lv_aload_n (pc := 1284) hx hb dL_law_1284 rfl (lv_at hl 0 rfl) ?_
  refine lv_iload (pc := 1285) hx hb dL_law_1285 (lv_at hl 5 rfl) ?_
  refine k_iconst (pc := 1287) hx hb dL_law_1287 ?_
  refine k_iadd (pc := 1288) hx hb dL_law_1288 ?_
  refine k_sld (pc := 1289) hx hb hX hbl hbA hS (i := (i + 3)) (by omega) (by omega) hL dL_law_1289 ?_
  refine W.eq (g2 := F0 m 1290 ls [.int (iI (sV xs (i + 3))), .long (lI (lOr (lShl (sV xs (i + 1)) 32) (lAnd (sV xs (i + 2)) 4294967295))), .ref (ad 0)]) rfl ?_
  refine lv_aload_n (pc := 1290) hx hb dL_law_1290 rfl (lv_at hl 3 rfl) ?_
  refine k_call1 (pc := 1291) (vx_runSW (As := [.ref (ad 0), .long (lI (lOr (lShl (sV xs (i + 1)) 32) (lAnd (sV xs (i + 2)) 4294967295))), .int (iI (sV xs (i + 3))), .ref (ad 301)]) (rest := []) ⟨hx, hb, hml, hown, hts⟩ (c_L_peaks l hl0 D cA ad w H.size sc fn hI hbk (lOr (lShl (sV xs (i + 1)) 32) (lAnd (sV xs (i + 2)) 4294967295)) (sV xs (i + 3)) (lOr_r _ _) (sV_r _ _) o ho) (vx_cwSW 4 hts gL_law_L_peaks rfl rfl rfl (by decide +kernel) ⟨Nat.le_of_ble_eq_true rfl, Nat.le_of_ble_eq_true rfl⟩) (gV_S hP hD hK hB hS hA hZ) rfl rfl hl.1 rfl (lv_room (Nat.le_of_ble_eq_true rfl)) dL_law_1291 ⟨Nat.le_trans (show nc + 2 ≤ nc + 10 by omega) hnc.1, Nat.le_trans (show ns + 12 ≤ ns + 500 by omega) hnc.2⟩) hS (gA_sub hD hS hA) (fun v_1291 ad_1291 w_1291 H locs hv_1291 hP hD hS => ?_)
  obtain ⟨k1, sc1, fn1, vA, oA, hvk, hbA9, hIA, hkA, hoA, hrA, hrcA, hkrA⟩ := hv_1291
  subst hvk
  have hmA : mdS cA ad_1291 w_1291 th sc fn := mdS_of (fun r h1 h2 => ⟨(hkA.2 r h1).2 (by omega), (hkA.2 r h1).1⟩) hmd
  have hgA : w_1291 302 = some (eD (cA 3) 1 g) := ((hkA.2 302 (by omega)).2 (by omega)).trans hg
  rw [← hkA.1, ← (hkA.2 200 (by omega)).1, ← (hkA.2 301 (by omega)).1, ← (hkA.2 302 (by omega)).1] at hl
  obtain ⟨fs2, hq2⟩ := mdS_0 hmA
  refine W.eq (g2 := F0 m 1294 ls [.int (iI k1)]) rfl ?_
  refine W.cs (cells' := (nc + 2)) (slots' := (ns + 12)) rfl rfl ?_
  refine lv_istore (pc := 1294) (lv' := [(6, .int (iI k1)), (0, .ref b), (1, .ref (ad_1291 0)), (2, .ref (ad_1291 200)), (3, .ref (ad_1291 301)), (4, .ref (ad_1291 302)), (5, .int (iI i))]) hx hb dL_law_1294 hl (by decide) rfl (fun ls hl => ?_)
  refine lv_aload_n (pc := 1296) hx hb dL_law_1296 rfl (lv_at hl 3 rfl) ?_
  refine lv_aload_n (pc := 1297) hx hb dL_law_1297 rfl (lv_at hl 1 rfl) ?_
  refine lv_iload (pc := 1298) hx hb dL_law_1298 (lv_at hl 6 rfl) ?_
  refine k_iconst (pc := 1300) hx hb dL_law_1300 ?_
  refine k_iadd (pc := 1301) hx hb dL_law_1301 ?_
  refine k_sld (pc := 1302) hx hb hX hbl hbA hS (i := (i + 1)) (by omega) (by omega) hL dL_law_1302 ?_
  refine W.eq (g2 := F0 m 1303 ls [.int (iI (sV xs (i + 1))), .ref (ad_1291 200)]) rfl ?_
  refine k_i2l (pc := 1303) hx hb (sV_r _ _) dL_law_1303 ?_
  refine k_bipush (pc := 1304) hx hb dL_law_1304 (by decide +kernel) ?_
  refine k_lshl (pc := 1306) hx hb dL_law_1306 ?_
  refine lv_aload_n (pc := 1307) hx hb dL_law_1307 rfl (lv_at hl 1 rfl) ?_
  refine lv_iload (pc := 1308) hx hb dL_law_1308 (lv_at hl 6 rfl) ?_
  refine k_iconst (pc := 1310) hx hb dL_law_1310 ?_
  refine k_iadd (pc := 1311) hx hb dL_law_1311 ?_
  refine k_sld (pc := 1312) hx hb hX hbl hbA hS (i := (i + 2)) (by omega) (by omega) hL dL_law_1312 ?_
  refine W.eq (g2 := F0 m 1313 ls [.int (iI (sV xs (i + 2))), .long (lI (lShl (sV xs (i + 1)) 32)), .ref (ad_1291 200)]) rfl ?_
  refine k_i2l (pc := 1313) hx hb (sV_r _ _) dL_law_1313 ?_
  refine k_ldc2 (z := 4294967295) (pc := 1314) hx hb hown (hts (.constantLong RL 156 (4294967295)) (by decide +kernel)) (by decide +kernel) dL_law_1314 ?_
  refine k_land (pc := 1317) hx hb dL_law_1317 ?_
  refine k_lor (pc := 1318) hx hb dL_law_1318 ?_
  refine lv_aload_n (pc := 1319) hx hb dL_law_1319 rfl (lv_at hl 1 rfl) ?_
  refine lv_iload (pc := 1320) hx hb dL_law_1320 (lv_at hl 6 rfl) ?_
  refine k_iconst (pc := 1322) hx hb dL_law_1322 ?_
  refine k_iadd (pc := 1323) hx hb dL_law_1323 ?_
  refine k_sld (pc := 1324) hx hb hX hbl hbA hS (i := (i + 3)) (by omega) (by omega) hL dL_law_1324 ?_
  refine W.eq (g2 := F0 m 1325 ls [.int (iI (sV xs (i + 3))), .long (lI (lOr (lShl (sV xs (i + 1)) 32) (lAnd (sV xs (i + 2)) 4294967295))), .ref (ad_1291 200)]) rfl ?_
  refine k_call1 (pc := 1325) (va_runV (As := [.long (lI (lOr (lShl (sV xs (i + 1)) 32) (lAnd (sV xs (i + 2)) 4294967295))), .int (iI (sV xs (i + 3)))]) (rest := []) ⟨hx, hb, hml, hown, hts⟩ (c_X6_peaks l D cA ad_1291 w_1291 H.size th sc fn hI hmA (lOr (lShl (sV xs (i + 1)) 32) (lAnd (sV xs (i + 2)) 4294967295)) (sV xs (i + 3)) (lOr_r _ _) (sV_r _ _)) (cwV 2 hts gL_law_X6_peaks rfl rfl rfl (by decide +kernel) ⟨Nat.le_of_ble_eq_true rfl, Nat.le_of_ble_eq_true rfl⟩) (gV_V hP hD hK hB hS hA hZ 200 (ci := 6) rfl hq2) rfl rfl hl.1 rfl (lv_room (Nat.le_of_ble_eq_true rfl)) dL_law_1325 ⟨Nat.le_trans (show (nc + 2) + 1 ≤ nc + 10 by omega) hnc.1, Nat.le_trans (show (ns + 12) + 400 ≤ ns + 500 by omega) hnc.2⟩) hS (gA_sub hD hS hA) (fun v_1325 ad_1325 w_1325 H locs hv_1325 hP hD hS => ?_)
  obtain ⟨th2, sc2, fn2, hmB, hIB, hkB, hokB⟩ := hv_1325
  obtain ⟨hrB, zB, hzB⟩ := md_peaks hokB
  subst hzB
  obtain ⟨e1, e2, e3, e4⟩ := dt_peaks sc fn _ _ hrA hrB
  have hbB : bookS cA ad_1325 w_1325 sc2 fn2 := bookS_of hIB (fun r h => ⟨(hkB.2 r (Or.inl h)).1, (hkB.2 r (Or.inl h)).2⟩) (by rw [← e2, ← e3]; exact hbA9)
  rw [← hkB.1, ← (hkB.2 0 (by omega)).2, ← (hkB.2 301 (by omega)).2, ← (hkB.2 302 (by omega)).2] at hl
  have hoX := (hkB.2 301 (by omega)).1.trans hoA
  have hgB := (hkB.2 302 (by omega)).1.trans hgA
  obtain ⟨frB, hk0B⟩ := mdS_k hmB
  refine W.eq (g2 := F0 m 1328 ls [.int (iI zB)]) rfl ?_
  refine W.cs (cells' := (nc + 3)) (slots' := (ns + 412)) rfl rfl ?_
  refine lv_istore (pc := 1328) (lv' := [(7, .int (iI zB)), (6, .int (iI k1)), (0, .ref b), (1, .ref (ad_1325 0)), (2, .ref (ad_1325 200)), (3, .ref (ad_1325 301)), (4, .ref (ad_1325 302)), (5, .int (iI i))]) hx hb dL_law_1328 hl (by decide) rfl (fun ls hl => ?_)
  refine lv_aload_n (pc := 1330) hx hb dL_law_1330 rfl (lv_at hl 4 rfl) ?_
  refine k_call0 (pc := 1331) (va_runV (As := []) (rest := []) ⟨hx, hb, hml, hown, hts⟩ (c_X6_thrown l D cA ad_1325 w_1325 sc2 fn2 th2 frB hk0B) (cwV 0 hts gL_law_X6_thrown rfl rfl rfl (by decide +kernel) ⟨Nat.le_of_ble_eq_true rfl, Nat.le_of_ble_eq_true rfl⟩) (gR_V hP hK hB 200 (ci := 6) rfl hk0B) rfl rfl hl.1 rfl (lv_room (Nat.le_of_ble_eq_true rfl)) dL_law_1331 ⟨Nat.le_trans (show (nc + 3) + 0 ≤ nc + 10 by omega) hnc.1, Nat.le_trans (show (ns + 412) + 0 ≤ ns + 500 by omega) hnc.2⟩) (fun v_1331 hv_1331 => ?_)
  obtain ⟨z_1331, rfl, hz_1331⟩ := hv_1331
  refine W.eq (g2 := F0 m 1334 ls [.int (iI z_1331)]) rfl ?_
  refine lv_iload (pc := 1334) hx hb dL_law_1334 (lv_at hl 1 rfl) ?_
  refine k_icmp_eq (pc := 1336) (tgt := 1341) hx hb ⟨by omega, by omega⟩ ⟨by omega, by omega⟩ dL_law_1336 (by decide) (fun hc_1336 => ?_) (fun hc_1336 => ?_)
  · skip
    refine lv_iload (pc := 1341) hx hb dL_law_1341 (lv_at hl 1 rfl) ?_
    refine k_if_ne (pc := 1343) (tgt := 1358) hx hb ⟨by omega, by omega⟩ dL_law_1343 (by decide) (fun hc_1343 => ?_) (fun hc_1343 => ?_)
    · skip
      refine lv_goto (pc := 1358) (tgt := 1710) hx hb dL_law_1358 (by decide) ?_
      refine W.widen (k := nc + 10) (n := ns + 500) (by omega) (by omega) ?_
      exact kk ad_1325 w_1325 sc2 fn2 H locs ls ⟨hbB, hIB, ⟨th2, hmB⟩, ⟨_, hoX⟩, ⟨_, hgB⟩⟩ hP hD hS (lv_sub hl [2, 3, 4, 5, 6, 7] rfl)
    · skip
      refine lv_aload_n (pc := 1346) hx hb dL_law_1346 rfl (lv_at hl 5 rfl) ?_
      refine k_iconst (pc := 1347) hx hb dL_law_1347 ?_
      refine k_lald (pc := 1348) hx hb hK hP 301 2 hoX rfl (by omega) (by omega) (by omega) dL_law_1348 ?_
      refine lv_iload (pc := 1349) hx hb dL_law_1349 (lv_at hl 0 rfl) ?_
      refine k_i2lw (pc := 1351) hx hb dL_law_1351 ?_
      have e5 := e4 hc_1343
      have e6 := (hrcA hc_1343 zB).1 e5
      rw [e6]
      refine k_lcmpS (pc := 1352) (tgt := 1358) hx hb dL_law_1352 dL_law_1353 (by decide) ?_
      refine lv_goto (pc := 1358) (tgt := 1710) hx hb dL_law_1358 (by decide) ?_
      refine W.widen (k := nc + 10) (n := ns + 500) (by omega) (by omega) ?_
      exact kk ad_1325 w_1325 sc2 fn2 H locs ls ⟨hbB, hIB, ⟨th2, hmB⟩, ⟨_, hoX⟩, ⟨_, hgB⟩⟩ hP hD hS (lv_sub hl [2, 3, 4, 5, 6, 7] rfl)
  · skip
    exfalso
    omega

set_option maxHeartbeats 4000000 in
set_option maxRecDepth 100000 in
theorem lc_spell {p : Program} {e : Env} {s : State} {m : MethodId} {below : List Frame} {meth : Method} {c : Code} {l : Launch} {D : va_G} {cA : Nat → ClassId} {A : Nat → Prop} {b L : Nat} {xs : Nat → Int32} (C : lwC p l s m c D cA A b L xs) (Q9 : State → Prop) (i : Int) (hi : 0 ≤ i ∧ i + 5 ≤ L) (nc ns : Nat) (hnc : nc + 10 ≤ room_1.cells ∧ ns + 500 ≤ room_1.slots)
  (kk : ∀ (ad : Nat → Nat) (w : Nat → Option va_E) (sc : Nat → Int) (fn : Nat → Int → Int) (H : Heap) (locs : List Loc) (ls : Array Slot), lwS cA ad w sc fn → gP D vwCl ad w H → gD A ad w → va_S A s.heap H locs → lv_has ls 9 [(0, .ref b), (1, .ref (ad 0)), (2, .ref (ad 200)), (3, .ref (ad 301)), (4, .ref (ad 302)), (5, .int (iI i))] → W p l e room_1 s m #[Value.ref b] below meth c H locs (nc + 10) (ns + 500) Q9 (F0 m 1710 ls []))
  (ad : Nat → Nat) (w : Nat → Option va_E) (sc : Nat → Int) (fn : Nat → Int → Int) (H : Heap) (locs : List Loc) (ls : Array Slot) (hW : lwS cA ad w sc fn) (hP : gP D vwCl ad w H) (hD : gD A ad w) (hS : va_S A s.heap H locs) (hl : lv_has ls 9 [(0, .ref b), (1, .ref (ad 0)), (2, .ref (ad 200)), (3, .ref (ad 301)), (4, .ref (ad 302)), (5, .int (iI i))]) : W p l e room_1 s m #[Value.ref b] below meth c H locs nc ns Q9 (F0 m 1361 ls []) := by
  obtain ⟨hl0, hx, hb, hml, hown, hts, hK, hB, hZ, hA, hX, hbl, hbA, hL⟩ := C
  obtain ⟨hbk, hI, ⟨th, hmd⟩, ⟨o, ho⟩, ⟨g, hg⟩⟩ := hW
  obtain ⟨fs0, hq0⟩ := bookS_0 hbk
  refine lv_aload_n (pc := 1361) hx hb dL_law_1361 rfl (lv_at hl 1 rfl) ?_
  refine lv_aload_n (pc := 1362) hx hb dL_law_1362 rfl (lv_at hl 0 rfl) ?_
  refine lv_iload (pc := 1363) hx hb dL_law_1363 (lv_at hl 5 rfl) ?_
  refine k_iconst (pc := 1365) hx hb dL_law_1365 ?_
  refine k_iadd (pc := 1366) hx hb dL_law_1366 ?_
  refine k_sld (pc := 1367) hx hb hX hbl hbA hS (i := (i + 1)) (by omega) (by omega) hL dL_law_1367 ?_
  refine W.eq (g2 := F0 m 1368 ls [.int (iI (sV xs (i + 1))), .ref (ad 0)]) rfl ?_
  refine k_i2l (pc := 1368) hx hb (sV_r _ _) dL_law_1368 ?_
  refine k_bipush (pc := 1369) hx hb dL_law_1369 (by decide +kernel) ?_
  refine k_lshl (pc := 1371) hx hb dL_law_1371 ?_
  refine lv_aload_n (pc := 1372) hx hb dL_law_1372 rfl (lv_at hl 0 rfl) ?_
  refine lv_iload (pc := 1373) hx hb dL_law_1373 (lv_at hl 5 rfl) ?_
  refine k_iconst (pc := 1375) hx hb dL_law_1375 ?_
  refine k_iadd (pc := 1376) hx hb dL_law_1376 ?_
  refine k_sld (pc := 1377) hx hb hX hbl hbA hS (i := (i + 2)) (by omega) (by omega) hL dL_law_1377 ?_
  refine W.eq (g2 := F0 m 1378 ls [.int (iI (sV xs (i + 2))), .long (lI (lShl (sV xs (i + 1)) 32)), .ref (ad 0)]) rfl ?_
  refine k_i2l (pc := 1378) hx hb (sV_r _ _) dL_law_1378 ?_
  refine k_ldc2 (z := 4294967295) (pc := 1379) hx hb hown (hts (.constantLong RL 156 (4294967295)) (by decide +kernel)) (by decide +kernel) dL_law_1379 ?_
  refine k_land (pc := 1382) hx hb dL_law_1382 ?_
  refine k_lor (pc := 1383) hx hb dL_law_1383 ?_
  refine lv_aload_n (pc := 1384) hx hb dL_law_1384 rfl (lv_at hl 3 rfl) ?_
  refine k_call1 (pc := 1385) (vx_runSW (As := [.ref (ad 0), .long (lI (lOr (lShl (sV xs (i + 1)) 32) (lAnd (sV xs (i + 2)) 4294967295))), .ref (ad 301)]) (rest := []) ⟨hx, hb, hml, hown, hts⟩ (c_L_spell l hl0 D cA ad w H.size sc fn hI hbk (lOr (lShl (sV xs (i + 1)) 32) (lAnd (sV xs (i + 2)) 4294967295)) (lOr_r _ _) o ho) (vx_cwSW 3 hts gL_law_L_spell rfl rfl rfl (by decide +kernel) ⟨Nat.le_of_ble_eq_true rfl, Nat.le_of_ble_eq_true rfl⟩) (gV_S hP hD hK hB hS hA hZ) rfl rfl hl.1 rfl (lv_room (Nat.le_of_ble_eq_true rfl)) dL_law_1385 ⟨Nat.le_trans (show nc + 1 ≤ nc + 10 by omega) hnc.1, Nat.le_trans (show ns + 6 ≤ ns + 500 by omega) hnc.2⟩) hS (gA_sub hD hS hA) (fun v_1385 ad_1385 w_1385 H locs hv_1385 hP hD hS => ?_)
  obtain ⟨k1, sc1, fn1, vA, oA, hvk, hbA9, hIA, hkA, hoA, hrA, hrcA, hkrA⟩ := hv_1385
  subst hvk
  have hmA : mdS cA ad_1385 w_1385 th sc fn := mdS_of (fun r h1 h2 => ⟨(hkA.2 r h1).2 (by omega), (hkA.2 r h1).1⟩) hmd
  have hgA : w_1385 302 = some (eD (cA 3) 1 g) := ((hkA.2 302 (by omega)).2 (by omega)).trans hg
  rw [← hkA.1, ← (hkA.2 200 (by omega)).1, ← (hkA.2 301 (by omega)).1, ← (hkA.2 302 (by omega)).1] at hl
  obtain ⟨fs2, hq2⟩ := mdS_0 hmA
  refine W.eq (g2 := F0 m 1388 ls [.int (iI k1)]) rfl ?_
  refine W.cs (cells' := (nc + 1)) (slots' := (ns + 6)) rfl rfl ?_
  refine lv_istore (pc := 1388) (lv' := [(6, .int (iI k1)), (0, .ref b), (1, .ref (ad_1385 0)), (2, .ref (ad_1385 200)), (3, .ref (ad_1385 301)), (4, .ref (ad_1385 302)), (5, .int (iI i))]) hx hb dL_law_1388 hl (by decide) rfl (fun ls hl => ?_)
  refine lv_aload_n (pc := 1390) hx hb dL_law_1390 rfl (lv_at hl 3 rfl) ?_
  refine lv_aload_n (pc := 1391) hx hb dL_law_1391 rfl (lv_at hl 1 rfl) ?_
  refine lv_iload (pc := 1392) hx hb dL_law_1392 (lv_at hl 6 rfl) ?_
  refine k_iconst (pc := 1394) hx hb dL_law_1394 ?_
  refine k_iadd (pc := 1395) hx hb dL_law_1395 ?_
  refine k_sld (pc := 1396) hx hb hX hbl hbA hS (i := (i + 1)) (by omega) (by omega) hL dL_law_1396 ?_
  refine W.eq (g2 := F0 m 1397 ls [.int (iI (sV xs (i + 1))), .ref (ad_1385 200)]) rfl ?_
  refine k_i2l (pc := 1397) hx hb (sV_r _ _) dL_law_1397 ?_
  refine k_bipush (pc := 1398) hx hb dL_law_1398 (by decide +kernel) ?_
  refine k_lshl (pc := 1400) hx hb dL_law_1400 ?_
  refine lv_aload_n (pc := 1401) hx hb dL_law_1401 rfl (lv_at hl 1 rfl) ?_
  refine lv_iload (pc := 1402) hx hb dL_law_1402 (lv_at hl 6 rfl) ?_
  refine k_iconst (pc := 1404) hx hb dL_law_1404 ?_
  refine k_iadd (pc := 1405) hx hb dL_law_1405 ?_
  refine k_sld (pc := 1406) hx hb hX hbl hbA hS (i := (i + 2)) (by omega) (by omega) hL dL_law_1406 ?_
  refine W.eq (g2 := F0 m 1407 ls [.int (iI (sV xs (i + 2))), .long (lI (lShl (sV xs (i + 1)) 32)), .ref (ad_1385 200)]) rfl ?_
  refine k_i2l (pc := 1407) hx hb (sV_r _ _) dL_law_1407 ?_
  refine k_ldc2 (z := 4294967295) (pc := 1408) hx hb hown (hts (.constantLong RL 156 (4294967295)) (by decide +kernel)) (by decide +kernel) dL_law_1408 ?_
  refine k_land (pc := 1411) hx hb dL_law_1411 ?_
  refine k_lor (pc := 1412) hx hb dL_law_1412 ?_
  refine k_call1 (pc := 1413) (va_runV (As := [.long (lI (lOr (lShl (sV xs (i + 1)) 32) (lAnd (sV xs (i + 2)) 4294967295)))]) (rest := []) ⟨hx, hb, hml, hown, hts⟩ (c_X6_spell l D cA ad_1385 w_1385 H.size th sc fn hI hmA (lOr (lShl (sV xs (i + 1)) 32) (lAnd (sV xs (i + 2)) 4294967295)) (lOr_r _ _)) (cwV 1 hts gL_law_X6_spell rfl rfl rfl (by decide +kernel) ⟨Nat.le_of_ble_eq_true rfl, Nat.le_of_ble_eq_true rfl⟩) (gV_V hP hD hK hB hS hA hZ 200 (ci := 6) rfl hq2) rfl rfl hl.1 rfl (lv_room (Nat.le_of_ble_eq_true rfl)) dL_law_1413 ⟨Nat.le_trans (show (nc + 1) + 0 ≤ nc + 10 by omega) hnc.1, Nat.le_trans (show (ns + 6) + 0 ≤ ns + 500 by omega) hnc.2⟩) hS (gA_sub hD hS hA) (fun v_1413 ad_1413 w_1413 H locs hv_1413 hP hD hS => ?_)
  obtain ⟨th2, sc2, fn2, hmB, hIB, hkB, hokB⟩ := hv_1413
  obtain ⟨hrB, zB, hzB⟩ := md_spell hokB
  subst hzB
  obtain ⟨e1, e2, e3, e4⟩ := dt_spell sc fn _ hrA hrB
  have hbB : bookS cA ad_1413 w_1413 sc2 fn2 := bookS_of hIB (fun r h => ⟨(hkB.2 r (Or.inl h)).1, (hkB.2 r (Or.inl h)).2⟩) (by rw [← e2, ← e3]; exact hbA9)
  rw [← hkB.1, ← (hkB.2 0 (by omega)).2, ← (hkB.2 301 (by omega)).2, ← (hkB.2 302 (by omega)).2] at hl
  have hoX := (hkB.2 301 (by omega)).1.trans hoA
  have hgB := (hkB.2 302 (by omega)).1.trans hgA
  obtain ⟨frB, hk0B⟩ := mdS_k hmB
  refine W.eq (g2 := F0 m 1416 ls [.int (iI zB)]) rfl ?_
  refine W.cs (cells' := (nc + 1)) (slots' := (ns + 6)) rfl rfl ?_
  refine lv_istore (pc := 1416) (lv' := [(7, .int (iI zB)), (6, .int (iI k1)), (0, .ref b), (1, .ref (ad_1413 0)), (2, .ref (ad_1413 200)), (3, .ref (ad_1413 301)), (4, .ref (ad_1413 302)), (5, .int (iI i))]) hx hb dL_law_1416 hl (by decide) rfl (fun ls hl => ?_)
  refine lv_aload_n (pc := 1418) hx hb dL_law_1418 rfl (lv_at hl 4 rfl) ?_
  refine k_call0 (pc := 1419) (va_runV (As := []) (rest := []) ⟨hx, hb, hml, hown, hts⟩ (c_X6_thrown l D cA ad_1413 w_1413 sc2 fn2 th2 frB hk0B) (cwV 0 hts gL_law_X6_thrown rfl rfl rfl (by decide +kernel) ⟨Nat.le_of_ble_eq_true rfl, Nat.le_of_ble_eq_true rfl⟩) (gR_V hP hK hB 200 (ci := 6) rfl hk0B) rfl rfl hl.1 rfl (lv_room (Nat.le_of_ble_eq_true rfl)) dL_law_1419 ⟨Nat.le_trans (show (nc + 1) + 0 ≤ nc + 10 by omega) hnc.1, Nat.le_trans (show (ns + 6) + 0 ≤ ns + 500 by omega) hnc.2⟩) (fun v_1419 hv_1419 => ?_)
  obtain ⟨z_1419, rfl, hz_1419⟩ := hv_1419
  refine W.eq (g2 := F0 m 1422 ls [.int (iI z_1419)]) rfl ?_
  refine lv_iload (pc := 1422) hx hb dL_law_1422 (lv_at hl 1 rfl) ?_
  refine k_icmp_eq (pc := 1424) (tgt := 1429) hx hb ⟨by omega, by omega⟩ ⟨by omega, by omega⟩ dL_law_1424 (by decide) (fun hc_1424 => ?_) (fun hc_1424 => ?_)
  · skip
    refine lv_iload (pc := 1429) hx hb dL_law_1429 (lv_at hl 1 rfl) ?_
    refine k_if_ne (pc := 1431) (tgt := 1446) hx hb ⟨by omega, by omega⟩ dL_law_1431 (by decide) (fun hc_1431 => ?_) (fun hc_1431 => ?_)
    · skip
      refine lv_goto (pc := 1446) (tgt := 1710) hx hb dL_law_1446 (by decide) ?_
      refine W.widen (k := nc + 10) (n := ns + 500) (by omega) (by omega) ?_
      exact kk ad_1413 w_1413 sc2 fn2 H locs ls ⟨hbB, hIB, ⟨th2, hmB⟩, ⟨_, hoX⟩, ⟨_, hgB⟩⟩ hP hD hS (lv_sub hl [2, 3, 4, 5, 6, 7] rfl)
    · skip
      refine lv_aload_n (pc := 1434) hx hb dL_law_1434 rfl (lv_at hl 5 rfl) ?_
      refine k_iconst (pc := 1435) hx hb dL_law_1435 ?_
      refine k_lald (pc := 1436) hx hb hK hP 301 2 hoX rfl (by omega) (by omega) (by omega) dL_law_1436 ?_
      refine lv_iload (pc := 1437) hx hb dL_law_1437 (lv_at hl 0 rfl) ?_
      refine k_i2lw (pc := 1439) hx hb dL_law_1439 ?_
      have e5 := e4 hc_1431
      have e6 := (hrcA hc_1431 zB).1 e5
      rw [e6]
      refine k_lcmpS (pc := 1440) (tgt := 1446) hx hb dL_law_1440 dL_law_1441 (by decide) ?_
      refine lv_goto (pc := 1446) (tgt := 1710) hx hb dL_law_1446 (by decide) ?_
      refine W.widen (k := nc + 10) (n := ns + 500) (by omega) (by omega) ?_
      exact kk ad_1413 w_1413 sc2 fn2 H locs ls ⟨hbB, hIB, ⟨th2, hmB⟩, ⟨_, hoX⟩, ⟨_, hgB⟩⟩ hP hD hS (lv_sub hl [2, 3, 4, 5, 6, 7] rfl)
  · skip
    exfalso
    omega
