theorem hiL_build_6 : ∀ w ∈ wsX60, w ∈ wsL_build := by decide +kernel
theorem spanF_s2 (f : Int → Int) {d e x : Int} (v : Int → Int) (h : d ≤ e) (hx : x = v e) : updI (spanF f d (e - d) v) e x = spanF f d (e + 1 - d) v := by
  have h9 := spanF_s f (d := d) (m := e - d) v (by omega) (x := x) (by rw [hx, show d + (e - d) = e by omega])
  rw [show d + (e - d) = e by omega, show e - d + 1 = e + 1 - d by omega] at h9
  exact h9

set_option maxHeartbeats 8000000 in
set_option maxRecDepth 100000 in
theorem lb_A {p : Program} {e : Env} {s : State} {m : MethodId} {args : Array Value} {below : List Frame} {meth : Method} {c : Code} {l : Launch} {D : va_G} {cA : Nat → ClassId} {A : Nat → Prop} {b L : Nat} {xs : Nat → Int32} {g0 : Nat} (C : lbC p l s m args c D cA A b L xs) (Q9 : State → Prop) (nc ns : Nat) (hnc : nc + 3 ≤ rmL_build.cells ∧ ns + 28 ≤ rmL_build.slots) (n4 cu : Int) (hn : 0 ≤ cu ∧ cu < n4 ∧ n4 ≤ 3)
  (kk : ∀ (x6 pt : Int) (hpt : 1 ≤ pt ∧ pt ≤ 5) (ad : Nat → Nat) (w : Nat → Option va_E) (sc : Nat → Int) (fn : Nat → Int → Int) (sh : Int → Int) (st : Int → Int) (ic : Int → Int) (nn : Int → Int) (cv : Nat → Int → Int) (H : Heap) (locs : List Loc) (ls : Array Slot), bookS cA ad w sc fn → bkInv sc fn → lbS cA ad w sh st ic nn cv → ad 0 = g0 → (lbK sc fn (cu + 1)) → (lbR sc fn sh st ic nn) → (fn 9 cu = 0) → gP D vwCl ad w H → gD A ad w → va_S A s.heap H locs → lv_has ls 18 [(0, .ref (ad 0)), (1, .ref b), (2, .int (iI 0)), (3, .ref (ad 200)), (4, .int (iI n4)), (5, .int (iI cu)), (6, .int (iI x6)), (8, .int (iI pt))] → W p l e rmL_build s m args below meth c H locs (nc + 3) (ns + 28) Q9 (F0 m 120 ls []))
  (ad : Nat → Nat) (w : Nat → Option va_E) (sc : Nat → Int) (fn : Nat → Int → Int) (sh : Int → Int) (st : Int → Int) (ic : Int → Int) (nn : Int → Int) (cv : Nat → Int → Int) (H : Heap) (locs : List Loc) (ls : Array Slot) (hbk : bookS cA ad w sc fn) (hI : bkInv sc fn) (hlb : lbS cA ad w sh st ic nn cv) (hg0 : ad 0 = g0) (hK1 : lbK sc fn cu) (hR : lbR sc fn sh st ic nn) (hP : gP D vwCl ad w H) (hD : gD A ad w) (hS : va_S A s.heap H locs) (hl : lv_has ls 18 [(0, .ref (ad 0)), (1, .ref b), (2, .int (iI 0)), (3, .ref (ad 200)), (4, .int (iI n4)), (5, .int (iI cu))]) : W p l e rmL_build s m args below meth c H locs nc ns Q9 (F0 m 29 ls []) := by
  obtain ⟨hx, hb, hml, hown, hts, hK, hB, hZ, hA, hX, hbl, hbA, hL⟩ := C
  obtain ⟨fs0, hq0⟩ := bookS_0 hbk
  have hK0 := hK1.1
  have hi6 := hiL_build_6
  have hf28 := hts (.fieldLink RL 28 "GaugeBookLaw$Book" "curves" "[[I") (by decide +kernel)
  have hf32 := hts (.fieldLink RL 32 "GaugeBookLaw$Book" "n" "[I") (by decide +kernel)
  refine lv_aload_n (pc := 29) hx hb dL_build_29 rfl (lv_at hl 1 rfl) ?_
  refine lv_iload_n (pc := 30) hx hb dL_build_30 rfl (lv_at hl 2 rfl) ?_
  refine k_iconst (pc := 31) hx hb dL_build_31 ?_
  refine k_iadd (pc := 32) hx hb dL_build_32 ?_
  refine lv_iload (pc := 33) hx hb dL_build_33 (lv_at hl 5 rfl) ?_
  refine k_iadd (pc := 35) hx hb dL_build_35 ?_
  refine k_call0 (pc := 36) (va_runS (As := [.ref b, .int (iI ((0 + 1) + cu))]) (rest := []) ⟨hx, hb, hml, hown, hts⟩ (c_L_cell l b L xs hL ((0 + 1) + cu) (by omega)) (va_cwS 2 hts gL_build_L_cell rfl rfl rfl (by decide +kernel) ⟨Nat.le_of_ble_eq_true rfl, Nat.le_of_ble_eq_true rfl⟩) (gS_S hX hbl hbA hS)  rfl rfl hl.1 rfl (lv_room (Nat.le_of_ble_eq_true rfl)) dL_build_36 ⟨Nat.le_trans (show nc + 0 ≤ nc + 3 by omega) hnc.1, Nat.le_trans (show ns + 0 ≤ ns + 28 by omega) hnc.2⟩) (fun v_36 hv_36 => ?_)
  obtain ⟨z_36, rfl, hz_36⟩ := hv_36
  refine W.eq (g2 := F0 m 39 ls [.int (iI z_36)]) rfl ?_
  refine lv_istore (pc := 39) (lv' := [(6, .int (iI z_36)), (0, .ref (ad 0)), (1, .ref b), (2, .int (iI 0)), (3, .ref (ad 200)), (4, .int (iI n4)), (5, .int (iI cu))]) hx hb dL_build_39 hl (by decide) rfl (fun ls hl => ?_)
  refine lv_iload (pc := 41) hx hb dL_build_41 (lv_at hl 0 rfl) ?_
  refine k_iconst (pc := 43) hx hb dL_build_43 ?_
  refine k_call0 (pc := 44) (va_runS (As := [.int (iI z_36), .int (iI 3)]) (rest := []) ⟨hx, hb, hml, hown, hts⟩ (c_L_below l D cA ad w z_36 3 (by omega)) (va_cwS 2 hts gL_build_L_below rfl rfl rfl (by decide +kernel) ⟨Nat.le_of_ble_eq_true rfl, Nat.le_of_ble_eq_true rfl⟩) (gR_S hP hK hB) rfl rfl hl.1 rfl (lv_room (Nat.le_of_ble_eq_true rfl)) dL_build_44 ⟨Nat.le_trans (show nc + 0 ≤ nc + 3 by omega) hnc.1, Nat.le_trans (show ns + 0 ≤ ns + 28 by omega) hnc.2⟩) (fun v_44 hv_44 => ?_)
  obtain ⟨z_44, rfl, hz_44⟩ := hv_44
  refine W.eq (g2 := F0 m 47 ls [.int (iI z_44)]) rfl ?_
  refine k_bipush (pc := 47) hx hb dL_build_47 (by decide +kernel) ?_
  refine k_imul (pc := 49) hx hb dL_build_49 ?_
  refine lv_iload (pc := 50) hx hb dL_build_50 (lv_at hl 6 rfl) ?_
  refine k_bipush (pc := 52) hx hb dL_build_52 (by decide +kernel) ?_
  refine k_imul (pc := 54) hx hb dL_build_54 ?_
  refine k_iadd (pc := 55) hx hb dL_build_55 ?_
  refine lv_istore (pc := 56) (lv' := [(7, .int (iI ((z_44 * 50) + (cu * 7)))), (6, .int (iI z_36)), (0, .ref (ad 0)), (1, .ref b), (2, .int (iI 0)), (3, .ref (ad 200)), (4, .int (iI n4)), (5, .int (iI cu))]) hx hb dL_build_56 hl (by decide) rfl (fun ls hl => ?_)
  refine lv_aload_n (pc := 58) hx hb dL_build_58 rfl (lv_at hl 2 rfl) ?_
  refine lv_iload (pc := 59) hx hb dL_build_59 (lv_at hl 0 rfl) ?_
  refine k_call1 (pc := 61) (va_runV (As := [.int (iI ((z_44 * 50) + (cu * 7)))]) (rest := []) ⟨hx, hb, hml, hown, hts⟩ (c_X5_addCurve_b l D cA ad w H.size sc fn hI hbk ((z_44 * 50) + (cu * 7)) (by omega) (by omega) (by have h9_ := hK1.1; omega) (fun j a1 a2 a3 => by have h9_ := hK1.1; obtain ⟨i9, b1, b2, b3⟩ := hK1.2.2 j a1 (by omega); omega)) (cwV 1 hts gL_build_X5_addCurve rfl rfl rfl (by decide +kernel) ⟨Nat.le_of_ble_eq_true rfl, Nat.le_of_ble_eq_true rfl⟩) (gV_V hP hD hK hB hS hA hZ 0 (ci := 5) rfl hq0) rfl rfl hl.1 rfl (lv_room (Nat.le_of_ble_eq_true rfl)) dL_build_61 ⟨Nat.le_trans (show nc + 3 ≤ nc + 3 by omega) hnc.1, Nat.le_trans (show ns + 28 ≤ ns + 28 by omega) hnc.2⟩) hS (gA_sub hD hS hA) (fun v_61 ad_61 w_61 H locs hv_61 hP hD hS => ?_)
  obtain ⟨sc_61, fn_61, hb_61, hI_61, hk_61, hs_61⟩ := hv_61
  obtain ⟨k_61, hk9_61, e1_61, e2_61, -, -, -, hr_61⟩ := hs_61
  subst hr_61
  have hl_61 := lbS_keep hk_61 hlb
  have hg_61 : ad_61 0 = g0 := hk_61.1.trans hg0
  obtain ⟨fs_61, hq_61⟩ := bookS_0 hb_61
  rw [← hk_61.1] at hl
  rw [← (hk_61.2 200 (by omega)).2] at hl
  refine W.eq (g2 := F0 m 64 ls [.int (iI (sc 0))]) rfl ?_
  refine W.cs (cells' := (nc + 3)) (slots' := (ns + 28)) rfl rfl ?_
  refine lv_iload (pc := 64) hx hb dL_build_64 (lv_at hl 7 rfl) ?_
  refine k_icmp_eq (pc := 66) (tgt := 71) hx hb ⟨by omega, by omega⟩ ⟨by omega, by omega⟩ dL_build_66 (by decide) (fun hc_66 => ?_) (fun hc_66 => ?_)
  · skip
    refine lv_aload_n (pc := 71) hx hb dL_build_71 rfl (lv_at hl 5 rfl) ?_
    refine k_get (pc := 72) (ci := 6) (C := RX6) (T := TX6) (N := 5) hx hb hts hi6 hown hK hP 200 hl_61.1 rfl 0 (by decide) hf28 (fun _ h9 => h9) rfl dL_build_72 ?_
    refine lv_iload (pc := 75) hx hb dL_build_75 (lv_at hl 7 rfl) ?_
    refine k_aaldA (pc := 77) (o := some (ad_61 (202 + cu.toNat))) hx hb hK hP 201 6 hl_61.2.1 rfl (by omega) (by omega) (by omega) (if_pos (show cu.toNat < 6 by omega)) dL_build_77 ?_
    refine W.eq (g2 := F0 m 78 ls [.ref (ad_61 (202 + cu.toNat))]) rfl ?_
    refine k_iconst (pc := 78) hx hb dL_build_78 ?_
    refine lv_iload (pc := 79) hx hb dL_build_79 (lv_at hl 0 rfl) ?_
    refine k_iast (pc := 81) (w1 := (up w_61 (202 + cu.toNat) (eI (cA 0) 30 (updI (cv cu.toNat) 0 ((z_44 * 50) + (cu * 7)))))) hx hb hK hP hD hS (202 + cu.toNat) 0 (hl_61.2.2.1 cu.toNat (by omega)) rfl (by omega) (by omega) (by omega) rfl dL_build_81 (fun H locs hP hD hS => ?_)
    refine lv_aload_n (pc := 82) hx hb dL_build_82 rfl (lv_at hl 5 rfl) ?_
    refine k_get (pc := 83) (ci := 6) (C := RX6) (T := TX6) (N := 5) hx hb hts hi6 hown hK hP 200 (up_n (by omega) hl_61.1) rfl 4 (by decide) hf32 (fun _ h9 => h9) rfl dL_build_83 ?_
    refine k_iconst (pc := 86) hx hb dL_build_86 ?_
    refine lv_dup2_11 (pc := 87) hx hb dL_build_87 rfl rfl ?_
    refine k_iald (pc := 88) hx hb hK hP 211 0 (up_n (by omega) hl_61.2.2.2.2.2.2) rfl (by omega) (by omega) (by omega) dL_build_88 ?_
    refine k_iconst (pc := 89) hx hb dL_build_89 ?_
    refine k_iadd (pc := 90) hx hb dL_build_90 ?_
    refine k_iast (pc := 91) (w1 := (up (up w_61 (202 + cu.toNat) (eI (cA 0) 30 (updI (cv cu.toNat) 0 ((z_44 * 50) + (cu * 7))))) 211 (eI (cA 0) 4 (updI nn 2 ((nn 2) + 1))))) hx hb hK hP hD hS 211 0 (up_n (by omega) hl_61.2.2.2.2.2.2) rfl (by omega) (by omega) (by omega) rfl dL_build_91 (fun H locs hP hD hS => ?_)
    refine lv_iload (pc := 92) hx hb dL_build_92 (lv_at hl 1 rfl) ?_
    refine k_iconst (pc := 94) hx hb dL_build_94 ?_
    refine k_ishr (pc := 95) hx hb dL_build_95 ?_
    refine k_bipush (pc := 96) hx hb dL_build_96 (by decide +kernel) ?_
    refine k_call0 (pc := 98) (va_runS (As := [.int (iI (iShr z_36 2)), .int (iI 9)]) (rest := []) ⟨hx, hb, hml, hown, hts⟩ (c_L_below l D cA ad_61 (up (up w_61 (202 + cu.toNat) (eI (cA 0) 30 (updI (cv cu.toNat) 0 ((z_44 * 50) + (cu * 7))))) 211 (eI (cA 0) 4 (updI nn 2 ((nn 2) + 1)))) (iShr z_36 2) 9 (by omega)) (va_cwS 2 hts gL_build_L_below rfl rfl rfl (by decide +kernel) ⟨Nat.le_of_ble_eq_true rfl, Nat.le_of_ble_eq_true rfl⟩) (gR_S hP hK hB) rfl rfl hl.1 rfl (lv_room (Nat.le_of_ble_eq_true rfl)) dL_build_98 ⟨Nat.le_trans (show (nc + 3) + 0 ≤ nc + 3 by omega) hnc.1, Nat.le_trans (show (ns + 28) + 0 ≤ ns + 28 by omega) hnc.2⟩) (fun v_98 hv_98 => ?_)
    obtain ⟨z_98, rfl, hz_98⟩ := hv_98
    refine W.eq (g2 := F0 m 101 ls [.int (iI z_98)]) rfl ?_
    refine k_if_ne (pc := 101) (tgt := 108) hx hb ⟨by omega, by omega⟩ dL_build_101 (by decide) (fun hc_101 => ?_) (fun hc_101 => ?_)
    · skip
      refine k_iconst (pc := 108) hx hb dL_build_108 ?_
      refine lv_iload (pc := 109) hx hb dL_build_109 (lv_at hl 1 rfl) ?_
      refine k_iconst (pc := 111) hx hb dL_build_111 ?_
      refine k_ishr (pc := 112) hx hb dL_build_112 ?_
      refine k_iconst (pc := 113) hx hb dL_build_113 ?_
      refine k_call0 (pc := 114) (va_runS (As := [.int (iI (iShr z_36 2)), .int (iI 4)]) (rest := [.int (iI 2)]) ⟨hx, hb, hml, hown, hts⟩ (c_L_below l D cA ad_61 (up (up w_61 (202 + cu.toNat) (eI (cA 0) 30 (updI (cv cu.toNat) 0 ((z_44 * 50) + (cu * 7))))) 211 (eI (cA 0) 4 (updI nn 2 ((nn 2) + 1)))) (iShr z_36 2) 4 (by omega)) (va_cwS 2 hts gL_build_L_below rfl rfl rfl (by decide +kernel) ⟨Nat.le_of_ble_eq_true rfl, Nat.le_of_ble_eq_true rfl⟩) (gR_S hP hK hB) rfl rfl hl.1 rfl (lv_room (Nat.le_of_ble_eq_true rfl)) dL_build_114 ⟨Nat.le_trans (show (nc + 3) + 0 ≤ nc + 3 by omega) hnc.1, Nat.le_trans (show (ns + 28) + 0 ≤ ns + 28 by omega) hnc.2⟩) (fun v_114 hv_114 => ?_)
      obtain ⟨z_114, rfl, hz_114⟩ := hv_114
      refine W.eq (g2 := F0 m 117 ls [.int (iI z_114), .int (iI 2)]) rfl ?_
      refine k_iadd (pc := 117) hx hb dL_build_117 ?_
      refine lv_istore (pc := 118) (lv' := [(8, .int (iI (2 + z_114))), (7, .int (iI ((z_44 * 50) + (cu * 7)))), (6, .int (iI z_36)), (0, .ref (ad_61 0)), (1, .ref b), (2, .int (iI 0)), (3, .ref (ad_61 200)), (4, .int (iI n4)), (5, .int (iI cu))]) hx hb dL_build_118 hl (by decide) rfl (fun ls hl => ?_)
      exact kk z_36 (2 + z_114) (by omega) ad_61 (up (up w_61 (202 + cu.toNat) (eI (cA 0) 30 (updI (cv cu.toNat) 0 ((z_44 * 50) + (cu * 7))))) 211 (eI (cA 0) 4 (updI nn 2 ((nn 2) + 1)))) sc_61 fn_61 sh st ic (updI nn 2 ((nn 2) + 1)) (fun j9 : Nat => if j9 = cu.toNat then updI (cv cu.toNat) 0 ((z_44 * 50) + (cu * 7)) else cv j9) H locs ls (bookS_of hI_61 (fun r hr => ⟨(up_n (by omega) (up_n (by omega) rfl)), rfl⟩) hb_61) hI_61 (lbS_nn _ (lbS_cv cu.toNat _ (by omega) hl_61)) hg_61 (by rw [e1_61, e2_61]; exact lbK_cr hK1 hk9_61 (by omega) (by omega)) (by rw [e1_61, e2_61]; exact lbR_cr hR (updI_n _ _ (by decide))) (by rw [e2_61, crF_9, show cu = (k_61 : Int) by omega, updI_s]) hP hD hS (lv_sub hl [3, 4, 5, 6, 7, 8, 2, 0] rfl)
    · skip
      refine k_iconst (pc := 104) hx hb dL_build_104 ?_
      refine lv_goto (pc := 105) (tgt := 118) hx hb dL_build_105 (by decide) ?_
      refine lv_istore (pc := 118) (lv' := [(8, .int (iI 1)), (7, .int (iI ((z_44 * 50) + (cu * 7)))), (6, .int (iI z_36)), (0, .ref (ad_61 0)), (1, .ref b), (2, .int (iI 0)), (3, .ref (ad_61 200)), (4, .int (iI n4)), (5, .int (iI cu))]) hx hb dL_build_118 hl (by decide) rfl (fun ls hl => ?_)
      exact kk z_36 1 (by omega) ad_61 (up (up w_61 (202 + cu.toNat) (eI (cA 0) 30 (updI (cv cu.toNat) 0 ((z_44 * 50) + (cu * 7))))) 211 (eI (cA 0) 4 (updI nn 2 ((nn 2) + 1)))) sc_61 fn_61 sh st ic (updI nn 2 ((nn 2) + 1)) (fun j9 : Nat => if j9 = cu.toNat then updI (cv cu.toNat) 0 ((z_44 * 50) + (cu * 7)) else cv j9) H locs ls (bookS_of hI_61 (fun r hr => ⟨(up_n (by omega) (up_n (by omega) rfl)), rfl⟩) hb_61) hI_61 (lbS_nn _ (lbS_cv cu.toNat _ (by omega) hl_61)) hg_61 (by rw [e1_61, e2_61]; exact lbK_cr hK1 hk9_61 (by omega) (by omega)) (by rw [e1_61, e2_61]; exact lbR_cr hR (updI_n _ _ (by decide))) (by rw [e2_61, crF_9, show cu = (k_61 : Int) by omega, updI_s]) hP hD hS (lv_sub hl [3, 4, 5, 6, 7, 8, 2, 0] rfl)
  · skip
    exfalso
    omega

set_option maxHeartbeats 8000000 in
set_option maxRecDepth 100000 in
theorem lb_B {p : Program} {e : Env} {s : State} {m : MethodId} {args : Array Value} {below : List Frame} {meth : Method} {c : Code} {l : Launch} {D : va_G} {cA : Nat → ClassId} {A : Nat → Prop} {b L : Nat} {xs : Nat → Int32} {g0 : Nat} (C : lbC p l s m args c D cA A b L xs) (Q9 : State → Prop) (nc ns : Nat) (hnc : nc + 0 ≤ rmL_build.cells ∧ ns + 0 ≤ rmL_build.slots) (n4 cu x6 pt : Int) (hn : 0 ≤ cu ∧ cu < n4 ∧ n4 ≤ 3) (hpt : 1 ≤ pt ∧ pt ≤ 5)
  (kk : ∀  (ad : Nat → Nat) (w : Nat → Option va_E) (sc : Nat → Int) (fn : Nat → Int → Int) (sh : Int → Int) (st : Int → Int) (ic : Int → Int) (nn : Int → Int) (cv : Nat → Int → Int) (H : Heap) (locs : List Loc) (ls : Array Slot), bookS cA ad w sc fn → bkInv sc fn → lbS cA ad w sh st ic nn cv → ad 0 = g0 → (lbK sc fn (cu + 1)) → (lbR sc fn sh st ic nn) → (fn 9 cu = 0) → (ptP (cv cu.toNat) pt) → gP D vwCl ad w H → gD A ad w → va_S A s.heap H locs → lv_has ls 18 [(0, .ref (ad 0)), (1, .ref b), (2, .int (iI 0)), (3, .ref (ad 200)), (4, .int (iI n4)), (5, .int (iI cu)), (8, .int (iI pt))] → W p l e rmL_build s m args below meth c H locs (nc + 0) (ns + 0) Q9 (F0 m 246 ls []))
  (ad : Nat → Nat) (w : Nat → Option va_E) (sc : Nat → Int) (fn : Nat → Int → Int) (sh : Int → Int) (st : Int → Int) (ic : Int → Int) (nn : Int → Int) (cv : Nat → Int → Int) (H : Heap) (locs : List Loc) (ls : Array Slot) (hbk : bookS cA ad w sc fn) (hI : bkInv sc fn) (hlb : lbS cA ad w sh st ic nn cv) (hg0 : ad 0 = g0) (h1 : lbK sc fn (cu + 1)) (h2 : lbR sc fn sh st ic nn) (h3 : fn 9 cu = 0) (hP : gP D vwCl ad w H) (hD : gD A ad w) (hS : va_S A s.heap H locs) (hl : lv_has ls 18 [(0, .ref (ad 0)), (1, .ref b), (2, .int (iI 0)), (3, .ref (ad 200)), (4, .int (iI n4)), (5, .int (iI cu)), (6, .int (iI x6)), (8, .int (iI pt))]) : W p l e rmL_build s m args below meth c H locs nc ns Q9 (F0 m 120 ls []) := by
  obtain ⟨hx, hb, hml, hown, hts, hK, hB, hZ, hA, hX, hbl, hbA, hL⟩ := C
  obtain ⟨fs0, hq0⟩ := bookS_0 hbk
  have hi6 := hiL_build_6
  have hf28 := hts (.fieldLink RL 28 "GaugeBookLaw$Book" "curves" "[[I") (by decide +kernel)
  refine lv_iload (pc := 120) hx hb dL_build_120 (lv_at hl 6 rfl) ?_
  refine k_iconst (pc := 122) hx hb dL_build_122 ?_
  refine k_ishr (pc := 123) hx hb dL_build_123 ?_
  refine k_sipush (pc := 124) hx hb dL_build_124 (by decide +kernel) ?_
  refine k_call0 (pc := 127) (va_runS (As := [.int (iI (iShr x6 4)), .int (iI 300)]) (rest := []) ⟨hx, hb, hml, hown, hts⟩ (c_L_below l D cA ad w (iShr x6 4) 300 (by omega)) (va_cwS 2 hts gL_build_L_below rfl rfl rfl (by decide +kernel) ⟨Nat.le_of_ble_eq_true rfl, Nat.le_of_ble_eq_true rfl⟩) (gR_S hP hK hB) rfl rfl hl.1 rfl (lv_room (Nat.le_of_ble_eq_true rfl)) dL_build_127 ⟨Nat.le_trans (show nc + 0 ≤ nc + 0 by omega) hnc.1, Nat.le_trans (show ns + 0 ≤ ns + 0 by omega) hnc.2⟩) (fun v_127 hv_127 => ?_)
  obtain ⟨z_127, rfl, hz_127⟩ := hv_127
  refine W.eq (g2 := F0 m 130 ls [.int (iI z_127)]) rfl ?_
  refine k_sipush (pc := 130) hx hb dL_build_130 (by decide +kernel) ?_
  refine k_isub (pc := 133) hx hb dL_build_133 ?_
  refine lv_istore (pc := 134) (lv' := [(9, .int (iI (z_127 - 200))), (0, .ref (ad 0)), (1, .ref b), (2, .int (iI 0)), (3, .ref (ad 200)), (4, .int (iI n4)), (5, .int (iI cu)), (6, .int (iI x6)), (8, .int (iI pt))]) hx hb dL_build_134 hl (by decide) rfl (fun ls hl => ?_)
  refine lv_iload (pc := 136) hx hb dL_build_136 (lv_at hl 7 rfl) ?_
  refine k_iconst (pc := 138) hx hb dL_build_138 ?_
  refine k_ishr (pc := 139) hx hb dL_build_139 ?_
  refine k_bipush (pc := 140) hx hb dL_build_140 (by decide +kernel) ?_
  refine k_call0 (pc := 142) (va_runS (As := [.int (iI (iShr x6 5)), .int (iI 60)]) (rest := []) ⟨hx, hb, hml, hown, hts⟩ (c_L_below l D cA ad w (iShr x6 5) 60 (by omega)) (va_cwS 2 hts gL_build_L_below rfl rfl rfl (by decide +kernel) ⟨Nat.le_of_ble_eq_true rfl, Nat.le_of_ble_eq_true rfl⟩) (gR_S hP hK hB) rfl rfl hl.1 rfl (lv_room (Nat.le_of_ble_eq_true rfl)) dL_build_142 ⟨Nat.le_trans (show nc + 0 ≤ nc + 0 by omega) hnc.1, Nat.le_trans (show ns + 0 ≤ ns + 0 by omega) hnc.2⟩) (fun v_142 hv_142 => ?_)
  obtain ⟨z_142, rfl, hz_142⟩ := hv_142
  refine W.eq (g2 := F0 m 145 ls [.int (iI z_142)]) rfl ?_
  refine lv_istore (pc := 145) (lv' := [(10, .int (iI z_142)), (9, .int (iI (z_127 - 200))), (0, .ref (ad 0)), (1, .ref b), (2, .int (iI 0)), (3, .ref (ad 200)), (4, .int (iI n4)), (5, .int (iI cu)), (6, .int (iI x6)), (8, .int (iI pt))]) hx hb dL_build_145 hl (by decide) rfl (fun ls hl => ?_)
  refine k_iconst (pc := 147) hx hb dL_build_147 ?_
  refine lv_istore (pc := 148) (lv' := [(11, .int (iI 0)), (10, .int (iI z_142)), (9, .int (iI (z_127 - 200))), (0, .ref (ad 0)), (1, .ref b), (2, .int (iI 0)), (3, .ref (ad 200)), (4, .int (iI n4)), (5, .int (iI cu)), (6, .int (iI x6)), (8, .int (iI pt))]) hx hb dL_build_148 hl (by decide) rfl (fun ls hl => ?_)
  have lp_150 : ∀ (N9 : Nat) (k : Int) (sg : Int) (q : Int) (g : Int → Int), (0 ≤ k ∧ k ≤ pt) → (ptQ g k sg q) → (pt - k).toNat < N9 → ∀ (H : Heap) (locs : List Loc), gP D vwCl ad (up w (202 + cu.toNat) (eI (cA 0) 30 g)) H → gD A ad (up w (202 + cu.toNat) (eI (cA 0) 30 g)) → va_S A s.heap H locs → ∀ (ls : Array Slot), lv_has ls 18 [(11, .int (iI k)), (10, .int (iI q)), (9, .int (iI sg)), (0, .ref (ad 0)), (1, .ref b), (2, .int (iI 0)), (3, .ref (ad 200)), (4, .int (iI n4)), (5, .int (iI cu)), (6, .int (iI x6)), (8, .int (iI pt))] → W p l e rmL_build s m args below meth c H locs nc ns Q9 (F0 m 150 ls []) := by
    intro N9
    induction N9 with
    | zero => intro k sg q g i0 iQ hmu; exact absurd hmu (Nat.not_lt_zero _)
    | succ N9 ih_150 =>
      intro k sg q g i0 iQ hmu_150 H locs hP hD hS ls hl
      refine lv_iload (pc := 150) hx hb dL_build_150 (lv_at hl 0 rfl) ?_
      refine lv_iload (pc := 152) hx hb dL_build_152 (lv_at hl 10 rfl) ?_
      refine k_icmp_ge (pc := 154) (tgt := 235) hx hb ⟨by omega, by omega⟩ ⟨by omega, by omega⟩ dL_build_154 (by decide) (fun hc_154 => ?_) (fun hc_154 => ?_)
      · skip
        refine lv_aload_n (pc := 235) hx hb dL_build_235 rfl (lv_at hl 6 rfl) ?_
        refine k_get (pc := 236) (ci := 6) (C := RX6) (T := TX6) (N := 5) hx hb hts hi6 hown hK hP 200 (up_n (by omega) hlb.1) rfl 0 (by decide) hf28 (fun _ h9 => h9) rfl dL_build_236 ?_
        refine lv_iload (pc := 239) hx hb dL_build_239 (lv_at hl 8 rfl) ?_
        refine k_aaldA (pc := 241) (o := some (ad (202 + cu.toNat))) hx hb hK hP 201 6 (up_n (by omega) hlb.2.1) rfl (by omega) (by omega) (by omega) (if_pos (show cu.toNat < 6 by omega)) dL_build_241 ?_
        refine W.eq (g2 := F0 m 242 ls [.ref (ad (202 + cu.toNat))]) rfl ?_
        refine k_iconst (pc := 242) hx hb dL_build_242 ?_
        refine lv_iload (pc := 243) hx hb dL_build_243 (lv_at hl 10 rfl) ?_
        refine k_iast (pc := 245) (w1 := (up w (202 + cu.toNat) (eI (cA 0) 30 (updI g 1 pt)))) hx hb hK hP hD hS (202 + cu.toNat) 0 (up_s _ _ _) rfl (by omega) (by omega) (by omega) (up_up _ _ _ _) dL_build_245 (fun H locs hP hD hS => ?_)
        refine W.widen (k := nc + 0) (n := ns + 0) (by omega) (by omega) ?_
        exact kk  ad (up w (202 + cu.toNat) (eI (cA 0) 30 (updI g 1 pt))) sc fn sh st ic nn (fun j9 : Nat => if j9 = cu.toNat then updI g 1 pt else cv j9) H locs ls (bookS_of hI (fun r hr => ⟨(up_n (by omega) rfl), rfl⟩) hbk) hI (lbS_cv cu.toNat _ (by omega) hlb) hg0 h1 h2 h3 (by show ptP (if cu.toNat = cu.toNat then updI g 1 pt else cv cu.toNat) pt; rw [if_pos rfl]; exact ptP_u (by rw [show pt = k by omega]; exact iQ.1)) hP hD hS (lv_sub hl [3, 4, 5, 6, 7, 8, 10] rfl)
      · skip
        refine lv_aload_n (pc := 157) hx hb dL_build_157 rfl (lv_at hl 6 rfl) ?_
        refine k_get (pc := 158) (ci := 6) (C := RX6) (T := TX6) (N := 5) hx hb hts hi6 hown hK hP 200 (up_n (by omega) hlb.1) rfl 0 (by decide) hf28 (fun _ h9 => h9) rfl dL_build_158 ?_
        refine lv_iload (pc := 161) hx hb dL_build_161 (lv_at hl 8 rfl) ?_
        refine k_aaldA (pc := 163) (o := some (ad (202 + cu.toNat))) hx hb hK hP 201 6 (up_n (by omega) hlb.2.1) rfl (by omega) (by omega) (by omega) (if_pos (show cu.toNat < 6 by omega)) dL_build_163 ?_
        refine W.eq (g2 := F0 m 164 ls [.ref (ad (202 + cu.toNat))]) rfl ?_
        refine k_iconst (pc := 164) hx hb dL_build_164 ?_
        refine k_iconst (pc := 165) hx hb dL_build_165 ?_
        refine lv_iload (pc := 166) hx hb dL_build_166 (lv_at hl 0 rfl) ?_
        refine k_imul (pc := 168) hx hb dL_build_168 ?_
        refine k_iadd (pc := 169) hx hb dL_build_169 ?_
        refine lv_iload (pc := 170) hx hb dL_build_170 (lv_at hl 2 rfl) ?_
        refine k_iast (pc := 172) (w1 := (up w (202 + cu.toNat) (eI (cA 0) 30 (updI g (2 + (2 * k)) sg)))) hx hb hK hP hD hS (202 + cu.toNat) 0 (up_s _ _ _) rfl (by omega) (by omega) (by omega) (up_up _ _ _ _) dL_build_172 (fun H locs hP hD hS => ?_)
        refine lv_aload_n (pc := 173) hx hb dL_build_173 rfl (lv_at hl 6 rfl) ?_
        refine k_get (pc := 174) (ci := 6) (C := RX6) (T := TX6) (N := 5) hx hb hts hi6 hown hK hP 200 (up_n (by omega) hlb.1) rfl 0 (by decide) hf28 (fun _ h9 => h9) rfl dL_build_174 ?_
        refine lv_iload (pc := 177) hx hb dL_build_177 (lv_at hl 8 rfl) ?_
        refine k_aaldA (pc := 179) (o := some (ad (202 + cu.toNat))) hx hb hK hP 201 6 (up_n (by omega) hlb.2.1) rfl (by omega) (by omega) (by omega) (if_pos (show cu.toNat < 6 by omega)) dL_build_179 ?_
        refine W.eq (g2 := F0 m 180 ls [.ref (ad (202 + cu.toNat))]) rfl ?_
        refine k_iconst (pc := 180) hx hb dL_build_180 ?_
        refine k_iconst (pc := 181) hx hb dL_build_181 ?_
        refine lv_iload (pc := 182) hx hb dL_build_182 (lv_at hl 0 rfl) ?_
        refine k_imul (pc := 184) hx hb dL_build_184 ?_
        refine k_iadd (pc := 185) hx hb dL_build_185 ?_
        refine lv_iload (pc := 186) hx hb dL_build_186 (lv_at hl 1 rfl) ?_
        refine k_iast (pc := 188) (w1 := (up w (202 + cu.toNat) (eI (cA 0) 30 (updI (updI g (2 + (2 * k)) sg) (3 + (2 * k)) q)))) hx hb hK hP hD hS (202 + cu.toNat) 0 (up_s _ _ _) rfl (by omega) (by omega) (by omega) (up_up _ _ _ _) dL_build_188 (fun H locs hP hD hS => ?_)
        refine lv_iload (pc := 189) hx hb dL_build_189 (lv_at hl 2 rfl) ?_
        refine k_iconst (pc := 191) hx hb dL_build_191 ?_
        refine lv_iload (pc := 192) hx hb dL_build_192 (lv_at hl 9 rfl) ?_
        refine k_bipush (pc := 194) hx hb dL_build_194 (by decide +kernel) ?_
        refine lv_iload (pc := 196) hx hb dL_build_196 (lv_at hl 0 rfl) ?_
        refine k_iadd (pc := 198) hx hb dL_build_198 ?_
        refine k_ishr (pc := 199) hx hb dL_build_199 ?_
        refine k_bipush (pc := 200) hx hb dL_build_200 (by decide +kernel) ?_
        refine k_call0 (pc := 202) (va_runS (As := [.int (iI (iShr x6 (6 + k))), .int (iI 120)]) (rest := [.int (iI 1), .int (iI sg)]) ⟨hx, hb, hml, hown, hts⟩ (c_L_below l D cA ad (up w (202 + cu.toNat) (eI (cA 0) 30 (updI (updI g (2 + (2 * k)) sg) (3 + (2 * k)) q))) (iShr x6 (6 + k)) 120 (by omega)) (va_cwS 2 hts gL_build_L_below rfl rfl rfl (by decide +kernel) ⟨Nat.le_of_ble_eq_true rfl, Nat.le_of_ble_eq_true rfl⟩) (gR_S hP hK hB) rfl rfl hl.1 rfl (lv_room (Nat.le_of_ble_eq_true rfl)) dL_build_202 ⟨Nat.le_trans (show nc + 0 ≤ nc + 0 by omega) hnc.1, Nat.le_trans (show ns + 0 ≤ ns + 0 by omega) hnc.2⟩) (fun v_202 hv_202 => ?_)
        obtain ⟨z_202, rfl, hz_202⟩ := hv_202
        refine W.eq (g2 := F0 m 205 ls [.int (iI z_202), .int (iI 1), .int (iI sg)]) rfl ?_
        refine k_iadd (pc := 205) hx hb dL_build_205 ?_
        refine k_iadd (pc := 206) hx hb dL_build_206 ?_
        refine lv_istore (pc := 207) (lv' := [(9, .int (iI (sg + (1 + z_202)))), (11, .int (iI k)), (10, .int (iI q)), (0, .ref (ad 0)), (1, .ref b), (2, .int (iI 0)), (3, .ref (ad 200)), (4, .int (iI n4)), (5, .int (iI cu)), (6, .int (iI x6)), (8, .int (iI pt))]) hx hb dL_build_207 hl (by decide) rfl (fun ls hl => ?_)
        refine lv_iload (pc := 209) hx hb dL_build_209 (lv_at hl 2 rfl) ?_
        refine k_iconst (pc := 211) hx hb dL_build_211 ?_
        refine lv_iload (pc := 212) hx hb dL_build_212 (lv_at hl 9 rfl) ?_
        refine k_iconst (pc := 214) hx hb dL_build_214 ?_
        refine lv_iload (pc := 215) hx hb dL_build_215 (lv_at hl 1 rfl) ?_
        refine k_iadd (pc := 217) hx hb dL_build_217 ?_
        refine k_ishr (pc := 218) hx hb dL_build_218 ?_
        refine k_sipush (pc := 219) hx hb dL_build_219 (by decide +kernel) ?_
        refine k_call0 (pc := 222) (va_runS (As := [.int (iI (iShr x6 (3 + k))), .int (iI 4000)]) (rest := [.int (iI 1), .int (iI q)]) ⟨hx, hb, hml, hown, hts⟩ (c_L_below l D cA ad (up w (202 + cu.toNat) (eI (cA 0) 30 (updI (updI g (2 + (2 * k)) sg) (3 + (2 * k)) q))) (iShr x6 (3 + k)) 4000 (by omega)) (va_cwS 2 hts gL_build_L_below rfl rfl rfl (by decide +kernel) ⟨Nat.le_of_ble_eq_true rfl, Nat.le_of_ble_eq_true rfl⟩) (gR_S hP hK hB) rfl rfl hl.1 rfl (lv_room (Nat.le_of_ble_eq_true rfl)) dL_build_222 ⟨Nat.le_trans (show nc + 0 ≤ nc + 0 by omega) hnc.1, Nat.le_trans (show ns + 0 ≤ ns + 0 by omega) hnc.2⟩) (fun v_222 hv_222 => ?_)
        obtain ⟨z_222, rfl, hz_222⟩ := hv_222
        refine W.eq (g2 := F0 m 225 ls [.int (iI z_222), .int (iI 1), .int (iI q)]) rfl ?_
        refine k_iadd (pc := 225) hx hb dL_build_225 ?_
        refine k_iadd (pc := 226) hx hb dL_build_226 ?_
        refine lv_istore (pc := 227) (lv' := [(10, .int (iI (q + (1 + z_222)))), (9, .int (iI (sg + (1 + z_202)))), (11, .int (iI k)), (0, .ref (ad 0)), (1, .ref b), (2, .int (iI 0)), (3, .ref (ad 200)), (4, .int (iI n4)), (5, .int (iI cu)), (6, .int (iI x6)), (8, .int (iI pt))]) hx hb dL_build_227 hl (by decide) rfl (fun ls hl => ?_)
        refine lv_iinc (pc := 229) (v := iI (k + 1)) (lv' := [(11, .int (iI (k + 1))), (10, .int (iI (q + (1 + z_222)))), (9, .int (iI (sg + (1 + z_202)))), (0, .ref (ad 0)), (1, .ref b), (2, .int (iI 0)), (3, .ref (ad 200)), (4, .int (iI n4)), (5, .int (iI cu)), (6, .int (iI x6)), (8, .int (iI pt))]) hx hb dL_build_229 hl (k := 2) rfl (iI_add _ _) (by decide) rfl (fun ls hl => ?_)
        refine lv_goto (pc := 232) (tgt := 150) hx hb dL_build_232 (by decide) ?_
        exact ih_150 (k + 1) (sg + (1 + z_202)) (q + (1 + z_222)) (updI (updI g (2 + (2 * k)) sg) (3 + (2 * k)) q) (by omega) (ptQ_s iQ (by omega) (by omega) (by omega)) (by omega) H locs hP hD hS ls (lv_sub hl [0, 1, 2, 3, 4, 5, 6, 7, 8, 9, 10] rfl)
  have hW9 : (w) = (up w (202 + cu.toNat) (eI (cA 0) 30 (cv cu.toNat))) := by rw [up_self (hlb.2.2.1 cu.toNat (by omega))]
  rw [hW9] at hP hD
  exact lp_150 _ 0 (z_127 - 200) z_142 (cv cu.toNat) (by omega) (ptQ_0 (by omega) (by omega)) (Nat.lt_succ_self _) H locs hP hD hS ls (lv_sub hl [0, 1, 2, 3, 4, 5, 6, 7, 8, 9, 10] rfl)

set_option maxHeartbeats 8000000 in
set_option maxRecDepth 100000 in
theorem lb_C {p : Program} {e : Env} {s : State} {m : MethodId} {args : Array Value} {below : List Frame} {meth : Method} {c : Code} {l : Launch} {D : va_G} {cA : Nat → ClassId} {A : Nat → Prop} {b L : Nat} {xs : Nat → Int32} {g0 : Nat} (C : lbC p l s m args c D cA A b L xs) (Q9 : State → Prop) (nc ns : Nat) (hnc : nc + 0 ≤ rmL_build.cells ∧ ns + 0 ≤ rmL_build.slots) (n4 cu pt : Int) (hn : 0 ≤ cu ∧ cu < n4 ∧ n4 ≤ 3) (hpt : 1 ≤ pt ∧ pt ≤ 5)
  (kk : ∀  (ad : Nat → Nat) (w : Nat → Option va_E) (sc : Nat → Int) (fn : Nat → Int → Int) (sh : Int → Int) (st : Int → Int) (ic : Int → Int) (nn : Int → Int) (cv : Nat → Int → Int) (H : Heap) (locs : List Loc) (ls : Array Slot), bookS cA ad w sc fn → bkInv sc fn → lbS cA ad w sh st ic nn cv → ad 0 = g0 → (lbK sc fn (cu + 1)) → (lbR sc fn sh st ic nn) → gP D vwCl ad w H → gD A ad w → va_S A s.heap H locs → lv_has ls 18 [(0, .ref (ad 0)), (1, .ref b), (2, .int (iI 0)), (3, .ref (ad 200)), (4, .int (iI n4)), (5, .int (iI (cu + 1)))] → W p l e rmL_build s m args below meth c H locs (nc + 0) (ns + 0) Q9 (F0 m 22 ls []))
  (ad : Nat → Nat) (w : Nat → Option va_E) (sc : Nat → Int) (fn : Nat → Int → Int) (sh : Int → Int) (st : Int → Int) (ic : Int → Int) (nn : Int → Int) (cv : Nat → Int → Int) (H : Heap) (locs : List Loc) (ls : Array Slot) (hbk : bookS cA ad w sc fn) (hI : bkInv sc fn) (hlb : lbS cA ad w sh st ic nn cv) (hg0 : ad 0 = g0) (h1 : lbK sc fn (cu + 1)) (h2 : lbR sc fn sh st ic nn) (h3 : fn 9 cu = 0) (hg : ptP (cv cu.toNat) pt) (hP : gP D vwCl ad w H) (hD : gD A ad w) (hS : va_S A s.heap H locs) (hl : lv_has ls 18 [(0, .ref (ad 0)), (1, .ref b), (2, .int (iI 0)), (3, .ref (ad 200)), (4, .int (iI n4)), (5, .int (iI cu)), (8, .int (iI pt))]) : W p l e rmL_build s m args below meth c H locs nc ns Q9 (F0 m 246 ls []) := by
  obtain ⟨hx, hb, hml, hown, hts, hK, hB, hZ, hA, hX, hbl, hbA, hL⟩ := C
  obtain ⟨fs0, hq0⟩ := bookS_0 hbk
  have hi6 := hiL_build_6
  have hf28 := hts (.fieldLink RL 28 "GaugeBookLaw$Book" "curves" "[[I") (by decide +kernel)
  refine k_iconst (pc := 246) hx hb dL_build_246 ?_
  refine lv_istore (pc := 247) (lv' := [(11, .int (iI 0)), (0, .ref (ad 0)), (1, .ref b), (2, .int (iI 0)), (3, .ref (ad 200)), (4, .int (iI n4)), (5, .int (iI cu)), (8, .int (iI pt))]) hx hb dL_build_247 hl (by decide) rfl (fun ls hl => ?_)
  refine lv_iload (pc := 249) hx hb dL_build_249 (lv_at hl 7 rfl) ?_
  refine k_iconst (pc := 251) hx hb dL_build_251 ?_
  refine k_idiv (pc := 252) hx hb ⟨by omega, by omega⟩ ⟨by omega, by omega⟩ (by omega) dL_build_252 ?_
  obtain ⟨hf, hhf⟩ : ∃ x9 : Int, x9 = Int.tdiv pt 2 := ⟨_, rfl⟩
  rw [← hhf]
  have hfe_ : Int.tdiv pt 2 = pt / 2 := Int.tdiv_eq_ediv_of_nonneg (by omega)
  refine lv_istore (pc := 253) (lv' := [(12, .int (iI hf)), (11, .int (iI 0)), (0, .ref (ad 0)), (1, .ref b), (2, .int (iI 0)), (3, .ref (ad 200)), (4, .int (iI n4)), (5, .int (iI cu)), (8, .int (iI pt))]) hx hb dL_build_253 hl (by decide) rfl (fun ls hl => ?_)
  have lp_h255 : ∀ (N9 : Nat) (ad_h255 : Nat → Nat) (w_h255 : Nat → Option va_E) (fn_h255 : Nat → Int → Int) (t : Int) (j : Int), (bookS cA ad_h255 w_h255 sc fn_h255) → (bkInv sc fn_h255) → (lbS cA ad_h255 w_h255 sh st ic nn cv) → (ad_h255 0 = g0) → (lbK sc fn_h255 (cu + 1)) → (lbR sc fn_h255 sh st ic nn) → (cvQ fn_h255 cu (cv cu.toNat) hf t) → (hf ≤ j ∧ j ≤ pt ∧ t = j - hf) → (pt - j).toNat < N9 → ∀ (H : Heap) (locs : List Loc), gP D vwCl ad_h255 w_h255 H → gD A ad_h255 w_h255 → va_S A s.heap H locs → ∀ (ls : Array Slot), lv_has ls 18 [(12, .int (iI j)), (11, .int (iI t)), (0, .ref (ad_h255 0)), (1, .ref b), (2, .int (iI 0)), (3, .ref (ad_h255 200)), (4, .int (iI n4)), (5, .int (iI cu)), (8, .int (iI pt))] → W p l e rmL_build s m args below meth c H locs nc ns Q9 (F0 m 255 ls []) := by
    intro N9
    induction N9 with
    | zero => intro ad_h255 w_h255 fn_h255 t j hbk_h255 hI_h255 hlb_h255 hg0_h255 hKa hRa hqa i0 hmu; exact absurd hmu (Nat.not_lt_zero _)
    | succ N9 ih_h255 =>
      intro ad_h255 w_h255 fn_h255 t j hbk_h255 hI_h255 hlb_h255 hg0_h255 hKa hRa hqa i0 hmu_255 H locs hP hD hS ls hl
      obtain ⟨fs_h255, hq_h255⟩ := bookS_0 hbk_h255
      have hq1_ := hqa.1
      have k0_ := hKa.1
      have pb_ : j < pt → (-500 ≤ cv cu.toNat (2 + 2 * j) ∧ cv cu.toNat (2 + 2 * j) ≤ 2000 ∧ 0 ≤ cv cu.toNat (3 + 2 * j) ∧ cv cu.toNat (3 + 2 * j) ≤ 1000000) := fun z => (hg j (by omega) z).1
      refine lv_iload (pc := 255) hx hb dL_build_255 (lv_at hl 0 rfl) ?_
      refine lv_iload (pc := 257) hx hb dL_build_257 (lv_at hl 8 rfl) ?_
      refine k_icmp_ge (pc := 259) (tgt := 312) hx hb ⟨by omega, by omega⟩ ⟨by omega, by omega⟩ dL_build_259 (by decide) (fun hc_259 => ?_) (fun hc_259 => ?_)
      · skip
        refine lv_iload (pc := 312) hx hb dL_build_312 (lv_at hl 8 rfl) ?_
        refine k_iconst (pc := 314) hx hb dL_build_314 ?_
        refine k_idiv (pc := 315) hx hb ⟨by omega, by omega⟩ ⟨by omega, by omega⟩ (by omega) dL_build_315 ?_
        obtain ⟨hf2, hhf2⟩ : ∃ x9 : Int, x9 = Int.tdiv pt 2 := ⟨_, rfl⟩
        rw [← hhf2]
        refine k_iconst (pc := 316) hx hb dL_build_316 ?_
        refine k_isub (pc := 317) hx hb dL_build_317 ?_
        refine lv_istore (pc := 318) (lv' := [(12, .int (iI (hf2 - 1))), (11, .int (iI t)), (0, .ref (ad_h255 0)), (1, .ref b), (2, .int (iI 0)), (3, .ref (ad_h255 200)), (4, .int (iI n4)), (5, .int (iI cu)), (8, .int (iI pt))]) hx hb dL_build_318 hl (by decide) rfl (fun ls hl => ?_)
        have lp_h320 : ∀ (N9 : Nat) (ad_h320 : Nat → Nat) (w_h320 : Nat → Option va_E) (fn_h320 : Nat → Int → Int) (u : Int) (i2 : Int), (bookS cA ad_h320 w_h320 sc fn_h320) → (bkInv sc fn_h320) → (lbS cA ad_h320 w_h320 sh st ic nn cv) → (ad_h320 0 = g0) → (lbK sc fn_h320 (cu + 1)) → (lbR sc fn_h320 sh st ic nn) → (cvQ fn_h320 cu (cv cu.toNat) (i2 + 1) u) → (-1 ≤ i2 ∧ i2 < hf ∧ u = pt - i2 - 1) → (i2 + 1).toNat < N9 → ∀ (H : Heap) (locs : List Loc), gP D vwCl ad_h320 w_h320 H → gD A ad_h320 w_h320 → va_S A s.heap H locs → ∀ (ls : Array Slot), lv_has ls 18 [(12, .int (iI i2)), (11, .int (iI u)), (0, .ref (ad_h320 0)), (1, .ref b), (2, .int (iI 0)), (3, .ref (ad_h320 200)), (4, .int (iI n4)), (5, .int (iI cu)), (8, .int (iI pt))] → W p l e rmL_build s m args below meth c H locs nc ns Q9 (F0 m 320 ls []) := by
          intro N9
          induction N9 with
          | zero => intro ad_h320 w_h320 fn_h320 u i2 hbk_h320 hI_h320 hlb_h320 hg0_h320 hKb hRb hqb i1 hmu; exact absurd hmu (Nat.not_lt_zero _)
          | succ N9 ih_h320 =>
            intro ad_h320 w_h320 fn_h320 u i2 hbk_h320 hI_h320 hlb_h320 hg0_h320 hKb hRb hqb i1 hmu_320 H locs hP hD hS ls hl
            obtain ⟨fs_h320, hq_h320⟩ := bookS_0 hbk_h320
            have hq2_ := hqb.1
            have k2_ := hKb.1
            have pd_ : 0 ≤ i2 → (-500 ≤ cv cu.toNat (2 + 2 * i2) ∧ cv cu.toNat (2 + 2 * i2) ≤ 2000 ∧ 0 ≤ cv cu.toNat (3 + 2 * i2) ∧ cv cu.toNat (3 + 2 * i2) ≤ 1000000) := fun z => (hg i2 z (by omega)).1
            refine lv_iload (pc := 320) hx hb dL_build_320 (lv_at hl 0 rfl) ?_
            refine k_if_lt (pc := 322) (tgt := 375) hx hb ⟨by omega, by omega⟩ dL_build_322 (by decide) (fun hc_322 => ?_) (fun hc_322 => ?_)
            · skip
              refine lv_iinc (pc := 375) (v := iI (cu + 1)) (lv' := [(5, .int (iI (cu + 1))), (12, .int (iI i2)), (11, .int (iI u)), (0, .ref (ad_h320 0)), (1, .ref b), (2, .int (iI 0)), (3, .ref (ad_h320 200)), (4, .int (iI n4)), (8, .int (iI pt))]) hx hb dL_build_375 hl (k := 7) rfl (iI_add _ _) (by decide) rfl (fun ls hl => ?_)
              refine lv_goto (pc := 378) (tgt := 22) hx hb dL_build_378 (by decide) ?_
              refine W.widen (k := nc + 0) (n := ns + 0) (by omega) (by omega) ?_
              exact kk  ad_h320 w_h320 sc fn_h320 sh st ic nn cv H locs ls hbk_h320 hI_h320 hlb_h320 hg0_h320 hKb hRb hP hD hS (lv_sub hl [3, 4, 5, 6, 7, 0] rfl)
            · skip
              refine lv_iinc (pc := 325) (v := iI (u + 1)) (lv' := [(11, .int (iI (u + 1))), (12, .int (iI i2)), (0, .ref (ad_h320 0)), (1, .ref b), (2, .int (iI 0)), (3, .ref (ad_h320 200)), (4, .int (iI n4)), (5, .int (iI cu)), (8, .int (iI pt))]) hx hb dL_build_325 hl (k := 1) rfl (iI_add _ _) (by decide) rfl (fun ls hl => ?_)
              refine lv_aload_n (pc := 328) hx hb dL_build_328 rfl (lv_at hl 2 rfl) ?_
              refine lv_iload (pc := 329) hx hb dL_build_329 (lv_at hl 7 rfl) ?_
              refine lv_aload_n (pc := 331) hx hb dL_build_331 rfl (lv_at hl 5 rfl) ?_
              refine k_get (pc := 332) (ci := 6) (C := RX6) (T := TX6) (N := 5) hx hb hts hi6 hown hK hP 200 hlb_h320.1 rfl 0 (by decide) hf28 (fun _ h9 => h9) rfl dL_build_332 ?_
              refine lv_iload (pc := 335) hx hb dL_build_335 (lv_at hl 7 rfl) ?_
              refine k_aaldA (pc := 337) (o := some (ad_h320 (202 + cu.toNat))) hx hb hK hP 201 6 hlb_h320.2.1 rfl (by omega) (by omega) (by omega) (if_pos (show cu.toNat < 6 by omega)) dL_build_337 ?_
              refine W.eq (g2 := F0 m 338 ls [.ref (ad_h320 (202 + cu.toNat)), .int (iI cu), .ref (ad_h320 0)]) rfl ?_
              refine k_iconst (pc := 338) hx hb dL_build_338 ?_
              refine k_iconst (pc := 339) hx hb dL_build_339 ?_
              refine lv_iload (pc := 340) hx hb dL_build_340 (lv_at hl 1 rfl) ?_
              refine k_imul (pc := 342) hx hb dL_build_342 ?_
              refine k_iadd (pc := 343) hx hb dL_build_343 ?_
              refine k_iald (pc := 344) hx hb hK hP (202 + cu.toNat) 0 (hlb_h320.2.2.1 cu.toNat (by omega)) rfl (by omega) (by omega) (by omega) dL_build_344 ?_
              refine lv_aload_n (pc := 345) hx hb dL_build_345 rfl (lv_at hl 5 rfl) ?_
              refine k_get (pc := 346) (ci := 6) (C := RX6) (T := TX6) (N := 5) hx hb hts hi6 hown hK hP 200 hlb_h320.1 rfl 0 (by decide) hf28 (fun _ h9 => h9) rfl dL_build_346 ?_
              refine lv_iload (pc := 349) hx hb dL_build_349 (lv_at hl 7 rfl) ?_
              refine k_aaldA (pc := 351) (o := some (ad_h320 (202 + cu.toNat))) hx hb hK hP 201 6 hlb_h320.2.1 rfl (by omega) (by omega) (by omega) (if_pos (show cu.toNat < 6 by omega)) dL_build_351 ?_
              refine W.eq (g2 := F0 m 352 ls [.ref (ad_h320 (202 + cu.toNat)), .int (iI ((cv cu.toNat) (2 + (2 * i2)))), .int (iI cu), .ref (ad_h320 0)]) rfl ?_
              refine k_iconst (pc := 352) hx hb dL_build_352 ?_
              refine k_iconst (pc := 353) hx hb dL_build_353 ?_
              refine lv_iload (pc := 354) hx hb dL_build_354 (lv_at hl 1 rfl) ?_
              refine k_imul (pc := 356) hx hb dL_build_356 ?_
              refine k_iadd (pc := 357) hx hb dL_build_357 ?_
              refine k_iald (pc := 358) hx hb hK hP (202 + cu.toNat) 0 (hlb_h320.2.2.1 cu.toNat (by omega)) rfl (by omega) (by omega) (by omega) dL_build_358 ?_
              refine k_call1 (pc := 359) (va_runV (As := [.int (iI cu), .int (iI ((cv cu.toNat) (2 + (2 * i2)))), .int (iI ((cv cu.toNat) (3 + (2 * i2))))]) (rest := []) ⟨hx, hb, hml, hown, hts⟩ (c_X5_addPoint_b l D cA ad_h320 w_h320 H.size sc fn_h320 hI_h320 hbk_h320 cu ((cv cu.toNat) (2 + (2 * i2))) ((cv cu.toNat) (3 + (2 * i2))) (by omega) (by omega) (by omega) (by omega) (by omega) (fun k9 p9 c1 c2 => (cv_dn hqb hg (by omega) c1 c2).2)) (cwV 3 hts gL_build_X5_addPoint rfl rfl rfl (by decide +kernel) ⟨Nat.le_of_ble_eq_true rfl, Nat.le_of_ble_eq_true rfl⟩) (gV_V hP hD hK hB hS hA hZ 0 (ci := 5) rfl hq_h320) rfl rfl hl.1 rfl (lv_room (Nat.le_of_ble_eq_true rfl)) dL_build_359 ⟨Nat.le_trans (show nc + 0 ≤ nc + 0 by omega) hnc.1, Nat.le_trans (show ns + 0 ≤ ns + 0 by omega) hnc.2⟩) hS (gA_sub hD hS hA) (fun v_359 ad_359 w_359 H locs hv_359 hP hD hS => ?_)
              obtain ⟨sc_359, fn_359, hb_359, hI_359, hk_359, hs_359⟩ := hv_359
              obtain ⟨e1_359, k_359, p_359, hc_359, hk9_359, e2_359, hp_359, -, -, hr_359⟩ := hs_359
              rw [e1_359] at hb_359 hI_359
              subst hr_359
              have hl_359 := lbS_keep hk_359 hlb_h320
              have hg_359 : ad_359 0 = g0 := hk_359.1.trans hg0_h320
              obtain ⟨fs_359, hq_359⟩ := bookS_0 hb_359
              rw [← hk_359.1] at hl
              rw [← (hk_359.2 200 (by omega)).2] at hl
              refine W.eq (g2 := F0 m 362 ls [.int (iI (fn_h320 9 cu + 1))]) rfl ?_
              refine W.cs (cells' := nc) (slots' := ns) rfl rfl ?_
              have hp8_ : p_359 = 0 := (cv_dn (pp := p_359) hqb hg (by omega) hc_359 hp_359).1
              have hq8_ : cvQ fn_359 cu (cv cu.toNat) (i2 - 1 + 1) (u + 1) := by rw [e2_359, hp8_, show i2 - 1 + 1 = i2 by omega]; exact cv_dn2 hqb (by omega) (by omega) hc_359
              have hK8_ : lbK sc fn_359 (cu + 1) := by rw [e2_359]; exact lbK_pt hKb
              have hR8_ : lbR sc fn_359 sh st ic nn := by rw [e2_359]; exact lbR_pt hRb
              refine lv_iload (pc := 362) hx hb dL_build_362 (lv_at hl 0 rfl) ?_
              refine k_icmp_eq (pc := 364) (tgt := 369) hx hb ⟨by omega, by omega⟩ ⟨by omega, by omega⟩ dL_build_364 (by decide) (fun hc_364 => ?_) (fun hc_364 => ?_)
              · skip
                refine lv_iinc (pc := 369) (v := iI (i2 - 1)) (lv' := [(12, .int (iI (i2 - 1))), (11, .int (iI (u + 1))), (0, .ref (ad_359 0)), (1, .ref b), (2, .int (iI 0)), (3, .ref (ad_359 200)), (4, .int (iI n4)), (5, .int (iI cu)), (8, .int (iI pt))]) hx hb dL_build_369 hl (k := 1) rfl (by show iI _ + iI _ = _; rw [iI_add]; rfl) (by decide) rfl (fun ls hl => ?_)
                refine lv_goto (pc := 372) (tgt := 320) hx hb dL_build_372 (by decide) ?_
                exact ih_h320 ad_359 w_359 fn_359 (u + 1) (i2 - 1) hb_359 hI_359 hl_359 hg_359 hK8_ hR8_ hq8_ (by omega) (by omega) H locs hP hD hS ls (lv_sub hl [0, 1, 2, 3, 4, 5, 6, 7, 8] rfl)
              · skip
                exfalso
                omega
        exact lp_h320 _ ad_h255 w_h255 fn_h255 t (hf2 - 1) hbk_h255 hI_h255 hlb_h255 hg0_h255 hKa hRa (by rw [show hf2 - 1 + 1 = hf by omega]; exact hqa) (by omega) (Nat.lt_succ_self _) H locs hP hD hS ls (lv_sub hl [0, 1, 2, 3, 4, 5, 6, 7, 8] rfl)
      · skip
        refine lv_iinc (pc := 262) (v := iI (t + 1)) (lv' := [(11, .int (iI (t + 1))), (12, .int (iI j)), (0, .ref (ad_h255 0)), (1, .ref b), (2, .int (iI 0)), (3, .ref (ad_h255 200)), (4, .int (iI n4)), (5, .int (iI cu)), (8, .int (iI pt))]) hx hb dL_build_262 hl (k := 1) rfl (iI_add _ _) (by decide) rfl (fun ls hl => ?_)
        refine lv_aload_n (pc := 265) hx hb dL_build_265 rfl (lv_at hl 2 rfl) ?_
        refine lv_iload (pc := 266) hx hb dL_build_266 (lv_at hl 7 rfl) ?_
        refine lv_aload_n (pc := 268) hx hb dL_build_268 rfl (lv_at hl 5 rfl) ?_
        refine k_get (pc := 269) (ci := 6) (C := RX6) (T := TX6) (N := 5) hx hb hts hi6 hown hK hP 200 hlb_h255.1 rfl 0 (by decide) hf28 (fun _ h9 => h9) rfl dL_build_269 ?_
        refine lv_iload (pc := 272) hx hb dL_build_272 (lv_at hl 7 rfl) ?_
        refine k_aaldA (pc := 274) (o := some (ad_h255 (202 + cu.toNat))) hx hb hK hP 201 6 hlb_h255.2.1 rfl (by omega) (by omega) (by omega) (if_pos (show cu.toNat < 6 by omega)) dL_build_274 ?_
        refine W.eq (g2 := F0 m 275 ls [.ref (ad_h255 (202 + cu.toNat)), .int (iI cu), .ref (ad_h255 0)]) rfl ?_
        refine k_iconst (pc := 275) hx hb dL_build_275 ?_
        refine k_iconst (pc := 276) hx hb dL_build_276 ?_
        refine lv_iload (pc := 277) hx hb dL_build_277 (lv_at hl 1 rfl) ?_
        refine k_imul (pc := 279) hx hb dL_build_279 ?_
        refine k_iadd (pc := 280) hx hb dL_build_280 ?_
        refine k_iald (pc := 281) hx hb hK hP (202 + cu.toNat) 0 (hlb_h255.2.2.1 cu.toNat (by omega)) rfl (by omega) (by omega) (by omega) dL_build_281 ?_
        refine lv_aload_n (pc := 282) hx hb dL_build_282 rfl (lv_at hl 5 rfl) ?_
        refine k_get (pc := 283) (ci := 6) (C := RX6) (T := TX6) (N := 5) hx hb hts hi6 hown hK hP 200 hlb_h255.1 rfl 0 (by decide) hf28 (fun _ h9 => h9) rfl dL_build_283 ?_
        refine lv_iload (pc := 286) hx hb dL_build_286 (lv_at hl 7 rfl) ?_
        refine k_aaldA (pc := 288) (o := some (ad_h255 (202 + cu.toNat))) hx hb hK hP 201 6 hlb_h255.2.1 rfl (by omega) (by omega) (by omega) (if_pos (show cu.toNat < 6 by omega)) dL_build_288 ?_
        refine W.eq (g2 := F0 m 289 ls [.ref (ad_h255 (202 + cu.toNat)), .int (iI ((cv cu.toNat) (2 + (2 * j)))), .int (iI cu), .ref (ad_h255 0)]) rfl ?_
        refine k_iconst (pc := 289) hx hb dL_build_289 ?_
        refine k_iconst (pc := 290) hx hb dL_build_290 ?_
        refine lv_iload (pc := 291) hx hb dL_build_291 (lv_at hl 1 rfl) ?_
        refine k_imul (pc := 293) hx hb dL_build_293 ?_
        refine k_iadd (pc := 294) hx hb dL_build_294 ?_
        refine k_iald (pc := 295) hx hb hK hP (202 + cu.toNat) 0 (hlb_h255.2.2.1 cu.toNat (by omega)) rfl (by omega) (by omega) (by omega) dL_build_295 ?_
        refine k_call1 (pc := 296) (va_runV (As := [.int (iI cu), .int (iI ((cv cu.toNat) (2 + (2 * j)))), .int (iI ((cv cu.toNat) (3 + (2 * j))))]) (rest := []) ⟨hx, hb, hml, hown, hts⟩ (c_X5_addPoint_b l D cA ad_h255 w_h255 H.size sc fn_h255 hI_h255 hbk_h255 cu ((cv cu.toNat) (2 + (2 * j))) ((cv cu.toNat) (3 + (2 * j))) (by omega) (by omega) (by omega) (by omega) (by omega) (fun k9 p9 c1 c2 => by have j9_ : j = hf + t := (by omega); rw [j9_] at c2 ⊢; exact (cv_up hqa hg (by omega) c1 c2).2)) (cwV 3 hts gL_build_X5_addPoint rfl rfl rfl (by decide +kernel) ⟨Nat.le_of_ble_eq_true rfl, Nat.le_of_ble_eq_true rfl⟩) (gV_V hP hD hK hB hS hA hZ 0 (ci := 5) rfl hq_h255) rfl rfl hl.1 rfl (lv_room (Nat.le_of_ble_eq_true rfl)) dL_build_296 ⟨Nat.le_trans (show nc + 0 ≤ nc + 0 by omega) hnc.1, Nat.le_trans (show ns + 0 ≤ ns + 0 by omega) hnc.2⟩) hS (gA_sub hD hS hA) (fun v_296 ad_296 w_296 H locs hv_296 hP hD hS => ?_)
        obtain ⟨sc_296, fn_296, hb_296, hI_296, hk_296, hs_296⟩ := hv_296
        obtain ⟨e1_296, k_296, p_296, hc_296, hk9_296, e2_296, hp_296, -, -, hr_296⟩ := hs_296
        rw [e1_296] at hb_296 hI_296
        subst hr_296
        have hl_296 := lbS_keep hk_296 hlb_h255
        have hg_296 : ad_296 0 = g0 := hk_296.1.trans hg0_h255
        obtain ⟨fs_296, hq_296⟩ := bookS_0 hb_296
        rw [← hk_296.1] at hl
        rw [← (hk_296.2 200 (by omega)).2] at hl
        refine W.eq (g2 := F0 m 299 ls [.int (iI (fn_h255 9 cu + 1))]) rfl ?_
        refine W.cs (cells' := nc) (slots' := ns) rfl rfl ?_
        have j9_ : j = hf + t := by omega
        have hp9_ : p_296 = t := (cv_up (pp := p_296) hqa hg (by omega) hc_296 (by rw [← j9_]; exact hp_296)).1
        have hq9_ : cvQ fn_296 cu (cv cu.toNat) hf (t + 1) := by rw [e2_296, hp9_, j9_]; exact cv_up2 hqa (by omega) (by omega) hc_296
        have hK9_ : lbK sc fn_296 (cu + 1) := by rw [e2_296]; exact lbK_pt hKa
        have hR9_ : lbR sc fn_296 sh st ic nn := by rw [e2_296]; exact lbR_pt hRa
        refine lv_iload (pc := 299) hx hb dL_build_299 (lv_at hl 0 rfl) ?_
        refine k_icmp_eq (pc := 301) (tgt := 306) hx hb ⟨by omega, by omega⟩ ⟨by omega, by omega⟩ dL_build_301 (by decide) (fun hc_301 => ?_) (fun hc_301 => ?_)
        · skip
          refine lv_iinc (pc := 306) (v := iI (j + 1)) (lv' := [(12, .int (iI (j + 1))), (11, .int (iI (t + 1))), (0, .ref (ad_296 0)), (1, .ref b), (2, .int (iI 0)), (3, .ref (ad_296 200)), (4, .int (iI n4)), (5, .int (iI cu)), (8, .int (iI pt))]) hx hb dL_build_306 hl (k := 1) rfl (iI_add _ _) (by decide) rfl (fun ls hl => ?_)
          refine lv_goto (pc := 309) (tgt := 255) hx hb dL_build_309 (by decide) ?_
          exact ih_h255 ad_296 w_296 fn_296 (t + 1) (j + 1) hb_296 hI_296 hl_296 hg_296 hK9_ hR9_ hq9_ (by omega) (by omega) H locs hP hD hS ls (lv_sub hl [0, 1, 2, 3, 4, 5, 6, 7, 8] rfl)
        · skip
          exfalso
          omega
  exact lp_h255 _ ad w fn 0 hf hbk hI hlb hg0 h1 h2 (cvQ_0 h3) (by omega) (Nat.lt_succ_self _) H locs hP hD hS ls (lv_sub hl [0, 1, 2, 3, 4, 5, 6, 7, 8] rfl)
