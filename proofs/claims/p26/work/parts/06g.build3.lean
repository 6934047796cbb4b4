set_option maxHeartbeats 8000000 in
set_option maxRecDepth 100000 in
theorem lb_G {p : Program} {e : Env} {s : State} {m : MethodId} {args : Array Value} {below : List Frame} {meth : Method} {c : Code} {l : Launch} {D : va_G} {cA : Nat → ClassId} {A : Nat → Prop} {b L : Nat} {xs : Nat → Int32} {g0 : Nat} (C : lbC p l s m args c D cA A b L xs) (Q9 : State → Prop) (hret : meth.sig.returnType = some (.object "GaugeBookLaw$Book")) (hlocks : meth.locks = false) (hQ9 : Q9 = MQ below (gW D (fun v9 ad1 w1 => v9 = some (.ref (ad1 200)) ∧ ad1 0 = g0 ∧ ∃ (sc : Nat → Int) (fn : Nat → Int → Int) (sh st ic nn : Int → Int) (cv : Nat → Int → Int), bookS cA ad1 w1 sc fn ∧ bkInv sc fn ∧ lbS cA ad1 w1 sh st ic nn cv ∧ rlD fn st ∧ rlI fn ic ∧ nn 1 = sc 3) A) args s 30 2000 A)
  (ad : Nat → Nat) (w : Nat → Option va_E) (sc : Nat → Int) (fn : Nat → Int → Int) (sh : Int → Int) (st : Int → Int) (ic : Int → Int) (nn : Int → Int) (cv : Nat → Int → Int) (H : Heap) (locs : List Loc) (ls : Array Slot) (hbk : bookS cA ad w sc fn) (hI : bkInv sc fn) (hlb : lbS cA ad w sh st ic nn cv) (hg0 : ad 0 = g0) (hR : lbR sc fn sh st ic nn) (hP : gP D vwCl ad w H) (hD : gD A ad w) (hS : va_S A s.heap H locs) (hl : lv_has ls 18 [(0, .ref (ad 0)), (1, .ref b), (2, .int (iI 0)), (3, .ref (ad 200))]) : W p l e rmL_build s m args below meth c H locs 21 1479 Q9 (F0 m 897 ls []) := by
  obtain ⟨hx, hb, hml, hown, hts, hK, hB, hZ, hA, hX, hbl, hbA, hL⟩ := C
  obtain ⟨fs0, hq0⟩ := bookS_0 hbk
  have hs2_ := hR.2.2.2.2.1
  have hi6 := hiL_build_6
  have hf32 := hts (.fieldLink RL 32 "GaugeBookLaw$Book" "n" "[I") (by decide +kernel)
  refine lv_aload_n (pc := 897) hx hb dL_build_897 rfl (lv_at hl 1 rfl) ?_
  refine lv_iload_n (pc := 898) hx hb dL_build_898 rfl (lv_at hl 2 rfl) ?_
  refine k_bipush (pc := 899) hx hb dL_build_899 (by decide +kernel) ?_
  refine k_iadd (pc := 901) hx hb dL_build_901 ?_
  refine k_call0 (pc := 902) (va_runS (As := [.ref b, .int (iI (0 + 11))]) (rest := []) ⟨hx, hb, hml, hown, hts⟩ (c_L_cell l b L xs hL (0 + 11) (by omega)) (va_cwS 2 hts gL_build_L_cell rfl rfl rfl (by decide +kernel) ⟨Nat.le_of_ble_eq_true rfl, Nat.le_of_ble_eq_true rfl⟩) (gS_S hX hbl hbA hS)  rfl rfl hl.1 rfl (lv_room (Nat.le_of_ble_eq_true rfl)) dL_build_902 ⟨Nat.le_of_ble_eq_true rfl, Nat.le_of_ble_eq_true rfl⟩) (fun v_902 hv_902 => ?_)
  obtain ⟨z_902, rfl, hz_902⟩ := hv_902
  refine W.eq (g2 := F0 m 905 ls [.int (iI z_902)]) rfl ?_
  refine lv_istore (pc := 905) (lv' := [(6, .int (iI z_902)), (0, .ref (ad 0)), (1, .ref b), (2, .int (iI 0)), (3, .ref (ad 200))]) hx hb dL_build_905 hl (by decide) rfl (fun ls hl => ?_)
  refine lv_iload (pc := 907) hx hb dL_build_907 (lv_at hl 0 rfl) ?_
  refine k_iconst (pc := 909) hx hb dL_build_909 ?_
  refine k_call0 (pc := 910) (va_runS (As := [.int (iI z_902), .int (iI 3)]) (rest := []) ⟨hx, hb, hml, hown, hts⟩ (c_L_below l D cA ad w z_902 3 (by omega)) (va_cwS 2 hts gL_build_L_below rfl rfl rfl (by decide +kernel) ⟨Nat.le_of_ble_eq_true rfl, Nat.le_of_ble_eq_true rfl⟩) (gR_S hP hK hB) rfl rfl hl.1 rfl (lv_room (Nat.le_of_ble_eq_true rfl)) dL_build_910 ⟨Nat.le_of_ble_eq_true rfl, Nat.le_of_ble_eq_true rfl⟩) (fun v_910 hv_910 => ?_)
  obtain ⟨z_910, rfl, hz_910⟩ := hv_910
  refine W.eq (g2 := F0 m 913 ls [.int (iI z_910)]) rfl ?_
  refine k_if_le (pc := 913) (tgt := 969) hx hb ⟨by omega, by omega⟩ dL_build_913 (by decide) (fun hc_913 => ?_) (fun hc_913 => ?_)
  · skip
    refine lv_aload_n (pc := 969) hx hb dL_build_969 rfl (lv_at hl 4 rfl) ?_
    rw [hQ9]
    refine W.widen (k := 30) (n := 2000) (by decide) (by decide) ?_
    exact W.aret (v := .ref (ad 200)) hx hb hret (Or.inl ⟨_, rfl⟩) (Or.inr ⟨_, rfl⟩) (fun t ht hW => ⟨⟨some (.ref (ad 200)), ad, w, rfl, ⟨rfl, hg0, sc, fn, sh, st, ic, nn, cv, hbk, hI, hlb, hR.2.1, hR.2.2.1, (hR.2.2.2.1.trans hR.2.2.2.2.2.symm)⟩, by rw [ht]; exact hP, hD⟩, hS.F ht⟩) hS.2.2 dL_build_970
  · skip
    refine lv_aload_n (pc := 916) hx hb dL_build_916 rfl (lv_at hl 4 rfl) ?_
    refine k_get (pc := 917) (ci := 6) (C := RX6) (T := TX6) (N := 5) hx hb hts hi6 hown hK hP 200 hlb.1 rfl 4 (by decide) hf32 (fun _ h9 => h9) rfl dL_build_917 ?_
    refine k_iconst (pc := 920) hx hb dL_build_920 ?_
    refine lv_iload (pc := 921) hx hb dL_build_921 (lv_at hl 0 rfl) ?_
    refine k_iconst (pc := 923) hx hb dL_build_923 ?_
    refine k_ishr (pc := 924) hx hb dL_build_924 ?_
    refine k_bipush (pc := 925) hx hb dL_build_925 (by decide +kernel) ?_
    refine k_call0 (pc := 927) (va_runS (As := [.int (iI (iShr z_902 2)), .int (iI 101)]) (rest := [.int (iI 0), .ref (ad 211)]) ⟨hx, hb, hml, hown, hts⟩ (c_L_below l D cA ad w (iShr z_902 2) 101 (by omega)) (va_cwS 2 hts gL_build_L_below rfl rfl rfl (by decide +kernel) ⟨Nat.le_of_ble_eq_true rfl, Nat.le_of_ble_eq_true rfl⟩) (gR_S hP hK hB) rfl rfl hl.1 rfl (lv_room (Nat.le_of_ble_eq_true rfl)) dL_build_927 ⟨Nat.le_of_ble_eq_true rfl, Nat.le_of_ble_eq_true rfl⟩) (fun v_927 hv_927 => ?_)
    obtain ⟨z_927, rfl, hz_927⟩ := hv_927
    refine W.eq (g2 := F0 m 930 ls [.int (iI z_927), .int (iI 0), .ref (ad 211)]) rfl ?_
    refine k_iast (pc := 930) (w1 := (up w 211 (eI (cA 0) 4 (updI nn 0 z_927)))) hx hb hK hP hD hS 211 0 hlb.2.2.2.2.2.2 rfl (by omega) (by omega) (by omega) rfl dL_build_930 (fun H locs hP hD hS => ?_)
    refine lv_aload_n (pc := 931) hx hb dL_build_931 rfl (lv_at hl 4 rfl) ?_
    refine k_get (pc := 932) (ci := 6) (C := RX6) (T := TX6) (N := 5) hx hb hts hi6 hown hK hP 200 (up_n (by decide) hlb.1) rfl 4 (by decide) hf32 (fun _ h9 => h9) rfl dL_build_932 ?_
    refine k_iconst (pc := 935) hx hb dL_build_935 ?_
    refine lv_iload (pc := 936) hx hb dL_build_936 (lv_at hl 0 rfl) ?_
    refine k_iconst (pc := 938) hx hb dL_build_938 ?_
    refine k_ishr (pc := 939) hx hb dL_build_939 ?_
    refine k_bipush (pc := 940) hx hb dL_build_940 (by decide +kernel) ?_
    refine k_call0 (pc := 942) (va_runS (As := [.int (iI (iShr z_902 5)), .int (iI 61)]) (rest := [.int (iI 1), .ref (ad 211)]) ⟨hx, hb, hml, hown, hts⟩ (c_L_below l D cA ad (up w 211 (eI (cA 0) 4 (updI nn 0 z_927))) (iShr z_902 5) 61 (by omega)) (va_cwS 2 hts gL_build_L_below rfl rfl rfl (by decide +kernel) ⟨Nat.le_of_ble_eq_true rfl, Nat.le_of_ble_eq_true rfl⟩) (gR_S hP hK hB) rfl rfl hl.1 rfl (lv_room (Nat.le_of_ble_eq_true rfl)) dL_build_942 ⟨Nat.le_of_ble_eq_true rfl, Nat.le_of_ble_eq_true rfl⟩) (fun v_942 hv_942 => ?_)
    obtain ⟨z_942, rfl, hz_942⟩ := hv_942
    refine W.eq (g2 := F0 m 945 ls [.int (iI z_942), .int (iI 1), .ref (ad 211)]) rfl ?_
    refine k_iast (pc := 945) (w1 := (up w 211 (eI (cA 0) 4 (updI (updI nn 0 z_927) 1 z_942)))) hx hb hK hP hD hS 211 0 (up_s _ _ _) rfl (by omega) (by omega) (by omega) (up_up _ _ _ _) dL_build_945 (fun H locs hP hD hS => ?_)
    refine lv_aload_n (pc := 946) hx hb dL_build_946 rfl (lv_at hl 1 rfl) ?_
    refine lv_aload_n (pc := 947) hx hb dL_build_947 rfl (lv_at hl 4 rfl) ?_
    refine k_get (pc := 948) (ci := 6) (C := RX6) (T := TX6) (N := 5) hx hb hts hi6 hown hK hP 200 (up_n (by decide) hlb.1) rfl 4 (by decide) hf32 (fun _ h9 => h9) rfl dL_build_948 ?_
    refine k_iconst (pc := 951) hx hb dL_build_951 ?_
    refine k_iald (pc := 952) hx hb hK hP 211 0 (up_s _ _ _) rfl (by omega) (by omega) (by omega) dL_build_952 ?_
    have he_953 : (updI (updI nn 0 z_927) 1 z_942) 0 = z_927 := by rw [updI_n _ _ (by decide), updI_s]
    rw [he_953]
    refine lv_aload_n (pc := 953) hx hb dL_build_953 rfl (lv_at hl 4 rfl) ?_
    refine k_get (pc := 954) (ci := 6) (C := RX6) (T := TX6) (N := 5) hx hb hts hi6 hown hK hP 200 (up_n (by decide) hlb.1) rfl 4 (by decide) hf32 (fun _ h9 => h9) rfl dL_build_954 ?_
    refine k_iconst (pc := 957) hx hb dL_build_957 ?_
    refine k_iald (pc := 958) hx hb hK hP 211 0 (up_s _ _ _) rfl (by omega) (by omega) (by omega) dL_build_958 ?_
    have he_959 : (updI (updI nn 0 z_927) 1 z_942) 1 = z_942 := updI_s _ _ _
    rw [he_959]
    refine k_call1 (pc := 959) (va_runV (As := [.int (iI z_927), .int (iI z_942)]) (rest := []) ⟨hx, hb, hml, hown, hts⟩ (c_X5_setRules_b l D cA ad (up w 211 (eI (cA 0) 4 (updI (updI nn 0 z_927) 1 z_942))) H.size sc fn hI (bookS_of hI (fun r hr => ⟨(up_n (by omega) rfl), rfl⟩) hbk) z_927 z_942 (by omega) (by omega) (by omega)) (cwV 2 hts gL_build_X5_setRules rfl rfl rfl (by decide +kernel) ⟨Nat.le_of_ble_eq_true rfl, Nat.le_of_ble_eq_true rfl⟩) (gV_V hP hD hK hB hS hA hZ 0 (ci := 5) rfl (up_n (by decide) hq0)) rfl rfl hl.1 rfl (lv_room (Nat.le_of_ble_eq_true rfl)) dL_build_959 ⟨Nat.le_of_ble_eq_true rfl, Nat.le_of_ble_eq_true rfl⟩) hS (gA_sub hD hS hA) (fun v_959 ad_959 w_959 H locs hv_959 hP hD hS => ?_)
    obtain ⟨sc_959, fn_959, hb_959, hI_959, hk_959, hs_959⟩ := hv_959
    obtain ⟨e1_959, e2_959, -, hr_959⟩ := hs_959
    rw [e2_959] at hb_959 hI_959
    subst hr_959
    have hl_959 := lbS_keep hk_959 (lbS_nn _ hlb)
    have hg_959 : ad_959 0 = g0 := hk_959.1.trans hg0
    obtain ⟨fs_959, hq_959⟩ := bookS_0 hb_959
    rw [← hk_959.1] at hl
    rw [← (hk_959.2 200 (by omega)).2] at hl
    refine W.eq (g2 := F0 m 962 ls [.int (iI (sc 2))]) rfl ?_
    refine W.cs (cells' := 21) (slots' := 1479) rfl rfl ?_
    refine k_bipush (pc := 962) hx hb dL_build_962 (by decide +kernel) ?_
    refine k_icmp_eq (pc := 964) (tgt := 969) hx hb ⟨by omega, by omega⟩ ⟨by omega, by omega⟩ dL_build_964 (by decide) (fun hc_964 => ?_) (fun hc_964 => ?_)
    · skip
      refine lv_aload_n (pc := 969) hx hb dL_build_969 rfl (lv_at hl 4 rfl) ?_
      rw [hQ9]
      refine W.widen (k := 30) (n := 2000) (by decide) (by decide) ?_
      exact W.aret (v := .ref (ad_959 200)) hx hb hret (Or.inl ⟨_, rfl⟩) (Or.inr ⟨_, rfl⟩) (fun t ht hW => ⟨⟨some (.ref (ad_959 200)), ad_959, w_959, rfl, ⟨rfl, hg_959, sc_959, fn, sh, st, ic, updI (updI nn 0 z_927) 1 z_942, cv, hb_959, hI_959, hl_959, hR.2.1, hR.2.2.1, (by rw [e1_959, updI_s]; rfl)⟩, by rw [ht]; exact hP, hD⟩, hS.F ht⟩) hS.2.2 dL_build_970
    · skip
      exfalso
      omega

theorem lbR_00 {sh st nn : Int → Int} (hz : ∀ j : Int, (0 ≤ j ∧ j < 400 → sh j = 9999 ∧ st j = 9999) ∧ (sh j = 9999 ∨ sh j = 0)) (hn : nn 1 = 5) : lbR sc00 fn00 sh st (fun _ => 0) nn := by
  refine ⟨⟨⟨fun d h1 h2 h3 => absurd ((hz d).1 ⟨h1, h2⟩).1 (usF_n.mp h3), fun i h1 h2 => ?_⟩, fun j => ?_⟩, fun j h1 h2 => ⟨fun _ => ((hz j).1 ⟨h1, h2⟩).2, fun z => absurd rfl z⟩, fun j h1 h2 => rfl, hn, rfl, rfl⟩
  · have h2 : i < 0 := h2
    omega
  · have := (hz j).2
    omega

set_option maxHeartbeats 8000000 in
set_option maxRecDepth 100000 in
theorem lb_start {p : Program} {e : Env} {s : State} {m : MethodId} {args : Array Value} {below : List Frame} {meth : Method} {c : Code} {l : Launch} {D : va_G} {cA : Nat → ClassId} {A : Nat → Prop} {b L : Nat} {xs : Nat → Int32} {g0 : Nat} (C : lbC p l s m args c D cA A b L xs) (Q9 : State → Prop)
  (kk : ∀ (n4 : Int) (hn : 0 ≤ n4 ∧ n4 ≤ 3) (ad : Nat → Nat) (w : Nat → Option va_E) (sc : Nat → Int) (fn : Nat → Int → Int) (sh : Int → Int) (st : Int → Int) (ic : Int → Int) (nn : Int → Int) (cv : Nat → Int → Int) (H : Heap) (locs : List Loc) (ls : Array Slot), bookS cA ad w sc fn → bkInv sc fn → lbS cA ad w sh st ic nn cv → ad 0 = g0 → (lbK sc fn 0) → (lbR sc fn sh st ic nn) → gP D vwCl ad w H → gD A ad w → va_S A s.heap H locs → lv_has ls 18 [(0, .ref (ad 0)), (1, .ref b), (2, .int (iI 0)), (3, .ref (ad 200)), (4, .int (iI n4)), (5, .int (iI 0))] → W p l e rmL_build s m args below meth c H locs 12 1395 Q9 (F0 m 22 ls []))
  (ad : Nat → Nat) (w : Nat → Option va_E) (H : Heap) (locs : List Loc) (ls : Array Slot) (hbk : bookS cA ad w sc00 fn00) (hg0 : ad 0 = g0) (hP : gP D vwCl ad w H) (hD : gD A ad w) (hS : va_S A s.heap H locs) (hl : lv_has ls 18 [(0, .ref (ad 0)), (1, .ref b), (2, .int (iI 0))]) : W p l e rmL_build s m args below meth c H locs 0 0 Q9 (F0 m 0 ls []) := by
  obtain ⟨hx, hb, hml, hown, hts, hK, hB, hZ, hA, hX, hbl, hbA, hL⟩ := C
  obtain ⟨fs0, hq0⟩ := bookS_0 hbk
  have hi6 := hiL_build_6
  refine k_new (pc := 0) (own := RL) (C := RX6) (T := TX6) (N := 5) (ci := 6) hx hb hts hi6 tyX6 tyX6_ok hown (hts (.classLink RL 9 RX6) (by decide +kernel)) (hts (.instantiable RX6 5) (by decide +kernel)) (hts (.initialized RX6) (by decide +kernel)) hK hP hD hS hA rfl 200 (fs := [.null, .null, .null, .null, .null]) (by intro j hj; rcases j with _ | _ | _ | _ | _ | j <;> first | rfl | omega) (Nat.le_of_ble_eq_true rfl) (Nat.le_of_ble_eq_true rfl) dL_build_0 (fun q_0 H hP hD hS => ?_)
  obtain ⟨ad_0, hga_0⟩ : ∃ z9 : Nat → Nat, adN ad 200 q_0 = z9 := ⟨_, rfl⟩
  rw [hga_0] at hP hD
  have hnn_0 : ∀ j9 : Nat, j9 ≠ 200 → ad j9 = ad_0 j9 := fun j9 h9_ => by rw [← hga_0, adN_n _ _ h9_]
  rw [show q_0 = ad_0 200 by rw [← hga_0, adN_s]]
  rw [hnn_0 0 (by omega)] at hl
  refine W.eq (g2 := F0 m 3 ls [.ref (ad_0 200)]) rfl ?_
  refine W.cs (cells' := 1) (slots' := 5) rfl rfl ?_
  refine lv_dup (pc := 3) hx hb dL_build_3 rfl ?_
  refine k_call1 (pc := 4) (va_runI (As := []) (rest := [.ref (ad_0 200)]) ⟨hx, hb, hml, hown, hts⟩ (c_X6_init l D cA ad_0 (up w 200 (oB 6 [.null, .null, .null, .null, .null])) H.size (up_s _ _ _)) (cwI 0 hts gL_build_X6_init rfl rfl rfl (hts (.initialized RX6) (by decide +kernel)) (hts (.methodLink RL 11 yX6_init) (by decide +kernel)) (hts (.instanceMethod yX6_init) (by decide +kernel)) rfl (by decide +kernel) ⟨Nat.le_of_ble_eq_true rfl, Nat.le_of_ble_eq_true rfl⟩) (gV_S hP hD hK hB hS hA hZ) rfl rfl hl.1 rfl (lv_room (Nat.le_of_ble_eq_true rfl)) dL_build_4 ⟨Nat.le_of_ble_eq_true rfl, Nat.le_of_ble_eq_true rfl⟩) hS (gA_sub hD hS hA) (fun v_4 ad_4 w_4 H locs hv_4 hP hD hS => ?_)
  obtain ⟨hvn, hlo_, h2_, sh, st, nn, hl_4, hz_4, hn5_⟩ := hv_4
  subst hvn
  have hb_4 : bookS cA ad_4 w_4 sc00 fn00 := bookS_of inv_00 (fun r hr => ⟨(hlo_ r hr).1.trans (up_n (by omega) rfl), (hlo_ r hr).2.trans (hnn_0 r (by omega)).symm⟩) hbk
  have hg_4 : ad_4 0 = g0 := ((hlo_ 0 (by omega)).2.trans (hnn_0 0 (by omega)).symm).trans hg0
  rw [← (hlo_ 0 (by omega)).2] at hl
  rw [← h2_]
  obtain ⟨fs_4, hq_4⟩ := bookS_0 hb_4
  refine W.eq (g2 := F0 m 7 ls [.ref (ad_4 200)]) rfl ?_
  refine W.cs (cells' := 12) (slots' := 1395) rfl rfl ?_
  refine lv_astore_n (pc := 7) (lv' := [(3, .ref (ad_4 200)), (0, .ref (ad_4 0)), (1, .ref b), (2, .int (iI 0))]) hx hb dL_build_7 rfl hl (by decide) rfl (fun ls hl => ?_)
  refine lv_aload_n (pc := 8) hx hb dL_build_8 rfl (lv_at hl 2 rfl) ?_
  refine lv_iload_n (pc := 9) hx hb dL_build_9 rfl (lv_at hl 3 rfl) ?_
  refine k_call0 (pc := 10) (va_runS (As := [.ref b, .int (iI 0)]) (rest := []) ⟨hx, hb, hml, hown, hts⟩ (c_L_cell l b L xs hL 0 (by omega)) (va_cwS 2 hts gL_build_L_cell rfl rfl rfl (by decide +kernel) ⟨Nat.le_of_ble_eq_true rfl, Nat.le_of_ble_eq_true rfl⟩) (gS_S hX hbl hbA hS)  rfl rfl hl.1 rfl (lv_room (Nat.le_of_ble_eq_true rfl)) dL_build_10 ⟨Nat.le_of_ble_eq_true rfl, Nat.le_of_ble_eq_true rfl⟩) (fun v_10 hv_10 => ?_)
  obtain ⟨z_10, rfl, hz_10⟩ := hv_10
  refine W.eq (g2 := F0 m 13 ls [.int (iI z_10)]) rfl ?_
  refine k_iconst (pc := 13) hx hb dL_build_13 ?_
  refine k_call0 (pc := 14) (va_runS (As := [.int (iI z_10), .int (iI 4)]) (rest := []) ⟨hx, hb, hml, hown, hts⟩ (c_L_below l D cA ad_4 w_4 z_10 4 (by omega)) (va_cwS 2 hts gL_build_L_below rfl rfl rfl (by decide +kernel) ⟨Nat.le_of_ble_eq_true rfl, Nat.le_of_ble_eq_true rfl⟩) (gR_S hP hK hB) rfl rfl hl.1 rfl (lv_room (Nat.le_of_ble_eq_true rfl)) dL_build_14 ⟨Nat.le_of_ble_eq_true rfl, Nat.le_of_ble_eq_true rfl⟩) (fun v_14 hv_14 => ?_)
  obtain ⟨z_14, rfl, hz_14⟩ := hv_14
  refine W.eq (g2 := F0 m 17 ls [.int (iI z_14)]) rfl ?_
  refine lv_istore (pc := 17) (lv' := [(4, .int (iI z_14)), (3, .ref (ad_4 200)), (0, .ref (ad_4 0)), (1, .ref b), (2, .int (iI 0))]) hx hb dL_build_17 hl (by decide) rfl (fun ls hl => ?_)
  refine k_iconst (pc := 19) hx hb dL_build_19 ?_
  refine lv_istore (pc := 20) (lv' := [(5, .int (iI 0)), (4, .int (iI z_14)), (3, .ref (ad_4 200)), (0, .ref (ad_4 0)), (1, .ref b), (2, .int (iI 0))]) hx hb dL_build_20 hl (by decide) rfl (fun ls hl => ?_)
  exact kk z_14 (by omega) ad_4 w_4 sc00 fn00 sh st (fun _ => 0) nn (fun _ _ => 0) H locs ls hb_4 inv_00 hl_4 hg_4 ⟨rfl, rfl, fun j a1 a2 => by omega⟩ (lbR_00 hz_4 hn5_) hP hD hS (lv_sub hl [3, 4, 5, 2, 1, 0] rfl)

set_option maxHeartbeats 8000000 in
set_option maxRecDepth 100000 in
theorem lb_curves {p : Program} {e : Env} {s : State} {m : MethodId} {args : Array Value} {below : List Frame} {meth : Method} {c : Code} {l : Launch} {D : va_G} {cA : Nat → ClassId} {A : Nat → Prop} {b L : Nat} {xs : Nat → Int32} {g0 : Nat} (C : lbC p l s m args c D cA A b L xs) (Q9 : State → Prop) (n4 : Int) (hn4 : 0 ≤ n4 ∧ n4 ≤ 3)
  (kk : ∀  (ad : Nat → Nat) (w : Nat → Option va_E) (sc : Nat → Int) (fn : Nat → Int → Int) (sh : Int → Int) (st : Int → Int) (ic : Int → Int) (nn : Int → Int) (cv : Nat → Int → Int) (H : Heap) (locs : List Loc) (ls : Array Slot), bookS cA ad w sc fn → bkInv sc fn → lbS cA ad w sh st ic nn cv → ad 0 = g0 → (lbR sc fn sh st ic nn) → (sc 1 = 0) → gP D vwCl ad w H → gD A ad w → va_S A s.heap H locs → lv_has ls 18 [(0, .ref (ad 0)), (1, .ref b), (2, .int (iI 0)), (3, .ref (ad 200))] → W p l e rmL_build s m args below meth c H locs 21 1479 Q9 (F0 m 381 ls [])) : ∀ (N9 : Nat) (cu : Int), 0 ≤ cu → cu ≤ n4 → (n4 - cu).toNat < N9 → ∀  (ad : Nat → Nat) (w : Nat → Option va_E) (sc : Nat → Int) (fn : Nat → Int → Int) (sh : Int → Int) (st : Int → Int) (ic : Int → Int) (nn : Int → Int) (cv : Nat → Int → Int) (H : Heap) (locs : List Loc) (ls : Array Slot), bookS cA ad w sc fn → bkInv sc fn → lbS cA ad w sh st ic nn cv → ad 0 = g0 → (lbK sc fn cu) → (lbR sc fn sh st ic nn) → gP D vwCl ad w H → gD A ad w → va_S A s.heap H locs → lv_has ls 18 [(0, .ref (ad 0)), (1, .ref b), (2, .int (iI 0)), (3, .ref (ad 200)), (4, .int (iI n4)), (5, .int (iI cu))] → W p l e rmL_build s m args below meth c H locs (12 + 3 * cu.toNat) (1395 + 28 * cu.toNat) Q9 (F0 m 22 ls []) := by
  have hC := C
  obtain ⟨hx, hb, hml, hown, hts, hK, hB, hZ, hA, hX, hbl, hbA, hL⟩ := C
  intro N9
  induction N9 with
  | zero => intro cu h1 h2 h3; exact absurd h3 (Nat.not_lt_zero _)
  | succ N9 ih =>
    intro cu h0 h4 hmu ad w sc fn sh st ic nn cv H locs ls hbk hI hlb hg0 hK1 hR hP hD hS hl
    refine lv_iload (pc := 22) hx hb dL_build_22 (lv_at hl 5 rfl) ?_
    refine lv_iload (pc := 24) hx hb dL_build_24 (lv_at hl 4 rfl) ?_
    refine k_icmp_ge (pc := 26) (tgt := 381) hx hb ⟨by omega, by omega⟩ ⟨by omega, by omega⟩ dL_build_26 (by decide) (fun hc => ?_) (fun hc => ?_)
    · refine W.widen (k := 21) (n := 1479) (by omega) (by omega) ?_
      exact kk ad w sc fn sh st ic nn cv H locs ls hbk hI hlb hg0 hR hK1.2.1 hP hD hS (lv_sub hl [0, 1, 2, 3] rfl)
    · have hnc : (12 + 3 * cu.toNat) + 3 ≤ rmL_build.cells ∧ (1395 + 28 * cu.toNat) + 28 ≤ rmL_build.slots := ⟨show (12 + 3 * cu.toNat) + 3 ≤ 30 by omega, show (1395 + 28 * cu.toNat) + 28 ≤ 2000 by omega⟩
      refine lb_A hC Q9 (12 + 3 * cu.toNat) (1395 + 28 * cu.toNat) hnc n4 cu ⟨h0, by omega, hn4.2⟩ ?_ ad w sc fn sh st ic nn cv H locs ls hbk hI hlb hg0 hK1 hR hP hD hS hl
      intro x6 pt hpt ad w sc fn sh st ic nn cv H locs ls hbk hI hlb hg0 h1 h2 h3 hP hD hS hl
      refine lb_B hC Q9 (12 + 3 * cu.toNat + 3) (1395 + 28 * cu.toNat + 28) hnc n4 cu x6 pt ⟨h0, by omega, hn4.2⟩ hpt ?_ ad w sc fn sh st ic nn cv H locs ls hbk hI hlb hg0 h1 h2 h3 hP hD hS hl
      intro ad w sc fn sh st ic nn cv H locs ls hbk hI hlb hg0 h1 h2 h3 hg hP hD hS hl
      refine lb_C hC Q9 (12 + 3 * cu.toNat + 3) (1395 + 28 * cu.toNat + 28) hnc n4 cu pt ⟨h0, by omega, hn4.2⟩ hpt ?_ ad w sc fn sh st ic nn cv H locs ls hbk hI hlb hg0 h1 h2 h3 hg hP hD hS hl
      intro ad w sc fn sh st ic nn cv H locs ls hbk hI hlb hg0 h1 h2 hP hD hS hl
      refine W.widen (k := 12 + 3 * (cu + 1).toNat) (n := 1395 + 28 * (cu + 1).toNat) (by omega) (by omega) ?_
      exact ih (cu + 1) (by omega) (by omega) (by omega) ad w sc fn sh st ic nn cv H locs ls hbk hI hlb hg0 h1 h2 hP hD hS hl

set_option maxHeartbeats 8000000 in
set_option maxRecDepth 100000 in
theorem c_L_build (l : Launch) (D : va_G) (cA : Nat → ClassId) (ad : Nat → Nat) (w : Nat → Option va_E) (sz b L : Nat) (xs : Nat → Int32) (hL : L ≤ 260) (hbk0 : bookS cA ad w sc00 fn00) : Met l yL_build wsL_build rmL_build (gVs D cA ad w sz b L xs [.ref (ad 0), .ref b, .int (iI 0)]) (gW D (fun v9 ad1 w1 => v9 = some (.ref (ad1 200)) ∧ ad1 0 = ad 0 ∧ ∃ (sc : Nat → Int) (fn : Nat → Int → Int) (sh st ic nn : Int → Int) (cv : Nat → Int → Int), bookS cA ad1 w1 sc fn ∧ bkInv sc fn ∧ lbS cA ad1 w1 sh st ic nn cv ∧ rlD fn st ∧ rlI fn ic ∧ nn 1 = sc 3) (gA ad w sz)) 30 2000 (gA ad w sz) := by
  refine Met.ofW (cc := cL_build) (maxL := 18) (ret := (some (.object "GaugeBookLaw$Book"))) (by decide) rfl ?_
  intro p e s m args below meth c s₁ B hml hv
  obtain ⟨hav, ⟨hsz, hP, hD0, hK, hB, hZ⟩, hX, hbl, hbA⟩ := hv
  have hx := B.exec
  have hb := B.bytes
  have hret := B.returns
  have hlocks := B.notSynchronized
  have hts := atoms_spec (ws := wsL_build) B.pre
  have hown : s.vm.findClass RL = some m.cls := findClass_of_methodNamed B.named
  subst hsz
  have hD := hD0.self (sz := s.heap.size)
  generalize hAe : gA ad w s.heap.size = A at hD hZ hbA ⊢
  have hA : ∀ q : Nat, s.heap.size ≤ q → A q := fun q h => by rw [← hAe]; exact Or.inr h
  have he9 : entryFrame m args 18 = F0 m 0 ((lg_sl ([.ref (ad 0), .ref b, .int (iI 0)] : List Value) ++ List.replicate (18 - (lg_sl ([.ref (ad 0), .ref b, .int (iI 0)] : List Value)).length) Slot.unset).toArray) [] := by rw [hav, lg_entry_eq]
  rw [he9]
  have hl := lv_entry ([.ref (ad 0), .ref b, .int (iI 0)] : List Value) (n := 18) (Nat.le_of_ble_eq_true rfl)
  generalize (lg_sl ([.ref (ad 0), .ref b, .int (iI 0)] : List Value) ++ List.replicate (18 - (lg_sl ([.ref (ad 0), .ref b, .int (iI 0)] : List Value)).length) Slot.unset).toArray = ls at hl ⊢
  have hl : lv_has ls 18 [(0, .ref (ad 0)), (1, .ref b), (2, .int (iI 0))] := hl
  obtain ⟨Q9, hQ9⟩ : ∃ z, z = MQ below (gW D (fun v9 ad1 w1 => v9 = some (.ref (ad1 200)) ∧ ad1 0 = ad 0 ∧ ∃ (sc : Nat → Int) (fn : Nat → Int → Int) (sh st ic nn : Int → Int) (cv : Nat → Int → Int), bookS cA ad1 w1 sc fn ∧ bkInv sc fn ∧ lbS cA ad1 w1 sh st ic nn cv ∧ rlD fn st ∧ rlI fn ic ∧ nn 1 = sc 3) A) args s 30 2000 A := ⟨_, rfl⟩
  rw [← hQ9]
  have C9 : lbC p l s m args c D cA A b L xs := ⟨hx, hb, hml, hown, hts, hK, hB, hZ, hA, hX, hbl, hbA, hL⟩
  show W p l e rmL_build s m args below meth c s.heap [] 0 0 Q9 (F0 m 0 ls [])
  refine lb_start C9 Q9 ?_ ad w s.heap [] ls hbk0 rfl hP hD va_S.rf hl
  intro n4 hn4 ad w sc fn sh st ic nn cv H locs ls hbk hI hlb hg0 h1 h2 hP hD hS hl
  refine lb_curves C9 Q9 n4 hn4 ?_ (n4.toNat + 1) 0 (by omega) (by omega) (by omega) ad w sc fn sh st ic nn cv H locs ls hbk hI hlb hg0 h1 h2 hP hD hS hl
  intro ad w sc fn sh st ic nn cv H locs ls hbk hI hlb hg0 h1 h2 hP hD hS hl
  refine lb_E C9 Q9 21 1479 ⟨by decide, by decide⟩ ?_ ad w sc fn sh st ic nn cv H locs ls hbk hI hlb hg0 h1 h2 hP hD hS hl
  intro ad w sc fn sh st ic nn cv H locs ls hbk hI hlb hg0 h1 hP hD hS hl
  refine lb_F C9 Q9 21 1479 ⟨by decide, by decide⟩ ?_ ad w sc fn sh st ic nn cv H locs ls hbk hI hlb hg0 h1 hP hD hS hl
  intro ad w sc fn sh st ic nn cv H locs ls hbk hI hlb hg0 h1 hP hD hS hl
  exact lb_G C9 Q9 hret hlocks hQ9 ad w sc fn sh st ic nn cv H locs ls hbk hI hlb hg0 h1 hP hD hS hl
