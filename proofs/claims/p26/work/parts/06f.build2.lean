set_option maxHeartbeats 8000000 in
set_option maxRecDepth 100000 in
theorem lb_E {p : Program} {e : Env} {s : State} {m : MethodId} {args : Array Value} {below : List Frame} {meth : Method} {c : Code} {l : Launch} {D : va_G} {cA : Nat → ClassId} {A : Nat → Prop} {b L : Nat} {xs : Nat → Int32} {g0 : Nat} (C : lbC p l s m args c D cA A b L xs) (Q9 : State → Prop) (nc ns : Nat) (hnc : nc + 0 ≤ rmL_build.cells ∧ ns + 0 ≤ rmL_build.slots) 
  (kk : ∀  (ad : Nat → Nat) (w : Nat → Option va_E) (sc : Nat → Int) (fn : Nat → Int → Int) (sh : Int → Int) (st : Int → Int) (ic : Int → Int) (nn : Int → Int) (cv : Nat → Int → Int) (H : Heap) (locs : List Loc) (ls : Array Slot), bookS cA ad w sc fn → bkInv sc fn → lbS cA ad w sh st ic nn cv → ad 0 = g0 → (lbR sc fn sh st ic nn) → gP D vwCl ad w H → gD A ad w → va_S A s.heap H locs → lv_has ls 18 [(0, .ref (ad 0)), (1, .ref b), (2, .int (iI 0)), (3, .ref (ad 200))] → W p l e rmL_build s m args below meth c H locs (nc + 0) (ns + 0) Q9 (F0 m 510 ls []))
  (ad : Nat → Nat) (w : Nat → Option va_E) (sc : Nat → Int) (fn : Nat → Int → Int) (sh : Int → Int) (st : Int → Int) (ic : Int → Int) (nn : Int → Int) (cv : Nat → Int → Int) (H : Heap) (locs : List Loc) (ls : Array Slot) (hbk : bookS cA ad w sc fn) (hI : bkInv sc fn) (hlb : lbS cA ad w sh st ic nn cv) (hg0 : ad 0 = g0) (hR : lbR sc fn sh st ic nn) (h1 : sc 1 = 0) (hP : gP D vwCl ad w H) (hD : gD A ad w) (hS : va_S A s.heap H locs) (hl : lv_has ls 18 [(0, .ref (ad 0)), (1, .ref b), (2, .int (iI 0)), (3, .ref (ad 200))]) : W p l e rmL_build s m args below meth c H locs nc ns Q9 (F0 m 381 ls []) := by
  obtain ⟨hx, hb, hml, hown, hts, hK, hB, hZ, hA, hX, hbl, hbA, hL⟩ := C
  obtain ⟨fs0, hq0⟩ := bookS_0 hbk
  have hi6 := hiL_build_6
  have hf32 := hts (.fieldLink RL 32 "GaugeBookLaw$Book" "n" "[I") (by decide +kernel)
  have hf46 := hts (.fieldLink RL 46 "GaugeBookLaw$Book" "shifts" "[I") (by decide +kernel)
  refine lv_aload_n (pc := 381) hx hb dL_build_381 rfl (lv_at hl 1 rfl) ?_
  refine lv_iload_n (pc := 382) hx hb dL_build_382 rfl (lv_at hl 2 rfl) ?_
  refine k_call0 (pc := 383) (va_runS (As := [.ref b, .int (iI 0)]) (rest := []) ⟨hx, hb, hml, hown, hts⟩ (c_L_cell l b L xs hL 0 (by omega)) (va_cwS 2 hts gL_build_L_cell rfl rfl rfl (by decide +kernel) ⟨Nat.le_of_ble_eq_true rfl, Nat.le_of_ble_eq_true rfl⟩) (gS_S hX hbl hbA hS)  rfl rfl hl.1 rfl (lv_room (Nat.le_of_ble_eq_true rfl)) dL_build_383 ⟨Nat.le_trans (show nc + 0 ≤ nc + 0 by omega) hnc.1, Nat.le_trans (show ns + 0 ≤ ns + 0 by omega) hnc.2⟩) (fun v_383 hv_383 => ?_)
  obtain ⟨z_383, rfl, hz_383⟩ := hv_383
  refine W.eq (g2 := F0 m 386 ls [.int (iI z_383)]) rfl ?_
  refine k_iconst (pc := 386) hx hb dL_build_386 ?_
  refine k_ishr (pc := 387) hx hb dL_build_387 ?_
  refine k_iconst (pc := 388) hx hb dL_build_388 ?_
  refine k_call0 (pc := 389) (va_runS (As := [.int (iI (iShr z_383 4)), .int (iI 5)]) (rest := []) ⟨hx, hb, hml, hown, hts⟩ (c_L_below l D cA ad w (iShr z_383 4) 5 (by omega)) (va_cwS 2 hts gL_build_L_below rfl rfl rfl (by decide +kernel) ⟨Nat.le_of_ble_eq_true rfl, Nat.le_of_ble_eq_true rfl⟩) (gR_S hP hK hB) rfl rfl hl.1 rfl (lv_room (Nat.le_of_ble_eq_true rfl)) dL_build_389 ⟨Nat.le_trans (show nc + 0 ≤ nc + 0 by omega) hnc.1, Nat.le_trans (show ns + 0 ≤ ns + 0 by omega) hnc.2⟩) (fun v_389 hv_389 => ?_)
  obtain ⟨z_389, rfl, hz_389⟩ := hv_389
  refine W.eq (g2 := F0 m 392 ls [.int (iI z_389)]) rfl ?_
  refine lv_istore (pc := 392) (lv' := [(5, .int (iI z_389)), (0, .ref (ad 0)), (1, .ref b), (2, .int (iI 0)), (3, .ref (ad 200))]) hx hb dL_build_392 hl (by decide) rfl (fun ls hl => ?_)
  refine k_iconst (pc := 394) hx hb dL_build_394 ?_
  refine lv_istore (pc := 395) (lv' := [(6, .int (iI 0)), (5, .int (iI z_389)), (0, .ref (ad 0)), (1, .ref b), (2, .int (iI 0)), (3, .ref (ad 200))]) hx hb dL_build_395 hl (by decide) rfl (fun ls hl => ?_)
  have lp_h397 : ∀ (N9 : Nat) (ad_h397 : Nat → Nat) (w_h397 : Nat → Option va_E) (sc_h397 : Nat → Int) (fn_h397 : Nat → Int → Int) (sh_h397 : Int → Int) (nn_h397 : Int → Int) (k : Int), (bookS cA ad_h397 w_h397 sc_h397 fn_h397) → (bkInv sc_h397 fn_h397) → (lbS cA ad_h397 w_h397 sh_h397 st ic nn_h397 cv) → (ad_h397 0 = g0) → (lbR sc_h397 fn_h397 sh_h397 st ic nn_h397) → (sc_h397 1 ≤ k) → (0 ≤ k ∧ k ≤ z_389) → (z_389 - k).toNat < N9 → ∀ (H : Heap) (locs : List Loc), gP D vwCl ad_h397 w_h397 H → gD A ad_h397 w_h397 → va_S A s.heap H locs → ∀ (ls : Array Slot), lv_has ls 18 [(6, .int (iI k)), (5, .int (iI z_389)), (0, .ref (ad_h397 0)), (1, .ref b), (2, .int (iI 0)), (3, .ref (ad_h397 200))] → W p l e rmL_build s m args below meth c H locs nc ns Q9 (F0 m 397 ls []) := by
    intro N9
    induction N9 with
    | zero => intro ad_h397 w_h397 sc_h397 fn_h397 sh_h397 nn_h397 k hbk_h397 hI_h397 hlb_h397 hg0_h397 hRa h1a i0 hmu; exact absurd hmu (Nat.not_lt_zero _)
    | succ N9 ih_h397 =>
      intro ad_h397 w_h397 sc_h397 fn_h397 sh_h397 nn_h397 k hbk_h397 hI_h397 hlb_h397 hg0_h397 hRa h1a i0 hmu_397 H locs hP hD hS ls hl
      obtain ⟨fs_h397, hq_h397⟩ := bookS_0 hbk_h397
      refine lv_iload (pc := 397) hx hb dL_build_397 (lv_at hl 0 rfl) ?_
      refine lv_iload (pc := 399) hx hb dL_build_399 (lv_at hl 1 rfl) ?_
      refine k_icmp_ge (pc := 401) (tgt := 510) hx hb ⟨by omega, by omega⟩ ⟨by omega, by omega⟩ dL_build_401 (by decide) (fun hc_401 => ?_) (fun hc_401 => ?_)
      · skip
        refine W.widen (k := nc + 0) (n := ns + 0) (by omega) (by omega) ?_
        exact kk  ad_h397 w_h397 sc_h397 fn_h397 sh_h397 st ic nn_h397 cv H locs ls hbk_h397 hI_h397 hlb_h397 hg0_h397 hRa hP hD hS (lv_sub hl [2, 3, 4, 5] rfl)
      · skip
        refine lv_aload_n (pc := 404) hx hb dL_build_404 rfl (lv_at hl 3 rfl) ?_
        refine lv_iload_n (pc := 405) hx hb dL_build_405 rfl (lv_at hl 4 rfl) ?_
        refine k_iconst (pc := 406) hx hb dL_build_406 ?_
        refine k_iadd (pc := 407) hx hb dL_build_407 ?_
        refine k_call0 (pc := 408) (va_runS (As := [.ref b, .int (iI (0 + 5))]) (rest := []) ⟨hx, hb, hml, hown, hts⟩ (c_L_cell l b L xs hL (0 + 5) (by omega)) (va_cwS 2 hts gL_build_L_cell rfl rfl rfl (by decide +kernel) ⟨Nat.le_of_ble_eq_true rfl, Nat.le_of_ble_eq_true rfl⟩) (gS_S hX hbl hbA hS)  rfl rfl hl.1 rfl (lv_room (Nat.le_of_ble_eq_true rfl)) dL_build_408 ⟨Nat.le_trans (show nc + 0 ≤ nc + 0 by omega) hnc.1, Nat.le_trans (show ns + 0 ≤ ns + 0 by omega) hnc.2⟩) (fun v_408 hv_408 => ?_)
        obtain ⟨z_408, rfl, hz_408⟩ := hv_408
        refine W.eq (g2 := F0 m 411 ls [.int (iI z_408)]) rfl ?_
        refine k_iconst (pc := 411) hx hb dL_build_411 ?_
        refine lv_iload (pc := 412) hx hb dL_build_412 (lv_at hl 0 rfl) ?_
        refine k_imul (pc := 414) hx hb dL_build_414 ?_
        refine k_ishr (pc := 415) hx hb dL_build_415 ?_
        refine k_sipush (pc := 416) hx hb dL_build_416 (by decide +kernel) ?_
        refine k_call0 (pc := 419) (va_runS (As := [.int (iI (iShr z_408 (5 * k))), .int (iI 200)]) (rest := []) ⟨hx, hb, hml, hown, hts⟩ (c_L_below l D cA ad_h397 w_h397 (iShr z_408 (5 * k)) 200 (by omega)) (va_cwS 2 hts gL_build_L_below rfl rfl rfl (by decide +kernel) ⟨Nat.le_of_ble_eq_true rfl, Nat.le_of_ble_eq_true rfl⟩) (gR_S hP hK hB) rfl rfl hl.1 rfl (lv_room (Nat.le_of_ble_eq_true rfl)) dL_build_419 ⟨Nat.le_trans (show nc + 0 ≤ nc + 0 by omega) hnc.1, Nat.le_trans (show ns + 0 ≤ ns + 0 by omega) hnc.2⟩) (fun v_419 hv_419 => ?_)
        obtain ⟨z_419, rfl, hz_419⟩ := hv_419
        refine W.eq (g2 := F0 m 422 ls [.int (iI z_419)]) rfl ?_
        refine lv_istore (pc := 422) (lv' := [(7, .int (iI z_419)), (6, .int (iI k)), (5, .int (iI z_389)), (0, .ref (ad_h397 0)), (1, .ref b), (2, .int (iI 0)), (3, .ref (ad_h397 200))]) hx hb dL_build_422 hl (by decide) rfl (fun ls hl => ?_)
        refine lv_aload_n (pc := 424) hx hb dL_build_424 rfl (lv_at hl 4 rfl) ?_
        refine lv_iload_n (pc := 425) hx hb dL_build_425 rfl (lv_at hl 5 rfl) ?_
        refine k_bipush (pc := 426) hx hb dL_build_426 (by decide +kernel) ?_
        refine k_iadd (pc := 428) hx hb dL_build_428 ?_
        refine k_call0 (pc := 429) (va_runS (As := [.ref b, .int (iI (0 + 6))]) (rest := []) ⟨hx, hb, hml, hown, hts⟩ (c_L_cell l b L xs hL (0 + 6) (by omega)) (va_cwS 2 hts gL_build_L_cell rfl rfl rfl (by decide +kernel) ⟨Nat.le_of_ble_eq_true rfl, Nat.le_of_ble_eq_true rfl⟩) (gS_S hX hbl hbA hS)  rfl rfl hl.1 rfl (lv_room (Nat.le_of_ble_eq_true rfl)) dL_build_429 ⟨Nat.le_trans (show nc + 0 ≤ nc + 0 by omega) hnc.1, Nat.le_trans (show ns + 0 ≤ ns + 0 by omega) hnc.2⟩) (fun v_429 hv_429 => ?_)
        obtain ⟨z_429, rfl, hz_429⟩ := hv_429
        refine W.eq (g2 := F0 m 432 ls [.int (iI z_429)]) rfl ?_
        refine k_iconst (pc := 432) hx hb dL_build_432 ?_
        refine lv_iload (pc := 433) hx hb dL_build_433 (lv_at hl 1 rfl) ?_
        refine k_imul (pc := 435) hx hb dL_build_435 ?_
        refine k_ishr (pc := 436) hx hb dL_build_436 ?_
        refine k_sipush (pc := 437) hx hb dL_build_437 (by decide +kernel) ?_
        refine k_call0 (pc := 440) (va_runS (As := [.int (iI (iShr z_429 (4 * k))), .int (iI 401)]) (rest := []) ⟨hx, hb, hml, hown, hts⟩ (c_L_below l D cA ad_h397 w_h397 (iShr z_429 (4 * k)) 401 (by omega)) (va_cwS 2 hts gL_build_L_below rfl rfl rfl (by decide +kernel) ⟨Nat.le_of_ble_eq_true rfl, Nat.le_of_ble_eq_true rfl⟩) (gR_S hP hK hB) rfl rfl hl.1 rfl (lv_room (Nat.le_of_ble_eq_true rfl)) dL_build_440 ⟨Nat.le_trans (show nc + 0 ≤ nc + 0 by omega) hnc.1, Nat.le_trans (show ns + 0 ≤ ns + 0 by omega) hnc.2⟩) (fun v_440 hv_440 => ?_)
        obtain ⟨z_440, rfl, hz_440⟩ := hv_440
        refine W.eq (g2 := F0 m 443 ls [.int (iI z_440)]) rfl ?_
        refine k_sipush (pc := 443) hx hb dL_build_443 (by decide +kernel) ?_
        refine k_isub (pc := 446) hx hb dL_build_446 ?_
        refine lv_istore (pc := 447) (lv' := [(8, .int (iI (z_440 - 200))), (7, .int (iI z_419)), (6, .int (iI k)), (5, .int (iI z_389)), (0, .ref (ad_h397 0)), (1, .ref b), (2, .int (iI 0)), (3, .ref (ad_h397 200))]) hx hb dL_build_447 hl (by decide) rfl (fun ls hl => ?_)
        refine lv_aload_n (pc := 449) hx hb dL_build_449 rfl (lv_at hl 4 rfl) ?_
        refine lv_iload (pc := 450) hx hb dL_build_450 (lv_at hl 1 rfl) ?_
        refine lv_iload (pc := 452) hx hb dL_build_452 (lv_at hl 0 rfl) ?_
        refine k_call1 (pc := 454) (va_runV (As := [.int (iI z_419), .int (iI (z_440 - 200))]) (rest := []) ⟨hx, hb, hml, hown, hts⟩ (c_X5_setShift_b l D cA ad_h397 w_h397 H.size sc_h397 fn_h397 hI_h397 hbk_h397 z_419 (z_440 - 200) (by omega) (by omega) (by omega) (by omega)) (cwV 2 hts gL_build_X5_setShift rfl rfl rfl (by decide +kernel) ⟨Nat.le_of_ble_eq_true rfl, Nat.le_of_ble_eq_true rfl⟩) (gV_V hP hD hK hB hS hA hZ 0 (ci := 5) rfl hq_h397) rfl rfl hl.1 rfl (lv_room (Nat.le_of_ble_eq_true rfl)) dL_build_454 ⟨Nat.le_trans (show nc + 0 ≤ nc + 0 by omega) hnc.1, Nat.le_trans (show ns + 0 ≤ ns + 0 by omega) hnc.2⟩) hS (gA_sub hD hS hA) (fun v_454 ad_454 w_454 H locs hv_454 hP hD hS => ?_)
        obtain ⟨sc_454, fn_454, hb_454, hI_454, hk_454, hs_454⟩ := hv_454
        obtain ⟨k_454, hk9_454, -, ho_454, hr_454⟩ := hs_454
        subst hr_454
        have hl_454 := lbS_keep hk_454 hlb_h397
        have hg_454 : ad_454 0 = g0 := hk_454.1.trans hg0_h397
        obtain ⟨fs_454, hq_454⟩ := bookS_0 hb_454
        rw [← hk_454.1] at hl
        rw [← (hk_454.2 200 (by omega)).2] at hl
        refine W.eq (g2 := F0 m 457 ls [.int (iI (sftF (fn_h397 0) (fn_h397 1) (sc_h397 1) z_419))]) rfl ?_
        refine W.cs (cells' := nc) (slots' := ns) rfl rfl ?_
        have hset_ := rlU_set hRa.1 hI_h397.2.1 hI_h397.1.2.1.1 hk9_454 (by omega) (by omega) ho_454
        have sb_ := sftF_bd hI_h397.1.2.1.1 hI_h397.2.1 z_419
        refine lv_aload_n (pc := 457) hx hb dL_build_457 rfl (lv_at hl 7 rfl) ?_
        refine lv_iload (pc := 458) hx hb dL_build_458 (lv_at hl 1 rfl) ?_
        refine k_call0 (pc := 460) (va_runV (As := [.int (iI z_419)]) (rest := [.int (iI (sftF (fn_h397 0) (fn_h397 1) (sc_h397 1) z_419))]) ⟨hx, hb, hml, hown, hts⟩ (c_X6_shift l D cA ad_454 w_454 sc_h397 fn_h397 sh_h397 hl_454.1 hl_454.2.2.2.1 hRa.1 hI_h397.2.1 hI_h397.1.2.1.1 z_419 (by omega)) (cwV 1 hts gL_build_X6_shift rfl rfl rfl (by decide +kernel) ⟨Nat.le_of_ble_eq_true rfl, Nat.le_of_ble_eq_true rfl⟩) (gR_V hP hK hB 200 (ci := 6) rfl hl_454.1) rfl rfl hl.1 rfl (lv_room (Nat.le_of_ble_eq_true rfl)) dL_build_460 ⟨Nat.le_trans (show nc + 0 ≤ nc + 0 by omega) hnc.1, Nat.le_trans (show ns + 0 ≤ ns + 0 by omega) hnc.2⟩) (fun v_460 hv_460 => ?_)
        obtain ⟨z_460, rfl, hz_460⟩ := hv_460
        refine W.eq (g2 := F0 m 463 ls [.int (iI z_460), .int (iI (sftF (fn_h397 0) (fn_h397 1) (sc_h397 1) z_419))]) rfl ?_
        refine k_icmp_eq (pc := 463) (tgt := 468) hx hb ⟨by omega, by omega⟩ ⟨by omega, by omega⟩ dL_build_463 (by decide) (fun hc_463 => ?_) (fun hc_463 => ?_)
        · skip
          refine lv_aload_n (pc := 468) hx hb dL_build_468 rfl (lv_at hl 7 rfl) ?_
          refine k_get (pc := 469) (ci := 6) (C := RX6) (T := TX6) (N := 5) hx hb hts hi6 hown hK hP 200 hl_454.1 rfl 4 (by decide) hf32 (fun _ h9 => h9) rfl dL_build_469 ?_
          refine k_iconst (pc := 472) hx hb dL_build_472 ?_
          refine lv_dup2_11 (pc := 473) hx hb dL_build_473 rfl rfl ?_
          refine k_iald (pc := 474) hx hb hK hP 211 0 hl_454.2.2.2.2.2.2 rfl (by omega) (by omega) (by omega) dL_build_474 ?_
          refine lv_aload_n (pc := 475) hx hb dL_build_475 rfl (lv_at hl 7 rfl) ?_
          refine k_get (pc := 476) (ci := 6) (C := RX6) (T := TX6) (N := 5) hx hb hts hi6 hown hK hP 200 hl_454.1 rfl 1 (by decide) hf46 (fun _ h9 => h9) rfl dL_build_476 ?_
          refine lv_iload (pc := 479) hx hb dL_build_479 (lv_at hl 1 rfl) ?_
          refine k_iald (pc := 481) hx hb hK hP 208 0 hl_454.2.2.2.1 rfl (by omega) (by omega) (by omega) dL_build_481 ?_
          have hq_481 := hRa.1.2 z_419
          refine k_sipush (pc := 482) hx hb dL_build_482 (by decide +kernel) ?_
          refine k_icmp_ne (pc := 485) (tgt := 492) hx hb ⟨by omega, by omega⟩ ⟨by omega, by omega⟩ dL_build_485 (by decide) (fun hc_485 => ?_) (fun hc_485 => ?_)
          · skip
            refine k_iconst (pc := 492) hx hb dL_build_492 ?_
            refine k_iadd (pc := 493) hx hb dL_build_493 ?_
            refine k_iast (pc := 494) (w1 := (up w_454 211 (eI (cA 0) 4 (updI nn_h397 3 ((nn_h397 3) + 0))))) hx hb hK hP hD hS 211 0 hl_454.2.2.2.2.2.2 rfl (by omega) (by omega) (by omega) rfl dL_build_494 (fun H locs hP hD hS => ?_)
            refine lv_aload_n (pc := 495) hx hb dL_build_495 rfl (lv_at hl 7 rfl) ?_
            refine k_get (pc := 496) (ci := 6) (C := RX6) (T := TX6) (N := 5) hx hb hts hi6 hown hK hP 200 (up_n (by decide) hl_454.1) rfl 1 (by decide) hf46 (fun _ h9 => h9) rfl dL_build_496 ?_
            refine lv_iload (pc := 499) hx hb dL_build_499 (lv_at hl 1 rfl) ?_
            refine lv_iload (pc := 501) hx hb dL_build_501 (lv_at hl 0 rfl) ?_
            refine k_iast (pc := 503) (w1 := (up (up w_454 211 (eI (cA 0) 4 (updI nn_h397 3 ((nn_h397 3) + 0)))) 208 (eI (cA 0) 400 (updI sh_h397 z_419 (z_440 - 200))))) hx hb hK hP hD hS 208 0 (up_n (by decide) hl_454.2.2.2.1) rfl (by omega) (by omega) (by omega) rfl dL_build_503 (fun H locs hP hD hS => ?_)
            refine lv_iinc (pc := 504) (v := iI (k + 1)) (lv' := [(6, .int (iI (k + 1))), (8, .int (iI (z_440 - 200))), (7, .int (iI z_419)), (5, .int (iI z_389)), (0, .ref (ad_454 0)), (1, .ref b), (2, .int (iI 0)), (3, .ref (ad_454 200))]) hx hb dL_build_504 hl (k := 2) rfl (iI_add _ _) (by decide) rfl (fun ls hl => ?_)
            refine lv_goto (pc := 507) (tgt := 397) hx hb dL_build_507 (by decide) ?_
            exact ih_h397 ad_454 (up (up w_454 211 (eI (cA 0) 4 (updI nn_h397 3 ((nn_h397 3) + 0)))) 208 (eI (cA 0) 400 (updI sh_h397 z_419 (z_440 - 200)))) sc_454 fn_454 (updI sh_h397 z_419 (z_440 - 200)) (updI nn_h397 3 ((nn_h397 3) + 0)) (k + 1) (bookS_of hI_454 (fun r hr => ⟨(up_n (by omega) (up_n (by omega) rfl)), rfl⟩) hb_454) hI_454 (lbS_sh _ (lbS_nn _ hl_454)) hg_454 (lbR_sh hRa hset_ (updI_n _ _ (by decide))) (by have h9_ := hset_.2.1; omega) (by omega) (by omega) H locs hP hD hS ls (lv_sub hl [0, 3, 4, 5, 6, 7] rfl)
          · skip
            refine k_iconst (pc := 488) hx hb dL_build_488 ?_
            refine lv_goto (pc := 489) (tgt := 493) hx hb dL_build_489 (by decide) ?_
            refine k_iadd (pc := 493) hx hb dL_build_493 ?_
            refine k_iast (pc := 494) (w1 := (up w_454 211 (eI (cA 0) 4 (updI nn_h397 3 ((nn_h397 3) + 1))))) hx hb hK hP hD hS 211 0 hl_454.2.2.2.2.2.2 rfl (by omega) (by omega) (by omega) rfl dL_build_494 (fun H locs hP hD hS => ?_)
            refine lv_aload_n (pc := 495) hx hb dL_build_495 rfl (lv_at hl 7 rfl) ?_
            refine k_get (pc := 496) (ci := 6) (C := RX6) (T := TX6) (N := 5) hx hb hts hi6 hown hK hP 200 (up_n (by decide) hl_454.1) rfl 1 (by decide) hf46 (fun _ h9 => h9) rfl dL_build_496 ?_
            refine lv_iload (pc := 499) hx hb dL_build_499 (lv_at hl 1 rfl) ?_
            refine lv_iload (pc := 501) hx hb dL_build_501 (lv_at hl 0 rfl) ?_
            refine k_iast (pc := 503) (w1 := (up (up w_454 211 (eI (cA 0) 4 (updI nn_h397 3 ((nn_h397 3) + 1)))) 208 (eI (cA 0) 400 (updI sh_h397 z_419 (z_440 - 200))))) hx hb hK hP hD hS 208 0 (up_n (by decide) hl_454.2.2.2.1) rfl (by omega) (by omega) (by omega) rfl dL_build_503 (fun H locs hP hD hS => ?_)
            refine lv_iinc (pc := 504) (v := iI (k + 1)) (lv' := [(6, .int (iI (k + 1))), (8, .int (iI (z_440 - 200))), (7, .int (iI z_419)), (5, .int (iI z_389)), (0, .ref (ad_454 0)), (1, .ref b), (2, .int (iI 0)), (3, .ref (ad_454 200))]) hx hb dL_build_504 hl (k := 2) rfl (iI_add _ _) (by decide) rfl (fun ls hl => ?_)
            refine lv_goto (pc := 507) (tgt := 397) hx hb dL_build_507 (by decide) ?_
            exact ih_h397 ad_454 (up (up w_454 211 (eI (cA 0) 4 (updI nn_h397 3 ((nn_h397 3) + 1)))) 208 (eI (cA 0) 400 (updI sh_h397 z_419 (z_440 - 200)))) sc_454 fn_454 (updI sh_h397 z_419 (z_440 - 200)) (updI nn_h397 3 ((nn_h397 3) + 1)) (k + 1) (bookS_of hI_454 (fun r hr => ⟨(up_n (by omega) (up_n (by omega) rfl)), rfl⟩) hb_454) hI_454 (lbS_sh _ (lbS_nn _ hl_454)) hg_454 (lbR_sh hRa hset_ (updI_n _ _ (by decide))) (by have h9_ := hset_.2.1; omega) (by omega) (by omega) H locs hP hD hS ls (lv_sub hl [0, 3, 4, 5, 6, 7] rfl)
        · skip
          exfalso
          omega
  exact lp_h397 _ ad w sc fn sh nn 0 hbk hI hlb hg0 hR (by omega) (by omega) (Nat.lt_succ_self _) H locs hP hD hS ls (lv_sub hl [0, 1, 2, 3, 4, 5] rfl)

set_option maxHeartbeats 8000000 in
set_option maxRecDepth 100000 in
theorem lb_F {p : Program} {e : Env} {s : State} {m : MethodId} {args : Array Value} {below : List Frame} {meth : Method} {c : Code} {l : Launch} {D : va_G} {cA : Nat → ClassId} {A : Nat → Prop} {b L : Nat} {xs : Nat → Int32} {g0 : Nat} (C : lbC p l s m args c D cA A b L xs) (Q9 : State → Prop) (nc ns : Nat) (hnc : nc + 0 ≤ rmL_build.cells ∧ ns + 0 ≤ rmL_build.slots) 
  (kk : ∀  (ad : Nat → Nat) (w : Nat → Option va_E) (sc : Nat → Int) (fn : Nat → Int → Int) (sh : Int → Int) (st : Int → Int) (ic : Int → Int) (nn : Int → Int) (cv : Nat → Int → Int) (H : Heap) (locs : List Loc) (ls : Array Slot), bookS cA ad w sc fn → bkInv sc fn → lbS cA ad w sh st ic nn cv → ad 0 = g0 → (lbR sc fn sh st ic nn) → gP D vwCl ad w H → gD A ad w → va_S A s.heap H locs → lv_has ls 18 [(0, .ref (ad 0)), (1, .ref b), (2, .int (iI 0)), (3, .ref (ad 200))] → W p l e rmL_build s m args below meth c H locs (nc + 0) (ns + 0) Q9 (F0 m 897 ls []))
  (ad : Nat → Nat) (w : Nat → Option va_E) (sc : Nat → Int) (fn : Nat → Int → Int) (sh : Int → Int) (st : Int → Int) (ic : Int → Int) (nn : Int → Int) (cv : Nat → Int → Int) (H : Heap) (locs : List Loc) (ls : Array Slot) (hbk : bookS cA ad w sc fn) (hI : bkInv sc fn) (hlb : lbS cA ad w sh st ic nn cv) (hg0 : ad 0 = g0) (hR : lbR sc fn sh st ic nn) (hP : gP D vwCl ad w H) (hD : gD A ad w) (hS : va_S A s.heap H locs) (hl : lv_has ls 18 [(0, .ref (ad 0)), (1, .ref b), (2, .int (iI 0)), (3, .ref (ad 200))]) : W p l e rmL_build s m args below meth c H locs nc ns Q9 (F0 m 510 ls []) := by
  obtain ⟨hx, hb, hml, hown, hts, hK, hB, hZ, hA, hX, hbl, hbA, hL⟩ := C
  obtain ⟨fs0, hq0⟩ := bookS_0 hbk
  have hi6 := hiL_build_6
  have hf49 := hts (.fieldLink RL 49 "GaugeBookLaw$Book" "stages" "[I") (by decide +kernel)
  have hf59 := hts (.fieldLink RL 59 "GaugeBookLaw$Book" "ice" "[Z") (by decide +kernel)
  refine k_iconst (pc := 510) hx hb dL_build_510 ?_
  refine lv_istore (pc := 511) (lv' := [(6, .int (iI 0)), (0, .ref (ad 0)), (1, .ref b), (2, .int (iI 0)), (3, .ref (ad 200))]) hx hb dL_build_511 hl (by decide) rfl (fun ls hl => ?_)
  have lp_h513 : ∀ (N9 : Nat) (ad_h513 : Nat → Nat) (w_h513 : Nat → Option va_E) (fn_h513 : Nat → Int → Int) (st_h513 : Int → Int) (ic_h513 : Int → Int) (k : Int), (bookS cA ad_h513 w_h513 sc fn_h513) → (bkInv sc fn_h513) → (lbS cA ad_h513 w_h513 sh st_h513 ic_h513 nn cv) → (ad_h513 0 = g0) → (lbR sc fn_h513 sh st_h513 ic_h513 nn) → (0 ≤ k ∧ k ≤ 6) → (6 - k).toNat < N9 → ∀ (H : Heap) (locs : List Loc), gP D vwCl ad_h513 w_h513 H → gD A ad_h513 w_h513 → va_S A s.heap H locs → ∀ (ls : Array Slot), lv_has ls 18 [(6, .int (iI k)), (0, .ref (ad_h513 0)), (1, .ref b), (2, .int (iI 0)), (3, .ref (ad_h513 200))] → W p l e rmL_build s m args below meth c H locs nc ns Q9 (F0 m 513 ls []) := by
    intro N9
    induction N9 with
    | zero => intro ad_h513 w_h513 fn_h513 st_h513 ic_h513 k hbk_h513 hI_h513 hlb_h513 hg0_h513 hRa i0 hmu; exact absurd hmu (Nat.not_lt_zero _)
    | succ N9 ih_h513 =>
      intro ad_h513 w_h513 fn_h513 st_h513 ic_h513 k hbk_h513 hI_h513 hlb_h513 hg0_h513 hRa i0 hmu_513 H locs hP hD hS ls hl
      obtain ⟨fs_h513, hq_h513⟩ := bookS_0 hbk_h513
      have d4_ : Int.tdiv k 4 = k / 4 := Int.tdiv_eq_ediv_of_nonneg (by omega)
      have d3_ : Int.tdiv k 3 = k / 3 := Int.tdiv_eq_ediv_of_nonneg (by omega)
      refine lv_iload (pc := 513) hx hb dL_build_513 (lv_at hl 0 rfl) ?_
      refine k_bipush (pc := 515) hx hb dL_build_515 (by decide +kernel) ?_
      refine k_icmp_ge (pc := 517) (tgt := 897) hx hb ⟨by omega, by omega⟩ ⟨by omega, by omega⟩ dL_build_517 (by decide) (fun hc_517 => ?_) (fun hc_517 => ?_)
      · skip
        refine W.widen (k := nc + 0) (n := ns + 0) (by omega) (by omega) ?_
        exact kk  ad_h513 w_h513 sc fn_h513 sh st_h513 ic_h513 nn cv H locs ls hbk_h513 hI_h513 hlb_h513 hg0_h513 hRa hP hD hS (lv_sub hl [1, 2, 3, 4] rfl)
      · skip
        refine lv_aload_n (pc := 520) hx hb dL_build_520 rfl (lv_at hl 2 rfl) ?_
        refine lv_iload_n (pc := 521) hx hb dL_build_521 rfl (lv_at hl 3 rfl) ?_
        refine k_bipush (pc := 522) hx hb dL_build_522 (by decide +kernel) ?_
        refine k_iadd (pc := 524) hx hb dL_build_524 ?_
        refine lv_iload (pc := 525) hx hb dL_build_525 (lv_at hl 0 rfl) ?_
        refine k_iconst (pc := 527) hx hb dL_build_527 ?_
        refine k_irem (pc := 528) hx hb ⟨by omega, by omega⟩ ⟨by omega, by omega⟩ (by omega) dL_build_528 ?_
        refine k_iadd (pc := 529) hx hb dL_build_529 ?_
        refine k_call0 (pc := 530) (va_runS (As := [.ref b, .int (iI ((0 + 7) + (k - Int.tdiv k 4 * 4)))]) (rest := []) ⟨hx, hb, hml, hown, hts⟩ (c_L_cell l b L xs hL ((0 + 7) + (k - Int.tdiv k 4 * 4)) (by omega)) (va_cwS 2 hts gL_build_L_cell rfl rfl rfl (by decide +kernel) ⟨Nat.le_of_ble_eq_true rfl, Nat.le_of_ble_eq_true rfl⟩) (gS_S hX hbl hbA hS)  rfl rfl hl.1 rfl (lv_room (Nat.le_of_ble_eq_true rfl)) dL_build_530 ⟨Nat.le_trans (show nc + 0 ≤ nc + 0 by omega) hnc.1, Nat.le_trans (show ns + 0 ≤ ns + 0 by omega) hnc.2⟩) (fun v_530 hv_530 => ?_)
        obtain ⟨z_530, rfl, hz_530⟩ := hv_530
        refine W.eq (g2 := F0 m 533 ls [.int (iI z_530)]) rfl ?_
        refine lv_iload (pc := 533) hx hb dL_build_533 (lv_at hl 0 rfl) ?_
        refine k_iconst (pc := 535) hx hb dL_build_535 ?_
        refine k_idiv (pc := 536) hx hb ⟨by omega, by omega⟩ ⟨by omega, by omega⟩ (by omega) dL_build_536 ?_
        refine k_bipush (pc := 537) hx hb dL_build_537 (by decide +kernel) ?_
        refine k_imul (pc := 539) hx hb dL_build_539 ?_
        refine k_ishr (pc := 540) hx hb dL_build_540 ?_
        obtain ⟨x7, hx7⟩ : ∃ x9 : Int, x9 = iShr z_530 ((Int.tdiv k 4) * 9) := ⟨_, rfl⟩
        rw [← hx7]
        refine lv_istore (pc := 541) (lv' := [(7, .int (iI x7)), (6, .int (iI k)), (0, .ref (ad_h513 0)), (1, .ref b), (2, .int (iI 0)), (3, .ref (ad_h513 200))]) hx hb dL_build_541 hl (by decide) rfl (fun ls hl => ?_)
        refine lv_iload (pc := 543) hx hb dL_build_543 (lv_at hl 0 rfl) ?_
        refine k_sipush (pc := 545) hx hb dL_build_545 (by decide +kernel) ?_
        refine k_call0 (pc := 548) (va_runS (As := [.int (iI x7), .int (iI 190)]) (rest := []) ⟨hx, hb, hml, hown, hts⟩ (c_L_below l D cA ad_h513 w_h513 x7 190 (by omega)) (va_cwS 2 hts gL_build_L_below rfl rfl rfl (by decide +kernel) ⟨Nat.le_of_ble_eq_true rfl, Nat.le_of_ble_eq_true rfl⟩) (gR_S hP hK hB) rfl rfl hl.1 rfl (lv_room (Nat.le_of_ble_eq_true rfl)) dL_build_548 ⟨Nat.le_trans (show nc + 0 ≤ nc + 0 by omega) hnc.1, Nat.le_trans (show ns + 0 ≤ ns + 0 by omega) hnc.2⟩) (fun v_548 hv_548 => ?_)
        obtain ⟨z_548, rfl, hz_548⟩ := hv_548
        refine W.eq (g2 := F0 m 551 ls [.int (iI z_548)]) rfl ?_
        obtain ⟨dd, hdd⟩ : ∃ x9 : Int, x9 = z_548 := ⟨_, rfl⟩
        rw [← hdd]
        refine lv_istore (pc := 551) (lv' := [(8, .int (iI dd)), (7, .int (iI x7)), (6, .int (iI k)), (0, .ref (ad_h513 0)), (1, .ref b), (2, .int (iI 0)), (3, .ref (ad_h513 200))]) hx hb dL_build_551 hl (by decide) rfl (fun ls hl => ?_)
        refine k_iconst (pc := 553) hx hb dL_build_553 ?_
        refine lv_iload (pc := 554) hx hb dL_build_554 (lv_at hl 1 rfl) ?_
        refine k_iconst (pc := 556) hx hb dL_build_556 ?_
        refine k_ishr (pc := 557) hx hb dL_build_557 ?_
        refine k_bipush (pc := 558) hx hb dL_build_558 (by decide +kernel) ?_
        refine k_call0 (pc := 560) (va_runS (As := [.int (iI (iShr x7 4)), .int (iI 40)]) (rest := [.int (iI 1)]) ⟨hx, hb, hml, hown, hts⟩ (c_L_below l D cA ad_h513 w_h513 (iShr x7 4) 40 (by omega)) (va_cwS 2 hts gL_build_L_below rfl rfl rfl (by decide +kernel) ⟨Nat.le_of_ble_eq_true rfl, Nat.le_of_ble_eq_true rfl⟩) (gR_S hP hK hB) rfl rfl hl.1 rfl (lv_room (Nat.le_of_ble_eq_true rfl)) dL_build_560 ⟨Nat.le_trans (show nc + 0 ≤ nc + 0 by omega) hnc.1, Nat.le_trans (show ns + 0 ≤ ns + 0 by omega) hnc.2⟩) (fun v_560 hv_560 => ?_)
        obtain ⟨z_560, rfl, hz_560⟩ := hv_560
        refine W.eq (g2 := F0 m 563 ls [.int (iI z_560), .int (iI 1)]) rfl ?_
        refine k_iadd (pc := 563) hx hb dL_build_563 ?_
        obtain ⟨dn, hdn⟩ : ∃ x9 : Int, x9 = 1 + z_560 := ⟨_, rfl⟩
        rw [← hdn]
        refine lv_istore (pc := 564) (lv' := [(9, .int (iI dn)), (8, .int (iI dd)), (7, .int (iI x7)), (6, .int (iI k)), (0, .ref (ad_h513 0)), (1, .ref b), (2, .int (iI 0)), (3, .ref (ad_h513 200))]) hx hb dL_build_564 hl (by decide) rfl (fun ls hl => ?_)
        refine lv_iload (pc := 566) hx hb dL_build_566 (lv_at hl 2 rfl) ?_
        refine k_bipush (pc := 568) hx hb dL_build_568 (by decide +kernel) ?_
        refine k_ishr (pc := 570) hx hb dL_build_570 ?_
        refine k_sipush (pc := 571) hx hb dL_build_571 (by decide +kernel) ?_
        refine k_call0 (pc := 574) (va_runS (As := [.int (iI (iShr x7 6)), .int (iI 400)]) (rest := []) ⟨hx, hb, hml, hown, hts⟩ (c_L_below l D cA ad_h513 w_h513 (iShr x7 6) 400 (by omega)) (va_cwS 2 hts gL_build_L_below rfl rfl rfl (by decide +kernel) ⟨Nat.le_of_ble_eq_true rfl, Nat.le_of_ble_eq_true rfl⟩) (gR_S hP hK hB) rfl rfl hl.1 rfl (lv_room (Nat.le_of_ble_eq_true rfl)) dL_build_574 ⟨Nat.le_trans (show nc + 0 ≤ nc + 0 by omega) hnc.1, Nat.le_trans (show ns + 0 ≤ ns + 0 by omega) hnc.2⟩) (fun v_574 hv_574 => ?_)
        obtain ⟨z_574, rfl, hz_574⟩ := hv_574
        refine W.eq (g2 := F0 m 577 ls [.int (iI z_574)]) rfl ?_
        refine k_sipush (pc := 577) hx hb dL_build_577 (by decide +kernel) ?_
        refine k_isub (pc := 580) hx hb dL_build_580 ?_
        obtain ⟨sg, hsg⟩ : ∃ x9 : Int, x9 = z_574 - 200 := ⟨_, rfl⟩
        rw [← hsg]
        refine lv_istore (pc := 581) (lv' := [(10, .int (iI sg)), (9, .int (iI dn)), (8, .int (iI dd)), (7, .int (iI x7)), (6, .int (iI k)), (0, .ref (ad_h513 0)), (1, .ref b), (2, .int (iI 0)), (3, .ref (ad_h513 200))]) hx hb dL_build_581 hl (by decide) rfl (fun ls hl => ?_)
        refine lv_iload (pc := 583) hx hb dL_build_583 (lv_at hl 3 rfl) ?_
        refine k_bipush (pc := 585) hx hb dL_build_585 (by decide +kernel) ?_
        refine k_ishr (pc := 587) hx hb dL_build_587 ?_
        refine k_bipush (pc := 588) hx hb dL_build_588 (by decide +kernel) ?_
        refine k_call0 (pc := 590) (va_runS (As := [.int (iI (iShr x7 8)), .int (iI 21)]) (rest := []) ⟨hx, hb, hml, hown, hts⟩ (c_L_below l D cA ad_h513 w_h513 (iShr x7 8) 21 (by omega)) (va_cwS 2 hts gL_build_L_below rfl rfl rfl (by decide +kernel) ⟨Nat.le_of_ble_eq_true rfl, Nat.le_of_ble_eq_true rfl⟩) (gR_S hP hK hB) rfl rfl hl.1 rfl (lv_room (Nat.le_of_ble_eq_true rfl)) dL_build_590 ⟨Nat.le_trans (show nc + 0 ≤ nc + 0 by omega) hnc.1, Nat.le_trans (show ns + 0 ≤ ns + 0 by omega) hnc.2⟩) (fun v_590 hv_590 => ?_)
        obtain ⟨z_590, rfl, hz_590⟩ := hv_590
        refine W.eq (g2 := F0 m 593 ls [.int (iI z_590)]) rfl ?_
        refine k_bipush (pc := 593) hx hb dL_build_593 (by decide +kernel) ?_
        refine k_isub (pc := 595) hx hb dL_build_595 ?_
        obtain ⟨ri, hri⟩ : ∃ x9 : Int, x9 = z_590 - 7 := ⟨_, rfl⟩
        rw [← hri]
        refine lv_istore (pc := 596) (lv' := [(11, .int (iI ri)), (10, .int (iI sg)), (9, .int (iI dn)), (8, .int (iI dd)), (7, .int (iI x7)), (6, .int (iI k)), (0, .ref (ad_h513 0)), (1, .ref b), (2, .int (iI 0)), (3, .ref (ad_h513 200))]) hx hb dL_build_596 hl (by decide) rfl (fun ls hl => ?_)
        refine k_iconst (pc := 598) hx hb dL_build_598 ?_
        refine lv_istore (pc := 599) (lv' := [(12, .int (iI 0)), (11, .int (iI ri)), (10, .int (iI sg)), (9, .int (iI dn)), (8, .int (iI dd)), (7, .int (iI x7)), (6, .int (iI k)), (0, .ref (ad_h513 0)), (1, .ref b), (2, .int (iI 0)), (3, .ref (ad_h513 200))]) hx hb dL_build_599 hl (by decide) rfl (fun ls hl => ?_)
        refine lv_iload (pc := 601) hx hb dL_build_601 (lv_at hl 4 rfl) ?_
        refine lv_istore (pc := 603) (lv' := [(13, .int (iI dd)), (12, .int (iI 0)), (11, .int (iI ri)), (10, .int (iI sg)), (9, .int (iI dn)), (8, .int (iI dd)), (7, .int (iI x7)), (6, .int (iI k)), (0, .ref (ad_h513 0)), (1, .ref b), (2, .int (iI 0)), (3, .ref (ad_h513 200))]) hx hb dL_build_603 hl (by decide) rfl (fun ls hl => ?_)
        have lp_605 : ∀ (N9 : Nat) (x : Int) (d9 : Int), (dd ≤ d9 ∧ d9 ≤ dd + dn) → (x = cntT (fn_h513 3) dd (d9 - dd).toNat) → (dd + dn - d9).toNat < N9 → ∀ (H : Heap) (locs : List Loc), gP D vwCl ad_h513 (up w_h513 209 (eI (cA 0) 400 (spanF st_h513 dd (d9 - dd) (fun j => sg + ri * (j - dd))))) H → gD A ad_h513 (up w_h513 209 (eI (cA 0) 400 (spanF st_h513 dd (d9 - dd) (fun j => sg + ri * (j - dd))))) → va_S A s.heap H locs → ∀ (ls : Array Slot), lv_has ls 18 [(13, .int (iI d9)), (12, .int (iI x)), (11, .int (iI ri)), (10, .int (iI sg)), (9, .int (iI dn)), (8, .int (iI dd)), (7, .int (iI x7)), (6, .int (iI k)), (0, .ref (ad_h513 0)), (1, .ref b), (2, .int (iI 0)), (3, .ref (ad_h513 200))] → W p l e rmL_build s m args below meth c H locs nc ns Q9 (F0 m 605 ls []) := by
          intro N9
          induction N9 with
          | zero => intro x d9 j0 jC hmu; exact absurd hmu (Nat.not_lt_zero _)
          | succ N9 ih_605 =>
            intro x d9 j0 jC hmu_605 H locs hP hD hS ls hl
            have rd_ := hRa.2.1 d9 (by omega) (by omega)
            have b2_ := hI_h513.2.2.1 d9
            have b3_ := hI_h513.2.2.2.1 d9
            refine lv_iload (pc := 605) hx hb dL_build_605 (lv_at hl 0 rfl) ?_
            refine lv_iload (pc := 607) hx hb dL_build_607 (lv_at hl 5 rfl) ?_
            refine lv_iload (pc := 609) hx hb dL_build_609 (lv_at hl 4 rfl) ?_
            refine k_iadd (pc := 611) hx hb dL_build_611 ?_
            refine k_icmp_ge (pc := 612) (tgt := 662) hx hb ⟨by omega, by omega⟩ ⟨by omega, by omega⟩ dL_build_612 (by decide) (fun hc_612 => ?_) (fun hc_612 => ?_)
            · skip
              have e6_ : d9 - dd = dn := by omega
              rw [e6_] at hP hD jC
              have cb_ := cntT_b (fn_h513 3) dd dn.toNat
              have w1_ : ri * (dn - 1) ≤ 13 * (dn - 1) := Int.mul_le_mul_of_nonneg_right (by omega) (by omega)
              have w2_ : (-7) * (dn - 1) ≤ ri * (dn - 1) := Int.mul_le_mul_of_nonneg_right (by omega) (by omega)
              refine lv_aload_n (pc := 662) hx hb dL_build_662 rfl (lv_at hl 8 rfl) ?_
              refine lv_iload (pc := 663) hx hb dL_build_663 (lv_at hl 5 rfl) ?_
              refine lv_iload (pc := 665) hx hb dL_build_665 (lv_at hl 4 rfl) ?_
              refine lv_iload (pc := 667) hx hb dL_build_667 (lv_at hl 3 rfl) ?_
              refine lv_iload (pc := 669) hx hb dL_build_669 (lv_at hl 2 rfl) ?_
              refine k_call1 (pc := 671) (va_runV (As := [.int (iI dd), .int (iI dn), .int (iI sg), .int (iI ri)]) (rest := []) ⟨hx, hb, hml, hown, hts⟩ (c_X5_read_b l D cA ad_h513 (up w_h513 209 (eI (cA 0) 400 (spanF st_h513 dd dn (fun j => sg + ri * (j - dd))))) H.size sc fn_h513 hI_h513 (bookS_of hI_h513 (fun r hr => ⟨(up_n (by omega) rfl), rfl⟩) hbk_h513) dd dn (by omega) (by omega) sg ri (by omega) (by omega) (by omega)) (cwV 4 hts gL_build_X5_read rfl rfl rfl (by decide +kernel) ⟨Nat.le_of_ble_eq_true rfl, Nat.le_of_ble_eq_true rfl⟩) (gV_V hP hD hK hB hS hA hZ 0 (ci := 5) rfl (up_n (by decide) hq_h513)) rfl rfl hl.1 rfl (lv_room (Nat.le_of_ble_eq_true rfl)) dL_build_671 ⟨Nat.le_trans (show nc + 0 ≤ nc + 0 by omega) hnc.1, Nat.le_trans (show ns + 0 ≤ ns + 0 by omega) hnc.2⟩) hS (gA_sub hD hS hA) (fun v_671 ad_671 w_671 H locs hv_671 hP hD hS => ?_)
              obtain ⟨sc_671, fn_671, hb_671, hI_671, hk_671, hs_671⟩ := hv_671
              obtain ⟨e1_671, e2_671, -, hr_671⟩ := hs_671
              rw [e1_671] at hb_671 hI_671
              subst hr_671
              have hl_671 := lbS_keep hk_671 (lbS_st _ hlb_h513)
              have hg_671 : ad_671 0 = g0 := hk_671.1.trans hg0_h513
              obtain ⟨fs_671, hq_671⟩ := bookS_0 hb_671
              rw [← hk_671.1] at hl
              rw [← (hk_671.2 200 (by omega)).2] at hl
              refine W.eq (g2 := F0 m 674 ls [.int (iI (cntT (fn_h513 3) dd (dn).toNat))]) rfl ?_
              refine W.cs (cells' := nc) (slots' := ns) rfl rfl ?_
              have hR1_ : lbR sc fn_671 sh (spanF st_h513 dd dn (fun j => sg + ri * (j - dd))) ic_h513 nn := by rw [e2_671]; exact lbR_rd (fun j => sg + ri * (j - dd)) hRa
              obtain ⟨st1, hst1⟩ : ∃ z9 : Int → Int, z9 = spanF st_h513 dd dn (fun j => sg + ri * (j - dd)) := ⟨_, rfl⟩
              rw [← hst1] at hl_671 hR1_
              refine lv_iload (pc := 674) hx hb dL_build_674 (lv_at hl 1 rfl) ?_
              refine k_icmp_eq (pc := 676) (tgt := 681) hx hb ⟨by omega, by omega⟩ ⟨by omega, by omega⟩ dL_build_676 (by decide) (fun hc_676 => ?_) (fun hc_676 => ?_)
              · skip
                refine k_iconst (pc := 681) hx hb dL_build_681 ?_
                refine lv_istore (pc := 682) (lv' := [(13, .int (iI 0)), (12, .int (iI x)), (11, .int (iI ri)), (10, .int (iI sg)), (9, .int (iI dn)), (8, .int (iI dd)), (7, .int (iI x7)), (6, .int (iI k)), (0, .ref (ad_671 0)), (1, .ref b), (2, .int (iI 0)), (3, .ref (ad_671 200))]) hx hb dL_build_682 hl (by decide) rfl (fun ls hl => ?_)
                refine lv_iload (pc := 684) hx hb dL_build_684 (lv_at hl 6 rfl) ?_
                refine k_iconst (pc := 686) hx hb dL_build_686 ?_
                refine k_ishr (pc := 687) hx hb dL_build_687 ?_
                refine k_sipush (pc := 688) hx hb dL_build_688 (by decide +kernel) ?_
                refine k_call0 (pc := 691) (va_runS (As := [.int (iI (iShr x7 3)), .int (iI 200)]) (rest := []) ⟨hx, hb, hml, hown, hts⟩ (c_L_below l D cA ad_671 w_671 (iShr x7 3) 200 (by omega)) (va_cwS 2 hts gL_build_L_below rfl rfl rfl (by decide +kernel) ⟨Nat.le_of_ble_eq_true rfl, Nat.le_of_ble_eq_true rfl⟩) (gR_S hP hK hB) rfl rfl hl.1 rfl (lv_room (Nat.le_of_ble_eq_true rfl)) dL_build_691 ⟨Nat.le_trans (show nc + 0 ≤ nc + 0 by omega) hnc.1, Nat.le_trans (show ns + 0 ≤ ns + 0 by omega) hnc.2⟩) (fun v_691 hv_691 => ?_)
                obtain ⟨z_691, rfl, hz_691⟩ := hv_691
                refine W.eq (g2 := F0 m 694 ls [.int (iI z_691)]) rfl ?_
                obtain ⟨ff, hff⟩ : ∃ x9 : Int, x9 = z_691 := ⟨_, rfl⟩
                rw [← hff]
                refine lv_istore (pc := 694) (lv' := [(14, .int (iI ff)), (13, .int (iI 0)), (12, .int (iI x)), (11, .int (iI ri)), (10, .int (iI sg)), (9, .int (iI dn)), (8, .int (iI dd)), (7, .int (iI x7)), (6, .int (iI k)), (0, .ref (ad_671 0)), (1, .ref b), (2, .int (iI 0)), (3, .ref (ad_671 200))]) hx hb dL_build_694 hl (by decide) rfl (fun ls hl => ?_)
                refine k_iconst (pc := 696) hx hb dL_build_696 ?_
                refine lv_iload (pc := 697) hx hb dL_build_697 (lv_at hl 7 rfl) ?_
                refine k_iconst (pc := 699) hx hb dL_build_699 ?_
                refine k_ishr (pc := 700) hx hb dL_build_700 ?_
                refine k_bipush (pc := 701) hx hb dL_build_701 (by decide +kernel) ?_
                refine k_call0 (pc := 703) (va_runS (As := [.int (iI (iShr x7 5)), .int (iI 12)]) (rest := [.int (iI 1)]) ⟨hx, hb, hml, hown, hts⟩ (c_L_below l D cA ad_671 w_671 (iShr x7 5) 12 (by omega)) (va_cwS 2 hts gL_build_L_below rfl rfl rfl (by decide +kernel) ⟨Nat.le_of_ble_eq_true rfl, Nat.le_of_ble_eq_true rfl⟩) (gR_S hP hK hB) rfl rfl hl.1 rfl (lv_room (Nat.le_of_ble_eq_true rfl)) dL_build_703 ⟨Nat.le_trans (show nc + 0 ≤ nc + 0 by omega) hnc.1, Nat.le_trans (show ns + 0 ≤ ns + 0 by omega) hnc.2⟩) (fun v_703 hv_703 => ?_)
                obtain ⟨z_703, rfl, hz_703⟩ := hv_703
                refine W.eq (g2 := F0 m 706 ls [.int (iI z_703), .int (iI 1)]) rfl ?_
                refine k_iadd (pc := 706) hx hb dL_build_706 ?_
                obtain ⟨fm, hfm⟩ : ∃ x9 : Int, x9 = 1 + z_703 := ⟨_, rfl⟩
                rw [← hfm]
                refine lv_istore (pc := 707) (lv' := [(15, .int (iI fm)), (14, .int (iI ff)), (13, .int (iI 0)), (12, .int (iI x)), (11, .int (iI ri)), (10, .int (iI sg)), (9, .int (iI dn)), (8, .int (iI dd)), (7, .int (iI x7)), (6, .int (iI k)), (0, .ref (ad_671 0)), (1, .ref b), (2, .int (iI 0)), (3, .ref (ad_671 200))]) hx hb dL_build_707 hl (by decide) rfl (fun ls hl => ?_)
                refine lv_iload (pc := 709) hx hb dL_build_709 (lv_at hl 1 rfl) ?_
                refine lv_istore (pc := 711) (lv' := [(16, .int (iI ff)), (15, .int (iI fm)), (14, .int (iI ff)), (13, .int (iI 0)), (12, .int (iI x)), (11, .int (iI ri)), (10, .int (iI sg)), (9, .int (iI dn)), (8, .int (iI dd)), (7, .int (iI x7)), (6, .int (iI k)), (0, .ref (ad_671 0)), (1, .ref b), (2, .int (iI 0)), (3, .ref (ad_671 200))]) hx hb dL_build_711 hl (by decide) rfl (fun ls hl => ?_)
                have lp_713 : ∀ (N9 : Nat) (y : Int) (d8 : Int), (ff ≤ d8 ∧ d8 ≤ ff + fm) → (y = cntT (fn_671 3) ff (d8 - ff).toNat) → (ff + fm - d8).toNat < N9 → ∀ (H : Heap) (locs : List Loc), gP D vwCl ad_671 (up w_671 209 (eI (cA 0) 400 (spanF st1 ff (d8 - ff) (fun _ => 9999)))) H → gD A ad_671 (up w_671 209 (eI (cA 0) 400 (spanF st1 ff (d8 - ff) (fun _ => 9999)))) → va_S A s.heap H locs → ∀ (ls : Array Slot), lv_has ls 18 [(16, .int (iI d8)), (15, .int (iI fm)), (14, .int (iI ff)), (13, .int (iI y)), (12, .int (iI x)), (11, .int (iI ri)), (10, .int (iI sg)), (9, .int (iI dn)), (8, .int (iI dd)), (7, .int (iI x7)), (6, .int (iI k)), (0, .ref (ad_671 0)), (1, .ref b), (2, .int (iI 0)), (3, .ref (ad_671 200))] → W p l e rmL_build s m args below meth c H locs nc ns Q9 (F0 m 713 ls []) := by
                  intro N9
                  induction N9 with
                  | zero => intro y d8 k0 kC hmu; exact absurd hmu (Nat.not_lt_zero _)
                  | succ N9 ih_713 =>
                    intro y d8 k0 kC hmu_713 H locs hP hD hS ls hl
                    have rd_ := hR1_.2.1 d8 (by omega) (by omega)
                    have b2_ := hI_671.2.2.1 d8
                    have b3_ := hI_671.2.2.2.1 d8
                    refine lv_iload (pc := 713) hx hb dL_build_713 (lv_at hl 0 rfl) ?_
                    refine lv_iload (pc := 715) hx hb dL_build_715 (lv_at hl 2 rfl) ?_
                    refine lv_iload (pc := 717) hx hb dL_build_717 (lv_at hl 1 rfl) ?_
                    refine k_iadd (pc := 719) hx hb dL_build_719 ?_
                    refine k_icmp_ge (pc := 720) (tgt := 762) hx hb ⟨by omega, by omega⟩ ⟨by omega, by omega⟩ dL_build_720 (by decide) (fun hc_720 => ?_) (fun hc_720 => ?_)
                    · skip
                      have e7_ : d8 - ff = fm := by omega
                      rw [e7_] at hP hD kC
                      have cc_ := cntT_b (fn_671 3) ff fm.toNat
                      refine lv_aload_n (pc := 762) hx hb dL_build_762 rfl (lv_at hl 11 rfl) ?_
                      refine lv_iload (pc := 763) hx hb dL_build_763 (lv_at hl 2 rfl) ?_
                      refine lv_iload (pc := 765) hx hb dL_build_765 (lv_at hl 1 rfl) ?_
                      refine k_call1 (pc := 767) (va_runV (As := [.int (iI ff), .int (iI fm)]) (rest := []) ⟨hx, hb, hml, hown, hts⟩ (c_X5_erase_b l D cA ad_671 (up w_671 209 (eI (cA 0) 400 (spanF st1 ff fm (fun _ => 9999)))) H.size sc fn_671 hI_671 (bookS_of hI_671 (fun r hr => ⟨(up_n (by omega) rfl), rfl⟩) hb_671) ff fm (by omega) (by omega) (by omega)) (cwV 2 hts gL_build_X5_erase rfl rfl rfl (by decide +kernel) ⟨Nat.le_of_ble_eq_true rfl, Nat.le_of_ble_eq_true rfl⟩) (gV_V hP hD hK hB hS hA hZ 0 (ci := 5) rfl (up_n (by decide) hq_671)) rfl rfl hl.1 rfl (lv_room (Nat.le_of_ble_eq_true rfl)) dL_build_767 ⟨Nat.le_trans (show nc + 0 ≤ nc + 0 by omega) hnc.1, Nat.le_trans (show ns + 0 ≤ ns + 0 by omega) hnc.2⟩) hS (gA_sub hD hS hA) (fun v_767 ad_767 w_767 H locs hv_767 hP hD hS => ?_)
                      obtain ⟨sc_767, fn_767, hb_767, hI_767, hk_767, hs_767⟩ := hv_767
                      obtain ⟨e1_767, e2_767, -, hr_767⟩ := hs_767
                      rw [e1_767] at hb_767 hI_767
                      subst hr_767
                      have hl_767 := lbS_keep hk_767 (lbS_st _ hl_671)
                      have hg_767 : ad_767 0 = g0 := hk_767.1.trans hg_671
                      obtain ⟨fs_767, hq_767⟩ := bookS_0 hb_767
                      rw [← hk_767.1] at hl
                      rw [← (hk_767.2 200 (by omega)).2] at hl
                      refine W.eq (g2 := F0 m 770 ls [.int (iI (cntT (fn_671 3) ff (fm).toNat))]) rfl ?_
                      refine W.cs (cells' := nc) (slots' := ns) rfl rfl ?_
                      have hR2_ : lbR sc fn_767 sh (spanF st1 ff fm (fun _ => 9999)) ic_h513 nn := by rw [e2_767]; exact lbR_er hR1_
                      obtain ⟨st2, hst2⟩ : ∃ z9 : Int → Int, z9 = spanF st1 ff fm (fun _ => 9999) := ⟨_, rfl⟩
                      rw [← hst2] at hl_767 hR2_
                      refine lv_iload (pc := 770) hx hb dL_build_770 (lv_at hl 3 rfl) ?_
                      refine k_icmp_eq (pc := 772) (tgt := 777) hx hb ⟨by omega, by omega⟩ ⟨by omega, by omega⟩ dL_build_772 (by decide) (fun hc_772 => ?_) (fun hc_772 => ?_)
                      · skip
                        obtain ⟨ib, hib⟩ : ∃ ib : Int, (k - Int.tdiv k 3 * 3 ≤ 0 ∧ ib = 0) ∨ (0 < k - Int.tdiv k 3 * 3 ∧ ib = 1) := by by_cases h9 : k - Int.tdiv k 3 * 3 ≤ 0; exact ⟨0, Or.inl ⟨h9, rfl⟩⟩; exact ⟨1, Or.inr ⟨by omega, rfl⟩⟩
                        refine k_iconst (pc := 777) hx hb dL_build_777 ?_
                        refine lv_istore (pc := 778) (lv' := [(16, .int (iI 0)), (15, .int (iI fm)), (14, .int (iI ff)), (13, .int (iI y)), (12, .int (iI x)), (11, .int (iI ri)), (10, .int (iI sg)), (9, .int (iI dn)), (8, .int (iI dd)), (7, .int (iI x7)), (6, .int (iI k)), (0, .ref (ad_767 0)), (1, .ref b), (2, .int (iI 0)), (3, .ref (ad_767 200))]) hx hb dL_build_778 hl (by decide) rfl (fun ls hl => ?_)
                        refine lv_iload (pc := 780) hx hb dL_build_780 (lv_at hl 9 rfl) ?_
                        refine k_bipush (pc := 782) hx hb dL_build_782 (by decide +kernel) ?_
                        refine k_ishr (pc := 784) hx hb dL_build_784 ?_
                        refine k_sipush (pc := 785) hx hb dL_build_785 (by decide +kernel) ?_
                        refine k_call0 (pc := 788) (va_runS (As := [.int (iI (iShr x7 7)), .int (iI 200)]) (rest := []) ⟨hx, hb, hml, hown, hts⟩ (c_L_below l D cA ad_767 w_767 (iShr x7 7) 200 (by omega)) (va_cwS 2 hts gL_build_L_below rfl rfl rfl (by decide +kernel) ⟨Nat.le_of_ble_eq_true rfl, Nat.le_of_ble_eq_true rfl⟩) (gR_S hP hK hB) rfl rfl hl.1 rfl (lv_room (Nat.le_of_ble_eq_true rfl)) dL_build_788 ⟨Nat.le_trans (show nc + 0 ≤ nc + 0 by omega) hnc.1, Nat.le_trans (show ns + 0 ≤ ns + 0 by omega) hnc.2⟩) (fun v_788 hv_788 => ?_)
                        obtain ⟨z_788, rfl, hz_788⟩ := hv_788
                        refine W.eq (g2 := F0 m 791 ls [.int (iI z_788)]) rfl ?_
                        obtain ⟨fz, hfz⟩ : ∃ x9 : Int, x9 = z_788 := ⟨_, rfl⟩
                        rw [← hfz]
                        refine lv_istore (pc := 791) (lv' := [(14, .int (iI fz)), (16, .int (iI 0)), (15, .int (iI fm)), (13, .int (iI y)), (12, .int (iI x)), (11, .int (iI ri)), (10, .int (iI sg)), (9, .int (iI dn)), (8, .int (iI dd)), (7, .int (iI x7)), (6, .int (iI k)), (0, .ref (ad_767 0)), (1, .ref b), (2, .int (iI 0)), (3, .ref (ad_767 200))]) hx hb dL_build_791 hl (by decide) rfl (fun ls hl => ?_)
                        refine lv_iload (pc := 793) hx hb dL_build_793 (lv_at hl 0 rfl) ?_
                        refine lv_istore (pc := 795) (lv' := [(17, .int (iI fz)), (14, .int (iI fz)), (16, .int (iI 0)), (15, .int (iI fm)), (13, .int (iI y)), (12, .int (iI x)), (11, .int (iI ri)), (10, .int (iI sg)), (9, .int (iI dn)), (8, .int (iI dd)), (7, .int (iI x7)), (6, .int (iI k)), (0, .ref (ad_767 0)), (1, .ref b), (2, .int (iI 0)), (3, .ref (ad_767 200))]) hx hb dL_build_795 hl (by decide) rfl (fun ls hl => ?_)
                        have lp_797 : ∀ (N9 : Nat) (u : Int) (d7 : Int), (fz ≤ d7 ∧ d7 ≤ fz + fm) → ((ib = 0 ∧ u = cntT (fn_767 4) fz (d7 - fz).toNat) ∨ (ib = 1 ∧ u = (d7 - fz) - cntT (fn_767 4) fz (d7 - fz).toNat)) → (fz + fm - d7).toNat < N9 → ∀ (H : Heap) (locs : List Loc), gP D vwCl ad_767 (up w_767 210 (eI (cA 1) 400 (spanF ic_h513 fz (d7 - fz) (fun _ => ib)))) H → gD A ad_767 (up w_767 210 (eI (cA 1) 400 (spanF ic_h513 fz (d7 - fz) (fun _ => ib)))) → va_S A s.heap H locs → ∀ (ls : Array Slot), lv_has ls 18 [(17, .int (iI d7)), (14, .int (iI fz)), (16, .int (iI u)), (15, .int (iI fm)), (13, .int (iI y)), (12, .int (iI x)), (11, .int (iI ri)), (10, .int (iI sg)), (9, .int (iI dn)), (8, .int (iI dd)), (7, .int (iI x7)), (6, .int (iI k)), (0, .ref (ad_767 0)), (1, .ref b), (2, .int (iI 0)), (3, .ref (ad_767 200))] → W p l e rmL_build s m args below meth c H locs nc ns Q9 (F0 m 797 ls []) := by
                          intro N9
                          induction N9 with
                          | zero => intro u d7 m0 iC hmu; exact absurd hmu (Nat.not_lt_zero _)
                          | succ N9 ih_797 =>
                            intro u d7 m0 iC hmu_797 H locs hP hD hS ls hl
                            have rd_ := hR2_.2.2.1 d7 (by omega) (by omega)
                            have b2_ := hI_767.2.2.2.2.1 d7
                            refine lv_iload (pc := 797) hx hb dL_build_797 (lv_at hl 0 rfl) ?_
                            refine lv_iload (pc := 799) hx hb dL_build_799 (lv_at hl 1 rfl) ?_
                            refine lv_iload (pc := 801) hx hb dL_build_801 (lv_at hl 3 rfl) ?_
                            refine k_iadd (pc := 803) hx hb dL_build_803 ?_
                            refine k_icmp_ge (pc := 804) (tgt := 864) hx hb ⟨by omega, by omega⟩ ⟨by omega, by omega⟩ dL_build_804 (by decide) (fun hc_804 => ?_) (fun hc_804 => ?_)
                            · skip
                              have e8_ : d7 - fz = fm := by omega
                              rw [e8_] at hP hD iC
                              have cd_ := cntT_b (fn_767 4) fz fm.toNat
                              refine lv_aload_n (pc := 864) hx hb dL_build_864 rfl (lv_at hl 12 rfl) ?_
                              refine lv_iload (pc := 865) hx hb dL_build_865 (lv_at hl 1 rfl) ?_
                              refine lv_iload (pc := 867) hx hb dL_build_867 (lv_at hl 3 rfl) ?_
                              refine lv_iload (pc := 869) hx hb dL_build_869 (lv_at hl 11 rfl) ?_
                              refine k_iconst (pc := 871) hx hb dL_build_871 ?_
                              refine k_irem (pc := 872) hx hb ⟨by omega, by omega⟩ ⟨by omega, by omega⟩ (by omega) dL_build_872 ?_
                              refine k_if_le (pc := 873) (tgt := 880) hx hb ⟨by omega, by omega⟩ dL_build_873 (by decide) (fun hc_873 => ?_) (fun hc_873 => ?_)
                              · skip
                                refine k_iconst (pc := 880) hx hb dL_build_880 ?_
                                refine k_call1 (pc := 881) (va_runV (As := [.int (iI fz), .int (iI fm), .int (iI 0)]) (rest := []) ⟨hx, hb, hml, hown, hts⟩ (c_X5_freeze_b l D cA ad_767 (up w_767 210 (eI (cA 1) 400 (spanF ic_h513 fz fm (fun _ => ib)))) H.size sc fn_767 hI_767 (bookS_of hI_767 (fun r hr => ⟨(up_n (by omega) rfl), rfl⟩) hb_767) fz fm (by omega) (by omega) 0 (by omega) (by omega)) (cwV 3 hts gL_build_X5_freeze rfl rfl rfl (by decide +kernel) ⟨Nat.le_of_ble_eq_true rfl, Nat.le_of_ble_eq_true rfl⟩) (gV_V hP hD hK hB hS hA hZ 0 (ci := 5) rfl (up_n (by decide) hq_767)) rfl rfl hl.1 rfl (lv_room (Nat.le_of_ble_eq_true rfl)) dL_build_881 ⟨Nat.le_trans (show nc + 0 ≤ nc + 0 by omega) hnc.1, Nat.le_trans (show ns + 0 ≤ ns + 0 by omega) hnc.2⟩) hS (gA_sub hD hS hA) (fun v_881 ad_881 w_881 H locs hv_881 hP hD hS => ?_)
                                obtain ⟨sc_881, fn_881, hb_881, hI_881, hk_881, hs_881⟩ := hv_881
                                obtain ⟨e1_881, e2_881, -, hr_881⟩ := hs_881
                                rw [e1_881] at hb_881 hI_881
                                rw [if_pos rfl] at hr_881
                                subst hr_881
                                have hl_881 := lbS_keep hk_881 (lbS_ic _ hl_767)
                                have hg_881 : ad_881 0 = g0 := hk_881.1.trans hg_767
                                obtain ⟨fs_881, hq_881⟩ := bookS_0 hb_881
                                rw [← hk_881.1] at hl
                                rw [← (hk_881.2 200 (by omega)).2] at hl
                                refine W.eq (g2 := F0 m 884 ls [.int (iI (cntT (fn_767 4) fz (fm).toNat))]) rfl ?_
                                refine W.cs (cells' := nc) (slots' := ns) rfl rfl ?_
                                have hR3_ : lbR sc fn_881 sh st2 (spanF ic_h513 fz fm (fun _ => ib)) nn := by rw [e2_881]; exact lbR_fr hR2_ (fun j => by show ib = _; omega)
                                refine lv_iload (pc := 884) hx hb dL_build_884 (lv_at hl 2 rfl) ?_
                                refine k_icmp_eq (pc := 886) (tgt := 891) hx hb ⟨by omega, by omega⟩ ⟨by omega, by omega⟩ dL_build_886 (by decide) (fun hc_886 => ?_) (fun hc_886 => ?_)
                                · skip
                                  refine lv_iinc (pc := 891) (v := iI (k + 1)) (lv' := [(6, .int (iI (k + 1))), (17, .int (iI d7)), (14, .int (iI fz)), (16, .int (iI u)), (15, .int (iI fm)), (13, .int (iI y)), (12, .int (iI x)), (11, .int (iI ri)), (10, .int (iI sg)), (9, .int (iI dn)), (8, .int (iI dd)), (7, .int (iI x7)), (0, .ref (ad_881 0)), (1, .ref b), (2, .int (iI 0)), (3, .ref (ad_881 200))]) hx hb dL_build_891 hl (k := 11) rfl (iI_add _ _) (by decide) rfl (fun ls hl => ?_)
                                  refine lv_goto (pc := 894) (tgt := 513) hx hb dL_build_894 (by decide) ?_
                                  exact ih_h513 ad_881 w_881 fn_881 st2 (spanF ic_h513 fz fm (fun _ => ib)) (k + 1) hb_881 hI_881 hl_881 hg_881 hR3_ (by omega) (by omega) H locs hP hD hS ls (lv_sub hl [0, 12, 13, 14, 15] rfl)
                                · skip
                                  exfalso
                                  omega
                              · skip
                                refine k_iconst (pc := 876) hx hb dL_build_876 ?_
                                refine lv_goto (pc := 877) (tgt := 881) hx hb dL_build_877 (by decide) ?_
                                refine k_call1 (pc := 881) (va_runV (As := [.int (iI fz), .int (iI fm), .int (iI 1)]) (rest := []) ⟨hx, hb, hml, hown, hts⟩ (c_X5_freeze_b l D cA ad_767 (up w_767 210 (eI (cA 1) 400 (spanF ic_h513 fz fm (fun _ => ib)))) H.size sc fn_767 hI_767 (bookS_of hI_767 (fun r hr => ⟨(up_n (by omega) rfl), rfl⟩) hb_767) fz fm (by omega) (by omega) 1 (by omega) (by omega)) (cwV 3 hts gL_build_X5_freeze rfl rfl rfl (by decide +kernel) ⟨Nat.le_of_ble_eq_true rfl, Nat.le_of_ble_eq_true rfl⟩) (gV_V hP hD hK hB hS hA hZ 0 (ci := 5) rfl (up_n (by decide) hq_767)) rfl rfl hl.1 rfl (lv_room (Nat.le_of_ble_eq_true rfl)) dL_build_881 ⟨Nat.le_trans (show nc + 0 ≤ nc + 0 by omega) hnc.1, Nat.le_trans (show ns + 0 ≤ ns + 0 by omega) hnc.2⟩) hS (gA_sub hD hS hA) (fun v_881 ad_881 w_881 H locs hv_881 hP hD hS => ?_)
                                obtain ⟨sc_881, fn_881, hb_881, hI_881, hk_881, hs_881⟩ := hv_881
                                obtain ⟨e1_881, e2_881, -, hr_881⟩ := hs_881
                                rw [e1_881] at hb_881 hI_881
                                rw [if_neg (by decide)] at hr_881
                                subst hr_881
                                have hl_881 := lbS_keep hk_881 (lbS_ic _ hl_767)
                                have hg_881 : ad_881 0 = g0 := hk_881.1.trans hg_767
                                obtain ⟨fs_881, hq_881⟩ := bookS_0 hb_881
                                rw [← hk_881.1] at hl
                                rw [← (hk_881.2 200 (by omega)).2] at hl
                                refine W.eq (g2 := F0 m 884 ls [.int (iI (fm - cntT (fn_767 4) fz (fm).toNat))]) rfl ?_
                                refine W.cs (cells' := nc) (slots' := ns) rfl rfl ?_
                                have hR3_ : lbR sc fn_881 sh st2 (spanF ic_h513 fz fm (fun _ => ib)) nn := by rw [e2_881]; exact lbR_fr hR2_ (fun j => by show ib = _; omega)
                                refine lv_iload (pc := 884) hx hb dL_build_884 (lv_at hl 2 rfl) ?_
                                refine k_icmp_eq (pc := 886) (tgt := 891) hx hb ⟨by omega, by omega⟩ ⟨by omega, by omega⟩ dL_build_886 (by decide) (fun hc_886 => ?_) (fun hc_886 => ?_)
                                · skip
                                  refine lv_iinc (pc := 891) (v := iI (k + 1)) (lv' := [(6, .int (iI (k + 1))), (17, .int (iI d7)), (14, .int (iI fz)), (16, .int (iI u)), (15, .int (iI fm)), (13, .int (iI y)), (12, .int (iI x)), (11, .int (iI ri)), (10, .int (iI sg)), (9, .int (iI dn)), (8, .int (iI dd)), (7, .int (iI x7)), (0, .ref (ad_881 0)), (1, .ref b), (2, .int (iI 0)), (3, .ref (ad_881 200))]) hx hb dL_build_891 hl (k := 11) rfl (iI_add _ _) (by decide) rfl (fun ls hl => ?_)
                                  refine lv_goto (pc := 894) (tgt := 513) hx hb dL_build_894 (by decide) ?_
                                  exact ih_h513 ad_881 w_881 fn_881 st2 (spanF ic_h513 fz fm (fun _ => ib)) (k + 1) hb_881 hI_881 hl_881 hg_881 hR3_ (by omega) (by omega) H locs hP hD hS ls (lv_sub hl [0, 12, 13, 14, 15] rfl)
                                · skip
                                  exfalso
                                  omega
                            · skip
                              refine lv_iload (pc := 807) hx hb dL_build_807 (lv_at hl 2 rfl) ?_
                              refine lv_aload_n (pc := 809) hx hb dL_build_809 rfl (lv_at hl 15 rfl) ?_
                              refine k_get (pc := 810) (ci := 6) (C := RX6) (T := TX6) (N := 5) hx hb hts hi6 hown hK hP 200 (up_n (by decide) hl_767.1) rfl 3 (by decide) hf59 (fun _ h9 => h9) rfl dL_build_810 ?_
                              refine lv_iload (pc := 813) hx hb dL_build_813 (lv_at hl 0 rfl) ?_
                              refine k_zald (pc := 815) hx hb hK hP 210 1 (up_s _ _ _) rfl (by omega) (by omega) (by omega) dL_build_815 ?_
                              have he_816 : (spanF ic_h513 fz (d7 - fz) (fun _ => ib)) d7 = ic_h513 d7 := spanF_o (by omega)
                              rw [he_816]
                              refine lv_iload (pc := 816) hx hb dL_build_816 (lv_at hl 11 rfl) ?_
                              refine k_iconst (pc := 818) hx hb dL_build_818 ?_
                              refine k_irem (pc := 819) hx hb ⟨by omega, by omega⟩ ⟨by omega, by omega⟩ (by omega) dL_build_819 ?_
                              refine k_if_le (pc := 820) (tgt := 827) hx hb ⟨by omega, by omega⟩ dL_build_820 (by decide) (fun hc_820 => ?_) (fun hc_820 => ?_)
                              · skip
                                refine k_iconst (pc := 827) hx hb dL_build_827 ?_
                                refine k_icmp_ne (pc := 828) (tgt := 835) hx hb ⟨by omega, by omega⟩ ⟨by omega, by omega⟩ dL_build_828 (by decide) (fun hc_828 => ?_) (fun hc_828 => ?_)
                                · skip
                                  refine k_iconst (pc := 835) hx hb dL_build_835 ?_
                                  refine k_iadd (pc := 836) hx hb dL_build_836 ?_
                                  refine lv_istore (pc := 837) (lv' := [(16, .int (iI (u + 1))), (17, .int (iI d7)), (14, .int (iI fz)), (15, .int (iI fm)), (13, .int (iI y)), (12, .int (iI x)), (11, .int (iI ri)), (10, .int (iI sg)), (9, .int (iI dn)), (8, .int (iI dd)), (7, .int (iI x7)), (6, .int (iI k)), (0, .ref (ad_767 0)), (1, .ref b), (2, .int (iI 0)), (3, .ref (ad_767 200))]) hx hb dL_build_837 hl (by decide) rfl (fun ls hl => ?_)
                                  refine lv_aload_n (pc := 839) hx hb dL_build_839 rfl (lv_at hl 15 rfl) ?_
                                  refine k_get (pc := 840) (ci := 6) (C := RX6) (T := TX6) (N := 5) hx hb hts hi6 hown hK hP 200 (up_n (by decide) hl_767.1) rfl 3 (by decide) hf59 (fun _ h9 => h9) rfl dL_build_840 ?_
                                  refine lv_iload (pc := 843) hx hb dL_build_843 (lv_at hl 1 rfl) ?_
                                  refine lv_iload (pc := 845) hx hb dL_build_845 (lv_at hl 11 rfl) ?_
                                  refine k_iconst (pc := 847) hx hb dL_build_847 ?_
                                  refine k_irem (pc := 848) hx hb ⟨by omega, by omega⟩ ⟨by omega, by omega⟩ (by omega) dL_build_848 ?_
                                  refine k_if_le (pc := 849) (tgt := 856) hx hb ⟨by omega, by omega⟩ dL_build_849 (by decide) (fun hc_849 => ?_) (fun hc_849 => ?_)
                                  · skip
                                    refine k_iconst (pc := 856) hx hb dL_build_856 ?_
                                    refine k_zast (pc := 857) (w1 := (up w_767 210 (eI (cA 1) 400 (updI (spanF ic_h513 fz (d7 - fz) (fun _ => ib)) d7 0)))) hx hb hK hP hD hS 210 1 (up_s _ _ _) rfl (by omega) (by omega) (by omega) (Or.inl rfl) (up_up _ _ _ _) dL_build_857 (fun H locs hP hD hS => ?_)
                                    refine lv_iinc (pc := 858) (v := iI (d7 + 1)) (lv' := [(17, .int (iI (d7 + 1))), (16, .int (iI (u + 1))), (14, .int (iI fz)), (15, .int (iI fm)), (13, .int (iI y)), (12, .int (iI x)), (11, .int (iI ri)), (10, .int (iI sg)), (9, .int (iI dn)), (8, .int (iI dd)), (7, .int (iI x7)), (6, .int (iI k)), (0, .ref (ad_767 0)), (1, .ref b), (2, .int (iI 0)), (3, .ref (ad_767 200))]) hx hb dL_build_858 hl (k := 1) rfl (iI_add _ _) (by decide) rfl (fun ls hl => ?_)
                                    refine lv_goto (pc := 861) (tgt := 797) hx hb dL_build_861 (by decide) ?_
                                    have c9_ := cntT_s (fn_767 4) (fr := fz) (d := d7) (by omega)
                                    first | rw [if_pos (by omega)] at c9_ | rw [if_neg (by omega)] at c9_
                                    have hW9 : ((up w_767 210 (eI (cA 1) 400 (updI (spanF ic_h513 fz (d7 - fz) (fun _ => ib)) d7 0)))) = (up w_767 210 (eI (cA 1) 400 (spanF ic_h513 fz ((d7 + 1) - fz) (fun _ => ib)))) := by rw [spanF_s2 ic_h513 (fun _ => ib) (by omega) (show 0 = ib by omega)]
                                    rw [hW9] at hP hD
                                    exact ih_797 (u + 1) (d7 + 1) (by omega) (by omega) (by omega) H locs hP hD hS ls (lv_sub hl [0, 2, 1, 3, 4, 5, 6, 7, 8, 9, 10, 11, 12, 13, 14, 15] rfl)
                                  · skip
                                    exfalso
                                    omega
                                · skip
                                  refine k_iconst (pc := 831) hx hb dL_build_831 ?_
                                  refine lv_goto (pc := 832) (tgt := 836) hx hb dL_build_832 (by decide) ?_
                                  refine k_iadd (pc := 836) hx hb dL_build_836 ?_
                                  refine lv_istore (pc := 837) (lv' := [(16, .int (iI (u + 0))), (17, .int (iI d7)), (14, .int (iI fz)), (15, .int (iI fm)), (13, .int (iI y)), (12, .int (iI x)), (11, .int (iI ri)), (10, .int (iI sg)), (9, .int (iI dn)), (8, .int (iI dd)), (7, .int (iI x7)), (6, .int (iI k)), (0, .ref (ad_767 0)), (1, .ref b), (2, .int (iI 0)), (3, .ref (ad_767 200))]) hx hb dL_build_837 hl (by decide) rfl (fun ls hl => ?_)
                                  refine lv_aload_n (pc := 839) hx hb dL_build_839 rfl (lv_at hl 15 rfl) ?_
                                  refine k_get (pc := 840) (ci := 6) (C := RX6) (T := TX6) (N := 5) hx hb hts hi6 hown hK hP 200 (up_n (by decide) hl_767.1) rfl 3 (by decide) hf59 (fun _ h9 => h9) rfl dL_build_840 ?_
                                  refine lv_iload (pc := 843) hx hb dL_build_843 (lv_at hl 1 rfl) ?_
                                  refine lv_iload (pc := 845) hx hb dL_build_845 (lv_at hl 11 rfl) ?_
                                  refine k_iconst (pc := 847) hx hb dL_build_847 ?_
                                  refine k_irem (pc := 848) hx hb ⟨by omega, by omega⟩ ⟨by omega, by omega⟩ (by omega) dL_build_848 ?_
                                  refine k_if_le (pc := 849) (tgt := 856) hx hb ⟨by omega, by omega⟩ dL_build_849 (by decide) (fun hc_849 => ?_) (fun hc_849 => ?_)
                                  · skip
                                    refine k_iconst (pc := 856) hx hb dL_build_856 ?_
                                    refine k_zast (pc := 857) (w1 := (up w_767 210 (eI (cA 1) 400 (updI (spanF ic_h513 fz (d7 - fz) (fun _ => ib)) d7 0)))) hx hb hK hP hD hS 210 1 (up_s _ _ _) rfl (by omega) (by omega) (by omega) (Or.inl rfl) (up_up _ _ _ _) dL_build_857 (fun H locs hP hD hS => ?_)
                                    refine lv_iinc (pc := 858) (v := iI (d7 + 1)) (lv' := [(17, .int (iI (d7 + 1))), (16, .int (iI (u + 0))), (14, .int (iI fz)), (15, .int (iI fm)), (13, .int (iI y)), (12, .int (iI x)), (11, .int (iI ri)), (10, .int (iI sg)), (9, .int (iI dn)), (8, .int (iI dd)), (7, .int (iI x7)), (6, .int (iI k)), (0, .ref (ad_767 0)), (1, .ref b), (2, .int (iI 0)), (3, .ref (ad_767 200))]) hx hb dL_build_858 hl (k := 1) rfl (iI_add _ _) (by decide) rfl (fun ls hl => ?_)
                                    refine lv_goto (pc := 861) (tgt := 797) hx hb dL_build_861 (by decide) ?_
                                    have c9_ := cntT_s (fn_767 4) (fr := fz) (d := d7) (by omega)
                                    first | rw [if_pos (by omega)] at c9_ | rw [if_neg (by omega)] at c9_
                                    have hW9 : ((up w_767 210 (eI (cA 1) 400 (updI (spanF ic_h513 fz (d7 - fz) (fun _ => ib)) d7 0)))) = (up w_767 210 (eI (cA 1) 400 (spanF ic_h513 fz ((d7 + 1) - fz) (fun _ => ib)))) := by rw [spanF_s2 ic_h513 (fun _ => ib) (by omega) (show 0 = ib by omega)]
                                    rw [hW9] at hP hD
                                    exact ih_797 (u + 0) (d7 + 1) (by omega) (by omega) (by omega) H locs hP hD hS ls (lv_sub hl [0, 2, 1, 3, 4, 5, 6, 7, 8, 9, 10, 11, 12, 13, 14, 15] rfl)
                                  · skip
                                    exfalso
                                    omega
                              · skip
                                refine k_iconst (pc := 823) hx hb dL_build_823 ?_
                                refine lv_goto (pc := 824) (tgt := 828) hx hb dL_build_824 (by decide) ?_
                                refine k_icmp_ne (pc := 828) (tgt := 835) hx hb ⟨by omega, by omega⟩ ⟨by omega, by omega⟩ dL_build_828 (by decide) (fun hc_828 => ?_) (fun hc_828 => ?_)
                                · skip
                                  refine k_iconst (pc := 835) hx hb dL_build_835 ?_
                                  refine k_iadd (pc := 836) hx hb dL_build_836 ?_
                                  refine lv_istore (pc := 837) (lv' := [(16, .int (iI (u + 1))), (17, .int (iI d7)), (14, .int (iI fz)), (15, .int (iI fm)), (13, .int (iI y)), (12, .int (iI x)), (11, .int (iI ri)), (10, .int (iI sg)), (9, .int (iI dn)), (8, .int (iI dd)), (7, .int (iI x7)), (6, .int (iI k)), (0, .ref (ad_767 0)), (1, .ref b), (2, .int (iI 0)), (3, .ref (ad_767 200))]) hx hb dL_build_837 hl (by decide) rfl (fun ls hl => ?_)
                                  refine lv_aload_n (pc := 839) hx hb dL_build_839 rfl (lv_at hl 15 rfl) ?_
                                  refine k_get (pc := 840) (ci := 6) (C := RX6) (T := TX6) (N := 5) hx hb hts hi6 hown hK hP 200 (up_n (by decide) hl_767.1) rfl 3 (by decide) hf59 (fun _ h9 => h9) rfl dL_build_840 ?_
                                  refine lv_iload (pc := 843) hx hb dL_build_843 (lv_at hl 1 rfl) ?_
                                  refine lv_iload (pc := 845) hx hb dL_build_845 (lv_at hl 11 rfl) ?_
                                  refine k_iconst (pc := 847) hx hb dL_build_847 ?_
                                  refine k_irem (pc := 848) hx hb ⟨by omega, by omega⟩ ⟨by omega, by omega⟩ (by omega) dL_build_848 ?_
                                  refine k_if_le (pc := 849) (tgt := 856) hx hb ⟨by omega, by omega⟩ dL_build_849 (by decide) (fun hc_849 => ?_) (fun hc_849 => ?_)
                                  · skip
                                    exfalso
                                    omega
                                  · skip
                                    refine k_iconst (pc := 852) hx hb dL_build_852 ?_
                                    refine lv_goto (pc := 853) (tgt := 857) hx hb dL_build_853 (by decide) ?_
                                    refine k_zast (pc := 857) (w1 := (up w_767 210 (eI (cA 1) 400 (updI (spanF ic_h513 fz (d7 - fz) (fun _ => ib)) d7 1)))) hx hb hK hP hD hS 210 1 (up_s _ _ _) rfl (by omega) (by omega) (by omega) (Or.inr rfl) (up_up _ _ _ _) dL_build_857 (fun H locs hP hD hS => ?_)
                                    refine lv_iinc (pc := 858) (v := iI (d7 + 1)) (lv' := [(17, .int (iI (d7 + 1))), (16, .int (iI (u + 1))), (14, .int (iI fz)), (15, .int (iI fm)), (13, .int (iI y)), (12, .int (iI x)), (11, .int (iI ri)), (10, .int (iI sg)), (9, .int (iI dn)), (8, .int (iI dd)), (7, .int (iI x7)), (6, .int (iI k)), (0, .ref (ad_767 0)), (1, .ref b), (2, .int (iI 0)), (3, .ref (ad_767 200))]) hx hb dL_build_858 hl (k := 1) rfl (iI_add _ _) (by decide) rfl (fun ls hl => ?_)
                                    refine lv_goto (pc := 861) (tgt := 797) hx hb dL_build_861 (by decide) ?_
                                    have c9_ := cntT_s (fn_767 4) (fr := fz) (d := d7) (by omega)
                                    first | rw [if_pos (by omega)] at c9_ | rw [if_neg (by omega)] at c9_
                                    have hW9 : ((up w_767 210 (eI (cA 1) 400 (updI (spanF ic_h513 fz (d7 - fz) (fun _ => ib)) d7 1)))) = (up w_767 210 (eI (cA 1) 400 (spanF ic_h513 fz ((d7 + 1) - fz) (fun _ => ib)))) := by rw [spanF_s2 ic_h513 (fun _ => ib) (by omega) (show 1 = ib by omega)]
                                    rw [hW9] at hP hD
                                    exact ih_797 (u + 1) (d7 + 1) (by omega) (by omega) (by omega) H locs hP hD hS ls (lv_sub hl [0, 2, 1, 3, 4, 5, 6, 7, 8, 9, 10, 11, 12, 13, 14, 15] rfl)
                                · skip
                                  refine k_iconst (pc := 831) hx hb dL_build_831 ?_
                                  refine lv_goto (pc := 832) (tgt := 836) hx hb dL_build_832 (by decide) ?_
                                  refine k_iadd (pc := 836) hx hb dL_build_836 ?_
                                  refine lv_istore (pc := 837) (lv' := [(16, .int (iI (u + 0))), (17, .int (iI d7)), (14, .int (iI fz)), (15, .int (iI fm)), (13, .int (iI y)), (12, .int (iI x)), (11, .int (iI ri)), (10, .int (iI sg)), (9, .int (iI dn)), (8, .int (iI dd)), (7, .int (iI x7)), (6, .int (iI k)), (0, .ref (ad_767 0)), (1, .ref b), (2, .int (iI 0)), (3, .ref (ad_767 200))]) hx hb dL_build_837 hl (by decide) rfl (fun ls hl => ?_)
                                  refine lv_aload_n (pc := 839) hx hb dL_build_839 rfl (lv_at hl 15 rfl) ?_
                                  refine k_get (pc := 840) (ci := 6) (C := RX6) (T := TX6) (N := 5) hx hb hts hi6 hown hK hP 200 (up_n (by decide) hl_767.1) rfl 3 (by decide) hf59 (fun _ h9 => h9) rfl dL_build_840 ?_
                                  refine lv_iload (pc := 843) hx hb dL_build_843 (lv_at hl 1 rfl) ?_
                                  refine lv_iload (pc := 845) hx hb dL_build_845 (lv_at hl 11 rfl) ?_
                                  refine k_iconst (pc := 847) hx hb dL_build_847 ?_
                                  refine k_irem (pc := 848) hx hb ⟨by omega, by omega⟩ ⟨by omega, by omega⟩ (by omega) dL_build_848 ?_
                                  refine k_if_le (pc := 849) (tgt := 856) hx hb ⟨by omega, by omega⟩ dL_build_849 (by decide) (fun hc_849 => ?_) (fun hc_849 => ?_)
                                  · skip
                                    exfalso
                                    omega
                                  · skip
                                    refine k_iconst (pc := 852) hx hb dL_build_852 ?_
                                    refine lv_goto (pc := 853) (tgt := 857) hx hb dL_build_853 (by decide) ?_
                                    refine k_zast (pc := 857) (w1 := (up w_767 210 (eI (cA 1) 400 (updI (spanF ic_h513 fz (d7 - fz) (fun _ => ib)) d7 1)))) hx hb hK hP hD hS 210 1 (up_s _ _ _) rfl (by omega) (by omega) (by omega) (Or.inr rfl) (up_up _ _ _ _) dL_build_857 (fun H locs hP hD hS => ?_)
                                    refine lv_iinc (pc := 858) (v := iI (d7 + 1)) (lv' := [(17, .int (iI (d7 + 1))), (16, .int (iI (u + 0))), (14, .int (iI fz)), (15, .int (iI fm)), (13, .int (iI y)), (12, .int (iI x)), (11, .int (iI ri)), (10, .int (iI sg)), (9, .int (iI dn)), (8, .int (iI dd)), (7, .int (iI x7)), (6, .int (iI k)), (0, .ref (ad_767 0)), (1, .ref b), (2, .int (iI 0)), (3, .ref (ad_767 200))]) hx hb dL_build_858 hl (k := 1) rfl (iI_add _ _) (by decide) rfl (fun ls hl => ?_)
                                    refine lv_goto (pc := 861) (tgt := 797) hx hb dL_build_861 (by decide) ?_
                                    have c9_ := cntT_s (fn_767 4) (fr := fz) (d := d7) (by omega)
                                    first | rw [if_pos (by omega)] at c9_ | rw [if_neg (by omega)] at c9_
                                    have hW9 : ((up w_767 210 (eI (cA 1) 400 (updI (spanF ic_h513 fz (d7 - fz) (fun _ => ib)) d7 1)))) = (up w_767 210 (eI (cA 1) 400 (spanF ic_h513 fz ((d7 + 1) - fz) (fun _ => ib)))) := by rw [spanF_s2 ic_h513 (fun _ => ib) (by omega) (show 1 = ib by omega)]
                                    rw [hW9] at hP hD
                                    exact ih_797 (u + 0) (d7 + 1) (by omega) (by omega) (by omega) H locs hP hD hS ls (lv_sub hl [0, 2, 1, 3, 4, 5, 6, 7, 8, 9, 10, 11, 12, 13, 14, 15] rfl)
                        have hW9 : (w_767) = (up w_767 210 (eI (cA 1) 400 (spanF ic_h513 fz (fz - fz) (fun _ => ib)))) := by rw [Int.sub_self, spanF_0, up_self hl_767.2.2.2.2.2.1]
                        rw [hW9] at hP hD
                        exact lp_797 _ 0 fz (by omega) (by rw [Int.sub_self, show cntT (fn_767 4) fz (0 : Int).toNat = 0 from rfl]; omega) (Nat.lt_succ_self _) H locs hP hD hS ls (lv_sub hl [0, 1, 2, 3, 4, 5, 6, 7, 8, 9, 10, 11, 12, 13, 14, 15] rfl)
                      · skip
                        exfalso
                        omega
                    · skip
                      refine lv_iload (pc := 723) hx hb dL_build_723 (lv_at hl 3 rfl) ?_
                      refine lv_aload_n (pc := 725) hx hb dL_build_725 rfl (lv_at hl 14 rfl) ?_
                      refine k_get (pc := 726) (ci := 6) (C := RX6) (T := TX6) (N := 5) hx hb hts hi6 hown hK hP 200 (up_n (by decide) hl_671.1) rfl 2 (by decide) hf49 (fun _ h9 => h9) rfl dL_build_726 ?_
                      refine lv_iload (pc := 729) hx hb dL_build_729 (lv_at hl 0 rfl) ?_
                      refine k_iald (pc := 731) hx hb hK hP 209 0 (up_s _ _ _) rfl (by omega) (by omega) (by omega) dL_build_731 ?_
                      have he_732 : (spanF st1 ff (d8 - ff) (fun _ => 9999)) d8 = st1 d8 := spanF_o (by omega)
                      rw [he_732]
                      refine k_sipush (pc := 732) hx hb dL_build_732 (by decide +kernel) ?_
                      refine k_icmp_ne (pc := 735) (tgt := 742) hx hb ⟨by omega, by omega⟩ ⟨by omega, by omega⟩ dL_build_735 (by decide) (fun hc_735 => ?_) (fun hc_735 => ?_)
                      · skip
                        refine k_iconst (pc := 742) hx hb dL_build_742 ?_
                        refine k_iadd (pc := 743) hx hb dL_build_743 ?_
                        refine lv_istore (pc := 744) (lv' := [(13, .int (iI (y + 1))), (16, .int (iI d8)), (15, .int (iI fm)), (14, .int (iI ff)), (12, .int (iI x)), (11, .int (iI ri)), (10, .int (iI sg)), (9, .int (iI dn)), (8, .int (iI dd)), (7, .int (iI x7)), (6, .int (iI k)), (0, .ref (ad_671 0)), (1, .ref b), (2, .int (iI 0)), (3, .ref (ad_671 200))]) hx hb dL_build_744 hl (by decide) rfl (fun ls hl => ?_)
                        refine lv_aload_n (pc := 746) hx hb dL_build_746 rfl (lv_at hl 14 rfl) ?_
                        refine k_get (pc := 747) (ci := 6) (C := RX6) (T := TX6) (N := 5) hx hb hts hi6 hown hK hP 200 (up_n (by decide) hl_671.1) rfl 2 (by decide) hf49 (fun _ h9 => h9) rfl dL_build_747 ?_
                        refine lv_iload (pc := 750) hx hb dL_build_750 (lv_at hl 1 rfl) ?_
                        refine k_sipush (pc := 752) hx hb dL_build_752 (by decide +kernel) ?_
                        refine k_iast (pc := 755) (w1 := (up w_671 209 (eI (cA 0) 400 (updI (spanF st1 ff (d8 - ff) (fun _ => 9999)) d8 9999)))) hx hb hK hP hD hS 209 0 (up_s _ _ _) rfl (by omega) (by omega) (by omega) (up_up _ _ _ _) dL_build_755 (fun H locs hP hD hS => ?_)
                        refine lv_iinc (pc := 756) (v := iI (d8 + 1)) (lv' := [(16, .int (iI (d8 + 1))), (13, .int (iI (y + 1))), (15, .int (iI fm)), (14, .int (iI ff)), (12, .int (iI x)), (11, .int (iI ri)), (10, .int (iI sg)), (9, .int (iI dn)), (8, .int (iI dd)), (7, .int (iI x7)), (6, .int (iI k)), (0, .ref (ad_671 0)), (1, .ref b), (2, .int (iI 0)), (3, .ref (ad_671 200))]) hx hb dL_build_756 hl (k := 1) rfl (iI_add _ _) (by decide) rfl (fun ls hl => ?_)
                        refine lv_goto (pc := 759) (tgt := 713) hx hb dL_build_759 (by decide) ?_
                        have hW9 : ((up w_671 209 (eI (cA 0) 400 (updI (spanF st1 ff (d8 - ff) (fun _ => 9999)) d8 9999)))) = (up w_671 209 (eI (cA 0) 400 (spanF st1 ff ((d8 + 1) - ff) (fun _ => 9999)))) := by rw [spanF_s2 st1 (fun _ => 9999) (by omega) rfl]
                        rw [hW9] at hP hD
                        exact ih_713 (y + 1) (d8 + 1) (by omega) (by rw [cntT_s (fn_671 3) (by omega)]; first | (rw [if_pos (by omega)]; omega) | (rw [if_neg (by omega)]; omega)) (by omega) H locs hP hD hS ls (lv_sub hl [0, 2, 3, 1, 4, 5, 6, 7, 8, 9, 10, 11, 12, 13, 14] rfl)
                      · skip
                        refine k_iconst (pc := 738) hx hb dL_build_738 ?_
                        refine lv_goto (pc := 739) (tgt := 743) hx hb dL_build_739 (by decide) ?_
                        refine k_iadd (pc := 743) hx hb dL_build_743 ?_
                        refine lv_istore (pc := 744) (lv' := [(13, .int (iI (y + 0))), (16, .int (iI d8)), (15, .int (iI fm)), (14, .int (iI ff)), (12, .int (iI x)), (11, .int (iI ri)), (10, .int (iI sg)), (9, .int (iI dn)), (8, .int (iI dd)), (7, .int (iI x7)), (6, .int (iI k)), (0, .ref (ad_671 0)), (1, .ref b), (2, .int (iI 0)), (3, .ref (ad_671 200))]) hx hb dL_build_744 hl (by decide) rfl (fun ls hl => ?_)
                        refine lv_aload_n (pc := 746) hx hb dL_build_746 rfl (lv_at hl 14 rfl) ?_
                        refine k_get (pc := 747) (ci := 6) (C := RX6) (T := TX6) (N := 5) hx hb hts hi6 hown hK hP 200 (up_n (by decide) hl_671.1) rfl 2 (by decide) hf49 (fun _ h9 => h9) rfl dL_build_747 ?_
                        refine lv_iload (pc := 750) hx hb dL_build_750 (lv_at hl 1 rfl) ?_
                        refine k_sipush (pc := 752) hx hb dL_build_752 (by decide +kernel) ?_
                        refine k_iast (pc := 755) (w1 := (up w_671 209 (eI (cA 0) 400 (updI (spanF st1 ff (d8 - ff) (fun _ => 9999)) d8 9999)))) hx hb hK hP hD hS 209 0 (up_s _ _ _) rfl (by omega) (by omega) (by omega) (up_up _ _ _ _) dL_build_755 (fun H locs hP hD hS => ?_)
                        refine lv_iinc (pc := 756) (v := iI (d8 + 1)) (lv' := [(16, .int (iI (d8 + 1))), (13, .int (iI (y + 0))), (15, .int (iI fm)), (14, .int (iI ff)), (12, .int (iI x)), (11, .int (iI ri)), (10, .int (iI sg)), (9, .int (iI dn)), (8, .int (iI dd)), (7, .int (iI x7)), (6, .int (iI k)), (0, .ref (ad_671 0)), (1, .ref b), (2, .int (iI 0)), (3, .ref (ad_671 200))]) hx hb dL_build_756 hl (k := 1) rfl (iI_add _ _) (by decide) rfl (fun ls hl => ?_)
                        refine lv_goto (pc := 759) (tgt := 713) hx hb dL_build_759 (by decide) ?_
                        have hW9 : ((up w_671 209 (eI (cA 0) 400 (updI (spanF st1 ff (d8 - ff) (fun _ => 9999)) d8 9999)))) = (up w_671 209 (eI (cA 0) 400 (spanF st1 ff ((d8 + 1) - ff) (fun _ => 9999)))) := by rw [spanF_s2 st1 (fun _ => 9999) (by omega) rfl]
                        rw [hW9] at hP hD
                        exact ih_713 (y + 0) (d8 + 1) (by omega) (by rw [cntT_s (fn_671 3) (by omega)]; first | (rw [if_pos (by omega)]; omega) | (rw [if_neg (by omega)]; omega)) (by omega) H locs hP hD hS ls (lv_sub hl [0, 2, 3, 1, 4, 5, 6, 7, 8, 9, 10, 11, 12, 13, 14] rfl)
                have hW9 : (w_671) = (up w_671 209 (eI (cA 0) 400 (spanF st1 ff (ff - ff) (fun _ => 9999)))) := by rw [Int.sub_self, spanF_0, up_self hl_671.2.2.2.2.1]
                rw [hW9] at hP hD
                exact lp_713 _ 0 ff (by omega) (by rw [Int.sub_self]; rfl) (Nat.lt_succ_self _) H locs hP hD hS ls (lv_sub hl [0, 1, 2, 3, 4, 5, 6, 7, 8, 9, 10, 11, 12, 13, 14] rfl)
              · skip
                exfalso
                omega
            · skip
              refine lv_iload (pc := 615) hx hb dL_build_615 (lv_at hl 1 rfl) ?_
              refine lv_aload_n (pc := 617) hx hb dL_build_617 rfl (lv_at hl 11 rfl) ?_
              refine k_get (pc := 618) (ci := 6) (C := RX6) (T := TX6) (N := 5) hx hb hts hi6 hown hK hP 200 (up_n (by decide) hlb_h513.1) rfl 2 (by decide) hf49 (fun _ h9 => h9) rfl dL_build_618 ?_
              refine lv_iload (pc := 621) hx hb dL_build_621 (lv_at hl 0 rfl) ?_
              refine k_iald (pc := 623) hx hb hK hP 209 0 (up_s _ _ _) rfl (by omega) (by omega) (by omega) dL_build_623 ?_
              have he_624 : (spanF st_h513 dd (d9 - dd) (fun j => sg + ri * (j - dd))) d9 = st_h513 d9 := spanF_o (by omega)
              rw [he_624]
              refine k_sipush (pc := 624) hx hb dL_build_624 (by decide +kernel) ?_
              refine k_icmp_ne (pc := 627) (tgt := 634) hx hb ⟨by omega, by omega⟩ ⟨by omega, by omega⟩ dL_build_627 (by decide) (fun hc_627 => ?_) (fun hc_627 => ?_)
              · skip
                refine k_iconst (pc := 634) hx hb dL_build_634 ?_
                refine k_iadd (pc := 635) hx hb dL_build_635 ?_
                refine lv_istore (pc := 636) (lv' := [(12, .int (iI (x + 1))), (13, .int (iI d9)), (11, .int (iI ri)), (10, .int (iI sg)), (9, .int (iI dn)), (8, .int (iI dd)), (7, .int (iI x7)), (6, .int (iI k)), (0, .ref (ad_h513 0)), (1, .ref b), (2, .int (iI 0)), (3, .ref (ad_h513 200))]) hx hb dL_build_636 hl (by decide) rfl (fun ls hl => ?_)
                refine lv_aload_n (pc := 638) hx hb dL_build_638 rfl (lv_at hl 11 rfl) ?_
                refine k_get (pc := 639) (ci := 6) (C := RX6) (T := TX6) (N := 5) hx hb hts hi6 hown hK hP 200 (up_n (by decide) hlb_h513.1) rfl 2 (by decide) hf49 (fun _ h9 => h9) rfl dL_build_639 ?_
                refine lv_iload (pc := 642) hx hb dL_build_642 (lv_at hl 1 rfl) ?_
                refine lv_iload (pc := 644) hx hb dL_build_644 (lv_at hl 3 rfl) ?_
                refine lv_iload (pc := 646) hx hb dL_build_646 (lv_at hl 2 rfl) ?_
                refine lv_iload (pc := 648) hx hb dL_build_648 (lv_at hl 1 rfl) ?_
                refine lv_iload (pc := 650) hx hb dL_build_650 (lv_at hl 5 rfl) ?_
                refine k_isub (pc := 652) hx hb dL_build_652 ?_
                refine k_imul (pc := 653) hx hb dL_build_653 ?_
                refine k_iadd (pc := 654) hx hb dL_build_654 ?_
                refine k_iast (pc := 655) (w1 := (up w_h513 209 (eI (cA 0) 400 (updI (spanF st_h513 dd (d9 - dd) (fun j => sg + ri * (j - dd))) d9 (sg + (ri * (d9 - dd))))))) hx hb hK hP hD hS 209 0 (up_s _ _ _) rfl (by omega) (by omega) (by omega) (up_up _ _ _ _) dL_build_655 (fun H locs hP hD hS => ?_)
                refine lv_iinc (pc := 656) (v := iI (d9 + 1)) (lv' := [(13, .int (iI (d9 + 1))), (12, .int (iI (x + 1))), (11, .int (iI ri)), (10, .int (iI sg)), (9, .int (iI dn)), (8, .int (iI dd)), (7, .int (iI x7)), (6, .int (iI k)), (0, .ref (ad_h513 0)), (1, .ref b), (2, .int (iI 0)), (3, .ref (ad_h513 200))]) hx hb dL_build_656 hl (k := 1) rfl (iI_add _ _) (by decide) rfl (fun ls hl => ?_)
                refine lv_goto (pc := 659) (tgt := 605) hx hb dL_build_659 (by decide) ?_
                have hW9 : ((up w_h513 209 (eI (cA 0) 400 (updI (spanF st_h513 dd (d9 - dd) (fun j => sg + ri * (j - dd))) d9 (sg + (ri * (d9 - dd))))))) = (up w_h513 209 (eI (cA 0) 400 (spanF st_h513 dd ((d9 + 1) - dd) (fun j => sg + ri * (j - dd))))) := by rw [spanF_s2 st_h513 (fun j => sg + ri * (j - dd)) (by omega) rfl]
                rw [hW9] at hP hD
                exact ih_605 (x + 1) (d9 + 1) (by omega) (by rw [cntT_s (fn_h513 3) (by omega)]; first | (rw [if_pos (by omega)]; omega) | (rw [if_neg (by omega)]; omega)) (by omega) H locs hP hD hS ls (lv_sub hl [0, 1, 2, 3, 4, 5, 6, 7, 8, 9, 10, 11] rfl)
              · skip
                refine k_iconst (pc := 630) hx hb dL_build_630 ?_
                refine lv_goto (pc := 631) (tgt := 635) hx hb dL_build_631 (by decide) ?_
                refine k_iadd (pc := 635) hx hb dL_build_635 ?_
                refine lv_istore (pc := 636) (lv' := [(12, .int (iI (x + 0))), (13, .int (iI d9)), (11, .int (iI ri)), (10, .int (iI sg)), (9, .int (iI dn)), (8, .int (iI dd)), (7, .int (iI x7)), (6, .int (iI k)), (0, .ref (ad_h513 0)), (1, .ref b), (2, .int (iI 0)), (3, .ref (ad_h513 200))]) hx hb dL_build_636 hl (by decide) rfl (fun ls hl => ?_)
                refine lv_aload_n (pc := 638) hx hb dL_build_638 rfl (lv_at hl 11 rfl) ?_
                refine k_get (pc := 639) (ci := 6) (C := RX6) (T := TX6) (N := 5) hx hb hts hi6 hown hK hP 200 (up_n (by decide) hlb_h513.1) rfl 2 (by decide) hf49 (fun _ h9 => h9) rfl dL_build_639 ?_
                refine lv_iload (pc := 642) hx hb dL_build_642 (lv_at hl 1 rfl) ?_
                refine lv_iload (pc := 644) hx hb dL_build_644 (lv_at hl 3 rfl) ?_
                refine lv_iload (pc := 646) hx hb dL_build_646 (lv_at hl 2 rfl) ?_
                refine lv_iload (pc := 648) hx hb dL_build_648 (lv_at hl 1 rfl) ?_
                refine lv_iload (pc := 650) hx hb dL_build_650 (lv_at hl 5 rfl) ?_
                refine k_isub (pc := 652) hx hb dL_build_652 ?_
                refine k_imul (pc := 653) hx hb dL_build_653 ?_
                refine k_iadd (pc := 654) hx hb dL_build_654 ?_
                refine k_iast (pc := 655) (w1 := (up w_h513 209 (eI (cA 0) 400 (updI (spanF st_h513 dd (d9 - dd) (fun j => sg + ri * (j - dd))) d9 (sg + (ri * (d9 - dd))))))) hx hb hK hP hD hS 209 0 (up_s _ _ _) rfl (by omega) (by omega) (by omega) (up_up _ _ _ _) dL_build_655 (fun H locs hP hD hS => ?_)
                refine lv_iinc (pc := 656) (v := iI (d9 + 1)) (lv' := [(13, .int (iI (d9 + 1))), (12, .int (iI (x + 0))), (11, .int (iI ri)), (10, .int (iI sg)), (9, .int (iI dn)), (8, .int (iI dd)), (7, .int (iI x7)), (6, .int (iI k)), (0, .ref (ad_h513 0)), (1, .ref b), (2, .int (iI 0)), (3, .ref (ad_h513 200))]) hx hb dL_build_656 hl (k := 1) rfl (iI_add _ _) (by decide) rfl (fun ls hl => ?_)
                refine lv_goto (pc := 659) (tgt := 605) hx hb dL_build_659 (by decide) ?_
                have hW9 : ((up w_h513 209 (eI (cA 0) 400 (updI (spanF st_h513 dd (d9 - dd) (fun j => sg + ri * (j - dd))) d9 (sg + (ri * (d9 - dd))))))) = (up w_h513 209 (eI (cA 0) 400 (spanF st_h513 dd ((d9 + 1) - dd) (fun j => sg + ri * (j - dd))))) := by rw [spanF_s2 st_h513 (fun j => sg + ri * (j - dd)) (by omega) rfl]
                rw [hW9] at hP hD
                exact ih_605 (x + 0) (d9 + 1) (by omega) (by rw [cntT_s (fn_h513 3) (by omega)]; first | (rw [if_pos (by omega)]; omega) | (rw [if_neg (by omega)]; omega)) (by omega) H locs hP hD hS ls (lv_sub hl [0, 1, 2, 3, 4, 5, 6, 7, 8, 9, 10, 11] rfl)
        have hW9 : (w_h513) = (up w_h513 209 (eI (cA 0) 400 (spanF st_h513 dd (dd - dd) (fun j => sg + ri * (j - dd))))) := by rw [Int.sub_self, spanF_0, up_self hlb_h513.2.2.2.2.1]
        rw [hW9] at hP hD
        exact lp_605 _ 0 dd (by omega) (by rw [Int.sub_self]; rfl) (Nat.lt_succ_self _) H locs hP hD hS ls (lv_sub hl [0, 1, 2, 3, 4, 5, 6, 7, 8, 9, 10, 11] rfl)
  exact lp_h513 _ ad w fn st ic 0 hbk hI hlb hg0 hR (by omega) (Nat.lt_succ_self _) H locs hP hD hS ls (lv_sub hl [0, 1, 2, 3, 4] rfl)
