set_option maxHeartbeats 8000000 in
set_option maxRecDepth 100000 in
theorem lw_sums {p : Program} {e : Env} {s : State} {m : MethodId} {below : List Frame} {meth : Method} {c : Code} {l : Launch} {D : va_G} {cA : Nat → ClassId} {A : Nat → Prop} {b L : Nat} {xs : Nat → Int32} {g0 : Nat} (C : lwC p l s m c D cA A b L xs) (Q9 : State → Prop) {sc : Nat → Int} {fn : Nat → Int → Int} {st ic nn : Int → Int} (hd : rlD fn st) (hi : rlI fn ic) (hn : nn 1 = sc 3) (wi : Int)
  (kk : ∀  (ad : Nat → Nat) (w : Nat → Option va_E) (al : Int → Int) (H : Heap) (locs : List Loc) (ls : Array Slot), bookS cA ad w sc fn → bkInv sc fn → lwS cA ad w st ic nn al → ad 0 = g0 → (wi = cntT (tbS sc fn) 0 400) → gP D vwCl ad w H → gD A ad w → va_S A s.heap H locs → lv_has ls 15 [(0, .ref b), (1, .ref (ad 0)), (2, .ref (ad 200)), (3, .ref (ad 212)), (5, .int (iI wi))] → W p l e room_1 s m #[Value.ref b] below meth c H locs 48 6315 Q9 (F0 m 501 ls []))
  (ad : Nat → Nat) (w : Nat → Option va_E) (al : Int → Int) (H : Heap) (locs : List Loc) (ls : Array Slot) (hbk : bookS cA ad w sc fn) (hI : bkInv sc fn) (hlb : lwS cA ad w st ic nn al) (hg0 : ad 0 = g0) (hwi : wi = cntT (tbS sc fn) 0 400) (hal : al 1 = sumT (tbF sc fn) (tbS sc fn) 0 400) (hP : gP D vwCl ad w H) (hD : gD A ad w) (hS : va_S A s.heap H locs) (hl : lv_has ls 15 [(0, .ref b), (1, .ref (ad 0)), (2, .ref (ad 200)), (3, .ref (ad 212)), (5, .int (iI wi))]) : W p l e room_1 s m #[Value.ref b] below meth c H locs 48 6315 Q9 (F0 m 389 ls []) := by
  obtain ⟨hx, hb, hml, hown, hts, hK, hB, hZ, hA, hX, hbl, hbA, hL⟩ := C
  obtain ⟨fs0, hq0⟩ := bookS_0 hbk
  have tok_ := tbOk_tb hI
  have cw_ := cntT_b (tbS sc fn) 0 400
  have sb_ := sumT_b (S := tbS sc fn) tok_.1 0 400
  refine lv_aload_n (pc := 389) hx hb dL_law_389 rfl (lv_at hl 0 rfl) ?_
  refine k_bipush (pc := 390) hx hb dL_law_390 (by decide +kernel) ?_
  refine k_call0 (pc := 392) (va_runS (As := [.ref b, .int (iI 15)]) (rest := []) ⟨hx, hb, hml, hown, hts⟩ (c_L_cell l b L xs hL 15 (by omega)) (va_cwS 2 hts gL_law_L_cell rfl rfl rfl (by decide +kernel) ⟨Nat.le_of_ble_eq_true rfl, Nat.le_of_ble_eq_true rfl⟩) (gS_S hX hbl hbA hS)  rfl rfl hl.1 rfl (lv_room (Nat.le_of_ble_eq_true rfl)) dL_law_392 ⟨Nat.le_of_ble_eq_true rfl, Nat.le_of_ble_eq_true rfl⟩) (fun v_392 hv_392 => ?_)
  obtain ⟨z_392, rfl, hz_392⟩ := hv_392
  refine W.eq (g2 := F0 m 395 ls [.int (iI z_392)]) rfl ?_
  refine k_sipush (pc := 395) hx hb dL_law_395 (by decide +kernel) ?_
  refine k_call0 (pc := 398) (va_runS (As := [.int (iI z_392), .int (iI 399)]) (rest := []) ⟨hx, hb, hml, hown, hts⟩ (c_L_below l D cA ad w z_392 399 (by omega)) (va_cwS 2 hts gL_law_L_below rfl rfl rfl (by decide +kernel) ⟨Nat.le_of_ble_eq_true rfl, Nat.le_of_ble_eq_true rfl⟩) (gR_S hP hK hB) rfl rfl hl.1 rfl (lv_room (Nat.le_of_ble_eq_true rfl)) dL_law_398 ⟨Nat.le_of_ble_eq_true rfl, Nat.le_of_ble_eq_true rfl⟩) (fun v_398 hv_398 => ?_)
  obtain ⟨z_398, rfl, hz_398⟩ := hv_398
  refine W.eq (g2 := F0 m 401 ls [.int (iI z_398)]) rfl ?_
  refine lv_istore (pc := 401) (lv' := [(8, .int (iI z_398)), (0, .ref b), (1, .ref (ad 0)), (2, .ref (ad 200)), (3, .ref (ad 212)), (5, .int (iI wi))]) hx hb dL_law_401 hl (by decide) rfl (fun ls hl => ?_)
  refine lv_aload_n (pc := 403) hx hb dL_law_403 rfl (lv_at hl 2 rfl) ?_
  refine k_iconst (pc := 404) hx hb dL_law_404 ?_
  refine k_sipush (pc := 405) hx hb dL_law_405 (by decide +kernel) ?_
  refine k_iconst (pc := 408) hx hb dL_law_408 ?_
  refine k_call1 (pc := 409) (va_runV (As := [.int (iI 0), .int (iI 399), .int (iI 0)]) (rest := []) ⟨hx, hb, hml, hown, hts⟩ (c_X5_sum_b l D cA ad w H.size sc fn hI hbk 0 399 0 (by omega) (by omega) (by omega) (by omega) (by omega)) (cwV 3 hts gL_law_X5_sum rfl rfl rfl (by decide +kernel) ⟨Nat.le_of_ble_eq_true rfl, Nat.le_of_ble_eq_true rfl⟩) (gV_V hP hD hK hB hS hA hZ 0 (ci := 5) rfl hq0) rfl rfl hl.1 rfl (lv_room (Nat.le_of_ble_eq_true rfl)) dL_law_409 ⟨Nat.le_of_ble_eq_true rfl, Nat.le_of_ble_eq_true rfl⟩) hS (gA_sub hD hS hA) (fun v_409 ad_409 w_409 H locs hv_409 hP hD hS => ?_)
  obtain ⟨sc_409, fn_409, hb_409, hI_409, hk_409, hs_409⟩ := hv_409
  obtain ⟨e1_409, e2_409, -, -, -, -, -, z_409, hr_409, hz_409⟩ := hs_409
  rw [e1_409, e2_409] at hb_409
  subst hr_409
  have hl_409 := lwS_keep hk_409 hlb
  have hg_409 : ad_409 0 = g0 := hk_409.1.trans hg0
  obtain ⟨fs_409, hq_409⟩ := bookS_0 hb_409
  rw [← hk_409.1] at hl
  rw [← (hk_409.2 200 (by omega)).2] at hl
  rw [← (hk_409.2 212 (by omega)).2] at hl
  refine W.eq (g2 := F0 m 412 ls [.long (lI z_409)]) rfl ?_
  refine W.cs (cells' := 48) (slots' := 6315) rfl rfl ?_
  have s0_ := sumV_0 hz_409
  rw [show ((399 : Int) + 1 - 0).toNat = 400 from rfl] at s0_
  refine lv_iload (pc := 412) hx hb dL_law_412 (lv_at hl 5 rfl) ?_
  refine k_i2l (pc := 414) hx hb ⟨by omega, by omega⟩ dL_law_414 ?_
  refine k_lcmp_ne (pc := 415) (tgt := 499) hx hb ⟨by omega, by omega⟩ ⟨by omega, by omega⟩ dL_law_415 dL_law_416 (by decide) (fun hc_415 => ?_) (fun hc_415 => ?_)
  · skip
    exfalso
    omega
  · skip
    refine lv_aload_n (pc := 419) hx hb dL_law_419 rfl (lv_at hl 2 rfl) ?_
    refine k_iconst (pc := 420) hx hb dL_law_420 ?_
    refine k_sipush (pc := 421) hx hb dL_law_421 (by decide +kernel) ?_
    refine k_iconst (pc := 424) hx hb dL_law_424 ?_
    refine k_call1 (pc := 425) (va_runV (As := [.int (iI 0), .int (iI 399), .int (iI 1)]) (rest := []) ⟨hx, hb, hml, hown, hts⟩ (c_X5_sum_b l D cA ad_409 w_409 H.size sc fn hI hb_409 0 399 1 (by omega) (by omega) (by omega) (by omega) (by omega)) (cwV 3 hts gL_law_X5_sum rfl rfl rfl (by decide +kernel) ⟨Nat.le_of_ble_eq_true rfl, Nat.le_of_ble_eq_true rfl⟩) (gV_V hP hD hK hB hS hA hZ 0 (ci := 5) rfl hq_409) rfl rfl hl.1 rfl (lv_room (Nat.le_of_ble_eq_true rfl)) dL_law_425 ⟨Nat.le_of_ble_eq_true rfl, Nat.le_of_ble_eq_true rfl⟩) hS (gA_sub hD hS hA) (fun v_425 ad_425 w_425 H locs hv_425 hP hD hS => ?_)
    obtain ⟨sc_425, fn_425, hb_425, hI_425, hk_425, hs_425⟩ := hv_425
    obtain ⟨e1_425, e2_425, -, -, -, -, -, z_425, hr_425, hz_425⟩ := hs_425
    rw [e1_425, e2_425] at hb_425
    subst hr_425
    have hl_425 := lwS_keep hk_425 hl_409
    have hg_425 : ad_425 0 = g0 := hk_425.1.trans hg_409
    obtain ⟨fs_425, hq_425⟩ := bookS_0 hb_425
    rw [← hk_425.1] at hl
    rw [← (hk_425.2 200 (by omega)).2] at hl
    rw [← (hk_425.2 212 (by omega)).2] at hl
    refine W.eq (g2 := F0 m 428 ls [.long (lI z_425)]) rfl ?_
    refine W.cs (cells' := 48) (slots' := 6315) rfl rfl ?_
    have s1_ := sumV_1 hz_425
    rw [show ((399 : Int) + 1 - 0).toNat = 400 from rfl] at s1_
    refine lv_aload_n (pc := 428) hx hb dL_law_428 rfl (lv_at hl 4 rfl) ?_
    refine k_iconst (pc := 429) hx hb dL_law_429 ?_
    refine k_lald (pc := 430) hx hb hK hP 212 2 hl_425.2.2.2.2 rfl (by omega) (by omega) (by omega) dL_law_430 ?_
    refine k_lcmp_ne (pc := 431) (tgt := 499) hx hb ⟨by omega, by omega⟩ ⟨by omega, by omega⟩ dL_law_431 dL_law_432 (by decide) (fun hc_431 => ?_) (fun hc_431 => ?_)
    · skip
      exfalso
      omega
    · skip
      refine lv_aload_n (pc := 435) hx hb dL_law_435 rfl (lv_at hl 2 rfl) ?_
      refine k_iconst (pc := 436) hx hb dL_law_436 ?_
      refine lv_iload (pc := 437) hx hb dL_law_437 (lv_at hl 0 rfl) ?_
      refine k_iconst (pc := 439) hx hb dL_law_439 ?_
      refine k_call1 (pc := 440) (va_runV (As := [.int (iI 0), .int (iI z_398), .int (iI 1)]) (rest := []) ⟨hx, hb, hml, hown, hts⟩ (c_X5_sum_b l D cA ad_425 w_425 H.size sc fn hI hb_425 0 z_398 1 (by omega) (by omega) (by omega) (by omega) (by omega)) (cwV 3 hts gL_law_X5_sum rfl rfl rfl (by decide +kernel) ⟨Nat.le_of_ble_eq_true rfl, Nat.le_of_ble_eq_true rfl⟩) (gV_V hP hD hK hB hS hA hZ 0 (ci := 5) rfl hq_425) rfl rfl hl.1 rfl (lv_room (Nat.le_of_ble_eq_true rfl)) dL_law_440 ⟨Nat.le_of_ble_eq_true rfl, Nat.le_of_ble_eq_true rfl⟩) hS (gA_sub hD hS hA) (fun v_440 ad_440 w_440 H locs hv_440 hP hD hS => ?_)
      obtain ⟨sc_440, fn_440, hb_440, hI_440, hk_440, hs_440⟩ := hv_440
      obtain ⟨e1_440, e2_440, -, -, -, -, -, z_440, hr_440, hz_440⟩ := hs_440
      rw [e1_440, e2_440] at hb_440
      subst hr_440
      have hl_440 := lwS_keep hk_440 hl_425
      have hg_440 : ad_440 0 = g0 := hk_440.1.trans hg_425
      obtain ⟨fs_440, hq_440⟩ := bookS_0 hb_440
      rw [← hk_440.1] at hl
      rw [← (hk_440.2 200 (by omega)).2] at hl
      rw [← (hk_440.2 212 (by omega)).2] at hl
      refine W.eq (g2 := F0 m 443 ls [.long (lI z_440)]) rfl ?_
      refine W.cs (cells' := 48) (slots' := 6315) rfl rfl ?_
      refine lv_aload_n (pc := 443) hx hb dL_law_443 rfl (lv_at hl 2 rfl) ?_
      refine lv_iload (pc := 444) hx hb dL_law_444 (lv_at hl 0 rfl) ?_
      refine k_iconst (pc := 446) hx hb dL_law_446 ?_
      refine k_iadd (pc := 447) hx hb dL_law_447 ?_
      refine k_sipush (pc := 448) hx hb dL_law_448 (by decide +kernel) ?_
      refine k_iconst (pc := 451) hx hb dL_law_451 ?_
      refine k_call1 (pc := 452) (va_runV (As := [.int (iI (z_398 + 1)), .int (iI 399), .int (iI 1)]) (rest := [.long (lI z_440)]) ⟨hx, hb, hml, hown, hts⟩ (c_X5_sum_b l D cA ad_440 w_440 H.size sc fn hI hb_440 (z_398 + 1) 399 1 (by omega) (by omega) (by omega) (by omega) (by omega)) (cwV 3 hts gL_law_X5_sum rfl rfl rfl (by decide +kernel) ⟨Nat.le_of_ble_eq_true rfl, Nat.le_of_ble_eq_true rfl⟩) (gV_V hP hD hK hB hS hA hZ 0 (ci := 5) rfl hq_440) rfl rfl hl.1 rfl (lv_room (Nat.le_of_ble_eq_true rfl)) dL_law_452 ⟨Nat.le_of_ble_eq_true rfl, Nat.le_of_ble_eq_true rfl⟩) hS (gA_sub hD hS hA) (fun v_452 ad_452 w_452 H locs hv_452 hP hD hS => ?_)
      obtain ⟨sc_452, fn_452, hb_452, hI_452, hk_452, hs_452⟩ := hv_452
      obtain ⟨e1_452, e2_452, -, -, -, -, -, z_452, hr_452, hz_452⟩ := hs_452
      rw [e1_452, e2_452] at hb_452
      subst hr_452
      have hl_452 := lwS_keep hk_452 hl_440
      have hg_452 : ad_452 0 = g0 := hk_452.1.trans hg_440
      obtain ⟨fs_452, hq_452⟩ := bookS_0 hb_452
      rw [← hk_452.1] at hl
      rw [← (hk_452.2 200 (by omega)).2] at hl
      rw [← (hk_452.2 212 (by omega)).2] at hl
      refine W.eq (g2 := F0 m 455 ls [.long (lI z_452), .long (lI z_440)]) rfl ?_
      refine W.cs (cells' := 48) (slots' := 6315) rfl rfl ?_
      have s2_ := sumV_1 hz_440
      have s3_ := sumV_1 hz_452
      have s4_ : z_440 + z_452 = sumT (tbF sc fn) (tbS sc fn) 0 400 := by
        have h9_ := sumT_a (F := tbF sc fn) (S := tbS sc fn) (a := 0) (z_398 + 1).toNat (399 - z_398).toNat
        rw [show (z_398 + 1).toNat + (399 - z_398).toNat = 400 by omega, show (0 : Int) + (((z_398 + 1).toNat : Nat) : Int) = z_398 + 1 by omega] at h9_
        rw [s2_, s3_, show (z_398 + 1 - 0).toNat = (z_398 + 1).toNat by omega, show ((399 : Int) + 1 - (z_398 + 1)).toNat = (399 - z_398).toNat by omega]
        exact h9_.symm
      refine k_ladd (pc := 455) hx hb dL_law_455 ?_
      refine lv_aload_n (pc := 456) hx hb dL_law_456 rfl (lv_at hl 4 rfl) ?_
      refine k_iconst (pc := 457) hx hb dL_law_457 ?_
      refine k_lald (pc := 458) hx hb hK hP 212 2 hl_452.2.2.2.2 rfl (by omega) (by omega) (by omega) dL_law_458 ?_
      refine k_lcmp_ne (pc := 459) (tgt := 499) hx hb ⟨by omega, by omega⟩ ⟨by omega, by omega⟩ dL_law_459 dL_law_460 (by decide) (fun hc_459 => ?_) (fun hc_459 => ?_)
      · skip
        exfalso
        omega
      · skip
        refine lv_aload_n (pc := 463) hx hb dL_law_463 rfl (lv_at hl 2 rfl) ?_
        refine k_iconst (pc := 464) hx hb dL_law_464 ?_
        refine lv_iload (pc := 465) hx hb dL_law_465 (lv_at hl 0 rfl) ?_
        refine k_iconst (pc := 467) hx hb dL_law_467 ?_
        refine k_call1 (pc := 468) (va_runV (As := [.int (iI 0), .int (iI z_398), .int (iI 2)]) (rest := []) ⟨hx, hb, hml, hown, hts⟩ (c_X5_sum_b l D cA ad_452 w_452 H.size sc fn hI hb_452 0 z_398 2 (by omega) (by omega) (by omega) (by omega) (by omega)) (cwV 3 hts gL_law_X5_sum rfl rfl rfl (by decide +kernel) ⟨Nat.le_of_ble_eq_true rfl, Nat.le_of_ble_eq_true rfl⟩) (gV_V hP hD hK hB hS hA hZ 0 (ci := 5) rfl hq_452) rfl rfl hl.1 rfl (lv_room (Nat.le_of_ble_eq_true rfl)) dL_law_468 ⟨Nat.le_of_ble_eq_true rfl, Nat.le_of_ble_eq_true rfl⟩) hS (gA_sub hD hS hA) (fun v_468 ad_468 w_468 H locs hv_468 hP hD hS => ?_)
        obtain ⟨sc_468, fn_468, hb_468, hI_468, hk_468, hs_468⟩ := hv_468
        obtain ⟨e1_468, e2_468, -, -, -, -, -, z_468, hr_468, hz_468⟩ := hs_468
        rw [e1_468, e2_468] at hb_468
        subst hr_468
        have hl_468 := lwS_keep hk_468 hl_452
        have hg_468 : ad_468 0 = g0 := hk_468.1.trans hg_452
        obtain ⟨fs_468, hq_468⟩ := bookS_0 hb_468
        rw [← hk_468.1] at hl
        rw [← (hk_468.2 200 (by omega)).2] at hl
        rw [← (hk_468.2 212 (by omega)).2] at hl
        refine W.eq (g2 := F0 m 471 ls [.long (lI z_468)]) rfl ?_
        refine W.cs (cells' := 48) (slots' := 6315) rfl rfl ?_
        obtain ⟨g_468, hg9_468, hy_468⟩ := sumV_2 hz_468
        have fb_468 := tok_.1 g_468
        refine lv_aload_n (pc := 471) hx hb dL_law_471 rfl (lv_at hl 2 rfl) ?_
        refine lv_iload (pc := 472) hx hb dL_law_472 (lv_at hl 0 rfl) ?_
        refine k_iconst (pc := 474) hx hb dL_law_474 ?_
        refine k_iadd (pc := 475) hx hb dL_law_475 ?_
        refine k_sipush (pc := 476) hx hb dL_law_476 (by decide +kernel) ?_
        refine k_iconst (pc := 479) hx hb dL_law_479 ?_
        refine k_call1 (pc := 480) (va_runV (As := [.int (iI (z_398 + 1)), .int (iI 399), .int (iI 2)]) (rest := [.long (lI z_468)]) ⟨hx, hb, hml, hown, hts⟩ (c_X5_sum_b l D cA ad_468 w_468 H.size sc fn hI hb_468 (z_398 + 1) 399 2 (by omega) (by omega) (by omega) (by omega) (by omega)) (cwV 3 hts gL_law_X5_sum rfl rfl rfl (by decide +kernel) ⟨Nat.le_of_ble_eq_true rfl, Nat.le_of_ble_eq_true rfl⟩) (gV_V hP hD hK hB hS hA hZ 0 (ci := 5) rfl hq_468) rfl rfl hl.1 rfl (lv_room (Nat.le_of_ble_eq_true rfl)) dL_law_480 ⟨Nat.le_of_ble_eq_true rfl, Nat.le_of_ble_eq_true rfl⟩) hS (gA_sub hD hS hA) (fun v_480 ad_480 w_480 H locs hv_480 hP hD hS => ?_)
        obtain ⟨sc_480, fn_480, hb_480, hI_480, hk_480, hs_480⟩ := hv_480
        obtain ⟨e1_480, e2_480, -, -, -, -, -, z_480, hr_480, hz_480⟩ := hs_480
        rw [e1_480, e2_480] at hb_480
        subst hr_480
        have hl_480 := lwS_keep hk_480 hl_468
        have hg_480 : ad_480 0 = g0 := hk_480.1.trans hg_468
        obtain ⟨fs_480, hq_480⟩ := bookS_0 hb_480
        rw [← hk_480.1] at hl
        rw [← (hk_480.2 200 (by omega)).2] at hl
        rw [← (hk_480.2 212 (by omega)).2] at hl
        refine W.eq (g2 := F0 m 483 ls [.long (lI z_480), .long (lI z_468)]) rfl ?_
        refine W.cs (cells' := 48) (slots' := 6315) rfl rfl ?_
        obtain ⟨g_480, hg9_480, hy_480⟩ := sumV_2 hz_480
        have fb_480 := tok_.1 g_480
        refine k_lmax (pc := 483) hx hb (hml.trans hl.1.symm) hown (hts (.methodLink RL 93 Lib.MathLoose.max_long.x) (by decide +kernel)) (hts (.static Lib.MathLoose.max_long.x) (by decide +kernel)) (hts (.initialized "java/lang/Math") (by decide +kernel)) (hts (.code Lib.MathLoose.max_long.x Lib.MathLoose.max_long.code 4 (some .long)) (by decide +kernel)) (Nat.le_of_ble_eq_true rfl) (Nat.le_of_ble_eq_true rfl) (Nat.le_of_ble_eq_true rfl) (Nat.le_of_ble_eq_true rfl) ⟨by omega, by omega⟩ ⟨by omega, by omega⟩ dL_law_483 ?_
        refine lv_aload_n (pc := 486) hx hb dL_law_486 rfl (lv_at hl 2 rfl) ?_
        refine k_iconst (pc := 487) hx hb dL_law_487 ?_
        refine k_sipush (pc := 488) hx hb dL_law_488 (by decide +kernel) ?_
        refine k_iconst (pc := 491) hx hb dL_law_491 ?_
        refine k_call1 (pc := 492) (va_runV (As := [.int (iI 0), .int (iI 399), .int (iI 2)]) (rest := [.long (lI (max z_468 z_480))]) ⟨hx, hb, hml, hown, hts⟩ (c_X5_sum_b l D cA ad_480 w_480 H.size sc fn hI hb_480 0 399 2 (by omega) (by omega) (by omega) (by omega) (by omega)) (cwV 3 hts gL_law_X5_sum rfl rfl rfl (by decide +kernel) ⟨Nat.le_of_ble_eq_true rfl, Nat.le_of_ble_eq_true rfl⟩) (gV_V hP hD hK hB hS hA hZ 0 (ci := 5) rfl hq_480) rfl rfl hl.1 rfl (lv_room (Nat.le_of_ble_eq_true rfl)) dL_law_492 ⟨Nat.le_of_ble_eq_true rfl, Nat.le_of_ble_eq_true rfl⟩) hS (gA_sub hD hS hA) (fun v_492 ad_492 w_492 H locs hv_492 hP hD hS => ?_)
        obtain ⟨sc_492, fn_492, hb_492, hI_492, hk_492, hs_492⟩ := hv_492
        obtain ⟨e1_492, e2_492, -, -, -, -, -, z_492, hr_492, hz_492⟩ := hs_492
        rw [e1_492, e2_492] at hb_492
        subst hr_492
        have hl_492 := lwS_keep hk_492 hl_480
        have hg_492 : ad_492 0 = g0 := hk_492.1.trans hg_480
        obtain ⟨fs_492, hq_492⟩ := bookS_0 hb_492
        rw [← hk_492.1] at hl
        rw [← (hk_492.2 200 (by omega)).2] at hl
        rw [← (hk_492.2 212 (by omega)).2] at hl
        refine W.eq (g2 := F0 m 495 ls [.long (lI z_492), .long (lI (max z_468 z_480))]) rfl ?_
        refine W.cs (cells' := 48) (slots' := 6315) rfl rfl ?_
        obtain ⟨g_492, hg9_492, hy_492⟩ := sumV_2 hz_492
        have fb_492 := tok_.1 g_492
        have mx_ : max z_468 z_480 = z_492 := gd_two (F := tbF sc fn) (S := tbS sc fn) (h := z_398) tok_.2.2.1 (by omega) hg9_468 hg9_480 hg9_492 hy_468 hy_480 hy_492
        refine k_lcmp_eq (pc := 495) (tgt := 501) hx hb ⟨by omega, by omega⟩ ⟨by omega, by omega⟩ dL_law_495 dL_law_496 (by decide) (fun hc_495 => ?_) (fun hc_495 => ?_)
        · skip
          exact kk  ad_492 w_492 al H locs ls hb_492 hI hl_492 hg_492 hwi hP hD hS (lv_sub hl [1, 2, 3, 4, 5] rfl)
        · skip
          exfalso
          omega

set_option maxHeartbeats 8000000 in
set_option maxRecDepth 100000 in
theorem lw_reach {p : Program} {e : Env} {s : State} {m : MethodId} {below : List Frame} {meth : Method} {c : Code} {l : Launch} {D : va_G} {cA : Nat → ClassId} {A : Nat → Prop} {b L : Nat} {xs : Nat → Int32} {g0 : Nat} (C : lwC p l s m c D cA A b L xs) (Q9 : State → Prop) {sc : Nat → Int} {fn : Nat → Int → Int} {st ic nn : Int → Int} (hd : rlD fn st) (hi : rlI fn ic) (hn : nn 1 = sc 3) (wi : Int)
  (kk : ∀  (ad : Nat → Nat) (w : Nat → Option va_E) (al : Int → Int) (H : Heap) (locs : List Loc) (ls : Array Slot), bookS cA ad w sc fn → bkInv sc fn → lwS cA ad w st ic nn al → ad 0 = g0 → (wi = cntT (tbS sc fn) 0 400) → gP D vwCl ad w H → gD A ad w → va_S A s.heap H locs → lv_has ls 15 [(0, .ref b), (1, .ref (ad 0)), (2, .ref (ad 200)), (3, .ref (ad 212)), (5, .int (iI wi))] → W p l e room_1 s m #[Value.ref b] below meth c H locs 48 6315 Q9 (F0 m 651 ls []))
  (ad : Nat → Nat) (w : Nat → Option va_E) (al : Int → Int) (H : Heap) (locs : List Loc) (ls : Array Slot) (hbk : bookS cA ad w sc fn) (hI : bkInv sc fn) (hlb : lwS cA ad w st ic nn al) (hg0 : ad 0 = g0) (hwi : wi = cntT (tbS sc fn) 0 400) (hP : gP D vwCl ad w H) (hD : gD A ad w) (hS : va_S A s.heap H locs) (hl : lv_has ls 15 [(0, .ref b), (1, .ref (ad 0)), (2, .ref (ad 200)), (3, .ref (ad 212)), (5, .int (iI wi))]) : W p l e room_1 s m #[Value.ref b] below meth c H locs 48 6315 Q9 (F0 m 501 ls []) := by
  obtain ⟨hx, hb, hml, hown, hts, hK, hB, hZ, hA, hX, hbl, hbA, hL⟩ := C
  obtain ⟨fs0, hq0⟩ := bookS_0 hbk
  have tok_ := tbOk_tb hI
  have cw_ := cntT_b (tbS sc fn) 0 400
  refine k_iconst (pc := 501) hx hb dL_law_501 ?_
  refine lv_istore (pc := 502) (lv' := [(9, .int (iI 1)), (0, .ref b), (1, .ref (ad 0)), (2, .ref (ad 200)), (3, .ref (ad 212)), (5, .int (iI wi))]) hx hb dL_law_502 hl (by decide) rfl (fun ls hl => ?_)
  have lp_h504 : ∀ (N9 : Nat) (ad_h504 : Nat → Nat) (w_h504 : Nat → Option va_E)  (pc9 : Int), (bookS cA ad_h504 w_h504 sc fn) → (lwS cA ad_h504 w_h504 st ic nn al) → (ad_h504 0 = g0) → (1 ≤ pc9 ∧ pc9 ≤ 111) → (111 - pc9 + 1).toNat < N9 → ∀ (H : Heap) (locs : List Loc), gP D vwCl ad_h504 w_h504 H → gD A ad_h504 w_h504 → va_S A s.heap H locs → ∀ (ls : Array Slot), lv_has ls 15 [(9, .int (iI pc9)), (0, .ref b), (1, .ref (ad_h504 0)), (2, .ref (ad_h504 200)), (3, .ref (ad_h504 212)), (5, .int (iI wi))] → W p l e room_1 s m #[Value.ref b] below meth c H locs 48 6315 Q9 (F0 m 504 ls []) := by
    intro N9
    induction N9 with
    | zero => intro ad_h504 w_h504 pc9 hbk_h504 hlb_h504 hg0_h504 i0 hmu; exact absurd hmu (Nat.not_lt_zero _)
    | succ N9 ih_h504 =>
      intro ad_h504 w_h504 pc9 hbk_h504 hlb_h504 hg0_h504 i0 hmu_504 H locs hP hD hS ls hl
      obtain ⟨fs_h504, hq_h504⟩ := bookS_0 hbk_h504
      refine lv_iload (pc := 504) hx hb dL_law_504 (lv_at hl 0 rfl) ?_
      refine k_bipush (pc := 506) hx hb dL_law_506 (by decide +kernel) ?_
      refine k_icmp_gt (pc := 508) (tgt := 651) hx hb ⟨by omega, by omega⟩ ⟨by omega, by omega⟩ dL_law_508 (by decide) (fun hc_508 => ?_) (fun hc_508 => ?_)
      · skip
        exact kk  ad_h504 w_h504 al H locs ls hbk_h504 hI hlb_h504 hg0_h504 hwi hP hD hS (lv_sub hl [1, 2, 3, 4, 5] rfl)
      · skip
        refine lv_aload_n (pc := 511) hx hb dL_law_511 rfl (lv_at hl 2 rfl) ?_
        refine lv_iload (pc := 512) hx hb dL_law_512 (lv_at hl 0 rfl) ?_
        refine k_call1 (pc := 514) (va_runV (As := [.int (iI pc9)]) (rest := []) ⟨hx, hb, hml, hown, hts⟩ (c_X5_reached_b l D cA ad_h504 w_h504 H.size sc fn hI hbk_h504 pc9 (by omega) (by omega)) (cwV 1 hts gL_law_X5_reached rfl rfl rfl (by decide +kernel) ⟨Nat.le_of_ble_eq_true rfl, Nat.le_of_ble_eq_true rfl⟩) (gV_V hP hD hK hB hS hA hZ 0 (ci := 5) rfl hq_h504) rfl rfl hl.1 rfl (lv_room (Nat.le_of_ble_eq_true rfl)) dL_law_514 ⟨Nat.le_of_ble_eq_true rfl, Nat.le_of_ble_eq_true rfl⟩) hS (gA_sub hD hS hA) (fun v_514 ad_514 w_514 H locs hv_514 hP hD hS => ?_)
        obtain ⟨sc_514, fn_514, hb_514, hI_514, hk_514, hs_514⟩ := hv_514
        obtain ⟨e1_514, e2_514, -, -, z_514, hr_514, hz_514⟩ := hs_514
        rw [e1_514, e2_514] at hb_514
        subst hr_514
        have hl_514 := lwS_keep hk_514 hlb_h504
        have hg_514 : ad_514 0 = g0 := hk_514.1.trans hg0_h504
        obtain ⟨fs_514, hq_514⟩ := bookS_0 hb_514
        rw [← hk_514.1] at hl
        rw [← (hk_514.2 200 (by omega)).2] at hl
        rw [← (hk_514.2 212 (by omega)).2] at hl
        refine W.eq (g2 := F0 m 517 ls [.long (lI z_514)]) rfl ?_
        refine W.cs (cells' := 48) (slots' := 6315) rfl rfl ?_
        have rz_ : -1 ≤ z_514 ∧ z_514 ≤ 1000000000000 := by
          rcases hz_514 with ⟨h, -⟩ | ⟨q9, -, -, -, h, -⟩
          · omega
          · have h9_ := tok_.1 q9
            omega
        have rl_ := rc_law (F := tbF sc fn) (S := tbS sc fn) tok_.2.2.1 hz_514
        refine lv_lstore (pc := 517) (lv' := [(10, .long (lI z_514)), (9, .int (iI pc9)), (0, .ref b), (1, .ref (ad_514 0)), (2, .ref (ad_514 200)), (3, .ref (ad_514 212)), (5, .int (iI wi))]) hx hb dL_law_517 hl (by decide) rfl (fun ls hl => ?_)
        refine k_iconst (pc := 519) hx hb dL_law_519 ?_
        refine lv_istore (pc := 520) (lv' := [(12, .int (iI 0)), (10, .long (lI z_514)), (9, .int (iI pc9)), (0, .ref b), (1, .ref (ad_514 0)), (2, .ref (ad_514 200)), (3, .ref (ad_514 212)), (5, .int (iI wi))]) hx hb dL_law_520 hl (by decide) rfl (fun ls hl => ?_)
        refine k_iconst (pc := 522) hx hb dL_law_522 ?_
        refine lv_istore (pc := 523) (lv' := [(13, .int (iI 0)), (12, .int (iI 0)), (10, .long (lI z_514)), (9, .int (iI pc9)), (0, .ref b), (1, .ref (ad_514 0)), (2, .ref (ad_514 200)), (3, .ref (ad_514 212)), (5, .int (iI wi))]) hx hb dL_law_523 hl (by decide) rfl (fun ls hl => ?_)
        refine k_iconst (pc := 525) hx hb dL_law_525 ?_
        refine lv_istore (pc := 526) (lv' := [(14, .int (iI 0)), (13, .int (iI 0)), (12, .int (iI 0)), (10, .long (lI z_514)), (9, .int (iI pc9)), (0, .ref b), (1, .ref (ad_514 0)), (2, .ref (ad_514 200)), (3, .ref (ad_514 212)), (5, .int (iI wi))]) hx hb dL_law_526 hl (by decide) rfl (fun ls hl => ?_)
        have lp_h528 : ∀ (N9 : Nat) (ad_h528 : Nat → Nat) (w_h528 : Nat → Option va_E)  (rc : Int) (mo : Int) (d9 : Int), (bookS cA ad_h528 w_h528 sc fn) → (lwS cA ad_h528 w_h528 st ic nn al) → (ad_h528 0 = g0) → (0 ≤ d9 ∧ d9 ≤ 400) → (rc = cgT (tbF sc fn) (tbS sc fn) z_514 d9.toNat) → (mo = cgT (tbF sc fn) (tbS sc fn) (z_514 + 1) d9.toNat) → (400 - d9).toNat < N9 → ∀ (H : Heap) (locs : List Loc), gP D vwCl ad_h528 w_h528 H → gD A ad_h528 w_h528 → va_S A s.heap H locs → ∀ (ls : Array Slot), lv_has ls 15 [(14, .int (iI d9)), (13, .int (iI mo)), (12, .int (iI rc)), (10, .long (lI z_514)), (9, .int (iI pc9)), (0, .ref b), (1, .ref (ad_h528 0)), (2, .ref (ad_h528 200)), (3, .ref (ad_h528 212)), (5, .int (iI wi))] → W p l e room_1 s m #[Value.ref b] below meth c H locs 48 6315 Q9 (F0 m 528 ls []) := by
          intro N9
          induction N9 with
          | zero => intro ad_h528 w_h528 rc mo d9 hbk_h528 hlb_h528 hg0_h528 j0 jr jm hmu; exact absurd hmu (Nat.not_lt_zero _)
          | succ N9 ih_h528 =>
            intro ad_h528 w_h528 rc mo d9 hbk_h528 hlb_h528 hg0_h528 j0 jr jm hmu_528 H locs hP hD hS ls hl
            obtain ⟨fs_h528, hq_h528⟩ := bookS_0 hbk_h528
            have f1_ := tok_.1 d9
            have f2_ := tok_.2.1 d9
            have rb1_ := cgT_b (F := tbF sc fn) (S := tbS sc fn) (x := z_514) d9.toNat
            have rb2_ := cgT_b (F := tbF sc fn) (S := tbS sc fn) (x := z_514 + 1) d9.toNat
            refine lv_iload (pc := 528) hx hb dL_law_528 (lv_at hl 0 rfl) ?_
            refine k_sipush (pc := 530) hx hb dL_law_530 (by decide +kernel) ?_
            refine k_icmp_ge (pc := 533) (tgt := 598) hx hb ⟨by omega, by omega⟩ ⟨by omega, by omega⟩ dL_law_533 (by decide) (fun hc_533 => ?_) (fun hc_533 => ?_)
            · skip
              have de_ : d9 = 400 := by omega
              rw [de_] at jr jm rb1_ rb2_
              have m9_ := mulB (a := wi) (b := pc9) (M := 400) (N := 111) ⟨by omega, by omega⟩ ⟨by omega, by omega⟩
              have m8_ : wi * pc9 ≤ wi * 100 := Int.mul_le_mul_of_nonneg_left (by omega) (by omega)
              have m7_ : 0 ≤ wi * pc9 := Int.mul_nonneg (by omega) (by omega)
              have m6_ : Int.tdiv (wi * pc9) 100 = wi * pc9 / 100 := Int.tdiv_eq_ediv_of_nonneg m7_
              have ra_ : cntT (tbS sc fn) 0 400 = 0 → z_514 = -1 := rl_.1
              have rb_ : cntT (tbS sc fn) 0 400 ≠ 0 → max 1 (Int.tdiv (wi * pc9) 100) ≤ rc ∧ mo < max 1 (Int.tdiv (wi * pc9) 100) := fun z => by
                have h9_ := rl_.2 z (by omega) (by rw [← hwi, m6_]; omega)
                rw [← hwi] at h9_
                rw [jr, jm]
                exact h9_
              refine k_iconst (pc := 598) hx hb dL_law_598 ?_
              refine lv_iload (pc := 599) hx hb dL_law_599 (lv_at hl 9 rfl) ?_
              refine lv_iload (pc := 601) hx hb dL_law_601 (lv_at hl 4 rfl) ?_
              refine k_imul (pc := 603) hx hb dL_law_603 ?_
              refine k_bipush (pc := 604) hx hb dL_law_604 (by decide +kernel) ?_
              refine k_idiv (pc := 606) hx hb ⟨by omega, by omega⟩ ⟨by omega, by omega⟩ (by omega) dL_law_606 ?_
              refine k_mmax (pc := 607) hx hb (hml.trans hl.1.symm) hown (hts (.methodLink RL 108 Lib.Math.max.name) (by decide +kernel)) (hts (.static Lib.Math.max.name) (by decide +kernel)) (hts (.initialized "java/lang/Math") (by decide +kernel)) (hts (.code Lib.Math.max.name Lib.Math.max.code 2 (some .int)) (by decide +kernel)) (Nat.le_of_ble_eq_true rfl) (Nat.le_of_ble_eq_true rfl) (Nat.le_of_ble_eq_true rfl) (Nat.le_of_ble_eq_true rfl) ⟨by omega, by omega⟩ ⟨by omega, by omega⟩ dL_law_607 ?_
              refine lv_istore (pc := 610) (lv' := [(14, .int (iI (max 1 (Int.tdiv (wi * pc9) 100)))), (13, .int (iI mo)), (12, .int (iI rc)), (10, .long (lI z_514)), (9, .int (iI pc9)), (0, .ref b), (1, .ref (ad_h528 0)), (2, .ref (ad_h528 200)), (3, .ref (ad_h528 212)), (5, .int (iI wi))]) hx hb dL_law_610 hl (by decide) rfl (fun ls hl => ?_)
              refine lv_iload (pc := 612) hx hb dL_law_612 (lv_at hl 9 rfl) ?_
              refine k_if_ne (pc := 614) (tgt := 629) hx hb ⟨by omega, by omega⟩ dL_law_614 (by decide) (fun hc_614 => ?_) (fun hc_614 => ?_)
              · skip
                refine lv_iload (pc := 629) hx hb dL_law_629 (lv_at hl 2 rfl) ?_
                refine lv_iload (pc := 631) hx hb dL_law_631 (lv_at hl 0 rfl) ?_
                refine k_icmp_lt (pc := 633) (tgt := 643) hx hb ⟨by omega, by omega⟩ ⟨by omega, by omega⟩ dL_law_633 (by decide) (fun hc_633 => ?_) (fun hc_633 => ?_)
                · skip
                  exfalso
                  omega
                · skip
                  refine lv_iload (pc := 636) hx hb dL_law_636 (lv_at hl 1 rfl) ?_
                  refine lv_iload (pc := 638) hx hb dL_law_638 (lv_at hl 0 rfl) ?_
                  refine k_icmp_lt (pc := 640) (tgt := 645) hx hb ⟨by omega, by omega⟩ ⟨by omega, by omega⟩ dL_law_640 (by decide) (fun hc_640 => ?_) (fun hc_640 => ?_)
                  · skip
                    refine lv_iinc (pc := 645) (v := iI (pc9 + 11)) (lv' := [(9, .int (iI (pc9 + 11))), (14, .int (iI (max 1 (Int.tdiv (wi * pc9) 100)))), (13, .int (iI mo)), (12, .int (iI rc)), (10, .long (lI z_514)), (0, .ref b), (1, .ref (ad_h528 0)), (2, .ref (ad_h528 200)), (3, .ref (ad_h528 212)), (5, .int (iI wi))]) hx hb dL_law_645 hl (k := 4) rfl (iI_add _ _) (by decide) rfl (fun ls hl => ?_)
                    refine lv_goto (pc := 648) (tgt := 504) hx hb dL_law_648 (by decide) ?_
                    exact ih_h504 ad_h528 w_h528 (pc9 + 11) hbk_h528 hlb_h528 hg0_h528 (by omega) (by omega) H locs hP hD hS ls (lv_sub hl [0, 5, 6, 7, 8, 9] rfl)
                  · skip
                    exfalso
                    omega
              · skip
                refine lv_lload (pc := 617) hx hb dL_law_617 (lv_at hl 3 rfl) ?_
                refine k_ldc2 (z := (-1)) (pc := 619) hx hb hown (hts (.constantLong RL 75 (-1)) (by decide +kernel)) (by decide +kernel) dL_law_619 ?_
                refine k_lcmp_eq (pc := 622) (tgt := 645) hx hb ⟨by omega, by omega⟩ ⟨by omega, by omega⟩ dL_law_622 dL_law_623 (by decide) (fun hc_622 => ?_) (fun hc_622 => ?_)
                · skip
                  refine lv_iinc (pc := 645) (v := iI (pc9 + 11)) (lv' := [(9, .int (iI (pc9 + 11))), (14, .int (iI (max 1 (Int.tdiv (wi * pc9) 100)))), (13, .int (iI mo)), (12, .int (iI rc)), (10, .long (lI z_514)), (0, .ref b), (1, .ref (ad_h528 0)), (2, .ref (ad_h528 200)), (3, .ref (ad_h528 212)), (5, .int (iI wi))]) hx hb dL_law_645 hl (k := 4) rfl (iI_add _ _) (by decide) rfl (fun ls hl => ?_)
                  refine lv_goto (pc := 648) (tgt := 504) hx hb dL_law_648 (by decide) ?_
                  exact ih_h504 ad_h528 w_h528 (pc9 + 11) hbk_h528 hlb_h528 hg0_h528 (by omega) (by omega) H locs hP hD hS ls (lv_sub hl [0, 5, 6, 7, 8, 9] rfl)
                · skip
                  exfalso
                  omega
            · skip
              refine lv_aload_n (pc := 536) hx hb dL_law_536 rfl (lv_at hl 6 rfl) ?_
              refine lv_iload (pc := 537) hx hb dL_law_537 (lv_at hl 0 rfl) ?_
              refine k_call1 (pc := 539) (va_runV (As := [.int (iI d9)]) (rest := []) ⟨hx, hb, hml, hown, hts⟩ (c_X5_state_b l D cA ad_h528 w_h528 H.size sc fn hI hbk_h528 d9 (by omega) (by omega)) (cwV 1 hts gL_law_X5_state rfl rfl rfl (by decide +kernel) ⟨Nat.le_of_ble_eq_true rfl, Nat.le_of_ble_eq_true rfl⟩) (gV_V hP hD hK hB hS hA hZ 0 (ci := 5) rfl hq_h528) rfl rfl hl.1 rfl (lv_room (Nat.le_of_ble_eq_true rfl)) dL_law_539 ⟨Nat.le_of_ble_eq_true rfl, Nat.le_of_ble_eq_true rfl⟩) hS (gA_sub hD hS hA) (fun v_539 ad_539 w_539 H locs hv_539 hP hD hS => ?_)
              obtain ⟨sc_539, fn_539, hb_539, hI_539, hk_539, hs_539⟩ := hv_539
              obtain ⟨e1_539, e2_539, -, -, hr_539⟩ := hs_539
              rw [e1_539, e2_539] at hb_539
              subst hr_539
              have hl_539 := lwS_keep hk_539 hlb_h528
              have hg_539 : ad_539 0 = g0 := hk_539.1.trans hg0_h528
              obtain ⟨fs_539, hq_539⟩ := bookS_0 hb_539
              rw [← hk_539.1] at hl
              rw [← (hk_539.2 200 (by omega)).2] at hl
              rw [← (hk_539.2 212 (by omega)).2] at hl
              refine W.eq (g2 := F0 m 542 ls [.int (iI (tbS sc fn d9))]) rfl ?_
              refine W.cs (cells' := 48) (slots' := 6315) rfl rfl ?_
              refine k_if_ne (pc := 542) (tgt := 548) hx hb ⟨by omega, by omega⟩ dL_law_542 (by decide) (fun hc_542 => ?_) (fun hc_542 => ?_)
              · skip
                refine lv_iload (pc := 548) hx hb dL_law_548 (lv_at hl 2 rfl) ?_
                refine lv_aload_n (pc := 550) hx hb dL_law_550 rfl (lv_at hl 6 rfl) ?_
                refine lv_iload (pc := 551) hx hb dL_law_551 (lv_at hl 0 rfl) ?_
                refine k_call1 (pc := 553) (va_runV (As := [.int (iI d9)]) (rest := [.int (iI rc)]) ⟨hx, hb, hml, hown, hts⟩ (c_X5_flow_b l D cA ad_539 w_539 H.size sc fn hI hb_539 d9 (by omega) (by omega)) (cwV 1 hts gL_law_X5_flow rfl rfl rfl (by decide +kernel) ⟨Nat.le_of_ble_eq_true rfl, Nat.le_of_ble_eq_true rfl⟩) (gV_V hP hD hK hB hS hA hZ 0 (ci := 5) rfl hq_539) rfl rfl hl.1 rfl (lv_room (Nat.le_of_ble_eq_true rfl)) dL_law_553 ⟨Nat.le_of_ble_eq_true rfl, Nat.le_of_ble_eq_true rfl⟩) hS (gA_sub hD hS hA) (fun v_553 ad_553 w_553 H locs hv_553 hP hD hS => ?_)
                obtain ⟨sc_553, fn_553, hb_553, hI_553, hk_553, hs_553⟩ := hv_553
                obtain ⟨e1_553, e2_553, -, -, hr_553⟩ := hs_553
                rw [e1_553, e2_553] at hb_553
                subst hr_553
                have hl_553 := lwS_keep hk_553 hl_539
                have hg_553 : ad_553 0 = g0 := hk_553.1.trans hg_539
                obtain ⟨fs_553, hq_553⟩ := bookS_0 hb_553
                rw [← hk_553.1] at hl
                rw [← (hk_553.2 200 (by omega)).2] at hl
                rw [← (hk_553.2 212 (by omega)).2] at hl
                refine W.eq (g2 := F0 m 556 ls [.long (lI (tbF sc fn d9)), .int (iI rc)]) rfl ?_
                refine W.cs (cells' := 48) (slots' := 6315) rfl rfl ?_
                refine lv_lload (pc := 556) hx hb dL_law_556 (lv_at hl 3 rfl) ?_
                refine k_lcmp_lt (pc := 558) (tgt := 566) hx hb ⟨by omega, by omega⟩ ⟨by omega, by omega⟩ dL_law_558 dL_law_559 (by decide) (fun hc_558 => ?_) (fun hc_558 => ?_)
                · skip
                  refine k_iconst (pc := 566) hx hb dL_law_566 ?_
                  refine k_iadd (pc := 567) hx hb dL_law_567 ?_
                  refine lv_istore (pc := 568) (lv' := [(12, .int (iI (rc + 0))), (14, .int (iI d9)), (13, .int (iI mo)), (10, .long (lI z_514)), (9, .int (iI pc9)), (0, .ref b), (1, .ref (ad_553 0)), (2, .ref (ad_553 200)), (3, .ref (ad_553 212)), (5, .int (iI wi))]) hx hb dL_law_568 hl (by decide) rfl (fun ls hl => ?_)
                  refine lv_iload (pc := 570) hx hb dL_law_570 (lv_at hl 2 rfl) ?_
                  refine lv_aload_n (pc := 572) hx hb dL_law_572 rfl (lv_at hl 6 rfl) ?_
                  refine lv_iload (pc := 573) hx hb dL_law_573 (lv_at hl 1 rfl) ?_
                  refine k_call1 (pc := 575) (va_runV (As := [.int (iI d9)]) (rest := [.int (iI mo)]) ⟨hx, hb, hml, hown, hts⟩ (c_X5_flow_b l D cA ad_553 w_553 H.size sc fn hI hb_553 d9 (by omega) (by omega)) (cwV 1 hts gL_law_X5_flow rfl rfl rfl (by decide +kernel) ⟨Nat.le_of_ble_eq_true rfl, Nat.le_of_ble_eq_true rfl⟩) (gV_V hP hD hK hB hS hA hZ 0 (ci := 5) rfl hq_553) rfl rfl hl.1 rfl (lv_room (Nat.le_of_ble_eq_true rfl)) dL_law_575 ⟨Nat.le_of_ble_eq_true rfl, Nat.le_of_ble_eq_true rfl⟩) hS (gA_sub hD hS hA) (fun v_575 ad_575 w_575 H locs hv_575 hP hD hS => ?_)
                  obtain ⟨sc_575, fn_575, hb_575, hI_575, hk_575, hs_575⟩ := hv_575
                  obtain ⟨e1_575, e2_575, -, -, hr_575⟩ := hs_575
                  rw [e1_575, e2_575] at hb_575
                  subst hr_575
                  have hl_575 := lwS_keep hk_575 hl_553
                  have hg_575 : ad_575 0 = g0 := hk_575.1.trans hg_553
                  obtain ⟨fs_575, hq_575⟩ := bookS_0 hb_575
                  rw [← hk_575.1] at hl
                  rw [← (hk_575.2 200 (by omega)).2] at hl
                  rw [← (hk_575.2 212 (by omega)).2] at hl
                  refine W.eq (g2 := F0 m 578 ls [.long (lI (tbF sc fn d9)), .int (iI mo)]) rfl ?_
                  refine W.cs (cells' := 48) (slots' := 6315) rfl rfl ?_
                  refine lv_lload (pc := 578) hx hb dL_law_578 (lv_at hl 3 rfl) ?_
                  refine k_lcmp_le (pc := 580) (tgt := 588) hx hb ⟨by omega, by omega⟩ ⟨by omega, by omega⟩ dL_law_580 dL_law_581 (by decide) (fun hc_580 => ?_) (fun hc_580 => ?_)
                  · skip
                    refine k_iconst (pc := 588) hx hb dL_law_588 ?_
                    refine k_iadd (pc := 589) hx hb dL_law_589 ?_
                    refine lv_istore (pc := 590) (lv' := [(13, .int (iI (mo + 0))), (12, .int (iI (rc + 0))), (14, .int (iI d9)), (10, .long (lI z_514)), (9, .int (iI pc9)), (0, .ref b), (1, .ref (ad_575 0)), (2, .ref (ad_575 200)), (3, .ref (ad_575 212)), (5, .int (iI wi))]) hx hb dL_law_590 hl (by decide) rfl (fun ls hl => ?_)
                    refine lv_iinc (pc := 592) (v := iI (d9 + 1)) (lv' := [(14, .int (iI (d9 + 1))), (13, .int (iI (mo + 0))), (12, .int (iI (rc + 0))), (10, .long (lI z_514)), (9, .int (iI pc9)), (0, .ref b), (1, .ref (ad_575 0)), (2, .ref (ad_575 200)), (3, .ref (ad_575 212)), (5, .int (iI wi))]) hx hb dL_law_592 hl (k := 2) rfl (iI_add _ _) (by decide) rfl (fun ls hl => ?_)
                    refine lv_goto (pc := 595) (tgt := 528) hx hb dL_law_595 (by decide) ?_
                    have c1_ := cgT_s (F := tbF sc fn) (S := tbS sc fn) (x := z_514) (d := d9) (by omega)
                    have c2_ := cgT_s (F := tbF sc fn) (S := tbS sc fn) (x := z_514 + 1) (d := d9) (by omega)
                    first | rw [if_pos (by omega)] at c1_ | rw [if_neg (by omega)] at c1_
                    first | rw [if_pos (by omega)] at c2_ | rw [if_neg (by omega)] at c2_
                    exact ih_h528 ad_575 w_575 (rc + 0) (mo + 0) (d9 + 1) hb_575 hl_575 hg_575 (by omega) (by omega) (by omega) (by omega) H locs hP hD hS ls (lv_sub hl [0, 1, 2, 3, 4, 5, 6, 7, 8, 9] rfl)
                  · skip
                    refine k_iconst (pc := 584) hx hb dL_law_584 ?_
                    refine lv_goto (pc := 585) (tgt := 589) hx hb dL_law_585 (by decide) ?_
                    refine k_iadd (pc := 589) hx hb dL_law_589 ?_
                    refine lv_istore (pc := 590) (lv' := [(13, .int (iI (mo + 1))), (12, .int (iI (rc + 0))), (14, .int (iI d9)), (10, .long (lI z_514)), (9, .int (iI pc9)), (0, .ref b), (1, .ref (ad_575 0)), (2, .ref (ad_575 200)), (3, .ref (ad_575 212)), (5, .int (iI wi))]) hx hb dL_law_590 hl (by decide) rfl (fun ls hl => ?_)
                    refine lv_iinc (pc := 592) (v := iI (d9 + 1)) (lv' := [(14, .int (iI (d9 + 1))), (13, .int (iI (mo + 1))), (12, .int (iI (rc + 0))), (10, .long (lI z_514)), (9, .int (iI pc9)), (0, .ref b), (1, .ref (ad_575 0)), (2, .ref (ad_575 200)), (3, .ref (ad_575 212)), (5, .int (iI wi))]) hx hb dL_law_592 hl (k := 2) rfl (iI_add _ _) (by decide) rfl (fun ls hl => ?_)
                    refine lv_goto (pc := 595) (tgt := 528) hx hb dL_law_595 (by decide) ?_
                    have c1_ := cgT_s (F := tbF sc fn) (S := tbS sc fn) (x := z_514) (d := d9) (by omega)
                    have c2_ := cgT_s (F := tbF sc fn) (S := tbS sc fn) (x := z_514 + 1) (d := d9) (by omega)
                    first | rw [if_pos (by omega)] at c1_ | rw [if_neg (by omega)] at c1_
                    first | rw [if_pos (by omega)] at c2_ | rw [if_neg (by omega)] at c2_
                    exact ih_h528 ad_575 w_575 (rc + 0) (mo + 1) (d9 + 1) hb_575 hl_575 hg_575 (by omega) (by omega) (by omega) (by omega) H locs hP hD hS ls (lv_sub hl [0, 1, 2, 3, 4, 5, 6, 7, 8, 9] rfl)
                · skip
                  refine k_iconst (pc := 562) hx hb dL_law_562 ?_
                  refine lv_goto (pc := 563) (tgt := 567) hx hb dL_law_563 (by decide) ?_
                  refine k_iadd (pc := 567) hx hb dL_law_567 ?_
                  refine lv_istore (pc := 568) (lv' := [(12, .int (iI (rc + 1))), (14, .int (iI d9)), (13, .int (iI mo)), (10, .long (lI z_514)), (9, .int (iI pc9)), (0, .ref b), (1, .ref (ad_553 0)), (2, .ref (ad_553 200)), (3, .ref (ad_553 212)), (5, .int (iI wi))]) hx hb dL_law_568 hl (by decide) rfl (fun ls hl => ?_)
                  refine lv_iload (pc := 570) hx hb dL_law_570 (lv_at hl 2 rfl) ?_
                  refine lv_aload_n (pc := 572) hx hb dL_law_572 rfl (lv_at hl 6 rfl) ?_
                  refine lv_iload (pc := 573) hx hb dL_law_573 (lv_at hl 1 rfl) ?_
                  refine k_call1 (pc := 575) (va_runV (As := [.int (iI d9)]) (rest := [.int (iI mo)]) ⟨hx, hb, hml, hown, hts⟩ (c_X5_flow_b l D cA ad_553 w_553 H.size sc fn hI hb_553 d9 (by omega) (by omega)) (cwV 1 hts gL_law_X5_flow rfl rfl rfl (by decide +kernel) ⟨Nat.le_of_ble_eq_true rfl, Nat.le_of_ble_eq_true rfl⟩) (gV_V hP hD hK hB hS hA hZ 0 (ci := 5) rfl hq_553) rfl rfl hl.1 rfl (lv_room (Nat.le_of_ble_eq_true rfl)) dL_law_575 ⟨Nat.le_of_ble_eq_true rfl, Nat.le_of_ble_eq_true rfl⟩) hS (gA_sub hD hS hA) (fun v_575 ad_575 w_575 H locs hv_575 hP hD hS => ?_)
                  obtain ⟨sc_575, fn_575, hb_575, hI_575, hk_575, hs_575⟩ := hv_575
                  obtain ⟨e1_575, e2_575, -, -, hr_575⟩ := hs_575
                  rw [e1_575, e2_575] at hb_575
                  subst hr_575
                  have hl_575 := lwS_keep hk_575 hl_553
                  have hg_575 : ad_575 0 = g0 := hk_575.1.trans hg_553
                  obtain ⟨fs_575, hq_575⟩ := bookS_0 hb_575
                  rw [← hk_575.1] at hl
                  rw [← (hk_575.2 200 (by omega)).2] at hl
                  rw [← (hk_575.2 212 (by omega)).2] at hl
                  refine W.eq (g2 := F0 m 578 ls [.long (lI (tbF sc fn d9)), .int (iI mo)]) rfl ?_
                  refine W.cs (cells' := 48) (slots' := 6315) rfl rfl ?_
                  refine lv_lload (pc := 578) hx hb dL_law_578 (lv_at hl 3 rfl) ?_
                  refine k_lcmp_le (pc := 580) (tgt := 588) hx hb ⟨by omega, by omega⟩ ⟨by omega, by omega⟩ dL_law_580 dL_law_581 (by decide) (fun hc_580 => ?_) (fun hc_580 => ?_)
                  · skip
                    refine k_iconst (pc := 588) hx hb dL_law_588 ?_
                    refine k_iadd (pc := 589) hx hb dL_law_589 ?_
                    refine lv_istore (pc := 590) (lv' := [(13, .int (iI (mo + 0))), (12, .int (iI (rc + 1))), (14, .int (iI d9)), (10, .long (lI z_514)), (9, .int (iI pc9)), (0, .ref b), (1, .ref (ad_575 0)), (2, .ref (ad_575 200)), (3, .ref (ad_575 212)), (5, .int (iI wi))]) hx hb dL_law_590 hl (by decide) rfl (fun ls hl => ?_)
                    refine lv_iinc (pc := 592) (v := iI (d9 + 1)) (lv' := [(14, .int (iI (d9 + 1))), (13, .int (iI (mo + 0))), (12, .int (iI (rc + 1))), (10, .long (lI z_514)), (9, .int (iI pc9)), (0, .ref b), (1, .ref (ad_575 0)), (2, .ref (ad_575 200)), (3, .ref (ad_575 212)), (5, .int (iI wi))]) hx hb dL_law_592 hl (k := 2) rfl (iI_add _ _) (by decide) rfl (fun ls hl => ?_)
                    refine lv_goto (pc := 595) (tgt := 528) hx hb dL_law_595 (by decide) ?_
                    have c1_ := cgT_s (F := tbF sc fn) (S := tbS sc fn) (x := z_514) (d := d9) (by omega)
                    have c2_ := cgT_s (F := tbF sc fn) (S := tbS sc fn) (x := z_514 + 1) (d := d9) (by omega)
                    first | rw [if_pos (by omega)] at c1_ | rw [if_neg (by omega)] at c1_
                    first | rw [if_pos (by omega)] at c2_ | rw [if_neg (by omega)] at c2_
                    exact ih_h528 ad_575 w_575 (rc + 1) (mo + 0) (d9 + 1) hb_575 hl_575 hg_575 (by omega) (by omega) (by omega) (by omega) H locs hP hD hS ls (lv_sub hl [0, 1, 2, 3, 4, 5, 6, 7, 8, 9] rfl)
                  · skip
                    refine k_iconst (pc := 584) hx hb dL_law_584 ?_
                    refine lv_goto (pc := 585) (tgt := 589) hx hb dL_law_585 (by decide) ?_
                    refine k_iadd (pc := 589) hx hb dL_law_589 ?_
                    refine lv_istore (pc := 590) (lv' := [(13, .int (iI (mo + 1))), (12, .int (iI (rc + 1))), (14, .int (iI d9)), (10, .long (lI z_514)), (9, .int (iI pc9)), (0, .ref b), (1, .ref (ad_575 0)), (2, .ref (ad_575 200)), (3, .ref (ad_575 212)), (5, .int (iI wi))]) hx hb dL_law_590 hl (by decide) rfl (fun ls hl => ?_)
                    refine lv_iinc (pc := 592) (v := iI (d9 + 1)) (lv' := [(14, .int (iI (d9 + 1))), (13, .int (iI (mo + 1))), (12, .int (iI (rc + 1))), (10, .long (lI z_514)), (9, .int (iI pc9)), (0, .ref b), (1, .ref (ad_575 0)), (2, .ref (ad_575 200)), (3, .ref (ad_575 212)), (5, .int (iI wi))]) hx hb dL_law_592 hl (k := 2) rfl (iI_add _ _) (by decide) rfl (fun ls hl => ?_)
                    refine lv_goto (pc := 595) (tgt := 528) hx hb dL_law_595 (by decide) ?_
                    have c1_ := cgT_s (F := tbF sc fn) (S := tbS sc fn) (x := z_514) (d := d9) (by omega)
                    have c2_ := cgT_s (F := tbF sc fn) (S := tbS sc fn) (x := z_514 + 1) (d := d9) (by omega)
                    first | rw [if_pos (by omega)] at c1_ | rw [if_neg (by omega)] at c1_
                    first | rw [if_pos (by omega)] at c2_ | rw [if_neg (by omega)] at c2_
                    exact ih_h528 ad_575 w_575 (rc + 1) (mo + 1) (d9 + 1) hb_575 hl_575 hg_575 (by omega) (by omega) (by omega) (by omega) H locs hP hD hS ls (lv_sub hl [0, 1, 2, 3, 4, 5, 6, 7, 8, 9] rfl)
              · skip
                refine lv_goto (pc := 545) (tgt := 592) hx hb dL_law_545 (by decide) ?_
                refine lv_iinc (pc := 592) (v := iI (d9 + 1)) (lv' := [(14, .int (iI (d9 + 1))), (13, .int (iI mo)), (12, .int (iI rc)), (10, .long (lI z_514)), (9, .int (iI pc9)), (0, .ref b), (1, .ref (ad_539 0)), (2, .ref (ad_539 200)), (3, .ref (ad_539 212)), (5, .int (iI wi))]) hx hb dL_law_592 hl (k := 0) rfl (iI_add _ _) (by decide) rfl (fun ls hl => ?_)
                refine lv_goto (pc := 595) (tgt := 528) hx hb dL_law_595 (by decide) ?_
                have c1_ := cgT_s (F := tbF sc fn) (S := tbS sc fn) (x := z_514) (d := d9) (by omega)
                have c2_ := cgT_s (F := tbF sc fn) (S := tbS sc fn) (x := z_514 + 1) (d := d9) (by omega)
                first | rw [if_pos (by omega)] at c1_ | rw [if_neg (by omega)] at c1_
                first | rw [if_pos (by omega)] at c2_ | rw [if_neg (by omega)] at c2_
                exact ih_h528 ad_539 w_539 rc mo (d9 + 1) hb_539 hl_539 hg_539 (by omega) (by omega) (by omega) (by omega) H locs hP hD hS ls (lv_sub hl [0, 1, 2, 3, 4, 5, 6, 7, 8, 9] rfl)
        exact lp_h528 _ ad_514 w_514 0 0 0 hb_514 hl_514 hg_514 (by omega) rfl rfl (Nat.lt_succ_self _) H locs hP hD hS ls (lv_sub hl [0, 1, 2, 3, 4, 5, 6, 7, 8, 9] rfl)
  exact lp_h504 _ ad w 1 hbk hlb hg0 (by omega) (Nat.lt_succ_self _) H locs hP hD hS ls (lv_sub hl [0, 1, 2, 3, 4, 5] rfl)

set_option maxHeartbeats 8000000 in
set_option maxRecDepth 100000 in
theorem lw_peaks {p : Program} {e : Env} {s : State} {m : MethodId} {below : List Frame} {meth : Method} {c : Code} {l : Launch} {D : va_G} {cA : Nat → ClassId} {A : Nat → Prop} {b L : Nat} {xs : Nat → Int32} {g0 : Nat} (C : lwC p l s m c D cA A b L xs) (Q9 : State → Prop) {sc : Nat → Int} {fn : Nat → Int → Int} {st ic nn : Int → Int} (hd : rlD fn st) (hi : rlI fn ic) (hn : nn 1 = sc 3) (hr : meth.sig.returnType = ret) (hlocks : meth.locks = false) (hAs : ∀ q, A q → s.heap.size ≤ q) (hQ9 : Q9 = lw_Z below #[Value.ref b] s) (wi : Int)
  (ad : Nat → Nat) (w : Nat → Option va_E) (al : Int → Int) (H : Heap) (locs : List Loc) (ls : Array Slot) (hbk : bookS cA ad w sc fn) (hI : bkInv sc fn) (hlb : lwS cA ad w st ic nn al) (hg0 : ad 0 = g0) (hwi : wi = cntT (tbS sc fn) 0 400) (hP : gP D vwCl ad w H) (hD : gD A ad w) (hS : va_S A s.heap H locs) (hl : lv_has ls 15 [(0, .ref b), (1, .ref (ad 0)), (2, .ref (ad 200)), (3, .ref (ad 212)), (5, .int (iI wi))]) : W p l e room_1 s m #[Value.ref b] below meth c H locs 48 6315 Q9 (F0 m 651 ls []) := by
  obtain ⟨hx, hb, hml, hown, hts, hK, hB, hZ, hA, hX, hbl, hbA, hL⟩ := C
  obtain ⟨fs0, hq0⟩ := bookS_0 hbk
  have tok_ := tbOk_tb hI
  have cw_ := cntT_b (tbS sc fn) 0 400
  refine lv_iload (pc := 651) hx hb dL_law_651 (lv_at hl 4 rfl) ?_
  refine k_if_eq (pc := 653) (tgt := 667) hx hb ⟨by omega, by omega⟩ dL_law_653 (by decide) (fun hc_653 => ?_) (fun hc_653 => ?_)
  · skip
    refine k_iconst (pc := 667) hx hb dL_law_667 ?_
    refine lv_goto (pc := 668) (tgt := 672) hx hb dL_law_668 (by decide) ?_
    refine va_forget (fun q hq => hAs _ (hS.2.2 q hq)) ?_
    refine W.widen (k := 600104) (n := 7301314) (by decide) (by decide) ?_
    rw [hQ9]
    exact lw_ret9 hx hb hr hlocks dL_law_672
  · skip
    refine lv_aload_n (pc := 656) hx hb dL_law_656 rfl (lv_at hl 1 rfl) ?_
    refine k_lconst0 (pc := 657) hx hb dL_law_657 ?_
    refine k_iconst (pc := 658) hx hb dL_law_658 ?_
    refine k_call1 (pc := 659) (va_runV (As := [.long (lI 0), .int (iI 1)]) (rest := []) ⟨hx, hb, hml, hown, hts⟩ (c_X5_peaks_b l D cA ad w H.size sc fn hI hbk 0 1 (by omega) (by omega) (by omega)) (cwV 2 hts gL_law_X5_peaks rfl rfl rfl (by decide +kernel) ⟨Nat.le_of_ble_eq_true rfl, Nat.le_of_ble_eq_true rfl⟩) (gV_V hP hD hK hB hS hA hZ 0 (ci := 5) rfl hq0) rfl rfl hl.1 rfl (lv_room (Nat.le_of_ble_eq_true rfl)) dL_law_659 ⟨Nat.le_of_ble_eq_true rfl, Nat.le_of_ble_eq_true rfl⟩) hS (gA_sub hD hS hA) (fun v_659 ad_659 w_659 H locs hv_659 hP hD hS => ?_)
    obtain ⟨sc_659, fn_659, hb_659, hI_659, hk_659, hs_659⟩ := hv_659
    obtain ⟨e1_659, e2_659, -, -, -, z_659, hr_659, hz_659⟩ := hs_659
    rw [e1_659, e2_659] at hb_659
    subst hr_659
    have hl_659 := lwS_keep hk_659 hlb
    have hg_659 : ad_659 0 = g0 := hk_659.1.trans hg0
    obtain ⟨fs_659, hq_659⟩ := bookS_0 hb_659
    rw [← hk_659.1] at hl
    rw [← (hk_659.2 200 (by omega)).2] at hl
    rw [← (hk_659.2 212 (by omega)).2] at hl
    refine W.eq (g2 := F0 m 662 ls [.int (iI z_659)]) rfl ?_
    refine W.cs (cells' := 48) (slots' := 6315) rfl rfl ?_
    have pk_ := pk_law (F := tbF sc fn) (S := tbS sc fn) tok_.2.2.1 hz_659
    refine lv_iload (pc := 662) hx hb dL_law_662 (lv_at hl 4 rfl) ?_
    refine k_icmp_ne (pc := 664) (tgt := 671) hx hb ⟨by omega, by omega⟩ ⟨by omega, by omega⟩ dL_law_664 (by decide) (fun hc_664 => ?_) (fun hc_664 => ?_)
    · skip
      exfalso
      omega
    · skip
      refine k_iconst (pc := 667) hx hb dL_law_667 ?_
      refine lv_goto (pc := 668) (tgt := 672) hx hb dL_law_668 (by decide) ?_
      refine va_forget (fun q hq => hAs _ (hS.2.2 q hq)) ?_
      refine W.widen (k := 600104) (n := 7301314) (by decide) (by decide) ?_
      rw [hQ9]
      exact lw_ret9 hx hb hr hlocks dL_law_672
