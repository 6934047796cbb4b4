abbrev rmX6_sum : Room := { frames := 3, cells := 1, slots := 5, locals := 76 }
theorem hiX6_sum_6 : ∀ w ∈ wsX60, w ∈ wsX6_sum := by decide +kernel
set_option maxHeartbeats 4000000 in
set_option maxRecDepth 100000 in
theorem c_X6_sum (l : Launch) (D : va_G) (cA : Nat → ClassId) (ad : Nat → Nat) (w : Nat → Option va_E) (sz : Nat) (th : Int) (sc : Nat → Int) (fn : Nat → Int → Int) (hI : bkInv sc fn) (hmd : mdS cA ad w th sc fn) (fa to_ : Int) (h1_ : (-2147483648 ≤ fa ∧ fa < 2147483648)) (h2_ : (-2147483648 ≤ to_ ∧ to_ < 2147483648)) (wh : Int) (h3_ : (-2147483648 ≤ wh ∧ wh < 2147483648)) : Met l yX6_sum wsX6_sum rmX6_sum (gV D cA ad w sz [.ref (ad 200), .int (iI fa), .int (iI to_), .int (iI wh)]) (gW D (fun v9 ad1 w1 => ∃ (th2 : Int) (sc2 : Nat → Int) (fn2 : Nat → Int → Int), mdS cA ad1 w1 th2 sc2 fn2 ∧ bkInv sc2 fn2 ∧ keepM ad ad1 w w1 ∧ ((th2 = 0 ∧ (sc2 = sc ∧ fn2 = fn ∧ 0 ≤ wh ∧ wh ≤ 4 ∧ 0 ≤ fa ∧ fa ≤ to_ ∧ to_ < 400 ∧ ∃ z : Int, v9 = some (.long (lI z)) ∧ sumV (tbF sc fn) (tbS sc fn) fa to_ wh z)) ∨ (th2 = 1 ∧ v9 = some (.long (lI 0)) ∧ sc2 = sc ∧ fn2 = fn ∧ (¬ (0 ≤ wh ∧ wh ≤ 4))) ∨ (th2 = 2 ∧ v9 = some (.long (lI 0)) ∧ sc2 = sc ∧ fn2 = fn ∧ ((0 ≤ wh ∧ wh ≤ 4) ∧ ¬ (0 ≤ fa ∧ fa ≤ to_ ∧ to_ < 400))))) (gA ad w sz)) 1 5 (gA ad w sz) := by
  refine Met.ofW (cc := cX6_sum) (maxL := 4) (ret := (some .long)) (by decide) rfl ?_
  intro p e s m args below meth c s₁ B hml hv
  obtain ⟨hav, hsz, hP, hD0, hK, hB, hZ⟩ := hv
  have hx := B.exec
  have hb := B.bytes
  have hret := B.returns
  have hts := atoms_spec (ws := wsX6_sum) B.pre
  have hown : s.vm.findClass RX6 = some m.cls := findClass_of_methodNamed B.named
  have hlocks := B.notSynchronized
  subst hsz
  have hD := hD0.self (sz := s.heap.size)
  generalize hAe : gA ad w s.heap.size = A at hD hZ ⊢
  have hA : ∀ q : Nat, s.heap.size ≤ q → A q := fun q h => by rw [← hAe]; exact Or.inr h
  have hS : va_S A s.heap s.heap [] := va_S.rf
  have hi6 := hiX6_sum_6
  have hf55 := hts (.fieldLink RX6 55 "GaugeBookModel" "thrown" "I") (by decide +kernel)
  have he9 : entryFrame m args 4 = F0 m 0 ((lg_sl ([.ref (ad 200), .int (iI fa), .int (iI to_), .int (iI wh)] : List Value) ++ List.replicate (4 - (lg_sl ([.ref (ad 200), .int (iI fa), .int (iI to_), .int (iI wh)] : List Value)).length) Slot.unset).toArray) [] := by rw [hav, lg_entry_eq]
  rw [he9]
  have hl := lv_entry ([.ref (ad 200), .int (iI fa), .int (iI to_), .int (iI wh)] : List Value) (n := 4) (Nat.le_of_ble_eq_true rfl)
  generalize (lg_sl ([.ref (ad 200), .int (iI fa), .int (iI to_), .int (iI wh)] : List Value) ++ List.replicate (4 - (lg_sl ([.ref (ad 200), .int (iI fa), .int (iI to_), .int (iI wh)] : List Value)).length) Slot.unset).toArray = ls at hl ⊢
  have hl : lv_has ls 4 [(0, .ref (ad 200)), (1, .int (iI fa)), (2, .int (iI to_)), (3, .int (iI wh))] := hl
  obtain ⟨Q9, hQ9⟩ : ∃ z, z = MQ below (gW D (fun v9 ad1 w1 => ∃ (th2 : Int) (sc2 : Nat → Int) (fn2 : Nat → Int → Int), mdS cA ad1 w1 th2 sc2 fn2 ∧ bkInv sc2 fn2 ∧ keepM ad ad1 w w1 ∧ ((th2 = 0 ∧ (sc2 = sc ∧ fn2 = fn ∧ 0 ≤ wh ∧ wh ≤ 4 ∧ 0 ≤ fa ∧ fa ≤ to_ ∧ to_ < 400 ∧ ∃ z : Int, v9 = some (.long (lI z)) ∧ sumV (tbF sc fn) (tbS sc fn) fa to_ wh z)) ∨ (th2 = 1 ∧ v9 = some (.long (lI 0)) ∧ sc2 = sc ∧ fn2 = fn ∧ (¬ (0 ≤ wh ∧ wh ≤ 4))) ∨ (th2 = 2 ∧ v9 = some (.long (lI 0)) ∧ sc2 = sc ∧ fn2 = fn ∧ ((0 ≤ wh ∧ wh ≤ 4) ∧ ¬ (0 ≤ fa ∧ fa ≤ to_ ∧ to_ < 400))))) A) args s 1 5 A := ⟨_, rfl⟩
  rw [← hQ9]
  show W p l e rmX6_sum s m args below meth c s.heap [] 0 0 Q9 (F0 m 0 ls [])
  obtain ⟨H, hHe⟩ : ∃ z, z = s.heap := ⟨_, rfl⟩
  obtain ⟨locs, hLe⟩ : ∃ z, z = ([] : List Loc) := ⟨_, rfl⟩
  have hP : gP D vwCl ad w H := by rw [hHe]; exact hP
  have hS : va_S A s.heap H locs := by rw [hHe, hLe]; exact va_S.rf
  rw [show W p l e rmX6_sum s m args below meth c s.heap [] 0 0 Q9 (F0 m 0 ls []) = W p l e rmX6_sum s m args below meth c H locs 0 0 Q9 (F0 m 0 ls []) by rw [hHe, hLe]]
  clear hHe hLe
  obtain ⟨fr, G1, G2, us, ut, ub, S, F, ⟨k0, k1, k2, k3, k4, k5, k6, k7, k8, k9, k10, k11, k12⟩, hG1, hG2, hus, hut, hub, hS9, hF, hmc, hmu, hmt, hrk⟩ := hmd
  have hI1 := hI.1
  refine lv_aload_n (pc := 0) hx hb dX6_sum_0 rfl (lv_at hl 0 rfl) ?_
  refine lv_iload_n (pc := 1) hx hb dX6_sum_1 rfl (lv_at hl 3 rfl) ?_
  refine k_i2l (pc := 2) hx hb ⟨by omega, by omega⟩ dX6_sum_2 ?_
  refine k_lconst0 (pc := 3) hx hb dX6_sum_3 ?_
  refine k_ldc2 (z := 4) (pc := 4) hx hb hown (hts (.constantLong RX6 139 (4)) (by decide +kernel)) (by decide +kernel) dX6_sum_4 ?_
  refine k_call0 (pc := 7) (va_runS (As := [.long (lI wh), .long (lI 0), .long (lI 4)]) (rest := [.ref (ad 200)]) ⟨hx, hb, hml, hown, hts⟩ (c_X6_isIn l D cA ad w wh 0 4 (by omega) (by omega) (by omega)) (va_cwS 3 hts gX6_sum_X6_isIn rfl rfl rfl (by decide +kernel) ⟨Nat.le_of_ble_eq_true rfl, Nat.le_of_ble_eq_true rfl⟩) (gR_S hP hK hB) rfl rfl hl.1 rfl (lv_room (Nat.le_of_ble_eq_true rfl)) dX6_sum_7 ⟨Nat.le_of_ble_eq_true rfl, Nat.le_of_ble_eq_true rfl⟩) (fun v_7 hv_7 => ?_)
  obtain ⟨z_7, rfl, hz_7⟩ := hv_7
  refine W.eq (g2 := F0 m 10 ls [.int (iI z_7), .ref (ad 200)]) rfl ?_
  refine k_if_ne (pc := 10) (tgt := 17) hx hb ⟨by omega, by omega⟩ dX6_sum_10 (by decide) (fun hc_10 => ?_) (fun hc_10 => ?_)
  · skip
    refine lv_iload_n (pc := 17) hx hb dX6_sum_17 rfl (lv_at hl 1 rfl) ?_
    refine lv_iload_n (pc := 18) hx hb dX6_sum_18 rfl (lv_at hl 2 rfl) ?_
    refine k_call0 (pc := 19) (va_runS (As := [.int (iI fa), .int (iI to_)]) (rest := [.ref (ad 200)]) ⟨hx, hb, hml, hown, hts⟩ (c_X6_isSpan l D cA ad w fa to_ (by omega) (by omega)) (va_cwS 2 hts gX6_sum_X6_isSpan rfl rfl rfl (by decide +kernel) ⟨Nat.le_of_ble_eq_true rfl, Nat.le_of_ble_eq_true rfl⟩) (gR_S hP hK hB) rfl rfl hl.1 rfl (lv_room (Nat.le_of_ble_eq_true rfl)) dX6_sum_19 ⟨Nat.le_of_ble_eq_true rfl, Nat.le_of_ble_eq_true rfl⟩) (fun v_19 hv_19 => ?_)
    obtain ⟨z_19, rfl, hz_19⟩ := hv_19
    refine W.eq (g2 := F0 m 22 ls [.int (iI z_19), .ref (ad 200)]) rfl ?_
    refine k_if_ne (pc := 22) (tgt := 29) hx hb ⟨by omega, by omega⟩ dX6_sum_22 (by decide) (fun hc_22 => ?_) (fun hc_22 => ?_)
    · skip
      refine k_iconst (pc := 29) hx hb dX6_sum_29 ?_
      refine k_put (pc := 30) (ci := 6) (C := RX6) (T := TX6) (N := 19) (ty := .int) (v := .int (iI 0)) (w1 := (up w 200 (oB 6 [.int (iI 0), .int (iI (sc 0)), .ref (ad 201), .ref (ad 202), .ref (ad 203), .ref (ad 204), .int (iI (sc 1)), .ref (ad 205), .ref (ad 206), .ref (ad 207), .ref (ad 208), .ref (ad 209), .int (iI (sc 2)), .int (iI (sc 3)), .int (iI (sc 4)), .ref (ad 210), .int (iI fr), .ref (ad 211), .ref (ad 212)]))) hx hb hts hi6 tyX6 tyX6_ok nmX6 hown hK hP hD hS 200 k0 rfl 0 (by decide) hf55 (fun _ h9 => h9) rfl (by decide +kernel) rfl rfl (Nat.le_of_ble_eq_true rfl) rfl dX6_sum_30 (fun H locs hP hD hS => ?_)
      refine lv_aload_n (pc := 33) hx hb dX6_sum_33 rfl (lv_at hl 0 rfl) ?_
      refine k_get (pc := 34) (ci := 6) (C := RX6) (T := TX6) (N := 19) hx hb hts hi6 hown hK hP 200 (up_s _ _ _) rfl 0 (by decide) hf55 (fun _ h9 => h9) rfl dX6_sum_34 ?_
      refine k_if_ne (pc := 37) (tgt := 50) hx hb ⟨by omega, by omega⟩ dX6_sum_37 (by decide) (fun hc_37 => ?_) (fun hc_37 => ?_)
      · skip
        exfalso
        omega
      · skip
        refine lv_aload_n (pc := 40) hx hb dX6_sum_40 rfl (lv_at hl 0 rfl) ?_
        refine lv_iload_n (pc := 41) hx hb dX6_sum_41 rfl (lv_at hl 1 rfl) ?_
        refine lv_iload_n (pc := 42) hx hb dX6_sum_42 rfl (lv_at hl 2 rfl) ?_
        refine lv_iload_n (pc := 43) hx hb dX6_sum_43 rfl (lv_at hl 3 rfl) ?_
        refine k_call1 (pc := 44) (va_runV (As := [.int (iI fa), .int (iI to_), .int (iI wh)]) (rest := []) ⟨hx, hb, hml, hown, hts⟩ (c_X6_summed l D cA ad (up w 200 (oB 6 [.int (iI 0), .int (iI (sc 0)), .ref (ad 201), .ref (ad 202), .ref (ad 203), .ref (ad 204), .int (iI (sc 1)), .ref (ad 205), .ref (ad 206), .ref (ad 207), .ref (ad 208), .ref (ad 209), .int (iI (sc 2)), .int (iI (sc 3)), .int (iI (sc 4)), .ref (ad 210), .int (iI fr), .ref (ad 211), .ref (ad 212)])) H.size 0 sc fn hI ⟨fr, G1, G2, us, ut, ub, S, F, ⟨(up_s _ _ _), (up_n (by decide) k1), (up_n (by decide) k2), (up_n (by decide) k3), (up_n (by decide) k4), (up_n (by decide) k5), (up_n (by decide) k6), (up_n (by decide) k7), (up_n (by decide) k8), (up_n (by decide) k9), (up_n (by decide) k10), (up_n (by decide) k11), (up_n (by decide) k12)⟩, hG1, hG2, hus, hut, hub, hS9, hF, hmc, hmu, hmt, hrk⟩ fa to_ wh (by omega) (by omega)) (cwV 3 hts gX6_sum_X6_summed rfl rfl rfl (by decide +kernel) ⟨Nat.le_of_ble_eq_true rfl, Nat.le_of_ble_eq_true rfl⟩) (gV_V hP hD hK hB hS hA hZ 200 (ci := 6) rfl (up_s _ _ _)) rfl rfl hl.1 rfl (lv_room (Nat.le_of_ble_eq_true rfl)) dX6_sum_44 ⟨Nat.le_of_ble_eq_true rfl, Nat.le_of_ble_eq_true rfl⟩) hS (gA_sub hD hS hA) (fun v_44 ad_44 w_44 H locs hv_44 hP hD hS => ?_)
        obtain ⟨hmd_44, hkp_44, z_44, rfl, hz_44⟩ := hv_44
        have hkt_44 : keepM ad ad_44 w w_44 := keepM_t (v := (up w 200 (oB 6 [.int (iI 0), .int (iI (sc 0)), .ref (ad 201), .ref (ad 202), .ref (ad 203), .ref (ad 204), .int (iI (sc 1)), .ref (ad 205), .ref (ad 206), .ref (ad 207), .ref (ad 208), .ref (ad 209), .int (iI (sc 2)), .int (iI (sc 3)), .int (iI (sc 4)), .ref (ad 210), .int (iI fr), .ref (ad 211), .ref (ad 212)]))) ⟨rfl, fun r hr => ⟨(up_n (by omega) rfl), rfl⟩⟩ hkp_44
        obtain ⟨G1, G2, us, ut, ub, ⟨k0, k1, k2, k3, k4, k5, k6, k7, k8, k9, k10, k11, k12⟩, hG1, hG2, hus, hut, hub, hmc, hmu, hmt⟩ := hmd_44
        rw [← hkp_44.1] at hl
        refine W.eq (g2 := F0 m 47 ls [.long (lI z_44)]) rfl ?_
        refine W.cs (cells' := 1) (slots' := 5) rfl rfl ?_
        refine lv_goto (pc := 47) (tgt := 51) hx hb dX6_sum_47 (by decide) ?_
        rw [hQ9]
        exact W.lret (v := lI z_44) hx hb hret (fun t ht hW => ⟨⟨some (.long (lI z_44)), ad_44, w_44, rfl, ⟨0, sc, fn, ⟨1, G1, G2, us, ut, ub, (tbS sc fn), (tbF sc fn), ⟨k0, k1, k2, k3, k4, k5, k6, k7, k8, k9, k10, k11, k12⟩, hG1, hG2, hus, hut, hub, (tbOk_tb hI).2.1, (tbOk_tb hI).1, hmc, hmu, hmt, (Or.inr ⟨rfl, rfl, rfl⟩)⟩, hI, hkt_44, Or.inl (⟨rfl, ⟨rfl, rfl, by omega, by omega, by omega, by omega, by omega, z_44, rfl, hz_44⟩⟩)⟩, by rw [ht]; exact hP, hD⟩, hS.F ht⟩) hS.2.2 dX6_sum_51
    · skip
      refine k_iconst (pc := 25) hx hb dX6_sum_25 ?_
      refine lv_goto (pc := 26) (tgt := 30) hx hb dX6_sum_26 (by decide) ?_
      refine k_put (pc := 30) (ci := 6) (C := RX6) (T := TX6) (N := 19) (ty := .int) (v := .int (iI 2)) (w1 := (up w 200 (oB 6 [.int (iI 2), .int (iI (sc 0)), .ref (ad 201), .ref (ad 202), .ref (ad 203), .ref (ad 204), .int (iI (sc 1)), .ref (ad 205), .ref (ad 206), .ref (ad 207), .ref (ad 208), .ref (ad 209), .int (iI (sc 2)), .int (iI (sc 3)), .int (iI (sc 4)), .ref (ad 210), .int (iI fr), .ref (ad 211), .ref (ad 212)]))) hx hb hts hi6 tyX6 tyX6_ok nmX6 hown hK hP hD hS 200 k0 rfl 0 (by decide) hf55 (fun _ h9 => h9) rfl (by decide +kernel) rfl rfl (Nat.le_of_ble_eq_true rfl) rfl dX6_sum_30 (fun H locs hP hD hS => ?_)
      refine lv_aload_n (pc := 33) hx hb dX6_sum_33 rfl (lv_at hl 0 rfl) ?_
      refine k_get (pc := 34) (ci := 6) (C := RX6) (T := TX6) (N := 19) hx hb hts hi6 hown hK hP 200 (up_s _ _ _) rfl 0 (by decide) hf55 (fun _ h9 => h9) rfl dX6_sum_34 ?_
      refine k_if_ne (pc := 37) (tgt := 50) hx hb ⟨by omega, by omega⟩ dX6_sum_37 (by decide) (fun hc_37 => ?_) (fun hc_37 => ?_)
      · skip
        refine k_lconst0 (pc := 50) hx hb dX6_sum_50 ?_
        rw [hQ9]
        refine W.widen (k := 1) (n := 5) (by decide) (by decide) ?_
        exact W.lret (v := lI 0) hx hb hret (fun t ht hW => ⟨⟨some (.long (lI 0)), ad, (up w 200 (oB 6 [.int (iI 2), .int (iI (sc 0)), .ref (ad 201), .ref (ad 202), .ref (ad 203), .ref (ad 204), .int (iI (sc 1)), .ref (ad 205), .ref (ad 206), .ref (ad 207), .ref (ad 208), .ref (ad 209), .int (iI (sc 2)), .int (iI (sc 3)), .int (iI (sc 4)), .ref (ad 210), .int (iI fr), .ref (ad 211), .ref (ad 212)])), rfl, ⟨2, sc, fn, ⟨fr, G1, G2, us, ut, ub, S, F, ⟨(up_s _ _ _), (up_n (by decide) k1), (up_n (by decide) k2), (up_n (by decide) k3), (up_n (by decide) k4), (up_n (by decide) k5), (up_n (by decide) k6), (up_n (by decide) k7), (up_n (by decide) k8), (up_n (by decide) k9), (up_n (by decide) k10), (up_n (by decide) k11), (up_n (by decide) k12)⟩, hG1, hG2, hus, hut, hub, hS9, hF, hmc, hmu, hmt, hrk⟩, hI, ⟨rfl, fun r hr => ⟨(up_n (by omega) rfl), rfl⟩⟩, Or.inr (Or.inr (⟨rfl, rfl, rfl, rfl, ⟨by omega, by omega⟩⟩))⟩, by rw [ht]; exact hP, hD⟩, hS.F ht⟩) hS.2.2 dX6_sum_51
      · skip
        exfalso
        omega
  · skip
    refine k_iconst (pc := 13) hx hb dX6_sum_13 ?_
    refine lv_goto (pc := 14) (tgt := 30) hx hb dX6_sum_14 (by decide) ?_
    refine k_put (pc := 30) (ci := 6) (C := RX6) (T := TX6) (N := 19) (ty := .int) (v := .int (iI 1)) (w1 := (up w 200 (oB 6 [.int (iI 1), .int (iI (sc 0)), .ref (ad 201), .ref (ad 202), .ref (ad 203), .ref (ad 204), .int (iI (sc 1)), .ref (ad 205), .ref (ad 206), .ref (ad 207), .ref (ad 208), .ref (ad 209), .int (iI (sc 2)), .int (iI (sc 3)), .int (iI (sc 4)), .ref (ad 210), .int (iI fr), .ref (ad 211), .ref (ad 212)]))) hx hb hts hi6 tyX6 tyX6_ok nmX6 hown hK hP hD hS 200 k0 rfl 0 (by decide) hf55 (fun _ h9 => h9) rfl (by decide +kernel) rfl rfl (Nat.le_of_ble_eq_true rfl) rfl dX6_sum_30 (fun H locs hP hD hS => ?_)
    refine lv_aload_n (pc := 33) hx hb dX6_sum_33 rfl (lv_at hl 0 rfl) ?_
    refine k_get (pc := 34) (ci := 6) (C := RX6) (T := TX6) (N := 19) hx hb hts hi6 hown hK hP 200 (up_s _ _ _) rfl 0 (by decide) hf55 (fun _ h9 => h9) rfl dX6_sum_34 ?_
    refine k_if_ne (pc := 37) (tgt := 50) hx hb ⟨by omega, by omega⟩ dX6_sum_37 (by decide) (fun hc_37 => ?_) (fun hc_37 => ?_)
    · skip
      refine k_lconst0 (pc := 50) hx hb dX6_sum_50 ?_
      rw [hQ9]
      refine W.widen (k := 1) (n := 5) (by decide) (by decide) ?_
      exact W.lret (v := lI 0) hx hb hret (fun t ht hW => ⟨⟨some (.long (lI 0)), ad, (up w 200 (oB 6 [.int (iI 1), .int (iI (sc 0)), .ref (ad 201), .ref (ad 202), .ref (ad 203), .ref (ad 204), .int (iI (sc 1)), .ref (ad 205), .ref (ad 206), .ref (ad 207), .ref (ad 208), .ref (ad 209), .int (iI (sc 2)), .int (iI (sc 3)), .int (iI (sc 4)), .ref (ad 210), .int (iI fr), .ref (ad 211), .ref (ad 212)])), rfl, ⟨1, sc, fn, ⟨fr, G1, G2, us, ut, ub, S, F, ⟨(up_s _ _ _), (up_n (by decide) k1), (up_n (by decide) k2), (up_n (by decide) k3), (up_n (by decide) k4), (up_n (by decide) k5), (up_n (by decide) k6), (up_n (by decide) k7), (up_n (by decide) k8), (up_n (by decide) k9), (up_n (by decide) k10), (up_n (by decide) k11), (up_n (by decide) k12)⟩, hG1, hG2, hus, hut, hub, hS9, hF, hmc, hmu, hmt, hrk⟩, hI, ⟨rfl, fun r hr => ⟨(up_n (by omega) rfl), rfl⟩⟩, Or.inr (Or.inl (⟨rfl, rfl, rfl, rfl, by omega⟩))⟩, by rw [ht]; exact hP, hD⟩, hS.F ht⟩) hS.2.2 dX6_sum_51
    · skip
      exfalso
      omega

theorem mnV_L {F S : Int → Int} {fr to_ n x : Int} (e : n = cntT S fr (to_ + 1 - fr).toNat) (e2 : x = sumT F S fr (to_ + 1 - fr).toNat) (h : n ≠ 0) (hn : 0 ≤ n ∧ n ≤ 400) : FP.ddiv (FP.l2d (lI x)) (FP.l2d (lI n)) = mnV F S fr to_ := by
  unfold mnV
  rw [if_neg (by omega), e, e2]

abbrev rmX6_mean : Room := { frames := 3, cells := 2, slots := 10, locals := 76 }
theorem hiX6_mean_6 : ∀ w ∈ wsX60, w ∈ wsX6_mean := by decide +kernel
set_option maxHeartbeats 4000000 in
set_option maxRecDepth 100000 in
theorem c_X6_mean (l : Launch) (D : va_G) (cA : Nat → ClassId) (ad : Nat → Nat) (w : Nat → Option va_E) (sz : Nat) (th : Int) (sc : Nat → Int) (fn : Nat → Int → Int) (hI : bkInv sc fn) (hmd : mdS cA ad w th sc fn) (fa to_ : Int) (h1_ : (-2147483648 ≤ fa ∧ fa < 2147483648)) (h2_ : (-2147483648 ≤ to_ ∧ to_ < 2147483648)) : Met l yX6_mean wsX6_mean rmX6_mean (gV D cA ad w sz [.ref (ad 200), .int (iI fa), .int (iI to_)]) (gW D (fun v9 ad1 w1 => ∃ (th2 : Int) (sc2 : Nat → Int) (fn2 : Nat → Int → Int), mdS cA ad1 w1 th2 sc2 fn2 ∧ bkInv sc2 fn2 ∧ keepM ad ad1 w w1 ∧ ((th2 = 0 ∧ (sc2 = sc ∧ fn2 = fn ∧ 0 ≤ fa ∧ fa ≤ to_ ∧ to_ < 400 ∧ v9 = some (.double (mnV (tbF sc fn) (tbS sc fn) fa to_)))) ∨ (th2 = 1 ∧ v9 = some (.double FP.dconst0) ∧ sc2 = sc ∧ fn2 = fn ∧ (¬ (0 ≤ fa ∧ fa ≤ to_ ∧ to_ < 400))))) (gA ad w sz)) 2 10 (gA ad w sz) := by
  refine Met.ofW (cc := cX6_mean) (maxL := 5) (ret := (some .double)) (by decide) rfl ?_
  intro p e s m args below meth c s₁ B hml hv
  obtain ⟨hav, hsz, hP, hD0, hK, hB, hZ⟩ := hv
  have hx := B.exec
  have hb := B.bytes
  have hret := B.returns
  have hts := atoms_spec (ws := wsX6_mean) B.pre
  have hown : s.vm.findClass RX6 = some m.cls := findClass_of_methodNamed B.named
  have hlocks := B.notSynchronized
  subst hsz
  have hD := hD0.self (sz := s.heap.size)
  generalize hAe : gA ad w s.heap.size = A at hD hZ ⊢
  have hA : ∀ q : Nat, s.heap.size ≤ q → A q := fun q h => by rw [← hAe]; exact Or.inr h
  have hS : va_S A s.heap s.heap [] := va_S.rf
  have hi6 := hiX6_mean_6
  have hf55 := hts (.fieldLink RX6 55 "GaugeBookModel" "thrown" "I") (by decide +kernel)
  have he9 : entryFrame m args 5 = F0 m 0 ((lg_sl ([.ref (ad 200), .int (iI fa), .int (iI to_)] : List Value) ++ List.replicate (5 - (lg_sl ([.ref (ad 200), .int (iI fa), .int (iI to_)] : List Value)).length) Slot.unset).toArray) [] := by rw [hav, lg_entry_eq]
  rw [he9]
  have hl := lv_entry ([.ref (ad 200), .int (iI fa), .int (iI to_)] : List Value) (n := 5) (Nat.le_of_ble_eq_true rfl)
  generalize (lg_sl ([.ref (ad 200), .int (iI fa), .int (iI to_)] : List Value) ++ List.replicate (5 - (lg_sl ([.ref (ad 200), .int (iI fa), .int (iI to_)] : List Value)).length) Slot.unset).toArray = ls at hl ⊢
  have hl : lv_has ls 5 [(0, .ref (ad 200)), (1, .int (iI fa)), (2, .int (iI to_))] := hl
  obtain ⟨Q9, hQ9⟩ : ∃ z, z = MQ below (gW D (fun v9 ad1 w1 => ∃ (th2 : Int) (sc2 : Nat → Int) (fn2 : Nat → Int → Int), mdS cA ad1 w1 th2 sc2 fn2 ∧ bkInv sc2 fn2 ∧ keepM ad ad1 w w1 ∧ ((th2 = 0 ∧ (sc2 = sc ∧ fn2 = fn ∧ 0 ≤ fa ∧ fa ≤ to_ ∧ to_ < 400 ∧ v9 = some (.double (mnV (tbF sc fn) (tbS sc fn) fa to_)))) ∨ (th2 = 1 ∧ v9 = some (.double FP.dconst0) ∧ sc2 = sc ∧ fn2 = fn ∧ (¬ (0 ≤ fa ∧ fa ≤ to_ ∧ to_ < 400))))) A) args s 2 10 A := ⟨_, rfl⟩
  rw [← hQ9]
  show W p l e rmX6_mean s m args below meth c s.heap [] 0 0 Q9 (F0 m 0 ls [])
  obtain ⟨H, hHe⟩ : ∃ z, z = s.heap := ⟨_, rfl⟩
  obtain ⟨locs, hLe⟩ : ∃ z, z = ([] : List Loc) := ⟨_, rfl⟩
  have hP : gP D vwCl ad w H := by rw [hHe]; exact hP
  have hS : va_S A s.heap H locs := by rw [hHe, hLe]; exact va_S.rf
  rw [show W p l e rmX6_mean s m args below meth c s.heap [] 0 0 Q9 (F0 m 0 ls []) = W p l e rmX6_mean s m args below meth c H locs 0 0 Q9 (F0 m 0 ls []) by rw [hHe, hLe]]
  clear hHe hLe
  obtain ⟨fr, G1, G2, us, ut, ub, S, F, ⟨k0, k1, k2, k3, k4, k5, k6, k7, k8, k9, k10, k11, k12⟩, hG1, hG2, hus, hut, hub, hS9, hF, hmc, hmu, hmt, hrk⟩ := hmd
  have hI1 := hI.1
  refine lv_aload_n (pc := 0) hx hb dX6_mean_0 rfl (lv_at hl 0 rfl) ?_
  refine lv_iload_n (pc := 1) hx hb dX6_mean_1 rfl (lv_at hl 1 rfl) ?_
  refine lv_iload_n (pc := 2) hx hb dX6_mean_2 rfl (lv_at hl 2 rfl) ?_
  refine k_call0 (pc := 3) (va_runS (As := [.int (iI fa), .int (iI to_)]) (rest := [.ref (ad 200)]) ⟨hx, hb, hml, hown, hts⟩ (c_X6_isSpan l D cA ad w fa to_ (by omega) (by omega)) (va_cwS 2 hts gX6_mean_X6_isSpan rfl rfl rfl (by decide +kernel) ⟨Nat.le_of_ble_eq_true rfl, Nat.le_of_ble_eq_true rfl⟩) (gR_S hP hK hB) rfl rfl hl.1 rfl (lv_room (Nat.le_of_ble_eq_true rfl)) dX6_mean_3 ⟨Nat.le_of_ble_eq_true rfl, Nat.le_of_ble_eq_true rfl⟩) (fun v_3 hv_3 => ?_)
  obtain ⟨z_3, rfl, hz_3⟩ := hv_3
  refine W.eq (g2 := F0 m 6 ls [.int (iI z_3), .ref (ad 200)]) rfl ?_
  refine k_if_eq (pc := 6) (tgt := 13) hx hb ⟨by omega, by omega⟩ dX6_mean_6 (by decide) (fun hc_6 => ?_) (fun hc_6 => ?_)
  · skip
    refine k_iconst (pc := 13) hx hb dX6_mean_13 ?_
    refine k_put (pc := 14) (ci := 6) (C := RX6) (T := TX6) (N := 19) (ty := .int) (v := .int (iI 1)) (w1 := (up w 200 (oB 6 [.int (iI 1), .int (iI (sc 0)), .ref (ad 201), .ref (ad 202), .ref (ad 203), .ref (ad 204), .int (iI (sc 1)), .ref (ad 205), .ref (ad 206), .ref (ad 207), .ref (ad 208), .ref (ad 209), .int (iI (sc 2)), .int (iI (sc 3)), .int (iI (sc 4)), .ref (ad 210), .int (iI fr), .ref (ad 211), .ref (ad 212)]))) hx hb hts hi6 tyX6 tyX6_ok nmX6 hown hK hP hD hS 200 k0 rfl 0 (by decide) hf55 (fun _ h9 => h9) rfl (by decide +kernel) rfl rfl (Nat.le_of_ble_eq_true rfl) rfl dX6_mean_14 (fun H locs hP hD hS => ?_)
    refine lv_aload_n (pc := 17) hx hb dX6_mean_17 rfl (lv_at hl 0 rfl) ?_
    refine k_get (pc := 18) (ci := 6) (C := RX6) (T := TX6) (N := 19) hx hb hts hi6 hown hK hP 200 (up_s _ _ _) rfl 0 (by decide) hf55 (fun _ h9 => h9) rfl dX6_mean_18 ?_
    refine k_if_eq (pc := 21) (tgt := 26) hx hb ⟨by omega, by omega⟩ dX6_mean_21 (by decide) (fun hc_21 => ?_) (fun hc_21 => ?_)
    · skip
      exfalso
      omega
    · skip
      refine lv_dconst0 (pc := 24) hx hb dX6_mean_24 ?_
      rw [hQ9]
      refine W.widen (k := 2) (n := 10) (by decide) (by decide) ?_
      exact W.dret (v := FP.dconst0) hx hb hret (fun t ht hW => ⟨⟨some (.double FP.dconst0), ad, (up w 200 (oB 6 [.int (iI 1), .int (iI (sc 0)), .ref (ad 201), .ref (ad 202), .ref (ad 203), .ref (ad 204), .int (iI (sc 1)), .ref (ad 205), .ref (ad 206), .ref (ad 207), .ref (ad 208), .ref (ad 209), .int (iI (sc 2)), .int (iI (sc 3)), .int (iI (sc 4)), .ref (ad 210), .int (iI fr), .ref (ad 211), .ref (ad 212)])), rfl, ⟨1, sc, fn, ⟨fr, G1, G2, us, ut, ub, S, F, ⟨(up_s _ _ _), (up_n (by decide) k1), (up_n (by decide) k2), (up_n (by decide) k3), (up_n (by decide) k4), (up_n (by decide) k5), (up_n (by decide) k6), (up_n (by decide) k7), (up_n (by decide) k8), (up_n (by decide) k9), (up_n (by decide) k10), (up_n (by decide) k11), (up_n (by decide) k12)⟩, hG1, hG2, hus, hut, hub, hS9, hF, hmc, hmu, hmt, hrk⟩, hI, ⟨rfl, fun r hr => ⟨(up_n (by omega) rfl), rfl⟩⟩, Or.inr (⟨rfl, rfl, rfl, rfl, by omega⟩)⟩, by rw [ht]; exact hP, hD⟩, hS.F ht⟩) hS.2.2 dX6_mean_25
  · skip
    refine k_iconst (pc := 9) hx hb dX6_mean_9 ?_
    refine lv_goto (pc := 10) (tgt := 14) hx hb dX6_mean_10 (by decide) ?_
    refine k_put (pc := 14) (ci := 6) (C := RX6) (T := TX6) (N := 19) (ty := .int) (v := .int (iI 0)) (w1 := (up w 200 (oB 6 [.int (iI 0), .int (iI (sc 0)), .ref (ad 201), .ref (ad 202), .ref (ad 203), .ref (ad 204), .int (iI (sc 1)), .ref (ad 205), .ref (ad 206), .ref (ad 207), .ref (ad 208), .ref (ad 209), .int (iI (sc 2)), .int (iI (sc 3)), .int (iI (sc 4)), .ref (ad 210), .int (iI fr), .ref (ad 211), .ref (ad 212)]))) hx hb hts hi6 tyX6 tyX6_ok nmX6 hown hK hP hD hS 200 k0 rfl 0 (by decide) hf55 (fun _ h9 => h9) rfl (by decide +kernel) rfl rfl (Nat.le_of_ble_eq_true rfl) rfl dX6_mean_14 (fun H locs hP hD hS => ?_)
    refine lv_aload_n (pc := 17) hx hb dX6_mean_17 rfl (lv_at hl 0 rfl) ?_
    refine k_get (pc := 18) (ci := 6) (C := RX6) (T := TX6) (N := 19) hx hb hts hi6 hown hK hP 200 (up_s _ _ _) rfl 0 (by decide) hf55 (fun _ h9 => h9) rfl dX6_mean_18 ?_
    refine k_if_eq (pc := 21) (tgt := 26) hx hb ⟨by omega, by omega⟩ dX6_mean_21 (by decide) (fun hc_21 => ?_) (fun hc_21 => ?_)
    · skip
      refine lv_aload_n (pc := 26) hx hb dX6_mean_26 rfl (lv_at hl 0 rfl) ?_
      refine lv_iload_n (pc := 27) hx hb dX6_mean_27 rfl (lv_at hl 1 rfl) ?_
      refine lv_iload_n (pc := 28) hx hb dX6_mean_28 rfl (lv_at hl 2 rfl) ?_
      refine k_iconst (pc := 29) hx hb dX6_mean_29 ?_
      refine k_call1 (pc := 30) (va_runV (As := [.int (iI fa), .int (iI to_), .int (iI 0)]) (rest := []) ⟨hx, hb, hml, hown, hts⟩ (c_X6_summed l D cA ad (up w 200 (oB 6 [.int (iI 0), .int (iI (sc 0)), .ref (ad 201), .ref (ad 202), .ref (ad 203), .ref (ad 204), .int (iI (sc 1)), .ref (ad 205), .ref (ad 206), .ref (ad 207), .ref (ad 208), .ref (ad 209), .int (iI (sc 2)), .int (iI (sc 3)), .int (iI (sc 4)), .ref (ad 210), .int (iI fr), .ref (ad 211), .ref (ad 212)])) H.size 0 sc fn hI ⟨fr, G1, G2, us, ut, ub, S, F, ⟨(up_s _ _ _), (up_n (by decide) k1), (up_n (by decide) k2), (up_n (by decide) k3), (up_n (by decide) k4), (up_n (by decide) k5), (up_n (by decide) k6), (up_n (by decide) k7), (up_n (by decide) k8), (up_n (by decide) k9), (up_n (by decide) k10), (up_n (by decide) k11), (up_n (by decide) k12)⟩, hG1, hG2, hus, hut, hub, hS9, hF, hmc, hmu, hmt, hrk⟩ fa to_ 0 (by omega) (by omega)) (cwV 3 hts gX6_mean_X6_summed rfl rfl rfl (by decide +kernel) ⟨Nat.le_of_ble_eq_true rfl, Nat.le_of_ble_eq_true rfl⟩) (gV_V hP hD hK hB hS hA hZ 200 (ci := 6) rfl (up_s _ _ _)) rfl rfl hl.1 rfl (lv_room (Nat.le_of_ble_eq_true rfl)) dX6_mean_30 ⟨Nat.le_of_ble_eq_true rfl, Nat.le_of_ble_eq_true rfl⟩) hS (gA_sub hD hS hA) (fun v_30 ad_30 w_30 H locs hv_30 hP hD hS => ?_)
      obtain ⟨hmd_30, hkp_30, z_30, rfl, hz_30⟩ := hv_30
      have hkt_30 : keepM ad ad_30 w w_30 := keepM_t (v := (up w 200 (oB 6 [.int (iI 0), .int (iI (sc 0)), .ref (ad 201), .ref (ad 202), .ref (ad 203), .ref (ad 204), .int (iI (sc 1)), .ref (ad 205), .ref (ad 206), .ref (ad 207), .ref (ad 208), .ref (ad 209), .int (iI (sc 2)), .int (iI (sc 3)), .int (iI (sc 4)), .ref (ad 210), .int (iI fr), .ref (ad 211), .ref (ad 212)]))) ⟨rfl, fun r hr => ⟨(up_n (by omega) rfl), rfl⟩⟩ hkp_30
      obtain ⟨G1, G2, us, ut, ub, ⟨k0, k1, k2, k3, k4, k5, k6, k7, k8, k9, k10, k11, k12⟩, hG1, hG2, hus, hut, hub, hmc, hmu, hmt⟩ := hmd_30
      rw [← hkp_30.1] at hl
      refine W.eq (g2 := F0 m 33 ls [.long (lI z_30)]) rfl ?_
      refine W.cs (cells' := 1) (slots' := 5) rfl rfl ?_
      have c9_ : z_30 = cntT (tbS sc fn) fa (to_ + 1 - fa).toNat := by rcases hz_30 with ⟨e9, h9⟩ | ⟨e9, h9⟩ | ⟨e9, h9⟩ | ⟨e9, h9⟩ | ⟨e9, h9⟩ <;> first | exact h9 | (exfalso; omega)
      have cb_ := cntT_b (tbS sc fn) fa (to_ + 1 - fa).toNat
      refine lv_lstore_n (pc := 33) (lv' := [(3, .long (lI z_30)), (0, .ref (ad_30 200)), (1, .int (iI fa)), (2, .int (iI to_))]) hx hb dX6_mean_33 rfl hl (by decide) rfl (fun ls hl => ?_)
      refine lv_lload_n (pc := 34) hx hb dX6_mean_34 rfl (lv_at hl 0 rfl) ?_
      refine k_lconst0 (pc := 35) hx hb dX6_mean_35 ?_
      refine k_lcmp_ne (pc := 36) (tgt := 44) hx hb ⟨by omega, by omega⟩ ⟨by omega, by omega⟩ dX6_mean_36 dX6_mean_37 (by decide) (fun hc_36 => ?_) (fun hc_36 => ?_)
      · skip
        refine lv_aload_n (pc := 44) hx hb dX6_mean_44 rfl (lv_at hl 1 rfl) ?_
        refine lv_iload_n (pc := 45) hx hb dX6_mean_45 rfl (lv_at hl 2 rfl) ?_
        refine lv_iload_n (pc := 46) hx hb dX6_mean_46 rfl (lv_at hl 3 rfl) ?_
        refine k_iconst (pc := 47) hx hb dX6_mean_47 ?_
        refine k_call1 (pc := 48) (va_runV (As := [.int (iI fa), .int (iI to_), .int (iI 1)]) (rest := []) ⟨hx, hb, hml, hown, hts⟩ (c_X6_summed l D cA ad_30 w_30 H.size 0 sc fn hI ⟨1, G1, G2, us, ut, ub, (tbS sc fn), (tbF sc fn), ⟨k0, k1, k2, k3, k4, k5, k6, k7, k8, k9, k10, k11, k12⟩, hG1, hG2, hus, hut, hub, (tbOk_tb hI).2.1, (tbOk_tb hI).1, hmc, hmu, hmt, (Or.inr ⟨rfl, rfl, rfl⟩)⟩ fa to_ 1 (by omega) (by omega)) (cwV 3 hts gX6_mean_X6_summed rfl rfl rfl (by decide +kernel) ⟨Nat.le_of_ble_eq_true rfl, Nat.le_of_ble_eq_true rfl⟩) (gV_V hP hD hK hB hS hA hZ 200 (ci := 6) rfl k0) rfl rfl hl.1 rfl (lv_room (Nat.le_of_ble_eq_true rfl)) dX6_mean_48 ⟨Nat.le_of_ble_eq_true rfl, Nat.le_of_ble_eq_true rfl⟩) hS (gA_sub hD hS hA) (fun v_48 ad_48 w_48 H locs hv_48 hP hD hS => ?_)
        obtain ⟨hmd_48, hkp_48, z_48, rfl, hz_48⟩ := hv_48
        have hkt_48 : keepM ad ad_48 w w_48 := keepM_t hkt_30 hkp_48
        obtain ⟨G1, G2, us, ut, ub, ⟨k0, k1, k2, k3, k4, k5, k6, k7, k8, k9, k10, k11, k12⟩, hG1, hG2, hus, hut, hub, hmc, hmu, hmt⟩ := hmd_48
        rw [← hkp_48.1] at hl
        refine W.eq (g2 := F0 m 51 ls [.long (lI z_48)]) rfl ?_
        refine W.cs (cells' := 2) (slots' := 10) rfl rfl ?_
        have s9_ : z_48 = sumT (tbF sc fn) (tbS sc fn) fa (to_ + 1 - fa).toNat := by rcases hz_48 with ⟨e9, h9⟩ | ⟨e9, h9⟩ | ⟨e9, h9⟩ | ⟨e9, h9⟩ | ⟨e9, h9⟩ <;> first | exact h9 | (exfalso; omega)
        refine lv_l2d (pc := 51) hx hb dX6_mean_51 ?_
        refine lv_lload_n (pc := 52) hx hb dX6_mean_52 rfl (lv_at hl 0 rfl) ?_
        refine lv_l2d (pc := 53) hx hb dX6_mean_53 ?_
        refine lv_ddiv (pc := 54) hx hb dX6_mean_54 (fp_ql (by have tb_ := tbOk_tb hI; have sb_ := sumT_b (S := tbS sc fn) tb_.1 fa (to_ + 1 - fa).toNat; constructor <;> omega) (by omega)) ?_
        rw [show (FP.ddiv (FP.l2d (lI z_48)) (FP.l2d (lI z_30))) = mnV (tbF sc fn) (tbS sc fn) fa to_ from mnV_L c9_ s9_ hc_36 (by omega)]
        rw [hQ9]
        exact W.dret (v := (mnV (tbF sc fn) (tbS sc fn) fa to_)) hx hb hret (fun t ht hW => ⟨⟨some (.double (mnV (tbF sc fn) (tbS sc fn) fa to_)), ad_48, w_48, rfl, ⟨0, sc, fn, ⟨1, G1, G2, us, ut, ub, (tbS sc fn), (tbF sc fn), ⟨k0, k1, k2, k3, k4, k5, k6, k7, k8, k9, k10, k11, k12⟩, hG1, hG2, hus, hut, hub, (tbOk_tb hI).2.1, (tbOk_tb hI).1, hmc, hmu, hmt, (Or.inr ⟨rfl, rfl, rfl⟩)⟩, hI, hkt_48, Or.inl (⟨rfl, ⟨rfl, rfl, by omega, by omega, by omega, rfl⟩⟩)⟩, by rw [ht]; exact hP, hD⟩, hS.F ht⟩) hS.2.2 dX6_mean_55
      · skip
        refine lv_dconst0 (pc := 40) hx hb dX6_mean_40 ?_
        refine lv_goto (pc := 41) (tgt := 55) hx hb dX6_mean_41 (by decide) ?_
        rw [show FP.dconst0 = mnV (tbF sc fn) (tbS sc fn) fa to_ from mnV_0 c9_ hc_36]
        rw [hQ9]
        refine W.widen (k := 2) (n := 10) (by decide) (by decide) ?_
        exact W.dret (v := (mnV (tbF sc fn) (tbS sc fn) fa to_)) hx hb hret (fun t ht hW => ⟨⟨some (.double (mnV (tbF sc fn) (tbS sc fn) fa to_)), ad_30, w_30, rfl, ⟨0, sc, fn, ⟨1, G1, G2, us, ut, ub, (tbS sc fn), (tbF sc fn), ⟨k0, k1, k2, k3, k4, k5, k6, k7, k8, k9, k10, k11, k12⟩, hG1, hG2, hus, hut, hub, (tbOk_tb hI).2.1, (tbOk_tb hI).1, hmc, hmu, hmt, (Or.inr ⟨rfl, rfl, rfl⟩)⟩, hI, hkt_30, Or.inl (⟨rfl, ⟨rfl, rfl, by omega, by omega, by omega, rfl⟩⟩)⟩, by rw [ht]; exact hP, hD⟩, hS.F ht⟩) hS.2.2 dX6_mean_55
    · skip
      exfalso
      omega
