abbrev rmX6_flowBy : Room := { frames := 3, cells := 0, slots := 0, locals := 68 }
theorem hiX6_flowBy_6 : ∀ w ∈ wsX60, w ∈ wsX6_flowBy := by decide +kernel
set_option maxHeartbeats 4000000 in
set_option maxRecDepth 100000 in
theorem c_X6_flowBy (l : Launch) (D : va_G) (cA : Nat → ClassId) (ad : Nat → Nat) (w : Nat → Option va_E) (sz : Nat) (th : Int) (sc : Nat → Int) (fn : Nat → Int → Int) (hI : bkInv sc fn) (hmd : mdS cA ad w th sc fn) (ci sg : Int) (hci : (-2147483648 ≤ ci ∧ ci < 2147483648)) (hsg : (-2147483648 ≤ sg ∧ sg < 2147483648)) : Met l yX6_flowBy wsX6_flowBy rmX6_flowBy (gV D cA ad w sz [.ref (ad 200), .int (iI ci), .int (iI sg)]) (gW D (fun v9 ad1 w1 => ∃ (th2 : Int) (sc2 : Nat → Int) (fn2 : Nat → Int → Int), mdS cA ad1 w1 th2 sc2 fn2 ∧ bkInv sc2 fn2 ∧ keepM ad ad1 w w1 ∧ ((th2 = 0 ∧ (sc2 = sc ∧ fn2 = fn ∧ 0 ≤ ci ∧ ci < sc 0 ∧ -2000 ≤ sg ∧ sg ≤ 4000 ∧ 2 ≤ fn 9 ci ∧ v9 = some (.long (lI (flowF (fn (20 + ci.toNat)) (fn (30 + ci.toNat)) (fn 9 ci) sg))))) ∨ (th2 = 1 ∧ v9 = some (.long (lI 0)) ∧ sc2 = sc ∧ fn2 = fn ∧ (¬ (0 ≤ ci ∧ ci < sc 0))) ∨ (th2 = 2 ∧ v9 = some (.long (lI 0)) ∧ sc2 = sc ∧ fn2 = fn ∧ ((0 ≤ ci ∧ ci < sc 0) ∧ ¬ (-2000 ≤ sg ∧ sg ≤ 4000))) ∨ (th2 = 3 ∧ v9 = some (.long (lI 0)) ∧ sc2 = sc ∧ fn2 = fn ∧ ((0 ≤ ci ∧ ci < sc 0) ∧ (-2000 ≤ sg ∧ sg ≤ 4000) ∧ ¬ 2 ≤ fn 9 ci)))) (gA ad w sz)) 0 0 (gA ad w sz) := by
  refine Met.ofW (cc := cX6_flowBy) (maxL := 3) (ret := (some .long)) (by decide) rfl ?_
  intro p e s m args below meth c s₁ B hml hv
  obtain ⟨hav, hsz, hP, hD0, hK, hB, hZ⟩ := hv
  have hx := B.exec
  have hb := B.bytes
  have hret := B.returns
  have hts := atoms_spec (ws := wsX6_flowBy) B.pre
  have hown : s.vm.findClass RX6 = some m.cls := findClass_of_methodNamed B.named
  have hlocks := B.notSynchronized
  subst hsz
  have hD := hD0.self (sz := s.heap.size)
  generalize hAe : gA ad w s.heap.size = A at hD hZ ⊢
  have hA : ∀ q : Nat, s.heap.size ≤ q → A q := fun q h => by rw [← hAe]; exact Or.inr h
  have hS : va_S A s.heap s.heap [] := va_S.rf
  have hi6 := hiX6_flowBy_6
  have hf55 := hts (.fieldLink RX6 55 "GaugeBookModel" "thrown" "I") (by decide +kernel)
  have he9 : entryFrame m args 3 = F0 m 0 ((lg_sl ([.ref (ad 200), .int (iI ci), .int (iI sg)] : List Value) ++ List.replicate (3 - (lg_sl ([.ref (ad 200), .int (iI ci), .int (iI sg)] : List Value)).length) Slot.unset).toArray) [] := by rw [hav, lg_entry_eq]
  rw [he9]
  have hl := lv_entry ([.ref (ad 200), .int (iI ci), .int (iI sg)] : List Value) (n := 3) (Nat.le_of_ble_eq_true rfl)
  generalize (lg_sl ([.ref (ad 200), .int (iI ci), .int (iI sg)] : List Value) ++ List.replicate (3 - (lg_sl ([.ref (ad 200), .int (iI ci), .int (iI sg)] : List Value)).length) Slot.unset).toArray = ls at hl ⊢
  have hl : lv_has ls 3 [(0, .ref (ad 200)), (1, .int (iI ci)), (2, .int (iI sg))] := hl
  obtain ⟨Q9, hQ9⟩ : ∃ z, z = MQ below (gW D (fun v9 ad1 w1 => ∃ (th2 : Int) (sc2 : Nat → Int) (fn2 : Nat → Int → Int), mdS cA ad1 w1 th2 sc2 fn2 ∧ bkInv sc2 fn2 ∧ keepM ad ad1 w w1 ∧ ((th2 = 0 ∧ (sc2 = sc ∧ fn2 = fn ∧ 0 ≤ ci ∧ ci < sc 0 ∧ -2000 ≤ sg ∧ sg ≤ 4000 ∧ 2 ≤ fn 9 ci ∧ v9 = some (.long (lI (flowF (fn (20 + ci.toNat)) (fn (30 + ci.toNat)) (fn 9 ci) sg))))) ∨ (th2 = 1 ∧ v9 = some (.long (lI 0)) ∧ sc2 = sc ∧ fn2 = fn ∧ (¬ (0 ≤ ci ∧ ci < sc 0))) ∨ (th2 = 2 ∧ v9 = some (.long (lI 0)) ∧ sc2 = sc ∧ fn2 = fn ∧ ((0 ≤ ci ∧ ci < sc 0) ∧ ¬ (-2000 ≤ sg ∧ sg ≤ 4000))) ∨ (th2 = 3 ∧ v9 = some (.long (lI 0)) ∧ sc2 = sc ∧ fn2 = fn ∧ ((0 ≤ ci ∧ ci < sc 0) ∧ (-2000 ≤ sg ∧ sg ≤ 4000) ∧ ¬ 2 ≤ fn 9 ci)))) A) args s 0 0 A := ⟨_, rfl⟩
  rw [← hQ9]
  show W p l e rmX6_flowBy s m args below meth c s.heap [] 0 0 Q9 (F0 m 0 ls [])
  obtain ⟨H, hHe⟩ : ∃ z, z = s.heap := ⟨_, rfl⟩
  obtain ⟨locs, hLe⟩ : ∃ z, z = ([] : List Loc) := ⟨_, rfl⟩
  have hP : gP D vwCl ad w H := by rw [hHe]; exact hP
  have hS : va_S A s.heap H locs := by rw [hHe, hLe]; exact va_S.rf
  rw [show W p l e rmX6_flowBy s m args below meth c s.heap [] 0 0 Q9 (F0 m 0 ls []) = W p l e rmX6_flowBy s m args below meth c H locs 0 0 Q9 (F0 m 0 ls []) by rw [hHe, hLe]]
  clear hHe hLe
  obtain ⟨fr, G1, G2, us, ut, ub, S, F, ⟨k0, k1, k2, k3, k4, k5, k6, k7, k8, k9, k10, k11, k12⟩, hG1, hG2, hus, hut, hub, hS9, hF, hmc, hmu, hmt, hrk⟩ := hmd
  have hI1 := hI.1
  refine lv_aload_n (pc := 0) hx hb dX6_flowBy_0 rfl (lv_at hl 0 rfl) ?_
  refine lv_aload_n (pc := 1) hx hb dX6_flowBy_1 rfl (lv_at hl 0 rfl) ?_
  refine lv_iload_n (pc := 2) hx hb dX6_flowBy_2 rfl (lv_at hl 1 rfl) ?_
  refine lv_iload_n (pc := 3) hx hb dX6_flowBy_3 rfl (lv_at hl 2 rfl) ?_
  refine k_i2l (pc := 4) hx hb ⟨by omega, by omega⟩ dX6_flowBy_4 ?_
  refine k_ldc2 (z := (-2000)) (pc := 5) hx hb hown (hts (.constantLong RX6 97 (-2000)) (by decide +kernel)) (by decide +kernel) dX6_flowBy_5 ?_
  refine k_ldc2 (z := 4000) (pc := 8) hx hb hown (hts (.constantLong RX6 99 (4000)) (by decide +kernel)) (by decide +kernel) dX6_flowBy_8 ?_
  refine k_call0 (pc := 11) (va_runS (As := [.long (lI sg), .long (lI (-2000)), .long (lI 4000)]) (rest := [.int (iI ci), .ref (ad 200), .ref (ad 200)]) ⟨hx, hb, hml, hown, hts⟩ (c_X6_isIn l D cA ad w sg (-2000) 4000 (by omega) (by omega) (by omega)) (va_cwS 3 hts gX6_flowBy_X6_isIn rfl rfl rfl (by decide +kernel) ⟨Nat.le_of_ble_eq_true rfl, Nat.le_of_ble_eq_true rfl⟩) (gR_S hP hK hB) rfl rfl hl.1 rfl (lv_room (Nat.le_of_ble_eq_true rfl)) dX6_flowBy_11 ⟨Nat.le_of_ble_eq_true rfl, Nat.le_of_ble_eq_true rfl⟩) (fun v_11 hv_11 => ?_)
  obtain ⟨z_11, rfl, hz_11⟩ := hv_11
  refine W.eq (g2 := F0 m 14 ls [.int (iI z_11), .int (iI ci), .ref (ad 200), .ref (ad 200)]) rfl ?_
  refine k_call0 (pc := 14) (va_runV (As := [.int (iI ci), .int (iI z_11)]) (rest := [.ref (ad 200)]) ⟨hx, hb, hml, hown, hts⟩ (c_X6_why l D cA ad w sc fn th fr hI k0 k2 ci z_11 (by omega) (by omega)) (cwV 2 hts gX6_flowBy_X6_why rfl rfl rfl (by decide +kernel) ⟨Nat.le_of_ble_eq_true rfl, Nat.le_of_ble_eq_true rfl⟩) (gR_V hP hK hB 200 (ci := 6) rfl k0) rfl rfl hl.1 rfl (lv_room (Nat.le_of_ble_eq_true rfl)) dX6_flowBy_14 ⟨Nat.le_of_ble_eq_true rfl, Nat.le_of_ble_eq_true rfl⟩) (fun v_14 hv_14 => ?_)
  obtain ⟨z_14, rfl, hz_14⟩ := hv_14
  refine W.eq (g2 := F0 m 17 ls [.int (iI z_14), .ref (ad 200)]) rfl ?_
  refine k_put (pc := 17) (ci := 6) (C := RX6) (T := TX6) (N := 19) (ty := .int) (v := .int (iI z_14)) (w1 := (up w 200 (oB 6 [.int (iI z_14), .int (iI (sc 0)), .ref (ad 201), .ref (ad 202), .ref (ad 203), .ref (ad 204), .int (iI (sc 1)), .ref (ad 205), .ref (ad 206), .ref (ad 207), .ref (ad 208), .ref (ad 209), .int (iI (sc 2)), .int (iI (sc 3)), .int (iI (sc 4)), .ref (ad 210), .int (iI fr), .ref (ad 211), .ref (ad 212)]))) hx hb hts hi6 tyX6 tyX6_ok nmX6 hown hK hP hD hS 200 k0 rfl 0 (by decide) hf55 (fun _ h9 => h9) rfl (by decide +kernel) rfl rfl (Nat.le_of_ble_eq_true rfl) rfl dX6_flowBy_17 (fun H locs hP hD hS => ?_)
  rcases hz_14 with ⟨e9_, q1_⟩ | ⟨e9_, q1_, q2_⟩ | ⟨e9_, q1_, q2_, q3_⟩ | ⟨e9_, q1_, q2_, q3_⟩
  · skip
    subst e9_
    refine lv_aload_n (pc := 20) hx hb dX6_flowBy_20 rfl (lv_at hl 0 rfl) ?_
    refine k_get (pc := 21) (ci := 6) (C := RX6) (T := TX6) (N := 19) hx hb hts hi6 hown hK hP 200 (up_s _ _ _) rfl 0 (by decide) hf55 (fun _ h9 => h9) rfl dX6_flowBy_21 ?_
    refine k_if_ne (pc := 24) (tgt := 36) hx hb ⟨by omega, by omega⟩ dX6_flowBy_24 (by decide) (fun hc_24 => ?_) (fun hc_24 => ?_)
    · skip
      refine k_lconst0 (pc := 36) hx hb dX6_flowBy_36 ?_
      rw [hQ9]
      exact W.lret (v := lI 0) hx hb hret (fun t ht hW => ⟨⟨some (.long (lI 0)), ad, (up w 200 (oB 6 [.int (iI 1), .int (iI (sc 0)), .ref (ad 201), .ref (ad 202), .ref (ad 203), .ref (ad 204), .int (iI (sc 1)), .ref (ad 205), .ref (ad 206), .ref (ad 207), .ref (ad 208), .ref (ad 209), .int (iI (sc 2)), .int (iI (sc 3)), .int (iI (sc 4)), .ref (ad 210), .int (iI fr), .ref (ad 211), .ref (ad 212)])), rfl, ⟨1, sc, fn, ⟨fr, G1, G2, us, ut, ub, S, F, ⟨(up_s _ _ _), (up_n (by decide) k1), (up_n (by decide) k2), (up_n (by decide) k3), (up_n (by decide) k4), (up_n (by decide) k5), (up_n (by decide) k6), (up_n (by decide) k7), (up_n (by decide) k8), (up_n (by decide) k9), (up_n (by decide) k10), (up_n (by decide) k11), (up_n (by decide) k12)⟩, hG1, hG2, hus, hut, hub, hS9, hF, hmc, hmu, hmt, hrk⟩, hI, ⟨rfl, fun r hr => ⟨(up_n (by omega) rfl), rfl⟩⟩, Or.inr (Or.inl (⟨rfl, rfl, rfl, rfl, by omega⟩))⟩, by rw [ht]; exact hP, hD⟩, hS.F ht⟩) hS.2.2 dX6_flowBy_37
    · skip
      exfalso
      omega
  · skip
    subst e9_
    refine lv_aload_n (pc := 20) hx hb dX6_flowBy_20 rfl (lv_at hl 0 rfl) ?_
    refine k_get (pc := 21) (ci := 6) (C := RX6) (T := TX6) (N := 19) hx hb hts hi6 hown hK hP 200 (up_s _ _ _) rfl 0 (by decide) hf55 (fun _ h9 => h9) rfl dX6_flowBy_21 ?_
    refine k_if_ne (pc := 24) (tgt := 36) hx hb ⟨by omega, by omega⟩ dX6_flowBy_24 (by decide) (fun hc_24 => ?_) (fun hc_24 => ?_)
    · skip
      refine k_lconst0 (pc := 36) hx hb dX6_flowBy_36 ?_
      rw [hQ9]
      exact W.lret (v := lI 0) hx hb hret (fun t ht hW => ⟨⟨some (.long (lI 0)), ad, (up w 200 (oB 6 [.int (iI 2), .int (iI (sc 0)), .ref (ad 201), .ref (ad 202), .ref (ad 203), .ref (ad 204), .int (iI (sc 1)), .ref (ad 205), .ref (ad 206), .ref (ad 207), .ref (ad 208), .ref (ad 209), .int (iI (sc 2)), .int (iI (sc 3)), .int (iI (sc 4)), .ref (ad 210), .int (iI fr), .ref (ad 211), .ref (ad 212)])), rfl, ⟨2, sc, fn, ⟨fr, G1, G2, us, ut, ub, S, F, ⟨(up_s _ _ _), (up_n (by decide) k1), (up_n (by decide) k2), (up_n (by decide) k3), (up_n (by decide) k4), (up_n (by decide) k5), (up_n (by decide) k6), (up_n (by decide) k7), (up_n (by decide) k8), (up_n (by decide) k9), (up_n (by decide) k10), (up_n (by decide) k11), (up_n (by decide) k12)⟩, hG1, hG2, hus, hut, hub, hS9, hF, hmc, hmu, hmt, hrk⟩, hI, ⟨rfl, fun r hr => ⟨(up_n (by omega) rfl), rfl⟩⟩, Or.inr (Or.inr (Or.inl (⟨rfl, rfl, rfl, rfl, by omega⟩)))⟩, by rw [ht]; exact hP, hD⟩, hS.F ht⟩) hS.2.2 dX6_flowBy_37
    · skip
      exfalso
      omega
  · skip
    subst e9_
    refine lv_aload_n (pc := 20) hx hb dX6_flowBy_20 rfl (lv_at hl 0 rfl) ?_
    refine k_get (pc := 21) (ci := 6) (C := RX6) (T := TX6) (N := 19) hx hb hts hi6 hown hK hP 200 (up_s _ _ _) rfl 0 (by decide) hf55 (fun _ h9 => h9) rfl dX6_flowBy_21 ?_
    refine k_if_ne (pc := 24) (tgt := 36) hx hb ⟨by omega, by omega⟩ dX6_flowBy_24 (by decide) (fun hc_24 => ?_) (fun hc_24 => ?_)
    · skip
      refine k_lconst0 (pc := 36) hx hb dX6_flowBy_36 ?_
      rw [hQ9]
      exact W.lret (v := lI 0) hx hb hret (fun t ht hW => ⟨⟨some (.long (lI 0)), ad, (up w 200 (oB 6 [.int (iI 3), .int (iI (sc 0)), .ref (ad 201), .ref (ad 202), .ref (ad 203), .ref (ad 204), .int (iI (sc 1)), .ref (ad 205), .ref (ad 206), .ref (ad 207), .ref (ad 208), .ref (ad 209), .int (iI (sc 2)), .int (iI (sc 3)), .int (iI (sc 4)), .ref (ad 210), .int (iI fr), .ref (ad 211), .ref (ad 212)])), rfl, ⟨3, sc, fn, ⟨fr, G1, G2, us, ut, ub, S, F, ⟨(up_s _ _ _), (up_n (by decide) k1), (up_n (by decide) k2), (up_n (by decide) k3), (up_n (by decide) k4), (up_n (by decide) k5), (up_n (by decide) k6), (up_n (by decide) k7), (up_n (by decide) k8), (up_n (by decide) k9), (up_n (by decide) k10), (up_n (by decide) k11), (up_n (by decide) k12)⟩, hG1, hG2, hus, hut, hub, hS9, hF, hmc, hmu, hmt, hrk⟩, hI, ⟨rfl, fun r hr => ⟨(up_n (by omega) rfl), rfl⟩⟩, Or.inr (Or.inr (Or.inr (⟨rfl, rfl, rfl, rfl, by omega⟩)))⟩, by rw [ht]; exact hP, hD⟩, hS.F ht⟩) hS.2.2 dX6_flowBy_37
    · skip
      exfalso
      omega
  · skip
    subst e9_
    refine lv_aload_n (pc := 20) hx hb dX6_flowBy_20 rfl (lv_at hl 0 rfl) ?_
    refine k_get (pc := 21) (ci := 6) (C := RX6) (T := TX6) (N := 19) hx hb hts hi6 hown hK hP 200 (up_s _ _ _) rfl 0 (by decide) hf55 (fun _ h9 => h9) rfl dX6_flowBy_21 ?_
    refine k_if_ne (pc := 24) (tgt := 36) hx hb ⟨by omega, by omega⟩ dX6_flowBy_24 (by decide) (fun hc_24 => ?_) (fun hc_24 => ?_)
    · skip
      exfalso
      omega
    · skip
      refine lv_aload_n (pc := 27) hx hb dX6_flowBy_27 rfl (lv_at hl 0 rfl) ?_
      refine lv_iload_n (pc := 28) hx hb dX6_flowBy_28 rfl (lv_at hl 1 rfl) ?_
      refine lv_iload_n (pc := 29) hx hb dX6_flowBy_29 rfl (lv_at hl 2 rfl) ?_
      refine k_call0 (pc := 30) (va_runV (As := [.int (iI ci), .int (iI sg)]) (rest := []) ⟨hx, hb, hml, hown, hts⟩ (c_X6_flowFor l D cA ad (up w 200 (oB 6 [.int (iI 0), .int (iI (sc 0)), .ref (ad 201), .ref (ad 202), .ref (ad 203), .ref (ad 204), .int (iI (sc 1)), .ref (ad 205), .ref (ad 206), .ref (ad 207), .ref (ad 208), .ref (ad 209), .int (iI (sc 2)), .int (iI (sc 3)), .int (iI (sc 4)), .ref (ad 210), .int (iI fr), .ref (ad 211), .ref (ad 212)])) sc fn 0 fr G1 G2 hI (up_s _ _ _) (up_n (by decide) k2) (up_n (by decide) k3) (up_n (by decide) k4) hG1 hG2 hmc ci sg (by omega) (by omega) (by omega)) (cwV 2 hts gX6_flowBy_X6_flowFor rfl rfl rfl (by decide +kernel) ⟨Nat.le_of_ble_eq_true rfl, Nat.le_of_ble_eq_true rfl⟩) (gR_V hP hK hB 200 (ci := 6) rfl (up_s _ _ _)) rfl rfl hl.1 rfl (lv_room (Nat.le_of_ble_eq_true rfl)) dX6_flowBy_30 ⟨Nat.le_of_ble_eq_true rfl, Nat.le_of_ble_eq_true rfl⟩) (fun v_30 hv_30 => ?_)
      obtain ⟨z_30, rfl, hz_30⟩ := hv_30
      refine W.eq (g2 := F0 m 33 ls [.long (lI z_30)]) rfl ?_
      refine lv_goto (pc := 33) (tgt := 37) hx hb dX6_flowBy_33 (by decide) ?_
      have he_37 : z_30 = flowF (fn (20 + ci.toNat)) (fn (30 + ci.toNat)) (fn 9 ci) sg := by omega
      rw [he_37]
      rw [hQ9]
      exact W.lret (v := lI (flowF (fn (20 + ci.toNat)) (fn (30 + ci.toNat)) (fn 9 ci) sg)) hx hb hret (fun t ht hW => ⟨⟨some (.long (lI (flowF (fn (20 + ci.toNat)) (fn (30 + ci.toNat)) (fn 9 ci) sg))), ad, (up w 200 (oB 6 [.int (iI 0), .int (iI (sc 0)), .ref (ad 201), .ref (ad 202), .ref (ad 203), .ref (ad 204), .int (iI (sc 1)), .ref (ad 205), .ref (ad 206), .ref (ad 207), .ref (ad 208), .ref (ad 209), .int (iI (sc 2)), .int (iI (sc 3)), .int (iI (sc 4)), .ref (ad 210), .int (iI fr), .ref (ad 211), .ref (ad 212)])), rfl, ⟨0, sc, fn, ⟨fr, G1, G2, us, ut, ub, S, F, ⟨(up_s _ _ _), (up_n (by decide) k1), (up_n (by decide) k2), (up_n (by decide) k3), (up_n (by decide) k4), (up_n (by decide) k5), (up_n (by decide) k6), (up_n (by decide) k7), (up_n (by decide) k8), (up_n (by decide) k9), (up_n (by decide) k10), (up_n (by decide) k11), (up_n (by decide) k12)⟩, hG1, hG2, hus, hut, hub, hS9, hF, hmc, hmu, hmt, hrk⟩, hI, ⟨rfl, fun r hr => ⟨(up_n (by omega) rfl), rfl⟩⟩, Or.inl (⟨rfl, ⟨rfl, rfl, by omega, by omega, by omega, by omega, by omega, rfl⟩⟩)⟩, by rw [ht]; exact hP, hD⟩, hS.F ht⟩) hS.2.2 dX6_flowBy_37

abbrev rmX6_stageBy : Room := { frames := 3, cells := 0, slots := 0, locals := 68 }
theorem hiX6_stageBy_6 : ∀ w ∈ wsX60, w ∈ wsX6_stageBy := by decide +kernel
set_option maxHeartbeats 4000000 in
set_option maxRecDepth 100000 in
theorem c_X6_stageBy (l : Launch) (D : va_G) (cA : Nat → ClassId) (ad : Nat → Nat) (w : Nat → Option va_E) (sz : Nat) (th : Int) (sc : Nat → Int) (fn : Nat → Int → Int) (hI : bkInv sc fn) (hmd : mdS cA ad w th sc fn) (ci q : Int) (hci : (-2147483648 ≤ ci ∧ ci < 2147483648)) (hq : (-2147483648 ≤ q ∧ q < 2147483648)) : Met l yX6_stageBy wsX6_stageBy rmX6_stageBy (gV D cA ad w sz [.ref (ad 200), .int (iI ci), .int (iI q)]) (gW D (fun v9 ad1 w1 => ∃ (th2 : Int) (sc2 : Nat → Int) (fn2 : Nat → Int → Int), mdS cA ad1 w1 th2 sc2 fn2 ∧ bkInv sc2 fn2 ∧ keepM ad ad1 w w1 ∧ ((th2 = 0 ∧ (sc2 = sc ∧ fn2 = fn ∧ 0 ≤ ci ∧ ci < sc 0 ∧ 0 ≤ q ∧ q ≤ 1000000 ∧ 2 ≤ fn 9 ci ∧ v9 = some (.int (iI (stageF (fn (20 + ci.toNat)) (fn (30 + ci.toNat)) (fn 9 ci) q))))) ∨ (th2 = 1 ∧ v9 = some (.int (iI 0)) ∧ sc2 = sc ∧ fn2 = fn ∧ (¬ (0 ≤ ci ∧ ci < sc 0))) ∨ (th2 = 2 ∧ v9 = some (.int (iI 0)) ∧ sc2 = sc ∧ fn2 = fn ∧ ((0 ≤ ci ∧ ci < sc 0) ∧ ¬ (0 ≤ q ∧ q ≤ 1000000))) ∨ (th2 = 3 ∧ v9 = some (.int (iI 0)) ∧ sc2 = sc ∧ fn2 = fn ∧ ((0 ≤ ci ∧ ci < sc 0) ∧ (0 ≤ q ∧ q ≤ 1000000) ∧ ¬ 2 ≤ fn 9 ci)))) (gA ad w sz)) 0 0 (gA ad w sz) := by
  refine Met.ofW (cc := cX6_stageBy) (maxL := 3) (ret := (some .int)) (by decide) rfl ?_
  intro p e s m args below meth c s₁ B hml hv
  obtain ⟨hav, hsz, hP, hD0, hK, hB, hZ⟩ := hv
  have hx := B.exec
  have hb := B.bytes
  have hret := B.returns
  have hts := atoms_spec (ws := wsX6_stageBy) B.pre
  have hown : s.vm.findClass RX6 = some m.cls := findClass_of_methodNamed B.named
  have hlocks := B.notSynchronized
  subst hsz
  have hD := hD0.self (sz := s.heap.size)
  generalize hAe : gA ad w s.heap.size = A at hD hZ ⊢
  have hA : ∀ q : Nat, s.heap.size ≤ q → A q := fun q h => by rw [← hAe]; exact Or.inr h
  have hS : va_S A s.heap s.heap [] := va_S.rf
  have hi6 := hiX6_stageBy_6
  have hf55 := hts (.fieldLink RX6 55 "GaugeBookModel" "thrown" "I") (by decide +kernel)
  have he9 : entryFrame m args 3 = F0 m 0 ((lg_sl ([.ref (ad 200), .int (iI ci), .int (iI q)] : List Value) ++ List.replicate (3 - (lg_sl ([.ref (ad 200), .int (iI ci), .int (iI q)] : List Value)).length) Slot.unset).toArray) [] := by rw [hav, lg_entry_eq]
  rw [he9]
  have hl := lv_entry ([.ref (ad 200), .int (iI ci), .int (iI q)] : List Value) (n := 3) (Nat.le_of_ble_eq_true rfl)
  generalize (lg_sl ([.ref (ad 200), .int (iI ci), .int (iI q)] : List Value) ++ List.replicate (3 - (lg_sl ([.ref (ad 200), .int (iI ci), .int (iI q)] : List Value)).length) Slot.unset).toArray = ls at hl ⊢
  have hl : lv_has ls 3 [(0, .ref (ad 200)), (1, .int (iI ci)), (2, .int (iI q))] := hl
  obtain ⟨Q9, hQ9⟩ : ∃ z, z = MQ below (gW D (fun v9 ad1 w1 => ∃ (th2 : Int) (sc2 : Nat → Int) (fn2 : Nat → Int → Int), mdS cA ad1 w1 th2 sc2 fn2 ∧ bkInv sc2 fn2 ∧ keepM ad ad1 w w1 ∧ ((th2 = 0 ∧ (sc2 = sc ∧ fn2 = fn ∧ 0 ≤ ci ∧ ci < sc 0 ∧ 0 ≤ q ∧ q ≤ 1000000 ∧ 2 ≤ fn 9 ci ∧ v9 = some (.int (iI (stageF (fn (20 + ci.toNat)) (fn (30 + ci.toNat)) (fn 9 ci) q))))) ∨ (th2 = 1 ∧ v9 = some (.int (iI 0)) ∧ sc2 = sc ∧ fn2 = fn ∧ (¬ (0 ≤ ci ∧ ci < sc 0))) ∨ (th2 = 2 ∧ v9 = some (.int (iI 0)) ∧ sc2 = sc ∧ fn2 = fn ∧ ((0 ≤ ci ∧ ci < sc 0) ∧ ¬ (0 ≤ q ∧ q ≤ 1000000))) ∨ (th2 = 3 ∧ v9 = some (.int (iI 0)) ∧ sc2 = sc ∧ fn2 = fn ∧ ((0 ≤ ci ∧ ci < sc 0) ∧ (0 ≤ q ∧ q ≤ 1000000) ∧ ¬ 2 ≤ fn 9 ci)))) A) args s 0 0 A := ⟨_, rfl⟩
  rw [← hQ9]
  show W p l e rmX6_stageBy s m args below meth c s.heap [] 0 0 Q9 (F0 m 0 ls [])
  obtain ⟨H, hHe⟩ : ∃ z, z = s.heap := ⟨_, rfl⟩
  obtain ⟨locs, hLe⟩ : ∃ z, z = ([] : List Loc) := ⟨_, rfl⟩
  have hP : gP D vwCl ad w H := by rw [hHe]; exact hP
  have hS : va_S A s.heap H locs := by rw [hHe, hLe]; exact va_S.rf
  rw [show W p l e rmX6_stageBy s m args below meth c s.heap [] 0 0 Q9 (F0 m 0 ls []) = W p l e rmX6_stageBy s m args below meth c H locs 0 0 Q9 (F0 m 0 ls []) by rw [hHe, hLe]]
  clear hHe hLe
  obtain ⟨fr, G1, G2, us, ut, ub, S, F, ⟨k0, k1, k2, k3, k4, k5, k6, k7, k8, k9, k10, k11, k12⟩, hG1, hG2, hus, hut, hub, hS9, hF, hmc, hmu, hmt, hrk⟩ := hmd
  have hI1 := hI.1
  refine lv_aload_n (pc := 0) hx hb dX6_stageBy_0 rfl (lv_at hl 0 rfl) ?_
  refine lv_aload_n (pc := 1) hx hb dX6_stageBy_1 rfl (lv_at hl 0 rfl) ?_
  refine lv_iload_n (pc := 2) hx hb dX6_stageBy_2 rfl (lv_at hl 1 rfl) ?_
  refine lv_iload_n (pc := 3) hx hb dX6_stageBy_3 rfl (lv_at hl 2 rfl) ?_
  refine k_i2l (pc := 4) hx hb ⟨by omega, by omega⟩ dX6_stageBy_4 ?_
  refine k_lconst0 (pc := 5) hx hb dX6_stageBy_5 ?_
  refine k_ldc2 (z := 1000000) (pc := 6) hx hb hown (hts (.constantLong RX6 88 (1000000)) (by decide +kernel)) (by decide +kernel) dX6_stageBy_6 ?_
  refine k_call0 (pc := 9) (va_runS (As := [.long (lI q), .long (lI 0), .long (lI 1000000)]) (rest := [.int (iI ci), .ref (ad 200), .ref (ad 200)]) ⟨hx, hb, hml, hown, hts⟩ (c_X6_isIn l D cA ad w q 0 1000000 (by omega) (by omega) (by omega)) (va_cwS 3 hts gX6_stageBy_X6_isIn rfl rfl rfl (by decide +kernel) ⟨Nat.le_of_ble_eq_true rfl, Nat.le_of_ble_eq_true rfl⟩) (gR_S hP hK hB) rfl rfl hl.1 rfl (lv_room (Nat.le_of_ble_eq_true rfl)) dX6_stageBy_9 ⟨Nat.le_of_ble_eq_true rfl, Nat.le_of_ble_eq_true rfl⟩) (fun v_9 hv_9 => ?_)
  obtain ⟨z_9, rfl, hz_9⟩ := hv_9
  refine W.eq (g2 := F0 m 12 ls [.int (iI z_9), .int (iI ci), .ref (ad 200), .ref (ad 200)]) rfl ?_
  refine k_call0 (pc := 12) (va_runV (As := [.int (iI ci), .int (iI z_9)]) (rest := [.ref (ad 200)]) ⟨hx, hb, hml, hown, hts⟩ (c_X6_why l D cA ad w sc fn th fr hI k0 k2 ci z_9 (by omega) (by omega)) (cwV 2 hts gX6_stageBy_X6_why rfl rfl rfl (by decide +kernel) ⟨Nat.le_of_ble_eq_true rfl, Nat.le_of_ble_eq_true rfl⟩) (gR_V hP hK hB 200 (ci := 6) rfl k0) rfl rfl hl.1 rfl (lv_room (Nat.le_of_ble_eq_true rfl)) dX6_stageBy_12 ⟨Nat.le_of_ble_eq_true rfl, Nat.le_of_ble_eq_true rfl⟩) (fun v_12 hv_12 => ?_)
  obtain ⟨z_12, rfl, hz_12⟩ := hv_12
  refine W.eq (g2 := F0 m 15 ls [.int (iI z_12), .ref (ad 200)]) rfl ?_
  refine k_put (pc := 15) (ci := 6) (C := RX6) (T := TX6) (N := 19) (ty := .int) (v := .int (iI z_12)) (w1 := (up w 200 (oB 6 [.int (iI z_12), .int (iI (sc 0)), .ref (ad 201), .ref (ad 202), .ref (ad 203), .ref (ad 204), .int (iI (sc 1)), .ref (ad 205), .ref (ad 206), .ref (ad 207), .ref (ad 208), .ref (ad 209), .int (iI (sc 2)), .int (iI (sc 3)), .int (iI (sc 4)), .ref (ad 210), .int (iI fr), .ref (ad 211), .ref (ad 212)]))) hx hb hts hi6 tyX6 tyX6_ok nmX6 hown hK hP hD hS 200 k0 rfl 0 (by decide) hf55 (fun _ h9 => h9) rfl (by decide +kernel) rfl rfl (Nat.le_of_ble_eq_true rfl) rfl dX6_stageBy_15 (fun H locs hP hD hS => ?_)
  rcases hz_12 with ⟨e9_, q1_⟩ | ⟨e9_, q1_, q2_⟩ | ⟨e9_, q1_, q2_, q3_⟩ | ⟨e9_, q1_, q2_, q3_⟩
  · skip
    subst e9_
    refine lv_aload_n (pc := 18) hx hb dX6_stageBy_18 rfl (lv_at hl 0 rfl) ?_
    refine k_get (pc := 19) (ci := 6) (C := RX6) (T := TX6) (N := 19) hx hb hts hi6 hown hK hP 200 (up_s _ _ _) rfl 0 (by decide) hf55 (fun _ h9 => h9) rfl dX6_stageBy_19 ?_
    refine k_if_ne (pc := 22) (tgt := 34) hx hb ⟨by omega, by omega⟩ dX6_stageBy_22 (by decide) (fun hc_22 => ?_) (fun hc_22 => ?_)
    · skip
      refine k_iconst (pc := 34) hx hb dX6_stageBy_34 ?_
      rw [hQ9]
      exact W.iret (v := iI 0) hx hb hret (fun t ht hW => ⟨⟨some (.int (iI 0)), ad, (up w 200 (oB 6 [.int (iI 1), .int (iI (sc 0)), .ref (ad 201), .ref (ad 202), .ref (ad 203), .ref (ad 204), .int (iI (sc 1)), .ref (ad 205), .ref (ad 206), .ref (ad 207), .ref (ad 208), .ref (ad 209), .int (iI (sc 2)), .int (iI (sc 3)), .int (iI (sc 4)), .ref (ad 210), .int (iI fr), .ref (ad 211), .ref (ad 212)])), rfl, ⟨1, sc, fn, ⟨fr, G1, G2, us, ut, ub, S, F, ⟨(up_s _ _ _), (up_n (by decide) k1), (up_n (by decide) k2), (up_n (by decide) k3), (up_n (by decide) k4), (up_n (by decide) k5), (up_n (by decide) k6), (up_n (by decide) k7), (up_n (by decide) k8), (up_n (by decide) k9), (up_n (by decide) k10), (up_n (by decide) k11), (up_n (by decide) k12)⟩, hG1, hG2, hus, hut, hub, hS9, hF, hmc, hmu, hmt, hrk⟩, hI, ⟨rfl, fun r hr => ⟨(up_n (by omega) rfl), rfl⟩⟩, Or.inr (Or.inl (⟨rfl, rfl, rfl, rfl, by omega⟩))⟩, by rw [ht]; exact hP, hD⟩, hS.F ht⟩) hS.2.2 dX6_stageBy_35
    · skip
      exfalso
      omega
  · skip
    subst e9_
    refine lv_aload_n (pc := 18) hx hb dX6_stageBy_18 rfl (lv_at hl 0 rfl) ?_
    refine k_get (pc := 19) (ci := 6) (C := RX6) (T := TX6) (N := 19) hx hb hts hi6 hown hK hP 200 (up_s _ _ _) rfl 0 (by decide) hf55 (fun _ h9 => h9) rfl dX6_stageBy_19 ?_
    refine k_if_ne (pc := 22) (tgt := 34) hx hb ⟨by omega, by omega⟩ dX6_stageBy_22 (by decide) (fun hc_22 => ?_) (fun hc_22 => ?_)
    · skip
      refine k_iconst (pc := 34) hx hb dX6_stageBy_34 ?_
      rw [hQ9]
      exact W.iret (v := iI 0) hx hb hret (fun t ht hW => ⟨⟨some (.int (iI 0)), ad, (up w 200 (oB 6 [.int (iI 2), .int (iI (sc 0)), .ref (ad 201), .ref (ad 202), .ref (ad 203), .ref (ad 204), .int (iI (sc 1)), .ref (ad 205), .ref (ad 206), .ref (ad 207), .ref (ad 208), .ref (ad 209), .int (iI (sc 2)), .int (iI (sc 3)), .int (iI (sc 4)), .ref (ad 210), .int (iI fr), .ref (ad 211), .ref (ad 212)])), rfl, ⟨2, sc, fn, ⟨fr, G1, G2, us, ut, ub, S, F, ⟨(up_s _ _ _), (up_n (by decide) k1), (up_n (by decide) k2), (up_n (by decide) k3), (up_n (by decide) k4), (up_n (by decide) k5), (up_n (by decide) k6), (up_n (by decide) k7), (up_n (by decide) k8), (up_n (by decide) k9), (up_n (by decide) k10), (up_n (by decide) k11), (up_n (by decide) k12)⟩, hG1, hG2, hus, hut, hub, hS9, hF, hmc, hmu, hmt, hrk⟩, hI, ⟨rfl, fun r hr => ⟨(up_n (by omega) rfl), rfl⟩⟩, Or.inr (Or.inr (Or.inl (⟨rfl, rfl, rfl, rfl, by omega⟩)))⟩, by rw [ht]; exact hP, hD⟩, hS.F ht⟩) hS.2.2 dX6_stageBy_35
    · skip
      exfalso
      omega
  · skip
    subst e9_
    refine lv_aload_n (pc := 18) hx hb dX6_stageBy_18 rfl (lv_at hl 0 rfl) ?_
    refine k_get (pc := 19) (ci := 6) (C := RX6) (T := TX6) (N := 19) hx hb hts hi6 hown hK hP 200 (up_s _ _ _) rfl 0 (by decide) hf55 (fun _ h9 => h9) rfl dX6_stageBy_19 ?_
    refine k_if_ne (pc := 22) (tgt := 34) hx hb ⟨by omega, by omega⟩ dX6_stageBy_22 (by decide) (fun hc_22 => ?_) (fun hc_22 => ?_)
    · skip
      refine k_iconst (pc := 34) hx hb dX6_stageBy_34 ?_
      rw [hQ9]
      exact W.iret (v := iI 0) hx hb hret (fun t ht hW => ⟨⟨some (.int (iI 0)), ad, (up w 200 (oB 6 [.int (iI 3), .int (iI (sc 0)), .ref (ad 201), .ref (ad 202), .ref (ad 203), .ref (ad 204), .int (iI (sc 1)), .ref (ad 205), .ref (ad 206), .ref (ad 207), .ref (ad 208), .ref (ad 209), .int (iI (sc 2)), .int (iI (sc 3)), .int (iI (sc 4)), .ref (ad 210), .int (iI fr), .ref (ad 211), .ref (ad 212)])), rfl, ⟨3, sc, fn, ⟨fr, G1, G2, us, ut, ub, S, F, ⟨(up_s _ _ _), (up_n (by decide) k1), (up_n (by decide) k2), (up_n (by decide) k3), (up_n (by decide) k4), (up_n (by decide) k5), (up_n (by decide) k6), (up_n (by decide) k7), (up_n (by decide) k8), (up_n (by decide) k9), (up_n (by decide) k10), (up_n (by decide) k11), (up_n (by decide) k12)⟩, hG1, hG2, hus, hut, hub, hS9, hF, hmc, hmu, hmt, hrk⟩, hI, ⟨rfl, fun r hr => ⟨(up_n (by omega) rfl), rfl⟩⟩, Or.inr (Or.inr (Or.inr (⟨rfl, rfl, rfl, rfl, by omega⟩)))⟩, by rw [ht]; exact hP, hD⟩, hS.F ht⟩) hS.2.2 dX6_stageBy_35
    · skip
      exfalso
      omega
  · skip
    subst e9_
    refine lv_aload_n (pc := 18) hx hb dX6_stageBy_18 rfl (lv_at hl 0 rfl) ?_
    refine k_get (pc := 19) (ci := 6) (C := RX6) (T := TX6) (N := 19) hx hb hts hi6 hown hK hP 200 (up_s _ _ _) rfl 0 (by decide) hf55 (fun _ h9 => h9) rfl dX6_stageBy_19 ?_
    refine k_if_ne (pc := 22) (tgt := 34) hx hb ⟨by omega, by omega⟩ dX6_stageBy_22 (by decide) (fun hc_22 => ?_) (fun hc_22 => ?_)
    · skip
      exfalso
      omega
    · skip
      refine lv_aload_n (pc := 25) hx hb dX6_stageBy_25 rfl (lv_at hl 0 rfl) ?_
      refine lv_iload_n (pc := 26) hx hb dX6_stageBy_26 rfl (lv_at hl 1 rfl) ?_
      refine lv_iload_n (pc := 27) hx hb dX6_stageBy_27 rfl (lv_at hl 2 rfl) ?_
      refine k_call0 (pc := 28) (va_runV (As := [.int (iI ci), .int (iI q)]) (rest := []) ⟨hx, hb, hml, hown, hts⟩ (c_X6_stageFor l D cA ad (up w 200 (oB 6 [.int (iI 0), .int (iI (sc 0)), .ref (ad 201), .ref (ad 202), .ref (ad 203), .ref (ad 204), .int (iI (sc 1)), .ref (ad 205), .ref (ad 206), .ref (ad 207), .ref (ad 208), .ref (ad 209), .int (iI (sc 2)), .int (iI (sc 3)), .int (iI (sc 4)), .ref (ad 210), .int (iI fr), .ref (ad 211), .ref (ad 212)])) sc fn 0 fr G1 G2 hI (up_s _ _ _) (up_n (by decide) k2) (up_n (by decide) k3) (up_n (by decide) k4) hG1 hG2 hmc ci q (by omega) (by omega) (by omega)) (cwV 2 hts gX6_stageBy_X6_stageFor rfl rfl rfl (by decide +kernel) ⟨Nat.le_of_ble_eq_true rfl, Nat.le_of_ble_eq_true rfl⟩) (gR_V hP hK hB 200 (ci := 6) rfl (up_s _ _ _)) rfl rfl hl.1 rfl (lv_room (Nat.le_of_ble_eq_true rfl)) dX6_stageBy_28 ⟨Nat.le_of_ble_eq_true rfl, Nat.le_of_ble_eq_true rfl⟩) (fun v_28 hv_28 => ?_)
      obtain ⟨z_28, rfl, hz_28, hs_28⟩ := hv_28
      refine W.eq (g2 := F0 m 31 ls [.int (iI z_28)]) rfl ?_
      refine lv_goto (pc := 31) (tgt := 35) hx hb dX6_stageBy_31 (by decide) ?_
      have he_35 : z_28 = stageF (fn (20 + ci.toNat)) (fn (30 + ci.toNat)) (fn 9 ci) q := by omega
      rw [he_35]
      rw [hQ9]
      exact W.iret (v := iI (stageF (fn (20 + ci.toNat)) (fn (30 + ci.toNat)) (fn 9 ci) q)) hx hb hret (fun t ht hW => ⟨⟨some (.int (iI (stageF (fn (20 + ci.toNat)) (fn (30 + ci.toNat)) (fn 9 ci) q))), ad, (up w 200 (oB 6 [.int (iI 0), .int (iI (sc 0)), .ref (ad 201), .ref (ad 202), .ref (ad 203), .ref (ad 204), .int (iI (sc 1)), .ref (ad 205), .ref (ad 206), .ref (ad 207), .ref (ad 208), .ref (ad 209), .int (iI (sc 2)), .int (iI (sc 3)), .int (iI (sc 4)), .ref (ad 210), .int (iI fr), .ref (ad 211), .ref (ad 212)])), rfl, ⟨0, sc, fn, ⟨fr, G1, G2, us, ut, ub, S, F, ⟨(up_s _ _ _), (up_n (by decide) k1), (up_n (by decide) k2), (up_n (by decide) k3), (up_n (by decide) k4), (up_n (by decide) k5), (up_n (by decide) k6), (up_n (by decide) k7), (up_n (by decide) k8), (up_n (by decide) k9), (up_n (by decide) k10), (up_n (by decide) k11), (up_n (by decide) k12)⟩, hG1, hG2, hus, hut, hub, hS9, hF, hmc, hmu, hmt, hrk⟩, hI, ⟨rfl, fun r hr => ⟨(up_n (by omega) rfl), rfl⟩⟩, Or.inl (⟨rfl, ⟨rfl, rfl, by omega, by omega, by omega, by omega, by omega, rfl⟩⟩)⟩, by rw [ht]; exact hP, hD⟩, hS.F ht⟩) hS.2.2 dX6_stageBy_35

abbrev rmX6_counted : Room := { frames := 0, cells := 0, slots := 0, locals := 0 }
theorem hiX6_counted_6 : ∀ w ∈ wsX60, w ∈ wsX6_counted := by decide +kernel
set_option maxHeartbeats 4000000 in
set_option maxRecDepth 100000 in
theorem c_X6_counted (l : Launch) (D : va_G) (cA : Nat → ClassId) (ad : Nat → Nat) (w : Nat → Option va_E) (sc : Nat → Int) (fn : Nat → Int → Int) (th fr : Int) (hI : bkInv sc fn) (k0 : w 200 = some (oB 6 [.int (iI th), .int (iI (sc 0)), .ref (ad 201), .ref (ad 202), .ref (ad 203), .ref (ad 204), .int (iI (sc 1)), .ref (ad 205), .ref (ad 206), .ref (ad 207), .ref (ad 208), .ref (ad 209), .int (iI (sc 2)), .int (iI (sc 3)), .int (iI (sc 4)), .ref (ad 210), .int (iI fr), .ref (ad 211), .ref (ad 212)])) (k7 : w 207 = some (eI (cA 1) 400 (fn 3))) (k9 : w 209 = some (eI (cA 1) 400 (fn 4))) (wh : Int) (hwh : 0 ≤ wh ∧ wh ≤ 4) : Met l yX6_counted wsX6_counted rmX6_counted (gR D cA ad w [.ref (ad 200), .int (iI wh)]) (gR0 (fun v9 => ∃ z : Int, v9 = some (.int (iI z)) ∧ z = cntV sc fn wh)) 0 0 (fun _ => False) := by
  refine Met.ofW (cc := cX6_counted) (maxL := 4) (ret := (some .int)) (by decide) rfl ?_
  intro p e s m args below meth c s₁ B hml hv
  obtain ⟨hav, hP, hK, hB⟩ := hv
  have hx := B.exec
  have hb := B.bytes
  have hret := B.returns
  have hts := atoms_spec (ws := wsX6_counted) B.pre
  have hown : s.vm.findClass RX6 = some m.cls := findClass_of_methodNamed B.named
  have hlocks := B.notSynchronized
  have hS : va_S (fun _ => False) s.heap s.heap [] := va_S.rf
  have hi6 := hiX6_counted_6
  have hf29 := hts (.fieldLink RX6 29 "GaugeBookModel" "hasStage" "[Z") (by decide +kernel)
  have hf35 := hts (.fieldLink RX6 35 "GaugeBookModel" "isIce" "[Z") (by decide +kernel)
  have hf64 := hts (.fieldLink RX6 64 "GaugeBookModel" "curves" "I") (by decide +kernel)
  have hf116 := hts (.fieldLink RX6 116 "GaugeBookModel" "shifts" "I") (by decide +kernel)
  have hf156 := hts (.fieldLink RX6 156 "GaugeBookModel" "measured" "I") (by decide +kernel)
  have he9 : entryFrame m args 4 = F0 m 0 ((lg_sl ([.ref (ad 200), .int (iI wh)] : List Value) ++ List.replicate (4 - (lg_sl ([.ref (ad 200), .int (iI wh)] : List Value)).length) Slot.unset).toArray) [] := by rw [hav, lg_entry_eq]
  rw [he9]
  have hl := lv_entry ([.ref (ad 200), .int (iI wh)] : List Value) (n := 4) (Nat.le_of_ble_eq_true rfl)
  generalize (lg_sl ([.ref (ad 200), .int (iI wh)] : List Value) ++ List.replicate (4 - (lg_sl ([.ref (ad 200), .int (iI wh)] : List Value)).length) Slot.unset).toArray = ls at hl ⊢
  have hl : lv_has ls 4 [(0, .ref (ad 200)), (1, .int (iI wh))] := hl
  obtain ⟨Q9, hQ9⟩ : ∃ z, z = MQ below (gR0 (fun v9 => ∃ z : Int, v9 = some (.int (iI z)) ∧ z = cntV sc fn wh)) args s 0 0 (fun _ => False) := ⟨_, rfl⟩
  rw [← hQ9]
  show W p l e rmX6_counted s m args below meth c s.heap [] 0 0 Q9 (F0 m 0 ls [])
  have hI1 := hI.1
  refine k_iconst (pc := 0) hx hb dX6_counted_0 ?_
  refine lv_istore_n (pc := 1) (lv' := [(2, .int (iI 0)), (0, .ref (ad 200)), (1, .int (iI wh))]) hx hb dX6_counted_1 rfl hl (by decide) rfl (fun ls hl => ?_)
  refine k_iconst (pc := 2) hx hb dX6_counted_2 ?_
  refine lv_istore_n (pc := 3) (lv' := [(3, .int (iI 0)), (2, .int (iI 0)), (0, .ref (ad 200)), (1, .int (iI wh))]) hx hb dX6_counted_3 rfl hl (by decide) rfl (fun ls hl => ?_)
  have lp_4 : ∀ (N9 : Nat) (i : Int) (x : Int), (0 ≤ i ∧ i ≤ 400) → ((wh = 2 → x = cntT (fn 3) 0 i.toNat) ∧ (wh = 3 → x = cntT (fn 4) 0 i.toNat)) → (400 - i).toNat < N9 → ∀ (ls : Array Slot), lv_has ls 4 [(3, .int (iI i)), (2, .int (iI x)), (0, .ref (ad 200)), (1, .int (iI wh))] → W p l e rmX6_counted s m args below meth c s.heap [] 0 0 Q9 (F0 m 4 ls []) := by
    intro N9
    induction N9 with
    | zero => intro i x i0 iX hmu; exact absurd hmu (Nat.not_lt_zero _)
    | succ N9 ih_4 =>
      intro i x i0 iX hmu_4 ls hl
      refine lv_iload_n (pc := 4) hx hb dX6_counted_4 rfl (lv_at hl 0 rfl) ?_
      refine k_sipush (pc := 5) hx hb dX6_counted_5 (by decide +kernel) ?_
      refine k_icmp_ge (pc := 8) (tgt := 53) hx hb ⟨by omega, by omega⟩ ⟨by omega, by omega⟩ dX6_counted_8 (by decide) (fun hc_8 => ?_) (fun hc_8 => ?_)
      · skip
        have hi4_ : i = 400 := by omega
        rw [hi4_] at iX
        refine lv_iload_n (pc := 53) hx hb dX6_counted_53 rfl (lv_at hl 3 rfl) ?_
        refine k_if_ne (pc := 54) (tgt := 64) hx hb ⟨by omega, by omega⟩ dX6_counted_54 (by decide) (fun hc_54 => ?_) (fun hc_54 => ?_)
        · skip
          refine lv_iload_n (pc := 64) hx hb dX6_counted_64 rfl (lv_at hl 3 rfl) ?_
          refine k_iconst (pc := 65) hx hb dX6_counted_65 ?_
          refine k_icmp_ne (pc := 66) (tgt := 76) hx hb ⟨by omega, by omega⟩ ⟨by omega, by omega⟩ dX6_counted_66 (by decide) (fun hc_66 => ?_) (fun hc_66 => ?_)
          · skip
            refine lv_iload_n (pc := 76) hx hb dX6_counted_76 rfl (lv_at hl 3 rfl) ?_
            refine k_iconst (pc := 77) hx hb dX6_counted_77 ?_
            refine k_icmp_ne (pc := 78) (tgt := 88) hx hb ⟨by omega, by omega⟩ ⟨by omega, by omega⟩ dX6_counted_78 (by decide) (fun hc_78 => ?_) (fun hc_78 => ?_)
            · skip
              refine lv_iload_n (pc := 88) hx hb dX6_counted_88 rfl (lv_at hl 1 rfl) ?_
              rw [hQ9]
              exact W.iret (v := iI x) hx hb hret (fun t ht hW => ⟨some (.int (iI x)), rfl, ⟨x, rfl, (by unfold cntV; rw [if_neg (by omega), if_neg (by omega)]; by_cases e9 : wh = 2; (rw [if_pos e9]; exact iX.1 e9); (rw [if_neg e9, if_pos (by omega)]; exact iX.2 (by omega)))⟩, ht⟩) (fun q hq => by cases hq) dX6_counted_89
            · skip
              refine lv_aload_n (pc := 81) hx hb dX6_counted_81 rfl (lv_at hl 2 rfl) ?_
              refine k_get (pc := 82) (ci := 6) (C := RX6) (T := TX6) (N := 19) hx hb hts hi6 hown hK hP 200 k0 rfl 14 (by decide) hf156 (fun _ h9 => h9) rfl dX6_counted_82 ?_
              refine lv_goto (pc := 85) (tgt := 89) hx hb dX6_counted_85 (by decide) ?_
              rw [hQ9]
              exact W.iret (v := iI (sc 4)) hx hb hret (fun t ht hW => ⟨some (.int (iI (sc 4))), rfl, ⟨sc 4, rfl, (by unfold cntV; repeat (first | rw [if_pos (by omega)] | rw [if_neg (by omega)]))⟩, ht⟩) (fun q hq => by cases hq) dX6_counted_89
          · skip
            refine lv_aload_n (pc := 69) hx hb dX6_counted_69 rfl (lv_at hl 2 rfl) ?_
            refine k_get (pc := 70) (ci := 6) (C := RX6) (T := TX6) (N := 19) hx hb hts hi6 hown hK hP 200 k0 rfl 6 (by decide) hf116 (fun _ h9 => h9) rfl dX6_counted_70 ?_
            refine lv_goto (pc := 73) (tgt := 89) hx hb dX6_counted_73 (by decide) ?_
            rw [hQ9]
            exact W.iret (v := iI (sc 1)) hx hb hret (fun t ht hW => ⟨some (.int (iI (sc 1))), rfl, ⟨sc 1, rfl, (by unfold cntV; repeat (first | rw [if_pos (by omega)] | rw [if_neg (by omega)]))⟩, ht⟩) (fun q hq => by cases hq) dX6_counted_89
        · skip
          refine lv_aload_n (pc := 57) hx hb dX6_counted_57 rfl (lv_at hl 2 rfl) ?_
          refine k_get (pc := 58) (ci := 6) (C := RX6) (T := TX6) (N := 19) hx hb hts hi6 hown hK hP 200 k0 rfl 1 (by decide) hf64 (fun _ h9 => h9) rfl dX6_counted_58 ?_
          refine lv_goto (pc := 61) (tgt := 89) hx hb dX6_counted_61 (by decide) ?_
          rw [hQ9]
          exact W.iret (v := iI (sc 0)) hx hb hret (fun t ht hW => ⟨some (.int (iI (sc 0))), rfl, ⟨sc 0, rfl, (by unfold cntV; repeat (first | rw [if_pos (by omega)] | rw [if_neg (by omega)]))⟩, ht⟩) (fun q hq => by cases hq) dX6_counted_89
      · skip
        refine lv_iload_n (pc := 11) hx hb dX6_counted_11 rfl (lv_at hl 1 rfl) ?_
        refine lv_iload_n (pc := 12) hx hb dX6_counted_12 rfl (lv_at hl 3 rfl) ?_
        refine k_iconst (pc := 13) hx hb dX6_counted_13 ?_
        refine k_icmp_ne (pc := 14) (tgt := 26) hx hb ⟨by omega, by omega⟩ ⟨by omega, by omega⟩ dX6_counted_14 (by decide) (fun hc_14 => ?_) (fun hc_14 => ?_)
        · skip
          refine lv_iload_n (pc := 26) hx hb dX6_counted_26 rfl (lv_at hl 3 rfl) ?_
          refine k_iconst (pc := 27) hx hb dX6_counted_27 ?_
          refine k_icmp_ne (pc := 28) (tgt := 44) hx hb ⟨by omega, by omega⟩ ⟨by omega, by omega⟩ dX6_counted_28 (by decide) (fun hc_28 => ?_) (fun hc_28 => ?_)
          · skip
            refine k_iconst (pc := 44) hx hb dX6_counted_44 ?_
            refine k_iadd (pc := 45) hx hb dX6_counted_45 ?_
            refine lv_istore_n (pc := 46) (lv' := [(2, .int (iI (x + 0))), (3, .int (iI i)), (0, .ref (ad 200)), (1, .int (iI wh))]) hx hb dX6_counted_46 rfl hl (by decide) rfl (fun ls hl => ?_)
            refine lv_iinc (pc := 47) (v := iI (i + 1)) (lv' := [(3, .int (iI (i + 1))), (2, .int (iI (x + 0))), (0, .ref (ad 200)), (1, .int (iI wh))]) hx hb dX6_counted_47 hl (k := 1) rfl (iI_add _ _) (by decide) rfl (fun ls hl => ?_)
            refine lv_goto (pc := 50) (tgt := 4) hx hb dX6_counted_50 (by decide) ?_
            have c3_ := cntT_s (fn 3) (fr := 0) (d := i) (by omega)
            have c4_ := cntT_s (fn 4) (fr := 0) (d := i) (by omega)
            rw [Int.sub_zero, Int.sub_zero] at c3_ c4_
            exact ih_4 (i + 1) (x + 0) (by omega) ⟨fun e9 => by rw [c3_]; have x9 := iX.1 e9; first | (rw [if_pos (by omega)]; omega) | (rw [if_neg (by omega)]; omega), fun e9 => by rw [c4_]; have x9 := iX.2 e9; first | (rw [if_pos (by omega)]; omega) | (rw [if_neg (by omega)]; omega)⟩ (by omega) ls (lv_sub hl [0, 1, 2, 3] rfl)
          · skip
            refine lv_aload_n (pc := 31) hx hb dX6_counted_31 rfl (lv_at hl 2 rfl) ?_
            refine k_get (pc := 32) (ci := 6) (C := RX6) (T := TX6) (N := 19) hx hb hts hi6 hown hK hP 200 k0 rfl 11 (by decide) hf35 (fun _ h9 => h9) rfl dX6_counted_32 ?_
            refine lv_iload_n (pc := 35) hx hb dX6_counted_35 rfl (lv_at hl 0 rfl) ?_
            refine k_zald (pc := 36) hx hb hK hP 209 1 k9 rfl (by omega) (by omega) (by omega) dX6_counted_36 ?_
            have hq_36 := hI.2.2.2.2.1 i
            refine k_if_eq (pc := 37) (tgt := 44) hx hb ⟨by omega, by omega⟩ dX6_counted_37 (by decide) (fun hc_37 => ?_) (fun hc_37 => ?_)
            · skip
              refine k_iconst (pc := 44) hx hb dX6_counted_44 ?_
              refine k_iadd (pc := 45) hx hb dX6_counted_45 ?_
              refine lv_istore_n (pc := 46) (lv' := [(2, .int (iI (x + 0))), (3, .int (iI i)), (0, .ref (ad 200)), (1, .int (iI wh))]) hx hb dX6_counted_46 rfl hl (by decide) rfl (fun ls hl => ?_)
              refine lv_iinc (pc := 47) (v := iI (i + 1)) (lv' := [(3, .int (iI (i + 1))), (2, .int (iI (x + 0))), (0, .ref (ad 200)), (1, .int (iI wh))]) hx hb dX6_counted_47 hl (k := 1) rfl (iI_add _ _) (by decide) rfl (fun ls hl => ?_)
              refine lv_goto (pc := 50) (tgt := 4) hx hb dX6_counted_50 (by decide) ?_
              have c3_ := cntT_s (fn 3) (fr := 0) (d := i) (by omega)
              have c4_ := cntT_s (fn 4) (fr := 0) (d := i) (by omega)
              rw [Int.sub_zero, Int.sub_zero] at c3_ c4_
              exact ih_4 (i + 1) (x + 0) (by omega) ⟨fun e9 => by rw [c3_]; have x9 := iX.1 e9; first | (rw [if_pos (by omega)]; omega) | (rw [if_neg (by omega)]; omega), fun e9 => by rw [c4_]; have x9 := iX.2 e9; first | (rw [if_pos (by omega)]; omega) | (rw [if_neg (by omega)]; omega)⟩ (by omega) ls (lv_sub hl [0, 1, 2, 3] rfl)
            · skip
              refine k_iconst (pc := 40) hx hb dX6_counted_40 ?_
              refine lv_goto (pc := 41) (tgt := 45) hx hb dX6_counted_41 (by decide) ?_
              refine k_iadd (pc := 45) hx hb dX6_counted_45 ?_
              refine lv_istore_n (pc := 46) (lv' := [(2, .int (iI (x + 1))), (3, .int (iI i)), (0, .ref (ad 200)), (1, .int (iI wh))]) hx hb dX6_counted_46 rfl hl (by decide) rfl (fun ls hl => ?_)
              refine lv_iinc (pc := 47) (v := iI (i + 1)) (lv' := [(3, .int (iI (i + 1))), (2, .int (iI (x + 1))), (0, .ref (ad 200)), (1, .int (iI wh))]) hx hb dX6_counted_47 hl (k := 1) rfl (iI_add _ _) (by decide) rfl (fun ls hl => ?_)
              refine lv_goto (pc := 50) (tgt := 4) hx hb dX6_counted_50 (by decide) ?_
              have c3_ := cntT_s (fn 3) (fr := 0) (d := i) (by omega)
              have c4_ := cntT_s (fn 4) (fr := 0) (d := i) (by omega)
              rw [Int.sub_zero, Int.sub_zero] at c3_ c4_
              exact ih_4 (i + 1) (x + 1) (by omega) ⟨fun e9 => by rw [c3_]; have x9 := iX.1 e9; first | (rw [if_pos (by omega)]; omega) | (rw [if_neg (by omega)]; omega), fun e9 => by rw [c4_]; have x9 := iX.2 e9; first | (rw [if_pos (by omega)]; omega) | (rw [if_neg (by omega)]; omega)⟩ (by omega) ls (lv_sub hl [0, 1, 2, 3] rfl)
        · skip
          refine lv_aload_n (pc := 17) hx hb dX6_counted_17 rfl (lv_at hl 2 rfl) ?_
          refine k_get (pc := 18) (ci := 6) (C := RX6) (T := TX6) (N := 19) hx hb hts hi6 hown hK hP 200 k0 rfl 9 (by decide) hf29 (fun _ h9 => h9) rfl dX6_counted_18 ?_
          refine lv_iload_n (pc := 21) hx hb dX6_counted_21 rfl (lv_at hl 0 rfl) ?_
          refine k_zald (pc := 22) hx hb hK hP 207 1 k7 rfl (by omega) (by omega) (by omega) dX6_counted_22 ?_
          have hq_22 := hI.2.2.2.1 i
          refine k_if_ne (pc := 23) (tgt := 40) hx hb ⟨by omega, by omega⟩ dX6_counted_23 (by decide) (fun hc_23 => ?_) (fun hc_23 => ?_)
          · skip
            refine k_iconst (pc := 40) hx hb dX6_counted_40 ?_
            refine lv_goto (pc := 41) (tgt := 45) hx hb dX6_counted_41 (by decide) ?_
            refine k_iadd (pc := 45) hx hb dX6_counted_45 ?_
            refine lv_istore_n (pc := 46) (lv' := [(2, .int (iI (x + 1))), (3, .int (iI i)), (0, .ref (ad 200)), (1, .int (iI wh))]) hx hb dX6_counted_46 rfl hl (by decide) rfl (fun ls hl => ?_)
            refine lv_iinc (pc := 47) (v := iI (i + 1)) (lv' := [(3, .int (iI (i + 1))), (2, .int (iI (x + 1))), (0, .ref (ad 200)), (1, .int (iI wh))]) hx hb dX6_counted_47 hl (k := 1) rfl (iI_add _ _) (by decide) rfl (fun ls hl => ?_)
            refine lv_goto (pc := 50) (tgt := 4) hx hb dX6_counted_50 (by decide) ?_
            have c3_ := cntT_s (fn 3) (fr := 0) (d := i) (by omega)
            have c4_ := cntT_s (fn 4) (fr := 0) (d := i) (by omega)
            rw [Int.sub_zero, Int.sub_zero] at c3_ c4_
            exact ih_4 (i + 1) (x + 1) (by omega) ⟨fun e9 => by rw [c3_]; have x9 := iX.1 e9; first | (rw [if_pos (by omega)]; omega) | (rw [if_neg (by omega)]; omega), fun e9 => by rw [c4_]; have x9 := iX.2 e9; first | (rw [if_pos (by omega)]; omega) | (rw [if_neg (by omega)]; omega)⟩ (by omega) ls (lv_sub hl [0, 1, 2, 3] rfl)
          · skip
            refine lv_iload_n (pc := 26) hx hb dX6_counted_26 rfl (lv_at hl 3 rfl) ?_
            refine k_iconst (pc := 27) hx hb dX6_counted_27 ?_
            refine k_icmp_ne (pc := 28) (tgt := 44) hx hb ⟨by omega, by omega⟩ ⟨by omega, by omega⟩ dX6_counted_28 (by decide) (fun hc_28 => ?_) (fun hc_28 => ?_)
            · skip
              refine k_iconst (pc := 44) hx hb dX6_counted_44 ?_
              refine k_iadd (pc := 45) hx hb dX6_counted_45 ?_
              refine lv_istore_n (pc := 46) (lv' := [(2, .int (iI (x + 0))), (3, .int (iI i)), (0, .ref (ad 200)), (1, .int (iI wh))]) hx hb dX6_counted_46 rfl hl (by decide) rfl (fun ls hl => ?_)
              refine lv_iinc (pc := 47) (v := iI (i + 1)) (lv' := [(3, .int (iI (i + 1))), (2, .int (iI (x + 0))), (0, .ref (ad 200)), (1, .int (iI wh))]) hx hb dX6_counted_47 hl (k := 1) rfl (iI_add _ _) (by decide) rfl (fun ls hl => ?_)
              refine lv_goto (pc := 50) (tgt := 4) hx hb dX6_counted_50 (by decide) ?_
              have c3_ := cntT_s (fn 3) (fr := 0) (d := i) (by omega)
              have c4_ := cntT_s (fn 4) (fr := 0) (d := i) (by omega)
              rw [Int.sub_zero, Int.sub_zero] at c3_ c4_
              exact ih_4 (i + 1) (x + 0) (by omega) ⟨fun e9 => by rw [c3_]; have x9 := iX.1 e9; first | (rw [if_pos (by omega)]; omega) | (rw [if_neg (by omega)]; omega), fun e9 => by rw [c4_]; have x9 := iX.2 e9; first | (rw [if_pos (by omega)]; omega) | (rw [if_neg (by omega)]; omega)⟩ (by omega) ls (lv_sub hl [0, 1, 2, 3] rfl)
            · skip
              refine lv_aload_n (pc := 31) hx hb dX6_counted_31 rfl (lv_at hl 2 rfl) ?_
              refine k_get (pc := 32) (ci := 6) (C := RX6) (T := TX6) (N := 19) hx hb hts hi6 hown hK hP 200 k0 rfl 11 (by decide) hf35 (fun _ h9 => h9) rfl dX6_counted_32 ?_
              refine lv_iload_n (pc := 35) hx hb dX6_counted_35 rfl (lv_at hl 0 rfl) ?_
              refine k_zald (pc := 36) hx hb hK hP 209 1 k9 rfl (by omega) (by omega) (by omega) dX6_counted_36 ?_
              have hq_36 := hI.2.2.2.2.1 i
              refine k_if_eq (pc := 37) (tgt := 44) hx hb ⟨by omega, by omega⟩ dX6_counted_37 (by decide) (fun hc_37 => ?_) (fun hc_37 => ?_)
              · skip
                refine k_iconst (pc := 44) hx hb dX6_counted_44 ?_
                refine k_iadd (pc := 45) hx hb dX6_counted_45 ?_
                refine lv_istore_n (pc := 46) (lv' := [(2, .int (iI (x + 0))), (3, .int (iI i)), (0, .ref (ad 200)), (1, .int (iI wh))]) hx hb dX6_counted_46 rfl hl (by decide) rfl (fun ls hl => ?_)
                refine lv_iinc (pc := 47) (v := iI (i + 1)) (lv' := [(3, .int (iI (i + 1))), (2, .int (iI (x + 0))), (0, .ref (ad 200)), (1, .int (iI wh))]) hx hb dX6_counted_47 hl (k := 1) rfl (iI_add _ _) (by decide) rfl (fun ls hl => ?_)
                refine lv_goto (pc := 50) (tgt := 4) hx hb dX6_counted_50 (by decide) ?_
                have c3_ := cntT_s (fn 3) (fr := 0) (d := i) (by omega)
                have c4_ := cntT_s (fn 4) (fr := 0) (d := i) (by omega)
                rw [Int.sub_zero, Int.sub_zero] at c3_ c4_
                exact ih_4 (i + 1) (x + 0) (by omega) ⟨fun e9 => by rw [c3_]; have x9 := iX.1 e9; first | (rw [if_pos (by omega)]; omega) | (rw [if_neg (by omega)]; omega), fun e9 => by rw [c4_]; have x9 := iX.2 e9; first | (rw [if_pos (by omega)]; omega) | (rw [if_neg (by omega)]; omega)⟩ (by omega) ls (lv_sub hl [0, 1, 2, 3] rfl)
              · skip
                refine k_iconst (pc := 40) hx hb dX6_counted_40 ?_
                refine lv_goto (pc := 41) (tgt := 45) hx hb dX6_counted_41 (by decide) ?_
                refine k_iadd (pc := 45) hx hb dX6_counted_45 ?_
                refine lv_istore_n (pc := 46) (lv' := [(2, .int (iI (x + 1))), (3, .int (iI i)), (0, .ref (ad 200)), (1, .int (iI wh))]) hx hb dX6_counted_46 rfl hl (by decide) rfl (fun ls hl => ?_)
                refine lv_iinc (pc := 47) (v := iI (i + 1)) (lv' := [(3, .int (iI (i + 1))), (2, .int (iI (x + 1))), (0, .ref (ad 200)), (1, .int (iI wh))]) hx hb dX6_counted_47 hl (k := 1) rfl (iI_add _ _) (by decide) rfl (fun ls hl => ?_)
                refine lv_goto (pc := 50) (tgt := 4) hx hb dX6_counted_50 (by decide) ?_
                have c3_ := cntT_s (fn 3) (fr := 0) (d := i) (by omega)
                have c4_ := cntT_s (fn 4) (fr := 0) (d := i) (by omega)
                rw [Int.sub_zero, Int.sub_zero] at c3_ c4_
                exact ih_4 (i + 1) (x + 1) (by omega) ⟨fun e9 => by rw [c3_]; have x9 := iX.1 e9; first | (rw [if_pos (by omega)]; omega) | (rw [if_neg (by omega)]; omega), fun e9 => by rw [c4_]; have x9 := iX.2 e9; first | (rw [if_pos (by omega)]; omega) | (rw [if_neg (by omega)]; omega)⟩ (by omega) ls (lv_sub hl [0, 1, 2, 3] rfl)
  exact lp_4 _ 0 0 (by omega) ⟨fun _ => rfl, fun _ => rfl⟩ (Nat.lt_succ_self _) ls (lv_sub hl [0, 1, 2, 3] rfl)

abbrev rmX6_count : Room := { frames := 1, cells := 0, slots := 0, locals := 25 }
theorem hiX6_count_6 : ∀ w ∈ wsX60, w ∈ wsX6_count := by decide +kernel
set_option maxHeartbeats 4000000 in
set_option maxRecDepth 100000 in
theorem c_X6_count (l : Launch) (D : va_G) (cA : Nat → ClassId) (ad : Nat → Nat) (w : Nat → Option va_E) (sz : Nat) (th : Int) (sc : Nat → Int) (fn : Nat → Int → Int) (hI : bkInv sc fn) (hmd : mdS cA ad w th sc fn) (wh : Int) (hwh : (-2147483648 ≤ wh ∧ wh < 2147483648)) : Met l yX6_count wsX6_count rmX6_count (gV D cA ad w sz [.ref (ad 200), .int (iI wh)]) (gW D (fun v9 ad1 w1 => ∃ (th2 : Int) (sc2 : Nat → Int) (fn2 : Nat → Int → Int), mdS cA ad1 w1 th2 sc2 fn2 ∧ bkInv sc2 fn2 ∧ keepM ad ad1 w w1 ∧ ((th2 = 0 ∧ (sc2 = sc ∧ fn2 = fn ∧ 0 ≤ wh ∧ wh ≤ 4 ∧ v9 = some (.int (iI (cntV sc fn wh))))) ∨ (th2 = 1 ∧ v9 = some (.int (iI 0)) ∧ sc2 = sc ∧ fn2 = fn ∧ (¬ (0 ≤ wh ∧ wh ≤ 4))))) (gA ad w sz)) 0 0 (gA ad w sz) := by
  refine Met.ofW (cc := cX6_count) (maxL := 2) (ret := (some .int)) (by decide) rfl ?_
  intro p e s m args below meth c s₁ B hml hv
  obtain ⟨hav, hsz, hP, hD0, hK, hB, hZ⟩ := hv
  have hx := B.exec
  have hb := B.bytes
  have hret := B.returns
  have hts := atoms_spec (ws := wsX6_count) B.pre
  have hown : s.vm.findClass RX6 = some m.cls := findClass_of_methodNamed B.named
  have hlocks := B.notSynchronized
  subst hsz
  have hD := hD0.self (sz := s.heap.size)
  generalize hAe : gA ad w s.heap.size = A at hD hZ ⊢
  have hA : ∀ q : Nat, s.heap.size ≤ q → A q := fun q h => by rw [← hAe]; exact Or.inr h
  have hS : va_S A s.heap s.heap [] := va_S.rf
  have hi6 := hiX6_count_6
  have hf55 := hts (.fieldLink RX6 55 "GaugeBookModel" "thrown" "I") (by decide +kernel)
  have he9 : entryFrame m args 2 = F0 m 0 ((lg_sl ([.ref (ad 200), .int (iI wh)] : List Value) ++ List.replicate (2 - (lg_sl ([.ref (ad 200), .int (iI wh)] : List Value)).length) Slot.unset).toArray) [] := by rw [hav, lg_entry_eq]
  rw [he9]
  have hl := lv_entry ([.ref (ad 200), .int (iI wh)] : List Value) (n := 2) (Nat.le_of_ble_eq_true rfl)
  generalize (lg_sl ([.ref (ad 200), .int (iI wh)] : List Value) ++ List.replicate (2 - (lg_sl ([.ref (ad 200), .int (iI wh)] : List Value)).length) Slot.unset).toArray = ls at hl ⊢
  have hl : lv_has ls 2 [(0, .ref (ad 200)), (1, .int (iI wh))] := hl
  obtain ⟨Q9, hQ9⟩ : ∃ z, z = MQ below (gW D (fun v9 ad1 w1 => ∃ (th2 : Int) (sc2 : Nat → Int) (fn2 : Nat → Int → Int), mdS cA ad1 w1 th2 sc2 fn2 ∧ bkInv sc2 fn2 ∧ keepM ad ad1 w w1 ∧ ((th2 = 0 ∧ (sc2 = sc ∧ fn2 = fn ∧ 0 ≤ wh ∧ wh ≤ 4 ∧ v9 = some (.int (iI (cntV sc fn wh))))) ∨ (th2 = 1 ∧ v9 = some (.int (iI 0)) ∧ sc2 = sc ∧ fn2 = fn ∧ (¬ (0 ≤ wh ∧ wh ≤ 4))))) A) args s 0 0 A := ⟨_, rfl⟩
  rw [← hQ9]
  show W p l e rmX6_count s m args below meth c s.heap [] 0 0 Q9 (F0 m 0 ls [])
  obtain ⟨H, hHe⟩ : ∃ z, z = s.heap := ⟨_, rfl⟩
  obtain ⟨locs, hLe⟩ : ∃ z, z = ([] : List Loc) := ⟨_, rfl⟩
  have hP : gP D vwCl ad w H := by rw [hHe]; exact hP
  have hS : va_S A s.heap H locs := by rw [hHe, hLe]; exact va_S.rf
  rw [show W p l e rmX6_count s m args below meth c s.heap [] 0 0 Q9 (F0 m 0 ls []) = W p l e rmX6_count s m args below meth c H locs 0 0 Q9 (F0 m 0 ls []) by rw [hHe, hLe]]
  clear hHe hLe
  obtain ⟨fr, G1, G2, us, ut, ub, S, F, ⟨k0, k1, k2, k3, k4, k5, k6, k7, k8, k9, k10, k11, k12⟩, hG1, hG2, hus, hut, hub, hS9, hF, hmc, hmu, hmt, hrk⟩ := hmd
  have hI1 := hI.1
  refine lv_aload_n (pc := 0) hx hb dX6_count_0 rfl (lv_at hl 0 rfl) ?_
  refine k_iconst (pc := 1) hx hb dX6_count_1 ?_
  refine k_put (pc := 2) (ci := 6) (C := RX6) (T := TX6) (N := 19) (ty := .int) (v := .int (iI 0)) (w1 := (up w 200 (oB 6 [.int (iI 0), .int (iI (sc 0)), .ref (ad 201), .ref (ad 202), .ref (ad 203), .ref (ad 204), .int (iI (sc 1)), .ref (ad 205), .ref (ad 206), .ref (ad 207), .ref (ad 208), .ref (ad 209), .int (iI (sc 2)), .int (iI (sc 3)), .int (iI (sc 4)), .ref (ad 210), .int (iI fr), .ref (ad 211), .ref (ad 212)]))) hx hb hts hi6 tyX6 tyX6_ok nmX6 hown hK hP hD hS 200 k0 rfl 0 (by decide) hf55 (fun _ h9 => h9) rfl (by decide +kernel) rfl rfl (Nat.le_of_ble_eq_true rfl) rfl dX6_count_2 (fun H locs hP hD hS => ?_)
  refine lv_iload_n (pc := 5) hx hb dX6_count_5 rfl (lv_at hl 1 rfl) ?_
  refine k_i2l (pc := 6) hx hb ⟨by omega, by omega⟩ dX6_count_6 ?_
  refine k_lconst0 (pc := 7) hx hb dX6_count_7 ?_
  refine k_ldc2 (z := 4) (pc := 8) hx hb hown (hts (.constantLong RX6 139 (4)) (by decide +kernel)) (by decide +kernel) dX6_count_8 ?_
  refine k_call0 (pc := 11) (va_runS (As := [.long (lI wh), .long (lI 0), .long (lI 4)]) (rest := []) ⟨hx, hb, hml, hown, hts⟩ (c_X6_isIn l D cA ad (up w 200 (oB 6 [.int (iI 0), .int (iI (sc 0)), .ref (ad 201), .ref (ad 202), .ref (ad 203), .ref (ad 204), .int (iI (sc 1)), .ref (ad 205), .ref (ad 206), .ref (ad 207), .ref (ad 208), .ref (ad 209), .int (iI (sc 2)), .int (iI (sc 3)), .int (iI (sc 4)), .ref (ad 210), .int (iI fr), .ref (ad 211), .ref (ad 212)])) wh 0 4 (by omega) (by omega) (by omega)) (va_cwS 3 hts gX6_count_X6_isIn rfl rfl rfl (by decide +kernel) ⟨Nat.le_of_ble_eq_true rfl, Nat.le_of_ble_eq_true rfl⟩) (gR_S hP hK hB) rfl rfl hl.1 rfl (lv_room (Nat.le_of_ble_eq_true rfl)) dX6_count_11 ⟨Nat.le_of_ble_eq_true rfl, Nat.le_of_ble_eq_true rfl⟩) (fun v_11 hv_11 => ?_)
  obtain ⟨z_11, rfl, hz_11⟩ := hv_11
  refine W.eq (g2 := F0 m 14 ls [.int (iI z_11)]) rfl ?_
  refine k_if_eq (pc := 14) (tgt := 25) hx hb ⟨by omega, by omega⟩ dX6_count_14 (by decide) (fun hc_14 => ?_) (fun hc_14 => ?_)
  · skip
    refine lv_aload_n (pc := 25) hx hb dX6_count_25 rfl (lv_at hl 0 rfl) ?_
    refine k_iconst (pc := 26) hx hb dX6_count_26 ?_
    refine k_call1 (pc := 27) (va_runV (As := [.int (iI 1)]) (rest := []) ⟨hx, hb, hml, hown, hts⟩ (c_X6_fail l D cA ad (up w 200 (oB 6 [.int (iI 0), .int (iI (sc 0)), .ref (ad 201), .ref (ad 202), .ref (ad 203), .ref (ad 204), .int (iI (sc 1)), .ref (ad 205), .ref (ad 206), .ref (ad 207), .ref (ad 208), .ref (ad 209), .int (iI (sc 2)), .int (iI (sc 3)), .int (iI (sc 4)), .ref (ad 210), .int (iI fr), .ref (ad 211), .ref (ad 212)])) H.size 0 (sc 0) (sc 1) (sc 2) (sc 3) (sc 4) fr (up_s _ _ _) 1) (cwV 1 hts gX6_count_X6_fail rfl rfl rfl (by decide +kernel) ⟨Nat.le_of_ble_eq_true rfl, Nat.le_of_ble_eq_true rfl⟩) (gV_V hP hD hK hB hS hA hZ 200 (ci := 6) rfl (up_s _ _ _)) rfl rfl hl.1 rfl (lv_room (Nat.le_of_ble_eq_true rfl)) dX6_count_27 ⟨Nat.le_of_ble_eq_true rfl, Nat.le_of_ble_eq_true rfl⟩) hS (gA_sub hD hS hA) (fun v_27 ad_27 w_27 H locs hv_27 hP hD hS => ?_)
    obtain ⟨hv1, hv2, hv3⟩ := hv_27
    subst hv1
    rw [hv2, hv3] at hP hD
    rw [show up ((up w 200 (oB 6 [.int (iI 0), .int (iI (sc 0)), .ref (ad 201), .ref (ad 202), .ref (ad 203), .ref (ad 204), .int (iI (sc 1)), .ref (ad 205), .ref (ad 206), .ref (ad 207), .ref (ad 208), .ref (ad 209), .int (iI (sc 2)), .int (iI (sc 3)), .int (iI (sc 4)), .ref (ad 210), .int (iI fr), .ref (ad 211), .ref (ad 212)]))) 200 (oB 6 [.int (iI 1), .int (iI (sc 0)), .ref (ad 201), .ref (ad 202), .ref (ad 203), .ref (ad 204), .int (iI (sc 1)), .ref (ad 205), .ref (ad 206), .ref (ad 207), .ref (ad 208), .ref (ad 209), .int (iI (sc 2)), .int (iI (sc 3)), .int (iI (sc 4)), .ref (ad 210), .int (iI fr), .ref (ad 211), .ref (ad 212)]) = _ from (up_up _ _ _ _)] at hP hD
    refine W.eq (g2 := F0 m 30 ls [.int (iI 0)]) rfl ?_
    refine W.cs (cells' := 0) (slots' := 0) rfl rfl ?_
    rw [hQ9]
    exact W.iret (v := iI 0) hx hb hret (fun t ht hW => ⟨⟨some (.int (iI 0)), ad, (up w 200 (oB 6 [.int (iI 1), .int (iI (sc 0)), .ref (ad 201), .ref (ad 202), .ref (ad 203), .ref (ad 204), .int (iI (sc 1)), .ref (ad 205), .ref (ad 206), .ref (ad 207), .ref (ad 208), .ref (ad 209), .int (iI (sc 2)), .int (iI (sc 3)), .int (iI (sc 4)), .ref (ad 210), .int (iI fr), .ref (ad 211), .ref (ad 212)])), rfl, ⟨1, sc, fn, ⟨fr, G1, G2, us, ut, ub, S, F, ⟨(up_s _ _ _), (up_n (by decide) k1), (up_n (by decide) k2), (up_n (by decide) k3), (up_n (by decide) k4), (up_n (by decide) k5), (up_n (by decide) k6), (up_n (by decide) k7), (up_n (by decide) k8), (up_n (by decide) k9), (up_n (by decide) k10), (up_n (by decide) k11), (up_n (by decide) k12)⟩, hG1, hG2, hus, hut, hub, hS9, hF, hmc, hmu, hmt, hrk⟩, hI, ⟨rfl, fun r hr => ⟨(up_n (by omega) rfl), rfl⟩⟩, Or.inr (⟨rfl, rfl, rfl, rfl, by omega⟩)⟩, by rw [ht]; exact hP, hD⟩, hS.F ht⟩) hS.2.2 dX6_count_30
  · skip
    refine lv_aload_n (pc := 17) hx hb dX6_count_17 rfl (lv_at hl 0 rfl) ?_
    refine lv_iload_n (pc := 18) hx hb dX6_count_18 rfl (lv_at hl 1 rfl) ?_
    refine k_call0 (pc := 19) (va_runV (As := [.int (iI wh)]) (rest := []) ⟨hx, hb, hml, hown, hts⟩ (c_X6_counted l D cA ad (up w 200 (oB 6 [.int (iI 0), .int (iI (sc 0)), .ref (ad 201), .ref (ad 202), .ref (ad 203), .ref (ad 204), .int (iI (sc 1)), .ref (ad 205), .ref (ad 206), .ref (ad 207), .ref (ad 208), .ref (ad 209), .int (iI (sc 2)), .int (iI (sc 3)), .int (iI (sc 4)), .ref (ad 210), .int (iI fr), .ref (ad 211), .ref (ad 212)])) sc fn 0 fr hI (up_s _ _ _) (up_n (by decide) k7) (up_n (by decide) k9) wh (by omega)) (cwV 1 hts gX6_count_X6_counted rfl rfl rfl (by decide +kernel) ⟨Nat.le_of_ble_eq_true rfl, Nat.le_of_ble_eq_true rfl⟩) (gR_V hP hK hB 200 (ci := 6) rfl (up_s _ _ _)) rfl rfl hl.1 rfl (lv_room (Nat.le_of_ble_eq_true rfl)) dX6_count_19 ⟨Nat.le_of_ble_eq_true rfl, Nat.le_of_ble_eq_true rfl⟩) (fun v_19 hv_19 => ?_)
    obtain ⟨z_19, rfl, hz_19⟩ := hv_19
    refine W.eq (g2 := F0 m 22 ls [.int (iI z_19)]) rfl ?_
    refine lv_goto (pc := 22) (tgt := 30) hx hb dX6_count_22 (by decide) ?_
    have he_30 : z_19 = cntV sc fn wh := by omega
    rw [he_30]
    rw [hQ9]
    exact W.iret (v := iI (cntV sc fn wh)) hx hb hret (fun t ht hW => ⟨⟨some (.int (iI (cntV sc fn wh))), ad, (up w 200 (oB 6 [.int (iI 0), .int (iI (sc 0)), .ref (ad 201), .ref (ad 202), .ref (ad 203), .ref (ad 204), .int (iI (sc 1)), .ref (ad 205), .ref (ad 206), .ref (ad 207), .ref (ad 208), .ref (ad 209), .int (iI (sc 2)), .int (iI (sc 3)), .int (iI (sc 4)), .ref (ad 210), .int (iI fr), .ref (ad 211), .ref (ad 212)])), rfl, ⟨0, sc, fn, ⟨fr, G1, G2, us, ut, ub, S, F, ⟨(up_s _ _ _), (up_n (by decide) k1), (up_n (by decide) k2), (up_n (by decide) k3), (up_n (by decide) k4), (up_n (by decide) k5), (up_n (by decide) k6), (up_n (by decide) k7), (up_n (by decide) k8), (up_n (by decide) k9), (up_n (by decide) k10), (up_n (by decide) k11), (up_n (by decide) k12)⟩, hG1, hG2, hus, hut, hub, hS9, hF, hmc, hmu, hmt, hrk⟩, hI, ⟨rfl, fun r hr => ⟨(up_n (by omega) rfl), rfl⟩⟩, Or.inl (⟨rfl, ⟨rfl, rfl, by omega, by omega, rfl⟩⟩)⟩, by rw [ht]; exact hP, hD⟩, hS.F ht⟩) hS.2.2 dX6_count_30

theorem md_upd {sc : Nat → Int} {fn : Nat → Int → Int} {us ut : Int → Int} {d k v : Int} (h : mdU sc fn us ut) (ho : shOk (fn 0) (fn 1) (sc 1)) (hk : 0 ≤ k ∧ k < sc 1) (hd : fn 0 k = d) : mdU sc (upF fn 1 (updI (fn 1) k v)) (updI us d 1) (updI ut d v) := by
  have one : ∀ i : Int, 0 ≤ i → i < sc 1 → fn 0 i = d → i = k := fun i a1 a2 a3 => by
    rcases Int.lt_trichotomy i k with c | c | c
    · have := ho.1 i k a1 c hk.2
      omega
    · exact c
    · have := ho.1 k i hk.1 c a2
      omega
  refine ⟨fun e a1 a2 a3 => ?_, fun i a1 a2 => ?_⟩
  · show ∃ i : Int, 0 ≤ i ∧ i < sc 1 ∧ fn 0 i = e ∧ updI ut d v e = updI (fn 1) k v i
    by_cases c : e = d
    · exact ⟨k, hk.1, hk.2, by rw [hd, c], by rw [c, updI_s, updI_s]⟩
    · rw [updI_n _ _ c] at a3
      obtain ⟨i, b1, b2, b3, b4⟩ := h.1 e a1 a2 a3
      exact ⟨i, b1, b2, b3, by rw [updI_n _ _ c, updI_n _ _ (by intro g; rw [g] at b3; omega)]; exact b4⟩
  · show updI us d 1 (fn 0 i) ≠ 0 ∧ updI ut d v (fn 0 i) = updI (fn 1) k v i
    by_cases c : fn 0 i = d
    · rw [c, updI_s, updI_s, one i a1 a2 c, updI_s]
      exact ⟨by decide, rfl⟩
    · rw [updI_n _ _ c, updI_n _ _ c, updI_n _ _ (by intro g; rw [g] at c; exact c hd)]
      exact h.2 i a1 a2
theorem md_ins {sc : Nat → Int} {fn : Nat → Int → Int} {us ut : Int → Int} {d k v : Int} (h : mdU sc fn us ut) (hk : 0 ≤ k ∧ k ≤ sc 1) (hd : 0 ≤ d ∧ d < 400) (hu : us d = 0) : mdU (upS sc 1 (sc 1 + 1)) (upF (upF fn 0 (insF (fn 0) (sc 1) k d)) 1 (insF (fn 1) (sc 1) k v)) (updI us d 1) (updI ut d v) := by
  have ne : ∀ i : Int, 0 ≤ i → i < sc 1 → fn 0 i ≠ d := fun i a1 a2 a3 => by
    have := (h.2 i a1 a2).1
    rw [a3] at this
    exact this hu
  refine ⟨fun e a1 a2 a3 => ?_, fun i a1 a2 => ?_⟩
  · show ∃ i : Int, 0 ≤ i ∧ i < sc 1 + 1 ∧ insF (fn 0) (sc 1) k d i = e ∧ updI ut d v e = insF (fn 1) (sc 1) k v i
    by_cases c : e = d
    · refine ⟨k, hk.1, by omega, ?_, ?_⟩
      · unfold insF
        rw [if_neg (by omega), if_pos rfl, c]
      · unfold insF
        rw [if_neg (by omega), if_pos rfl, c, updI_s]
    · rw [updI_n _ _ c] at a3
      obtain ⟨i, b1, b2, b3, b4⟩ := h.1 e a1 a2 a3
      by_cases g : i < k
      · refine ⟨i, b1, by omega, ?_, ?_⟩
        · unfold insF
          rw [if_pos g]
          exact b3
        · unfold insF
          rw [if_pos g, updI_n _ _ c]
          exact b4
      · refine ⟨i + 1, by omega, by omega, ?_, ?_⟩
        · unfold insF
          rw [if_neg (by omega), if_neg (by omega), if_pos (by omega), show i + 1 - 1 = i by omega]
          exact b3
        · unfold insF
          rw [if_neg (by omega), if_neg (by omega), if_pos (by omega), show i + 1 - 1 = i by omega, updI_n _ _ c]
          exact b4
  · have a2 : i < sc 1 + 1 := a2
    show updI us d 1 (insF (fn 0) (sc 1) k d i) ≠ 0 ∧ updI ut d v (insF (fn 0) (sc 1) k d i) = insF (fn 1) (sc 1) k v i
    unfold insF
    by_cases g : i < k
    · rw [if_pos g, if_pos g, updI_n _ _ (ne i a1 (by omega)), updI_n _ _ (ne i a1 (by omega))]
      exact h.2 i a1 (by omega)
    · by_cases g2 : i = k
      · rw [if_neg g, if_neg g, if_pos g2, if_pos g2, updI_s, updI_s]
        exact ⟨by decide, rfl⟩
      · rw [if_neg g, if_neg g, if_neg g2, if_neg g2, if_pos (by omega), if_pos (by omega), updI_n _ _ (ne (i - 1) (by omega) (by omega)), updI_n _ _ (ne (i - 1) (by omega) (by omega))]
        exact h.2 (i - 1) (by omega) (by omega)

abbrev rmX6_setShift : Room := { frames := 2, cells := 0, slots := 0, locals := 45 }
theorem hiX6_setShift_6 : ∀ w ∈ wsX60, w ∈ wsX6_setShift := by decide +kernel
set_option maxHeartbeats 4000000 in
set_option maxRecDepth 100000 in
theorem c_X6_setShift (l : Launch) (D : va_G) (cA : Nat → ClassId) (ad : Nat → Nat) (w : Nat → Option va_E) (sz : Nat) (th : Int) (sc : Nat → Int) (fn : Nat → Int → Int) (hI : bkInv sc fn) (hmd : mdS cA ad w th sc fn) (d sv : Int) (hd : (-2147483648 ≤ d ∧ d < 2147483648)) (hsv : (-2147483648 ≤ sv ∧ sv < 2147483648)) : Met l yX6_setShift wsX6_setShift rmX6_setShift (gV D cA ad w sz [.ref (ad 200), .int (iI d), .int (iI sv)]) (gW D (fun v9 ad1 w1 => ∃ (th2 : Int) (sc2 : Nat → Int) (fn2 : Nat → Int → Int), mdS cA ad1 w1 th2 sc2 fn2 ∧ bkInv sc2 fn2 ∧ keepM ad ad1 w w1 ∧ ((th2 = 0 ∧ (∃ k : Int, clP (fn 0) (sc 1) d k ∧ ((0 ≤ d ∧ d < 400) ∧ (-200 ≤ sv ∧ sv ≤ 200)) ∧ ((sc2 = sc ∧ fn2 = upF fn 1 (updI (fn 1) k sv) ∧ k < sc 1 ∧ fn 0 k = d) ∨ (sc2 = upS sc 1 (sc 1 + 1) ∧ fn2 = upF (upF fn 0 (insF (fn 0) (sc 1) k d)) 1 (insF (fn 1) (sc 1) k sv) ∧ ¬ (k < sc 1 ∧ fn 0 k = d) ∧ sc 1 < 20)) ∧ v9 = some (.int (iI (sftF (fn 0) (fn 1) (sc 1) d))))) ∨ (th2 = 1 ∧ v9 = some (.int (iI 0)) ∧ sc2 = sc ∧ fn2 = fn ∧ (¬ ((0 ≤ d ∧ d < 400) ∧ (-200 ≤ sv ∧ sv ≤ 200)))) ∨ (th2 = 2 ∧ v9 = some (.int (iI 0)) ∧ sc2 = sc ∧ fn2 = fn ∧ (((0 ≤ d ∧ d < 400) ∧ (-200 ≤ sv ∧ sv ≤ 200)) ∧ ∃ k : Int, clP (fn 0) (sc 1) d k ∧ ¬ (k < sc 1 ∧ fn 0 k = d) ∧ ¬ sc 1 < 20)))) (gA ad w sz)) 0 0 (gA ad w sz) := by
  refine Met.ofW (cc := cX6_setShift) (maxL := 4) (ret := (some .int)) (by decide) rfl ?_
  intro p e s m args below meth c s₁ B hml hv
  obtain ⟨hav, hsz, hP, hD0, hK, hB, hZ⟩ := hv
  have hx := B.exec
  have hb := B.bytes
  have hret := B.returns
  have hts := atoms_spec (ws := wsX6_setShift) B.pre
  have hown : s.vm.findClass RX6 = some m.cls := findClass_of_methodNamed B.named
  have hlocks := B.notSynchronized
  subst hsz
  have hD := hD0.self (sz := s.heap.size)
  generalize hAe : gA ad w s.heap.size = A at hD hZ ⊢
  have hA : ∀ q : Nat, s.heap.size ≤ q → A q := fun q h => by rw [← hAe]; exact Or.inr h
  have hS : va_S A s.heap s.heap [] := va_S.rf
  have hi6 := hiX6_setShift_6
  have hf22 := hts (.fieldLink RX6 22 "GaugeBookModel" "hasShift" "[Z") (by decide +kernel)
  have hf26 := hts (.fieldLink RX6 26 "GaugeBookModel" "shiftTold" "[I") (by decide +kernel)
  have hf55 := hts (.fieldLink RX6 55 "GaugeBookModel" "thrown" "I") (by decide +kernel)
  have hf77 := hts (.fieldLink RX6 77 "GaugeBookModel" "isFresh" "Z") (by decide +kernel)
  have hf116 := hts (.fieldLink RX6 116 "GaugeBookModel" "shifts" "I") (by decide +kernel)
  have he9 : entryFrame m args 4 = F0 m 0 ((lg_sl ([.ref (ad 200), .int (iI d), .int (iI sv)] : List Value) ++ List.replicate (4 - (lg_sl ([.ref (ad 200), .int (iI d), .int (iI sv)] : List Value)).length) Slot.unset).toArray) [] := by rw [hav, lg_entry_eq]
  rw [he9]
  have hl := lv_entry ([.ref (ad 200), .int (iI d), .int (iI sv)] : List Value) (n := 4) (Nat.le_of_ble_eq_true rfl)
  generalize (lg_sl ([.ref (ad 200), .int (iI d), .int (iI sv)] : List Value) ++ List.replicate (4 - (lg_sl ([.ref (ad 200), .int (iI d), .int (iI sv)] : List Value)).length) Slot.unset).toArray = ls at hl ⊢
  have hl : lv_has ls 4 [(0, .ref (ad 200)), (1, .int (iI d)), (2, .int (iI sv))] := hl
  obtain ⟨Q9, hQ9⟩ : ∃ z, z = MQ below (gW D (fun v9 ad1 w1 => ∃ (th2 : Int) (sc2 : Nat → Int) (fn2 : Nat → Int → Int), mdS cA ad1 w1 th2 sc2 fn2 ∧ bkInv sc2 fn2 ∧ keepM ad ad1 w w1 ∧ ((th2 = 0 ∧ (∃ k : Int, clP (fn 0) (sc 1) d k ∧ ((0 ≤ d ∧ d < 400) ∧ (-200 ≤ sv ∧ sv ≤ 200)) ∧ ((sc2 = sc ∧ fn2 = upF fn 1 (updI (fn 1) k sv) ∧ k < sc 1 ∧ fn 0 k = d) ∨ (sc2 = upS sc 1 (sc 1 + 1) ∧ fn2 = upF (upF fn 0 (insF (fn 0) (sc 1) k d)) 1 (insF (fn 1) (sc 1) k sv) ∧ ¬ (k < sc 1 ∧ fn 0 k = d) ∧ sc 1 < 20)) ∧ v9 = some (.int (iI (sftF (fn 0) (fn 1) (sc 1) d))))) ∨ (th2 = 1 ∧ v9 = some (.int (iI 0)) ∧ sc2 = sc ∧ fn2 = fn ∧ (¬ ((0 ≤ d ∧ d < 400) ∧ (-200 ≤ sv ∧ sv ≤ 200)))) ∨ (th2 = 2 ∧ v9 = some (.int (iI 0)) ∧ sc2 = sc ∧ fn2 = fn ∧ (((0 ≤ d ∧ d < 400) ∧ (-200 ≤ sv ∧ sv ≤ 200)) ∧ ∃ k : Int, clP (fn 0) (sc 1) d k ∧ ¬ (k < sc 1 ∧ fn 0 k = d) ∧ ¬ sc 1 < 20)))) A) args s 0 0 A := ⟨_, rfl⟩
  rw [← hQ9]
  show W p l e rmX6_setShift s m args below meth c s.heap [] 0 0 Q9 (F0 m 0 ls [])
  obtain ⟨H, hHe⟩ : ∃ z, z = s.heap := ⟨_, rfl⟩
  obtain ⟨locs, hLe⟩ : ∃ z, z = ([] : List Loc) := ⟨_, rfl⟩
  have hP : gP D vwCl ad w H := by rw [hHe]; exact hP
  have hS : va_S A s.heap H locs := by rw [hHe, hLe]; exact va_S.rf
  rw [show W p l e rmX6_setShift s m args below meth c s.heap [] 0 0 Q9 (F0 m 0 ls []) = W p l e rmX6_setShift s m args below meth c H locs 0 0 Q9 (F0 m 0 ls []) by rw [hHe, hLe]]
  clear hHe hLe
  obtain ⟨fr, G1, G2, us, ut, ub, S, F, ⟨k0, k1, k2, k3, k4, k5, k6, k7, k8, k9, k10, k11, k12⟩, hG1, hG2, hus, hut, hub, hS9, hF, hmc, hmu, hmt, hrk⟩ := hmd
  have hI1 := hI.1
  refine lv_aload_n (pc := 0) hx hb dX6_setShift_0 rfl (lv_at hl 0 rfl) ?_
  refine k_iconst (pc := 1) hx hb dX6_setShift_1 ?_
  refine k_put (pc := 2) (ci := 6) (C := RX6) (T := TX6) (N := 19) (ty := .int) (v := .int (iI 0)) (w1 := (up w 200 (oB 6 [.int (iI 0), .int (iI (sc 0)), .ref (ad 201), .ref (ad 202), .ref (ad 203), .ref (ad 204), .int (iI (sc 1)), .ref (ad 205), .ref (ad 206), .ref (ad 207), .ref (ad 208), .ref (ad 209), .int (iI (sc 2)), .int (iI (sc 3)), .int (iI (sc 4)), .ref (ad 210), .int (iI fr), .ref (ad 211), .ref (ad 212)]))) hx hb hts hi6 tyX6 tyX6_ok nmX6 hown hK hP hD hS 200 k0 rfl 0 (by decide) hf55 (fun _ h9 => h9) rfl (by decide +kernel) rfl rfl (Nat.le_of_ble_eq_true rfl) rfl dX6_setShift_2 (fun H locs hP hD hS => ?_)
  refine lv_iload_n (pc := 5) hx hb dX6_setShift_5 rfl (lv_at hl 1 rfl) ?_
  refine k_call0 (pc := 6) (va_runS (As := [.int (iI d)]) (rest := []) ⟨hx, hb, hml, hown, hts⟩ (c_X6_isDay l D cA ad (up w 200 (oB 6 [.int (iI 0), .int (iI (sc 0)), .ref (ad 201), .ref (ad 202), .ref (ad 203), .ref (ad 204), .int (iI (sc 1)), .ref (ad 205), .ref (ad 206), .ref (ad 207), .ref (ad 208), .ref (ad 209), .int (iI (sc 2)), .int (iI (sc 3)), .int (iI (sc 4)), .ref (ad 210), .int (iI fr), .ref (ad 211), .ref (ad 212)])) d (by omega)) (va_cwS 1 hts gX6_setShift_X6_isDay rfl rfl rfl (by decide +kernel) ⟨Nat.le_of_ble_eq_true rfl, Nat.le_of_ble_eq_true rfl⟩) (gR_S hP hK hB) rfl rfl hl.1 rfl (lv_room (Nat.le_of_ble_eq_true rfl)) dX6_setShift_6 ⟨Nat.le_of_ble_eq_true rfl, Nat.le_of_ble_eq_true rfl⟩) (fun v_6 hv_6 => ?_)
  obtain ⟨z_6, rfl, hz_6⟩ := hv_6
  refine W.eq (g2 := F0 m 9 ls [.int (iI z_6)]) rfl ?_
  refine k_if_eq (pc := 9) (tgt := 26) hx hb ⟨by omega, by omega⟩ dX6_setShift_9 (by decide) (fun hc_9 => ?_) (fun hc_9 => ?_)
  · skip
    refine lv_aload_n (pc := 26) hx hb dX6_setShift_26 rfl (lv_at hl 0 rfl) ?_
    refine k_iconst (pc := 27) hx hb dX6_setShift_27 ?_
    refine k_call1 (pc := 28) (va_runV (As := [.int (iI 1)]) (rest := []) ⟨hx, hb, hml, hown, hts⟩ (c_X6_fail l D cA ad (up w 200 (oB 6 [.int (iI 0), .int (iI (sc 0)), .ref (ad 201), .ref (ad 202), .ref (ad 203), .ref (ad 204), .int (iI (sc 1)), .ref (ad 205), .ref (ad 206), .ref (ad 207), .ref (ad 208), .ref (ad 209), .int (iI (sc 2)), .int (iI (sc 3)), .int (iI (sc 4)), .ref (ad 210), .int (iI fr), .ref (ad 211), .ref (ad 212)])) H.size 0 (sc 0) (sc 1) (sc 2) (sc 3) (sc 4) fr (up_s _ _ _) 1) (cwV 1 hts gX6_setShift_X6_fail rfl rfl rfl (by decide +kernel) ⟨Nat.le_of_ble_eq_true rfl, Nat.le_of_ble_eq_true rfl⟩) (gV_V hP hD hK hB hS hA hZ 200 (ci := 6) rfl (up_s _ _ _)) rfl rfl hl.1 rfl (lv_room (Nat.le_of_ble_eq_true rfl)) dX6_setShift_28 ⟨Nat.le_of_ble_eq_true rfl, Nat.le_of_ble_eq_true rfl⟩) hS (gA_sub hD hS hA) (fun v_28 ad_28 w_28 H locs hv_28 hP hD hS => ?_)
    obtain ⟨hv1, hv2, hv3⟩ := hv_28
    subst hv1
    rw [hv2, hv3] at hP hD
    rw [show up ((up w 200 (oB 6 [.int (iI 0), .int (iI (sc 0)), .ref (ad 201), .ref (ad 202), .ref (ad 203), .ref (ad 204), .int (iI (sc 1)), .ref (ad 205), .ref (ad 206), .ref (ad 207), .ref (ad 208), .ref (ad 209), .int (iI (sc 2)), .int (iI (sc 3)), .int (iI (sc 4)), .ref (ad 210), .int (iI fr), .ref (ad 211), .ref (ad 212)]))) 200 (oB 6 [.int (iI 1), .int (iI (sc 0)), .ref (ad 201), .ref (ad 202), .ref (ad 203), .ref (ad 204), .int (iI (sc 1)), .ref (ad 205), .ref (ad 206), .ref (ad 207), .ref (ad 208), .ref (ad 209), .int (iI (sc 2)), .int (iI (sc 3)), .int (iI (sc 4)), .ref (ad 210), .int (iI fr), .ref (ad 211), .ref (ad 212)]) = _ from (up_up _ _ _ _)] at hP hD
    refine W.eq (g2 := F0 m 31 ls [.int (iI 0)]) rfl ?_
    refine W.cs (cells' := 0) (slots' := 0) rfl rfl ?_
    rw [hQ9]
    exact W.iret (v := iI 0) hx hb hret (fun t ht hW => ⟨⟨some (.int (iI 0)), ad, (up w 200 (oB 6 [.int (iI 1), .int (iI (sc 0)), .ref (ad 201), .ref (ad 202), .ref (ad 203), .ref (ad 204), .int (iI (sc 1)), .ref (ad 205), .ref (ad 206), .ref (ad 207), .ref (ad 208), .ref (ad 209), .int (iI (sc 2)), .int (iI (sc 3)), .int (iI (sc 4)), .ref (ad 210), .int (iI fr), .ref (ad 211), .ref (ad 212)])), rfl, ⟨1, sc, fn, ⟨fr, G1, G2, us, ut, ub, S, F, ⟨(up_s _ _ _), (up_n (by decide) k1), (up_n (by decide) k2), (up_n (by decide) k3), (up_n (by decide) k4), (up_n (by decide) k5), (up_n (by decide) k6), (up_n (by decide) k7), (up_n (by decide) k8), (up_n (by decide) k9), (up_n (by decide) k10), (up_n (by decide) k11), (up_n (by decide) k12)⟩, hG1, hG2, hus, hut, hub, hS9, hF, hmc, hmu, hmt, hrk⟩, hI, ⟨rfl, fun r hr => ⟨(up_n (by omega) rfl), rfl⟩⟩, Or.inr (Or.inl (⟨rfl, rfl, rfl, rfl, by omega⟩))⟩, by rw [ht]; exact hP, hD⟩, hS.F ht⟩) hS.2.2 dX6_setShift_31
  · skip
    refine lv_iload_n (pc := 12) hx hb dX6_setShift_12 rfl (lv_at hl 2 rfl) ?_
    refine k_i2l (pc := 13) hx hb ⟨by omega, by omega⟩ dX6_setShift_13 ?_
    refine k_ldc2 (z := (-200)) (pc := 14) hx hb hown (hts (.constantLong RX6 112 (-200)) (by decide +kernel)) (by decide +kernel) dX6_setShift_14 ?_
    refine k_ldc2 (z := 200) (pc := 17) hx hb hown (hts (.constantLong RX6 114 (200)) (by decide +kernel)) (by decide +kernel) dX6_setShift_17 ?_
    refine k_call0 (pc := 20) (va_runS (As := [.long (lI sv), .long (lI (-200)), .long (lI 200)]) (rest := []) ⟨hx, hb, hml, hown, hts⟩ (c_X6_isIn l D cA ad (up w 200 (oB 6 [.int (iI 0), .int (iI (sc 0)), .ref (ad 201), .ref (ad 202), .ref (ad 203), .ref (ad 204), .int (iI (sc 1)), .ref (ad 205), .ref (ad 206), .ref (ad 207), .ref (ad 208), .ref (ad 209), .int (iI (sc 2)), .int (iI (sc 3)), .int (iI (sc 4)), .ref (ad 210), .int (iI fr), .ref (ad 211), .ref (ad 212)])) sv (-200) 200 (by omega) (by omega) (by omega)) (va_cwS 3 hts gX6_setShift_X6_isIn rfl rfl rfl (by decide +kernel) ⟨Nat.le_of_ble_eq_true rfl, Nat.le_of_ble_eq_true rfl⟩) (gR_S hP hK hB) rfl rfl hl.1 rfl (lv_room (Nat.le_of_ble_eq_true rfl)) dX6_setShift_20 ⟨Nat.le_of_ble_eq_true rfl, Nat.le_of_ble_eq_true rfl⟩) (fun v_20 hv_20 => ?_)
    obtain ⟨z_20, rfl, hz_20⟩ := hv_20
    refine W.eq (g2 := F0 m 23 ls [.int (iI z_20)]) rfl ?_
    refine k_if_ne (pc := 23) (tgt := 32) hx hb ⟨by omega, by omega⟩ dX6_setShift_23 (by decide) (fun hc_23 => ?_) (fun hc_23 => ?_)
    · skip
      obtain ⟨k9_, hk9_⟩ := clP_ex (fn 0) d (sc 1).toNat
      rw [show (((sc 1).toNat : Nat) : Int) = sc 1 by omega] at hk9_
      refine lv_aload_n (pc := 32) hx hb dX6_setShift_32 rfl (lv_at hl 0 rfl) ?_
      refine k_get (pc := 33) (ci := 6) (C := RX6) (T := TX6) (N := 19) hx hb hts hi6 hown hK hP 200 (up_s _ _ _) rfl 7 (by decide) hf22 (fun _ h9 => h9) rfl dX6_setShift_33 ?_
      refine lv_iload_n (pc := 36) hx hb dX6_setShift_36 rfl (lv_at hl 1 rfl) ?_
      refine k_zald (pc := 37) hx hb hK hP 205 1 (up_n (by decide) k5) rfl (by omega) (by omega) (by omega) dX6_setShift_37 ?_
      have hq_37 := hus d
      refine k_if_ne (pc := 38) (tgt := 56) hx hb ⟨by omega, by omega⟩ dX6_setShift_38 (by decide) (fun hc_38 => ?_) (fun hc_38 => ?_)
      · skip
        refine lv_aload_n (pc := 56) hx hb dX6_setShift_56 rfl (lv_at hl 0 rfl) ?_
        refine lv_iload_n (pc := 57) hx hb dX6_setShift_57 rfl (lv_at hl 1 rfl) ?_
        refine k_call0 (pc := 58) (va_runV (As := [.int (iI d)]) (rest := []) ⟨hx, hb, hml, hown, hts⟩ (c_X6_shiftAt l D cA ad (up w 200 (oB 6 [.int (iI 0), .int (iI (sc 0)), .ref (ad 201), .ref (ad 202), .ref (ad 203), .ref (ad 204), .int (iI (sc 1)), .ref (ad 205), .ref (ad 206), .ref (ad 207), .ref (ad 208), .ref (ad 209), .int (iI (sc 2)), .int (iI (sc 3)), .int (iI (sc 4)), .ref (ad 210), .int (iI fr), .ref (ad 211), .ref (ad 212)])) sc fn 0 fr us ut hI (up_s _ _ _) (up_n (by decide) k5) (up_n (by decide) k6) hus hut hmu d (by omega)) (cwV 1 hts gX6_setShift_X6_shiftAt rfl rfl rfl (by decide +kernel) ⟨Nat.le_of_ble_eq_true rfl, Nat.le_of_ble_eq_true rfl⟩) (gR_V hP hK hB 200 (ci := 6) rfl (up_s _ _ _)) rfl rfl hl.1 rfl (lv_room (Nat.le_of_ble_eq_true rfl)) dX6_setShift_58 ⟨Nat.le_of_ble_eq_true rfl, Nat.le_of_ble_eq_true rfl⟩) (fun v_58 hv_58 => ?_)
        obtain ⟨z_58, rfl, hz_58⟩ := hv_58
        refine W.eq (g2 := F0 m 61 ls [.int (iI z_58)]) rfl ?_
        have he_61 : z_58 = sftF (fn 0) (fn 1) (sc 1) d := by omega
        rw [he_61]
        refine lv_istore_n (pc := 61) (lv' := [(3, .int (iI (sftF (fn 0) (fn 1) (sc 1) d))), (0, .ref (ad 200)), (1, .int (iI d)), (2, .int (iI sv))]) hx hb dX6_setShift_61 rfl hl (by decide) rfl (fun ls hl => ?_)
        refine lv_aload_n (pc := 62) hx hb dX6_setShift_62 rfl (lv_at hl 1 rfl) ?_
        refine k_get (pc := 63) (ci := 6) (C := RX6) (T := TX6) (N := 19) hx hb hts hi6 hown hK hP 200 (up_s _ _ _) rfl 7 (by decide) hf22 (fun _ h9 => h9) rfl dX6_setShift_63 ?_
        refine lv_iload_n (pc := 66) hx hb dX6_setShift_66 rfl (lv_at hl 2 rfl) ?_
        refine k_zald (pc := 67) hx hb hK hP 205 1 (up_n (by decide) k5) rfl (by omega) (by omega) (by omega) dX6_setShift_67 ?_
        have hq_67 := hus d
        refine k_if_ne (pc := 68) (tgt := 81) hx hb ⟨by omega, by omega⟩ dX6_setShift_68 (by decide) (fun hc_68 => ?_) (fun hc_68 => ?_)
        · skip
          refine lv_aload_n (pc := 81) hx hb dX6_setShift_81 rfl (lv_at hl 1 rfl) ?_
          refine k_get (pc := 82) (ci := 6) (C := RX6) (T := TX6) (N := 19) hx hb hts hi6 hown hK hP 200 (up_s _ _ _) rfl 7 (by decide) hf22 (fun _ h9 => h9) rfl dX6_setShift_82 ?_
          refine lv_iload_n (pc := 85) hx hb dX6_setShift_85 rfl (lv_at hl 2 rfl) ?_
          refine k_iconst (pc := 86) hx hb dX6_setShift_86 ?_
          refine k_zast (pc := 87) (w1 := (up (up w 200 (oB 6 [.int (iI 0), .int (iI (sc 0)), .ref (ad 201), .ref (ad 202), .ref (ad 203), .ref (ad 204), .int (iI (sc 1)), .ref (ad 205), .ref (ad 206), .ref (ad 207), .ref (ad 208), .ref (ad 209), .int (iI (sc 2)), .int (iI (sc 3)), .int (iI (sc 4)), .ref (ad 210), .int (iI fr), .ref (ad 211), .ref (ad 212)])) 205 (eI (cA 1) 400 (updI us d 1)))) hx hb hK hP hD hS 205 1 (up_n (by decide) k5) rfl (by omega) (by omega) (by omega) (Or.inr rfl) rfl dX6_setShift_87 (fun H locs hP hD hS => ?_)
          refine lv_aload_n (pc := 88) hx hb dX6_setShift_88 rfl (lv_at hl 1 rfl) ?_
          refine k_get (pc := 89) (ci := 6) (C := RX6) (T := TX6) (N := 19) hx hb hts hi6 hown hK hP 200 (up_n (by decide) (up_s _ _ _)) rfl 8 (by decide) hf26 (fun _ h9 => h9) rfl dX6_setShift_89 ?_
          refine lv_iload_n (pc := 92) hx hb dX6_setShift_92 rfl (lv_at hl 2 rfl) ?_
          refine lv_iload_n (pc := 93) hx hb dX6_setShift_93 rfl (lv_at hl 3 rfl) ?_
          refine k_iast (pc := 94) (w1 := (up (up (up w 200 (oB 6 [.int (iI 0), .int (iI (sc 0)), .ref (ad 201), .ref (ad 202), .ref (ad 203), .ref (ad 204), .int (iI (sc 1)), .ref (ad 205), .ref (ad 206), .ref (ad 207), .ref (ad 208), .ref (ad 209), .int (iI (sc 2)), .int (iI (sc 3)), .int (iI (sc 4)), .ref (ad 210), .int (iI fr), .ref (ad 211), .ref (ad 212)])) 205 (eI (cA 1) 400 (updI us d 1))) 206 (eI (cA 0) 400 (updI ut d sv)))) hx hb hK hP hD hS 206 0 (up_n (by decide) (up_n (by decide) k6)) rfl (by omega) (by omega) (by omega) rfl dX6_setShift_94 (fun H locs hP hD hS => ?_)
          refine lv_aload_n (pc := 95) hx hb dX6_setShift_95 rfl (lv_at hl 1 rfl) ?_
          refine k_iconst (pc := 96) hx hb dX6_setShift_96 ?_
          refine k_put (pc := 97) (ci := 6) (C := RX6) (T := TX6) (N := 19) (ty := .boolean) (v := .int (iI 0)) (w1 := (up (up (up w 200 (oB 6 [.int (iI 0), .int (iI (sc 0)), .ref (ad 201), .ref (ad 202), .ref (ad 203), .ref (ad 204), .int (iI (sc 1)), .ref (ad 205), .ref (ad 206), .ref (ad 207), .ref (ad 208), .ref (ad 209), .int (iI (sc 2)), .int (iI (sc 3)), .int (iI (sc 4)), .ref (ad 210), .int (iI 0), .ref (ad 211), .ref (ad 212)])) 205 (eI (cA 1) 400 (updI us d 1))) 206 (eI (cA 0) 400 (updI ut d sv)))) hx hb hts hi6 tyX6 tyX6_ok nmX6 hown hK hP hD hS 200 (up_n (by decide) (up_n (by decide) (up_s _ _ _))) rfl 16 (by decide) hf77 (fun _ h9 => h9) rfl (by decide +kernel) (by decide +kernel) rfl (Nat.le_of_ble_eq_true rfl) ((up_co _ _ _ (by decide)).trans (congrArg (fun u => up u 206 _) ((up_co _ _ _ (by decide)).trans (congrArg (fun u => up u 205 _) (up_up _ _ _ _))))) dX6_setShift_97 (fun H locs hP hD hS => ?_)
          refine lv_iload_n (pc := 100) hx hb dX6_setShift_100 rfl (lv_at hl 0 rfl) ?_
          have hA9_ : k9_ < sc 1 ∧ fn 0 k9_ = d := by
            obtain ⟨i, b1, b2, b3, -⟩ := hmu.1 d (by omega) (by omega) (by omega)
            have e9 : k9_ = i := clP_one hk9_ ⟨b1, by omega, fun j c1 c2 => by have := hI.2.1.1 j i c1 c2 b2; omega, fun _ => by omega⟩
            rw [e9]; exact ⟨b2, b3⟩
          rw [hQ9]
          exact W.iret (v := iI (sftF (fn 0) (fn 1) (sc 1) d)) hx hb hret (fun t ht hW => ⟨⟨some (.int (iI (sftF (fn 0) (fn 1) (sc 1) d))), ad, (up (up (up w 200 (oB 6 [.int (iI 0), .int (iI (sc 0)), .ref (ad 201), .ref (ad 202), .ref (ad 203), .ref (ad 204), .int (iI (sc 1)), .ref (ad 205), .ref (ad 206), .ref (ad 207), .ref (ad 208), .ref (ad 209), .int (iI (sc 2)), .int (iI (sc 3)), .int (iI (sc 4)), .ref (ad 210), .int (iI 0), .ref (ad 211), .ref (ad 212)])) 205 (eI (cA 1) 400 (updI us d 1))) 206 (eI (cA 0) 400 (updI ut d sv))), rfl, ⟨0, sc, (upF fn 1 (updI (fn 1) k9_ sv)), ⟨0, G1, G2, (updI us d 1), (updI ut d sv), ub, S, F, ⟨(up_n (by decide) (up_n (by decide) (up_s _ _ _))), (up_n (by decide) (up_n (by decide) (up_n (by decide) k1))), (up_n (by decide) (up_n (by decide) (up_n (by decide) k2))), (up_n (by decide) (up_n (by decide) (up_n (by decide) k3))), (up_n (by decide) (up_n (by decide) (up_n (by decide) k4))), (up_n (by decide) (up_s _ _ _)), (up_s _ _ _), (up_n (by decide) (up_n (by decide) (up_n (by decide) k7))), (up_n (by decide) (up_n (by decide) (up_n (by decide) k8))), (up_n (by decide) (up_n (by decide) (up_n (by decide) k9))), (up_n (by decide) (up_n (by decide) (up_n (by decide) k10))), (up_n (by decide) (up_n (by decide) (up_n (by decide) k11))), (up_n (by decide) (up_n (by decide) (up_n (by decide) k12)))⟩, hG1, hG2, (upd_b hus (show (0 : Int) ≤ 1 ∧ (1 : Int) ≤ 1 by omega)), (upd_b hut (by omega)), hub, hS9, hF, (mdC_k hmc rfl (fun k => ⟨(upF_n (by omega)), (upF_n (by omega))⟩)), (md_upd hmu hI.2.1 ⟨hk9_.1, by omega⟩ (by omega)), hmt, (Or.inl rfl)⟩, (by have hx9 := inv_sh hI (g1 := fn 0) (g2 := updI (fn 1) k9_ sv) (n := sc 1) hI1.2.1 ⟨hI.2.1.1, hI.2.1.2.1, upd_b hI.2.1.2.2 (by omega)⟩; rw [upS_self rfl, upF_self rfl] at hx9; exact hx9), ⟨rfl, fun r hr => ⟨(up_n (by omega) (up_n (by omega) (up_n (by omega) rfl))), rfl⟩⟩, Or.inl (⟨rfl, ⟨k9_, hk9_, by omega, Or.inl ⟨rfl, rfl, by omega, by omega⟩, rfl⟩⟩)⟩, by rw [ht]; exact hP, hD⟩, hS.F ht⟩) hS.2.2 dX6_setShift_101
        · skip
          refine lv_aload_n (pc := 71) hx hb dX6_setShift_71 rfl (lv_at hl 1 rfl) ?_
          refine lv_dup (pc := 72) hx hb dX6_setShift_72 rfl ?_
          refine k_get (pc := 73) (ci := 6) (C := RX6) (T := TX6) (N := 19) hx hb hts hi6 hown hK hP 200 (up_s _ _ _) rfl 6 (by decide) hf116 (fun _ h9 => h9) rfl dX6_setShift_73 ?_
          refine k_iconst (pc := 76) hx hb dX6_setShift_76 ?_
          refine k_iadd (pc := 77) hx hb dX6_setShift_77 ?_
          refine k_put (pc := 78) (ci := 6) (C := RX6) (T := TX6) (N := 19) (ty := .int) (v := .int (iI ((sc 1) + 1))) (w1 := (up w 200 (oB 6 [.int (iI 0), .int (iI (sc 0)), .ref (ad 201), .ref (ad 202), .ref (ad 203), .ref (ad 204), .int (iI ((sc 1) + 1)), .ref (ad 205), .ref (ad 206), .ref (ad 207), .ref (ad 208), .ref (ad 209), .int (iI (sc 2)), .int (iI (sc 3)), .int (iI (sc 4)), .ref (ad 210), .int (iI fr), .ref (ad 211), .ref (ad 212)]))) hx hb hts hi6 tyX6 tyX6_ok nmX6 hown hK hP hD hS 200 (up_s _ _ _) rfl 6 (by decide) hf116 (fun _ h9 => h9) rfl (by decide +kernel) rfl rfl (Nat.le_of_ble_eq_true rfl) (up_up _ _ _ _) dX6_setShift_78 (fun H locs hP hD hS => ?_)
          refine lv_aload_n (pc := 81) hx hb dX6_setShift_81 rfl (lv_at hl 1 rfl) ?_
          refine k_get (pc := 82) (ci := 6) (C := RX6) (T := TX6) (N := 19) hx hb hts hi6 hown hK hP 200 (up_s _ _ _) rfl 7 (by decide) hf22 (fun _ h9 => h9) rfl dX6_setShift_82 ?_
          refine lv_iload_n (pc := 85) hx hb dX6_setShift_85 rfl (lv_at hl 2 rfl) ?_
          refine k_iconst (pc := 86) hx hb dX6_setShift_86 ?_
          refine k_zast (pc := 87) (w1 := (up (up w 200 (oB 6 [.int (iI 0), .int (iI (sc 0)), .ref (ad 201), .ref (ad 202), .ref (ad 203), .ref (ad 204), .int (iI ((sc 1) + 1)), .ref (ad 205), .ref (ad 206), .ref (ad 207), .ref (ad 208), .ref (ad 209), .int (iI (sc 2)), .int (iI (sc 3)), .int (iI (sc 4)), .ref (ad 210), .int (iI fr), .ref (ad 211), .ref (ad 212)])) 205 (eI (cA 1) 400 (updI us d 1)))) hx hb hK hP hD hS 205 1 (up_n (by decide) k5) rfl (by omega) (by omega) (by omega) (Or.inr rfl) rfl dX6_setShift_87 (fun H locs hP hD hS => ?_)
          refine lv_aload_n (pc := 88) hx hb dX6_setShift_88 rfl (lv_at hl 1 rfl) ?_
          refine k_get (pc := 89) (ci := 6) (C := RX6) (T := TX6) (N := 19) hx hb hts hi6 hown hK hP 200 (up_n (by decide) (up_s _ _ _)) rfl 8 (by decide) hf26 (fun _ h9 => h9) rfl dX6_setShift_89 ?_
          refine lv_iload_n (pc := 92) hx hb dX6_setShift_92 rfl (lv_at hl 2 rfl) ?_
          refine lv_iload_n (pc := 93) hx hb dX6_setShift_93 rfl (lv_at hl 3 rfl) ?_
          refine k_iast (pc := 94) (w1 := (up (up (up w 200 (oB 6 [.int (iI 0), .int (iI (sc 0)), .ref (ad 201), .ref (ad 202), .ref (ad 203), .ref (ad 204), .int (iI ((sc 1) + 1)), .ref (ad 205), .ref (ad 206), .ref (ad 207), .ref (ad 208), .ref (ad 209), .int (iI (sc 2)), .int (iI (sc 3)), .int (iI (sc 4)), .ref (ad 210), .int (iI fr), .ref (ad 211), .ref (ad 212)])) 205 (eI (cA 1) 400 (updI us d 1))) 206 (eI (cA 0) 400 (updI ut d sv)))) hx hb hK hP hD hS 206 0 (up_n (by decide) (up_n (by decide) k6)) rfl (by omega) (by omega) (by omega) rfl dX6_setShift_94 (fun H locs hP hD hS => ?_)
          refine lv_aload_n (pc := 95) hx hb dX6_setShift_95 rfl (lv_at hl 1 rfl) ?_
          refine k_iconst (pc := 96) hx hb dX6_setShift_96 ?_
          refine k_put (pc := 97) (ci := 6) (C := RX6) (T := TX6) (N := 19) (ty := .boolean) (v := .int (iI 0)) (w1 := (up (up (up w 200 (oB 6 [.int (iI 0), .int (iI (sc 0)), .ref (ad 201), .ref (ad 202), .ref (ad 203), .ref (ad 204), .int (iI ((sc 1) + 1)), .ref (ad 205), .ref (ad 206), .ref (ad 207), .ref (ad 208), .ref (ad 209), .int (iI (sc 2)), .int (iI (sc 3)), .int (iI (sc 4)), .ref (ad 210), .int (iI 0), .ref (ad 211), .ref (ad 212)])) 205 (eI (cA 1) 400 (updI us d 1))) 206 (eI (cA 0) 400 (updI ut d sv)))) hx hb hts hi6 tyX6 tyX6_ok nmX6 hown hK hP hD hS 200 (up_n (by decide) (up_n (by decide) (up_s _ _ _))) rfl 16 (by decide) hf77 (fun _ h9 => h9) rfl (by decide +kernel) (by decide +kernel) rfl (Nat.le_of_ble_eq_true rfl) ((up_co _ _ _ (by decide)).trans (congrArg (fun u => up u 206 _) ((up_co _ _ _ (by decide)).trans (congrArg (fun u => up u 205 _) (up_up _ _ _ _))))) dX6_setShift_97 (fun H locs hP hD hS => ?_)
          refine lv_iload_n (pc := 100) hx hb dX6_setShift_100 rfl (lv_at hl 0 rfl) ?_
          have hne_ : ¬ (k9_ < sc 1 ∧ fn 0 k9_ = d) := fun z => by have := (hmu.2 k9_ hk9_.1 z.1).1; rw [z.2] at this; omega
          rw [hQ9]
          exact W.iret (v := iI (sftF (fn 0) (fn 1) (sc 1) d)) hx hb hret (fun t ht hW => ⟨⟨some (.int (iI (sftF (fn 0) (fn 1) (sc 1) d))), ad, (up (up (up w 200 (oB 6 [.int (iI 0), .int (iI (sc 0)), .ref (ad 201), .ref (ad 202), .ref (ad 203), .ref (ad 204), .int (iI ((sc 1) + 1)), .ref (ad 205), .ref (ad 206), .ref (ad 207), .ref (ad 208), .ref (ad 209), .int (iI (sc 2)), .int (iI (sc 3)), .int (iI (sc 4)), .ref (ad 210), .int (iI 0), .ref (ad 211), .ref (ad 212)])) 205 (eI (cA 1) 400 (updI us d 1))) 206 (eI (cA 0) 400 (updI ut d sv))), rfl, ⟨0, (upS sc 1 (sc 1 + 1)), (upF (upF fn 0 (insF (fn 0) (sc 1) k9_ d)) 1 (insF (fn 1) (sc 1) k9_ sv)), ⟨0, G1, G2, (updI us d 1), (updI ut d sv), ub, S, F, ⟨(up_n (by decide) (up_n (by decide) (up_s _ _ _))), (up_n (by decide) (up_n (by decide) (up_n (by decide) k1))), (up_n (by decide) (up_n (by decide) (up_n (by decide) k2))), (up_n (by decide) (up_n (by decide) (up_n (by decide) k3))), (up_n (by decide) (up_n (by decide) (up_n (by decide) k4))), (up_n (by decide) (up_s _ _ _)), (up_s _ _ _), (up_n (by decide) (up_n (by decide) (up_n (by decide) k7))), (up_n (by decide) (up_n (by decide) (up_n (by decide) k8))), (up_n (by decide) (up_n (by decide) (up_n (by decide) k9))), (up_n (by decide) (up_n (by decide) (up_n (by decide) k10))), (up_n (by decide) (up_n (by decide) (up_n (by decide) k11))), (up_n (by decide) (up_n (by decide) (up_n (by decide) k12)))⟩, hG1, hG2, (upd_b hus (show (0 : Int) ≤ 1 ∧ (1 : Int) ≤ 1 by omega)), (upd_b hut (by omega)), hub, hS9, hF, (mdC_k hmc rfl (fun k => ⟨((upF_n (by omega)).trans (upF_n (by omega))), ((upF_n (by omega)).trans (upF_n (by omega)))⟩)), (md_ins hmu ⟨hk9_.1, hk9_.2.1⟩ (by omega) (by omega)), hmt, (Or.inl rfl)⟩, (inv_sh hI (by omega) (shOk_ins hI.2.1 (by omega) (by omega) hk9_ hne_)), ⟨rfl, fun r hr => ⟨(up_n (by omega) (up_n (by omega) (up_n (by omega) rfl))), rfl⟩⟩, Or.inl (⟨rfl, ⟨k9_, hk9_, by omega, Or.inr ⟨rfl, rfl, hne_, by omega⟩, rfl⟩⟩)⟩, by rw [ht]; exact hP, hD⟩, hS.F ht⟩) hS.2.2 dX6_setShift_101
      · skip
        refine lv_aload_n (pc := 41) hx hb dX6_setShift_41 rfl (lv_at hl 0 rfl) ?_
        refine k_get (pc := 42) (ci := 6) (C := RX6) (T := TX6) (N := 19) hx hb hts hi6 hown hK hP 200 (up_s _ _ _) rfl 6 (by decide) hf116 (fun _ h9 => h9) rfl dX6_setShift_42 ?_
        refine k_bipush (pc := 45) hx hb dX6_setShift_45 (by decide +kernel) ?_
        refine k_icmp_ne (pc := 47) (tgt := 56) hx hb ⟨by omega, by omega⟩ ⟨by omega, by omega⟩ dX6_setShift_47 (by decide) (fun hc_47 => ?_) (fun hc_47 => ?_)
        · skip
          refine lv_aload_n (pc := 56) hx hb dX6_setShift_56 rfl (lv_at hl 0 rfl) ?_
          refine lv_iload_n (pc := 57) hx hb dX6_setShift_57 rfl (lv_at hl 1 rfl) ?_
          refine k_call0 (pc := 58) (va_runV (As := [.int (iI d)]) (rest := []) ⟨hx, hb, hml, hown, hts⟩ (c_X6_shiftAt l D cA ad (up w 200 (oB 6 [.int (iI 0), .int (iI (sc 0)), .ref (ad 201), .ref (ad 202), .ref (ad 203), .ref (ad 204), .int (iI (sc 1)), .ref (ad 205), .ref (ad 206), .ref (ad 207), .ref (ad 208), .ref (ad 209), .int (iI (sc 2)), .int (iI (sc 3)), .int (iI (sc 4)), .ref (ad 210), .int (iI fr), .ref (ad 211), .ref (ad 212)])) sc fn 0 fr us ut hI (up_s _ _ _) (up_n (by decide) k5) (up_n (by decide) k6) hus hut hmu d (by omega)) (cwV 1 hts gX6_setShift_X6_shiftAt rfl rfl rfl (by decide +kernel) ⟨Nat.le_of_ble_eq_true rfl, Nat.le_of_ble_eq_true rfl⟩) (gR_V hP hK hB 200 (ci := 6) rfl (up_s _ _ _)) rfl rfl hl.1 rfl (lv_room (Nat.le_of_ble_eq_true rfl)) dX6_setShift_58 ⟨Nat.le_of_ble_eq_true rfl, Nat.le_of_ble_eq_true rfl⟩) (fun v_58 hv_58 => ?_)
          obtain ⟨z_58, rfl, hz_58⟩ := hv_58
          refine W.eq (g2 := F0 m 61 ls [.int (iI z_58)]) rfl ?_
          have he_61 : z_58 = sftF (fn 0) (fn 1) (sc 1) d := by omega
          rw [he_61]
          refine lv_istore_n (pc := 61) (lv' := [(3, .int (iI (sftF (fn 0) (fn 1) (sc 1) d))), (0, .ref (ad 200)), (1, .int (iI d)), (2, .int (iI sv))]) hx hb dX6_setShift_61 rfl hl (by decide) rfl (fun ls hl => ?_)
          refine lv_aload_n (pc := 62) hx hb dX6_setShift_62 rfl (lv_at hl 1 rfl) ?_
          refine k_get (pc := 63) (ci := 6) (C := RX6) (T := TX6) (N := 19) hx hb hts hi6 hown hK hP 200 (up_s _ _ _) rfl 7 (by decide) hf22 (fun _ h9 => h9) rfl dX6_setShift_63 ?_
          refine lv_iload_n (pc := 66) hx hb dX6_setShift_66 rfl (lv_at hl 2 rfl) ?_
          refine k_zald (pc := 67) hx hb hK hP 205 1 (up_n (by decide) k5) rfl (by omega) (by omega) (by omega) dX6_setShift_67 ?_
          have hq_67 := hus d
          refine k_if_ne (pc := 68) (tgt := 81) hx hb ⟨by omega, by omega⟩ dX6_setShift_68 (by decide) (fun hc_68 => ?_) (fun hc_68 => ?_)
          · skip
            refine lv_aload_n (pc := 81) hx hb dX6_setShift_81 rfl (lv_at hl 1 rfl) ?_
            refine k_get (pc := 82) (ci := 6) (C := RX6) (T := TX6) (N := 19) hx hb hts hi6 hown hK hP 200 (up_s _ _ _) rfl 7 (by decide) hf22 (fun _ h9 => h9) rfl dX6_setShift_82 ?_
            refine lv_iload_n (pc := 85) hx hb dX6_setShift_85 rfl (lv_at hl 2 rfl) ?_
            refine k_iconst (pc := 86) hx hb dX6_setShift_86 ?_
            refine k_zast (pc := 87) (w1 := (up (up w 200 (oB 6 [.int (iI 0), .int (iI (sc 0)), .ref (ad 201), .ref (ad 202), .ref (ad 203), .ref (ad 204), .int (iI (sc 1)), .ref (ad 205), .ref (ad 206), .ref (ad 207), .ref (ad 208), .ref (ad 209), .int (iI (sc 2)), .int (iI (sc 3)), .int (iI (sc 4)), .ref (ad 210), .int (iI fr), .ref (ad 211), .ref (ad 212)])) 205 (eI (cA 1) 400 (updI us d 1)))) hx hb hK hP hD hS 205 1 (up_n (by decide) k5) rfl (by omega) (by omega) (by omega) (Or.inr rfl) rfl dX6_setShift_87 (fun H locs hP hD hS => ?_)
            refine lv_aload_n (pc := 88) hx hb dX6_setShift_88 rfl (lv_at hl 1 rfl) ?_
            refine k_get (pc := 89) (ci := 6) (C := RX6) (T := TX6) (N := 19) hx hb hts hi6 hown hK hP 200 (up_n (by decide) (up_s _ _ _)) rfl 8 (by decide) hf26 (fun _ h9 => h9) rfl dX6_setShift_89 ?_
            refine lv_iload_n (pc := 92) hx hb dX6_setShift_92 rfl (lv_at hl 2 rfl) ?_
            refine lv_iload_n (pc := 93) hx hb dX6_setShift_93 rfl (lv_at hl 3 rfl) ?_
            refine k_iast (pc := 94) (w1 := (up (up (up w 200 (oB 6 [.int (iI 0), .int (iI (sc 0)), .ref (ad 201), .ref (ad 202), .ref (ad 203), .ref (ad 204), .int (iI (sc 1)), .ref (ad 205), .ref (ad 206), .ref (ad 207), .ref (ad 208), .ref (ad 209), .int (iI (sc 2)), .int (iI (sc 3)), .int (iI (sc 4)), .ref (ad 210), .int (iI fr), .ref (ad 211), .ref (ad 212)])) 205 (eI (cA 1) 400 (updI us d 1))) 206 (eI (cA 0) 400 (updI ut d sv)))) hx hb hK hP hD hS 206 0 (up_n (by decide) (up_n (by decide) k6)) rfl (by omega) (by omega) (by omega) rfl dX6_setShift_94 (fun H locs hP hD hS => ?_)
            refine lv_aload_n (pc := 95) hx hb dX6_setShift_95 rfl (lv_at hl 1 rfl) ?_
            refine k_iconst (pc := 96) hx hb dX6_setShift_96 ?_
            refine k_put (pc := 97) (ci := 6) (C := RX6) (T := TX6) (N := 19) (ty := .boolean) (v := .int (iI 0)) (w1 := (up (up (up w 200 (oB 6 [.int (iI 0), .int (iI (sc 0)), .ref (ad 201), .ref (ad 202), .ref (ad 203), .ref (ad 204), .int (iI (sc 1)), .ref (ad 205), .ref (ad 206), .ref (ad 207), .ref (ad 208), .ref (ad 209), .int (iI (sc 2)), .int (iI (sc 3)), .int (iI (sc 4)), .ref (ad 210), .int (iI 0), .ref (ad 211), .ref (ad 212)])) 205 (eI (cA 1) 400 (updI us d 1))) 206 (eI (cA 0) 400 (updI ut d sv)))) hx hb hts hi6 tyX6 tyX6_ok nmX6 hown hK hP hD hS 200 (up_n (by decide) (up_n (by decide) (up_s _ _ _))) rfl 16 (by decide) hf77 (fun _ h9 => h9) rfl (by decide +kernel) (by decide +kernel) rfl (Nat.le_of_ble_eq_true rfl) ((up_co _ _ _ (by decide)).trans (congrArg (fun u => up u 206 _) ((up_co _ _ _ (by decide)).trans (congrArg (fun u => up u 205 _) (up_up _ _ _ _))))) dX6_setShift_97 (fun H locs hP hD hS => ?_)
            refine lv_iload_n (pc := 100) hx hb dX6_setShift_100 rfl (lv_at hl 0 rfl) ?_
            have hA9_ : k9_ < sc 1 ∧ fn 0 k9_ = d := by
              obtain ⟨i, b1, b2, b3, -⟩ := hmu.1 d (by omega) (by omega) (by omega)
              have e9 : k9_ = i := clP_one hk9_ ⟨b1, by omega, fun j c1 c2 => by have := hI.2.1.1 j i c1 c2 b2; omega, fun _ => by omega⟩
              rw [e9]; exact ⟨b2, b3⟩
            rw [hQ9]
            exact W.iret (v := iI (sftF (fn 0) (fn 1) (sc 1) d)) hx hb hret (fun t ht hW => ⟨⟨some (.int (iI (sftF (fn 0) (fn 1) (sc 1) d))), ad, (up (up (up w 200 (oB 6 [.int (iI 0), .int (iI (sc 0)), .ref (ad 201), .ref (ad 202), .ref (ad 203), .ref (ad 204), .int (iI (sc 1)), .ref (ad 205), .ref (ad 206), .ref (ad 207), .ref (ad 208), .ref (ad 209), .int (iI (sc 2)), .int (iI (sc 3)), .int (iI (sc 4)), .ref (ad 210), .int (iI 0), .ref (ad 211), .ref (ad 212)])) 205 (eI (cA 1) 400 (updI us d 1))) 206 (eI (cA 0) 400 (updI ut d sv))), rfl, ⟨0, sc, (upF fn 1 (updI (fn 1) k9_ sv)), ⟨0, G1, G2, (updI us d 1), (updI ut d sv), ub, S, F, ⟨(up_n (by decide) (up_n (by decide) (up_s _ _ _))), (up_n (by decide) (up_n (by decide) (up_n (by decide) k1))), (up_n (by decide) (up_n (by decide) (up_n (by decide) k2))), (up_n (by decide) (up_n (by decide) (up_n (by decide) k3))), (up_n (by decide) (up_n (by decide) (up_n (by decide) k4))), (up_n (by decide) (up_s _ _ _)), (up_s _ _ _), (up_n (by decide) (up_n (by decide) (up_n (by decide) k7))), (up_n (by decide) (up_n (by decide) (up_n (by decide) k8))), (up_n (by decide) (up_n (by decide) (up_n (by decide) k9))), (up_n (by decide) (up_n (by decide) (up_n (by decide) k10))), (up_n (by decide) (up_n (by decide) (up_n (by decide) k11))), (up_n (by decide) (up_n (by decide) (up_n (by decide) k12)))⟩, hG1, hG2, (upd_b hus (show (0 : Int) ≤ 1 ∧ (1 : Int) ≤ 1 by omega)), (upd_b hut (by omega)), hub, hS9, hF, (mdC_k hmc rfl (fun k => ⟨(upF_n (by omega)), (upF_n (by omega))⟩)), (md_upd hmu hI.2.1 ⟨hk9_.1, by omega⟩ (by omega)), hmt, (Or.inl rfl)⟩, (by have hx9 := inv_sh hI (g1 := fn 0) (g2 := updI (fn 1) k9_ sv) (n := sc 1) hI1.2.1 ⟨hI.2.1.1, hI.2.1.2.1, upd_b hI.2.1.2.2 (by omega)⟩; rw [upS_self rfl, upF_self rfl] at hx9; exact hx9), ⟨rfl, fun r hr => ⟨(up_n (by omega) (up_n (by omega) (up_n (by omega) rfl))), rfl⟩⟩, Or.inl (⟨rfl, ⟨k9_, hk9_, by omega, Or.inl ⟨rfl, rfl, by omega, by omega⟩, rfl⟩⟩)⟩, by rw [ht]; exact hP, hD⟩, hS.F ht⟩) hS.2.2 dX6_setShift_101
          · skip
            refine lv_aload_n (pc := 71) hx hb dX6_setShift_71 rfl (lv_at hl 1 rfl) ?_
            refine lv_dup (pc := 72) hx hb dX6_setShift_72 rfl ?_
            refine k_get (pc := 73) (ci := 6) (C := RX6) (T := TX6) (N := 19) hx hb hts hi6 hown hK hP 200 (up_s _ _ _) rfl 6 (by decide) hf116 (fun _ h9 => h9) rfl dX6_setShift_73 ?_
            refine k_iconst (pc := 76) hx hb dX6_setShift_76 ?_
            refine k_iadd (pc := 77) hx hb dX6_setShift_77 ?_
            refine k_put (pc := 78) (ci := 6) (C := RX6) (T := TX6) (N := 19) (ty := .int) (v := .int (iI ((sc 1) + 1))) (w1 := (up w 200 (oB 6 [.int (iI 0), .int (iI (sc 0)), .ref (ad 201), .ref (ad 202), .ref (ad 203), .ref (ad 204), .int (iI ((sc 1) + 1)), .ref (ad 205), .ref (ad 206), .ref (ad 207), .ref (ad 208), .ref (ad 209), .int (iI (sc 2)), .int (iI (sc 3)), .int (iI (sc 4)), .ref (ad 210), .int (iI fr), .ref (ad 211), .ref (ad 212)]))) hx hb hts hi6 tyX6 tyX6_ok nmX6 hown hK hP hD hS 200 (up_s _ _ _) rfl 6 (by decide) hf116 (fun _ h9 => h9) rfl (by decide +kernel) rfl rfl (Nat.le_of_ble_eq_true rfl) (up_up _ _ _ _) dX6_setShift_78 (fun H locs hP hD hS => ?_)
            refine lv_aload_n (pc := 81) hx hb dX6_setShift_81 rfl (lv_at hl 1 rfl) ?_
            refine k_get (pc := 82) (ci := 6) (C := RX6) (T := TX6) (N := 19) hx hb hts hi6 hown hK hP 200 (up_s _ _ _) rfl 7 (by decide) hf22 (fun _ h9 => h9) rfl dX6_setShift_82 ?_
            refine lv_iload_n (pc := 85) hx hb dX6_setShift_85 rfl (lv_at hl 2 rfl) ?_
            refine k_iconst (pc := 86) hx hb dX6_setShift_86 ?_
            refine k_zast (pc := 87) (w1 := (up (up w 200 (oB 6 [.int (iI 0), .int (iI (sc 0)), .ref (ad 201), .ref (ad 202), .ref (ad 203), .ref (ad 204), .int (iI ((sc 1) + 1)), .ref (ad 205), .ref (ad 206), .ref (ad 207), .ref (ad 208), .ref (ad 209), .int (iI (sc 2)), .int (iI (sc 3)), .int (iI (sc 4)), .ref (ad 210), .int (iI fr), .ref (ad 211), .ref (ad 212)])) 205 (eI (cA 1) 400 (updI us d 1)))) hx hb hK hP hD hS 205 1 (up_n (by decide) k5) rfl (by omega) (by omega) (by omega) (Or.inr rfl) rfl dX6_setShift_87 (fun H locs hP hD hS => ?_)
            refine lv_aload_n (pc := 88) hx hb dX6_setShift_88 rfl (lv_at hl 1 rfl) ?_
            refine k_get (pc := 89) (ci := 6) (C := RX6) (T := TX6) (N := 19) hx hb hts hi6 hown hK hP 200 (up_n (by decide) (up_s _ _ _)) rfl 8 (by decide) hf26 (fun _ h9 => h9) rfl dX6_setShift_89 ?_
            refine lv_iload_n (pc := 92) hx hb dX6_setShift_92 rfl (lv_at hl 2 rfl) ?_
            refine lv_iload_n (pc := 93) hx hb dX6_setShift_93 rfl (lv_at hl 3 rfl) ?_
            refine k_iast (pc := 94) (w1 := (up (up (up w 200 (oB 6 [.int (iI 0), .int (iI (sc 0)), .ref (ad 201), .ref (ad 202), .ref (ad 203), .ref (ad 204), .int (iI ((sc 1) + 1)), .ref (ad 205), .ref (ad 206), .ref (ad 207), .ref (ad 208), .ref (ad 209), .int (iI (sc 2)), .int (iI (sc 3)), .int (iI (sc 4)), .ref (ad 210), .int (iI fr), .ref (ad 211), .ref (ad 212)])) 205 (eI (cA 1) 400 (updI us d 1))) 206 (eI (cA 0) 400 (updI ut d sv)))) hx hb hK hP hD hS 206 0 (up_n (by decide) (up_n (by decide) k6)) rfl (by omega) (by omega) (by omega) rfl dX6_setShift_94 (fun H locs hP hD hS => ?_)
            refine lv_aload_n (pc := 95) hx hb dX6_setShift_95 rfl (lv_at hl 1 rfl) ?_
            refine k_iconst (pc := 96) hx hb dX6_setShift_96 ?_
            refine k_put (pc := 97) (ci := 6) (C := RX6) (T := TX6) (N := 19) (ty := .boolean) (v := .int (iI 0)) (w1 := (up (up (up w 200 (oB 6 [.int (iI 0), .int (iI (sc 0)), .ref (ad 201), .ref (ad 202), .ref (ad 203), .ref (ad 204), .int (iI ((sc 1) + 1)), .ref (ad 205), .ref (ad 206), .ref (ad 207), .ref (ad 208), .ref (ad 209), .int (iI (sc 2)), .int (iI (sc 3)), .int (iI (sc 4)), .ref (ad 210), .int (iI 0), .ref (ad 211), .ref (ad 212)])) 205 (eI (cA 1) 400 (updI us d 1))) 206 (eI (cA 0) 400 (updI ut d sv)))) hx hb hts hi6 tyX6 tyX6_ok nmX6 hown hK hP hD hS 200 (up_n (by decide) (up_n (by decide) (up_s _ _ _))) rfl 16 (by decide) hf77 (fun _ h9 => h9) rfl (by decide +kernel) (by decide +kernel) rfl (Nat.le_of_ble_eq_true rfl) ((up_co _ _ _ (by decide)).trans (congrArg (fun u => up u 206 _) ((up_co _ _ _ (by decide)).trans (congrArg (fun u => up u 205 _) (up_up _ _ _ _))))) dX6_setShift_97 (fun H locs hP hD hS => ?_)
            refine lv_iload_n (pc := 100) hx hb dX6_setShift_100 rfl (lv_at hl 0 rfl) ?_
            have hne_ : ¬ (k9_ < sc 1 ∧ fn 0 k9_ = d) := fun z => by have := (hmu.2 k9_ hk9_.1 z.1).1; rw [z.2] at this; omega
            rw [hQ9]
            exact W.iret (v := iI (sftF (fn 0) (fn 1) (sc 1) d)) hx hb hret (fun t ht hW => ⟨⟨some (.int (iI (sftF (fn 0) (fn 1) (sc 1) d))), ad, (up (up (up w 200 (oB 6 [.int (iI 0), .int (iI (sc 0)), .ref (ad 201), .ref (ad 202), .ref (ad 203), .ref (ad 204), .int (iI ((sc 1) + 1)), .ref (ad 205), .ref (ad 206), .ref (ad 207), .ref (ad 208), .ref (ad 209), .int (iI (sc 2)), .int (iI (sc 3)), .int (iI (sc 4)), .ref (ad 210), .int (iI 0), .ref (ad 211), .ref (ad 212)])) 205 (eI (cA 1) 400 (updI us d 1))) 206 (eI (cA 0) 400 (updI ut d sv))), rfl, ⟨0, (upS sc 1 (sc 1 + 1)), (upF (upF fn 0 (insF (fn 0) (sc 1) k9_ d)) 1 (insF (fn 1) (sc 1) k9_ sv)), ⟨0, G1, G2, (updI us d 1), (updI ut d sv), ub, S, F, ⟨(up_n (by decide) (up_n (by decide) (up_s _ _ _))), (up_n (by decide) (up_n (by decide) (up_n (by decide) k1))), (up_n (by decide) (up_n (by decide) (up_n (by decide) k2))), (up_n (by decide) (up_n (by decide) (up_n (by decide) k3))), (up_n (by decide) (up_n (by decide) (up_n (by decide) k4))), (up_n (by decide) (up_s _ _ _)), (up_s _ _ _), (up_n (by decide) (up_n (by decide) (up_n (by decide) k7))), (up_n (by decide) (up_n (by decide) (up_n (by decide) k8))), (up_n (by decide) (up_n (by decide) (up_n (by decide) k9))), (up_n (by decide) (up_n (by decide) (up_n (by decide) k10))), (up_n (by decide) (up_n (by decide) (up_n (by decide) k11))), (up_n (by decide) (up_n (by decide) (up_n (by decide) k12)))⟩, hG1, hG2, (upd_b hus (show (0 : Int) ≤ 1 ∧ (1 : Int) ≤ 1 by omega)), (upd_b hut (by omega)), hub, hS9, hF, (mdC_k hmc rfl (fun k => ⟨((upF_n (by omega)).trans (upF_n (by omega))), ((upF_n (by omega)).trans (upF_n (by omega)))⟩)), (md_ins hmu ⟨hk9_.1, hk9_.2.1⟩ (by omega) (by omega)), hmt, (Or.inl rfl)⟩, (inv_sh hI (by omega) (shOk_ins hI.2.1 (by omega) (by omega) hk9_ hne_)), ⟨rfl, fun r hr => ⟨(up_n (by omega) (up_n (by omega) (up_n (by omega) rfl))), rfl⟩⟩, Or.inl (⟨rfl, ⟨k9_, hk9_, by omega, Or.inr ⟨rfl, rfl, hne_, by omega⟩, rfl⟩⟩)⟩, by rw [ht]; exact hP, hD⟩, hS.F ht⟩) hS.2.2 dX6_setShift_101
        · skip
          refine lv_aload_n (pc := 50) hx hb dX6_setShift_50 rfl (lv_at hl 0 rfl) ?_
          refine k_iconst (pc := 51) hx hb dX6_setShift_51 ?_
          refine k_call1 (pc := 52) (va_runV (As := [.int (iI 2)]) (rest := []) ⟨hx, hb, hml, hown, hts⟩ (c_X6_fail l D cA ad (up w 200 (oB 6 [.int (iI 0), .int (iI (sc 0)), .ref (ad 201), .ref (ad 202), .ref (ad 203), .ref (ad 204), .int (iI (sc 1)), .ref (ad 205), .ref (ad 206), .ref (ad 207), .ref (ad 208), .ref (ad 209), .int (iI (sc 2)), .int (iI (sc 3)), .int (iI (sc 4)), .ref (ad 210), .int (iI fr), .ref (ad 211), .ref (ad 212)])) H.size 0 (sc 0) (sc 1) (sc 2) (sc 3) (sc 4) fr (up_s _ _ _) 2) (cwV 1 hts gX6_setShift_X6_fail rfl rfl rfl (by decide +kernel) ⟨Nat.le_of_ble_eq_true rfl, Nat.le_of_ble_eq_true rfl⟩) (gV_V hP hD hK hB hS hA hZ 200 (ci := 6) rfl (up_s _ _ _)) rfl rfl hl.1 rfl (lv_room (Nat.le_of_ble_eq_true rfl)) dX6_setShift_52 ⟨Nat.le_of_ble_eq_true rfl, Nat.le_of_ble_eq_true rfl⟩) hS (gA_sub hD hS hA) (fun v_52 ad_52 w_52 H locs hv_52 hP hD hS => ?_)
          obtain ⟨hv1, hv2, hv3⟩ := hv_52
          subst hv1
          rw [hv2, hv3] at hP hD
          rw [show up ((up w 200 (oB 6 [.int (iI 0), .int (iI (sc 0)), .ref (ad 201), .ref (ad 202), .ref (ad 203), .ref (ad 204), .int (iI (sc 1)), .ref (ad 205), .ref (ad 206), .ref (ad 207), .ref (ad 208), .ref (ad 209), .int (iI (sc 2)), .int (iI (sc 3)), .int (iI (sc 4)), .ref (ad 210), .int (iI fr), .ref (ad 211), .ref (ad 212)]))) 200 (oB 6 [.int (iI 2), .int (iI (sc 0)), .ref (ad 201), .ref (ad 202), .ref (ad 203), .ref (ad 204), .int (iI (sc 1)), .ref (ad 205), .ref (ad 206), .ref (ad 207), .ref (ad 208), .ref (ad 209), .int (iI (sc 2)), .int (iI (sc 3)), .int (iI (sc 4)), .ref (ad 210), .int (iI fr), .ref (ad 211), .ref (ad 212)]) = _ from (up_up _ _ _ _)] at hP hD
          refine W.eq (g2 := F0 m 55 ls [.int (iI 0)]) rfl ?_
          refine W.cs (cells' := 0) (slots' := 0) rfl rfl ?_
          rw [hQ9]
          exact W.iret (v := iI 0) hx hb hret (fun t ht hW => ⟨⟨some (.int (iI 0)), ad, (up w 200 (oB 6 [.int (iI 2), .int (iI (sc 0)), .ref (ad 201), .ref (ad 202), .ref (ad 203), .ref (ad 204), .int (iI (sc 1)), .ref (ad 205), .ref (ad 206), .ref (ad 207), .ref (ad 208), .ref (ad 209), .int (iI (sc 2)), .int (iI (sc 3)), .int (iI (sc 4)), .ref (ad 210), .int (iI fr), .ref (ad 211), .ref (ad 212)])), rfl, ⟨2, sc, fn, ⟨fr, G1, G2, us, ut, ub, S, F, ⟨(up_s _ _ _), (up_n (by decide) k1), (up_n (by decide) k2), (up_n (by decide) k3), (up_n (by decide) k4), (up_n (by decide) k5), (up_n (by decide) k6), (up_n (by decide) k7), (up_n (by decide) k8), (up_n (by decide) k9), (up_n (by decide) k10), (up_n (by decide) k11), (up_n (by decide) k12)⟩, hG1, hG2, hus, hut, hub, hS9, hF, hmc, hmu, hmt, hrk⟩, hI, ⟨rfl, fun r hr => ⟨(up_n (by omega) rfl), rfl⟩⟩, Or.inr (Or.inr (⟨rfl, rfl, rfl, rfl, ⟨by omega, k9_, hk9_, (fun z => by have := (hmu.2 k9_ hk9_.1 z.1).1; rw [z.2] at this; omega), by omega⟩⟩))⟩, by rw [ht]; exact hP, hD⟩, hS.F ht⟩) hS.2.2 dX6_setShift_55
    · skip
      refine lv_aload_n (pc := 26) hx hb dX6_setShift_26 rfl (lv_at hl 0 rfl) ?_
      refine k_iconst (pc := 27) hx hb dX6_setShift_27 ?_
      refine k_call1 (pc := 28) (va_runV (As := [.int (iI 1)]) (rest := []) ⟨hx, hb, hml, hown, hts⟩ (c_X6_fail l D cA ad (up w 200 (oB 6 [.int (iI 0), .int (iI (sc 0)), .ref (ad 201), .ref (ad 202), .ref (ad 203), .ref (ad 204), .int (iI (sc 1)), .ref (ad 205), .ref (ad 206), .ref (ad 207), .ref (ad 208), .ref (ad 209), .int (iI (sc 2)), .int (iI (sc 3)), .int (iI (sc 4)), .ref (ad 210), .int (iI fr), .ref (ad 211), .ref (ad 212)])) H.size 0 (sc 0) (sc 1) (sc 2) (sc 3) (sc 4) fr (up_s _ _ _) 1) (cwV 1 hts gX6_setShift_X6_fail rfl rfl rfl (by decide +kernel) ⟨Nat.le_of_ble_eq_true rfl, Nat.le_of_ble_eq_true rfl⟩) (gV_V hP hD hK hB hS hA hZ 200 (ci := 6) rfl (up_s _ _ _)) rfl rfl hl.1 rfl (lv_room (Nat.le_of_ble_eq_true rfl)) dX6_setShift_28 ⟨Nat.le_of_ble_eq_true rfl, Nat.le_of_ble_eq_true rfl⟩) hS (gA_sub hD hS hA) (fun v_28 ad_28 w_28 H locs hv_28 hP hD hS => ?_)
      obtain ⟨hv1, hv2, hv3⟩ := hv_28
      subst hv1
      rw [hv2, hv3] at hP hD
      rw [show up ((up w 200 (oB 6 [.int (iI 0), .int (iI (sc 0)), .ref (ad 201), .ref (ad 202), .ref (ad 203), .ref (ad 204), .int (iI (sc 1)), .ref (ad 205), .ref (ad 206), .ref (ad 207), .ref (ad 208), .ref (ad 209), .int (iI (sc 2)), .int (iI (sc 3)), .int (iI (sc 4)), .ref (ad 210), .int (iI fr), .ref (ad 211), .ref (ad 212)]))) 200 (oB 6 [.int (iI 1), .int (iI (sc 0)), .ref (ad 201), .ref (ad 202), .ref (ad 203), .ref (ad 204), .int (iI (sc 1)), .ref (ad 205), .ref (ad 206), .ref (ad 207), .ref (ad 208), .ref (ad 209), .int (iI (sc 2)), .int (iI (sc 3)), .int (iI (sc 4)), .ref (ad 210), .int (iI fr), .ref (ad 211), .ref (ad 212)]) = _ from (up_up _ _ _ _)] at hP hD
      refine W.eq (g2 := F0 m 31 ls [.int (iI 0)]) rfl ?_
      refine W.cs (cells' := 0) (slots' := 0) rfl rfl ?_
      rw [hQ9]
      exact W.iret (v := iI 0) hx hb hret (fun t ht hW => ⟨⟨some (.int (iI 0)), ad, (up w 200 (oB 6 [.int (iI 1), .int (iI (sc 0)), .ref (ad 201), .ref (ad 202), .ref (ad 203), .ref (ad 204), .int (iI (sc 1)), .ref (ad 205), .ref (ad 206), .ref (ad 207), .ref (ad 208), .ref (ad 209), .int (iI (sc 2)), .int (iI (sc 3)), .int (iI (sc 4)), .ref (ad 210), .int (iI fr), .ref (ad 211), .ref (ad 212)])), rfl, ⟨1, sc, fn, ⟨fr, G1, G2, us, ut, ub, S, F, ⟨(up_s _ _ _), (up_n (by decide) k1), (up_n (by decide) k2), (up_n (by decide) k3), (up_n (by decide) k4), (up_n (by decide) k5), (up_n (by decide) k6), (up_n (by decide) k7), (up_n (by decide) k8), (up_n (by decide) k9), (up_n (by decide) k10), (up_n (by decide) k11), (up_n (by decide) k12)⟩, hG1, hG2, hus, hut, hub, hS9, hF, hmc, hmu, hmt, hrk⟩, hI, ⟨rfl, fun r hr => ⟨(up_n (by omega) rfl), rfl⟩⟩, Or.inr (Or.inl (⟨rfl, rfl, rfl, rfl, by omega⟩))⟩, by rw [ht]; exact hP, hD⟩, hS.F ht⟩) hS.2.2 dX6_setShift_31
