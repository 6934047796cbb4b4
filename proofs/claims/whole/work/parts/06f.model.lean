abbrev rmX6_state : Room := { frames := 2, cells := 0, slots := 0, locals := 51 }
theorem hiX6_state_6 : ∀ w ∈ wsX60, w ∈ wsX6_state := by decide +kernel
set_option maxHeartbeats 4000000 in
set_option maxRecDepth 100000 in
theorem c_X6_state (l : Launch) (D : va_G) (cA : Nat → ClassId) (ad : Nat → Nat) (w : Nat → Option va_E) (sz : Nat) (th : Int) (sc : Nat → Int) (fn : Nat → Int → Int) (hI : bkInv sc fn) (hmd : mdS cA ad w th sc fn) (d : Int) (hd : (-2147483648 ≤ d ∧ d < 2147483648)) : Met l yX6_state wsX6_state rmX6_state (gV D cA ad w sz [.ref (ad 200), .int (iI d)]) (gW D (fun v9 ad1 w1 => ∃ (th2 : Int) (sc2 : Nat → Int) (fn2 : Nat → Int → Int), mdS cA ad1 w1 th2 sc2 fn2 ∧ bkInv sc2 fn2 ∧ keepM ad ad1 w w1 ∧ ((th2 = 0 ∧ (sc2 = sc ∧ fn2 = fn ∧ 0 ≤ d ∧ d < 400 ∧ v9 = some (.int (iI (tbS sc fn d))))) ∨ (th2 = 1 ∧ v9 = some (.int (iI 0)) ∧ sc2 = sc ∧ fn2 = fn ∧ (¬ (0 ≤ d ∧ d < 400))))) (gA ad w sz)) 0 0 (gA ad w sz) := by
  refine Met.ofW (cc := cX6_state) (maxL := 2) (ret := (some .int)) (by decide) rfl ?_
  intro p e s m args below meth c s₁ B hml hv
  obtain ⟨hav, hsz, hP, hD0, hK, hB, hZ⟩ := hv
  have hx := B.exec
  have hb := B.bytes
  have hret := B.returns
  have hts := atoms_spec (ws := wsX6_state) B.pre
  have hown : s.vm.findClass RX6 = some m.cls := findClass_of_methodNamed B.named
  have hlocks := B.notSynchronized
  subst hsz
  have hD := hD0.self (sz := s.heap.size)
  generalize hAe : gA ad w s.heap.size = A at hD hZ ⊢
  have hA : ∀ q : Nat, s.heap.size ≤ q → A q := fun q h => by rw [← hAe]; exact Or.inr h
  have hS : va_S A s.heap s.heap [] := va_S.rf
  have hi6 := hiX6_state_6
  have hf48 := hts (.fieldLink RX6 48 "GaugeBookModel" "states" "[I") (by decide +kernel)
  have hf55 := hts (.fieldLink RX6 55 "GaugeBookModel" "thrown" "I") (by decide +kernel)
  have he9 : entryFrame m args 2 = F0 m 0 ((lg_sl ([.ref (ad 200), .int (iI d)] : List Value) ++ List.replicate (2 - (lg_sl ([.ref (ad 200), .int (iI d)] : List Value)).length) Slot.unset).toArray) [] := by rw [hav, lg_entry_eq]
  rw [he9]
  have hl := lv_entry ([.ref (ad 200), .int (iI d)] : List Value) (n := 2) (Nat.le_of_ble_eq_true rfl)
  generalize (lg_sl ([.ref (ad 200), .int (iI d)] : List Value) ++ List.replicate (2 - (lg_sl ([.ref (ad 200), .int (iI d)] : List Value)).length) Slot.unset).toArray = ls at hl ⊢
  have hl : lv_has ls 2 [(0, .ref (ad 200)), (1, .int (iI d))] := hl
  obtain ⟨Q9, hQ9⟩ : ∃ z, z = MQ below (gW D (fun v9 ad1 w1 => ∃ (th2 : Int) (sc2 : Nat → Int) (fn2 : Nat → Int → Int), mdS cA ad1 w1 th2 sc2 fn2 ∧ bkInv sc2 fn2 ∧ keepM ad ad1 w w1 ∧ ((th2 = 0 ∧ (sc2 = sc ∧ fn2 = fn ∧ 0 ≤ d ∧ d < 400 ∧ v9 = some (.int (iI (tbS sc fn d))))) ∨ (th2 = 1 ∧ v9 = some (.int (iI 0)) ∧ sc2 = sc ∧ fn2 = fn ∧ (¬ (0 ≤ d ∧ d < 400))))) A) args s 0 0 A := ⟨_, rfl⟩
  rw [← hQ9]
  show W p l e rmX6_state s m args below meth c s.heap [] 0 0 Q9 (F0 m 0 ls [])
  obtain ⟨H, hHe⟩ : ∃ z, z = s.heap := ⟨_, rfl⟩
  obtain ⟨locs, hLe⟩ : ∃ z, z = ([] : List Loc) := ⟨_, rfl⟩
  have hP : gP D vwCl ad w H := by rw [hHe]; exact hP
  have hS : va_S A s.heap H locs := by rw [hHe, hLe]; exact va_S.rf
  rw [show W p l e rmX6_state s m args below meth c s.heap [] 0 0 Q9 (F0 m 0 ls []) = W p l e rmX6_state s m args below meth c H locs 0 0 Q9 (F0 m 0 ls []) by rw [hHe, hLe]]
  clear hHe hLe
  obtain ⟨fr, G1, G2, us, ut, ub, S, F, ⟨k0, k1, k2, k3, k4, k5, k6, k7, k8, k9, k10, k11, k12⟩, hG1, hG2, hus, hut, hub, hS9, hF, hmc, hmu, hmt, hrk⟩ := hmd
  have hI1 := hI.1
  refine lv_aload_n (pc := 0) hx hb dX6_state_0 rfl (lv_at hl 0 rfl) ?_
  refine k_iconst (pc := 1) hx hb dX6_state_1 ?_
  refine k_put (pc := 2) (ci := 6) (C := RX6) (T := TX6) (N := 19) (ty := .int) (v := .int (iI 0)) (w1 := (up w 200 (oB 6 [.int (iI 0), .int (iI (sc 0)), .ref (ad 201), .ref (ad 202), .ref (ad 203), .ref (ad 204), .int (iI (sc 1)), .ref (ad 205), .ref (ad 206), .ref (ad 207), .ref (ad 208), .ref (ad 209), .int (iI (sc 2)), .int (iI (sc 3)), .int (iI (sc 4)), .ref (ad 210), .int (iI fr), .ref (ad 211), .ref (ad 212)]))) hx hb hts hi6 tyX6 tyX6_ok nmX6 hown hK hP hD hS 200 k0 rfl 0 (by decide) hf55 (fun _ h9 => h9) rfl (by decide +kernel) rfl rfl (Nat.le_of_ble_eq_true rfl) rfl dX6_state_2 (fun H locs hP hD hS => ?_)
  refine lv_iload_n (pc := 5) hx hb dX6_state_5 rfl (lv_at hl 1 rfl) ?_
  refine k_call0 (pc := 6) (va_runS (As := [.int (iI d)]) (rest := []) ⟨hx, hb, hml, hown, hts⟩ (c_X6_isDay l D cA ad (up w 200 (oB 6 [.int (iI 0), .int (iI (sc 0)), .ref (ad 201), .ref (ad 202), .ref (ad 203), .ref (ad 204), .int (iI (sc 1)), .ref (ad 205), .ref (ad 206), .ref (ad 207), .ref (ad 208), .ref (ad 209), .int (iI (sc 2)), .int (iI (sc 3)), .int (iI (sc 4)), .ref (ad 210), .int (iI fr), .ref (ad 211), .ref (ad 212)])) d (by omega)) (va_cwS 1 hts gX6_state_X6_isDay rfl rfl rfl (by decide +kernel) ⟨Nat.le_of_ble_eq_true rfl, Nat.le_of_ble_eq_true rfl⟩) (gR_S hP hK hB) rfl rfl hl.1 rfl (lv_room (Nat.le_of_ble_eq_true rfl)) dX6_state_6 ⟨Nat.le_of_ble_eq_true rfl, Nat.le_of_ble_eq_true rfl⟩) (fun v_6 hv_6 => ?_)
  obtain ⟨z_6, rfl, hz_6⟩ := hv_6
  refine W.eq (g2 := F0 m 9 ls [.int (iI z_6)]) rfl ?_
  refine k_if_ne (pc := 9) (tgt := 18) hx hb ⟨by omega, by omega⟩ dX6_state_9 (by decide) (fun hc_9 => ?_) (fun hc_9 => ?_)
  · skip
    refine lv_aload_n (pc := 18) hx hb dX6_state_18 rfl (lv_at hl 0 rfl) ?_
    refine k_call1 (pc := 19) (va_runV (As := []) (rest := []) ⟨hx, hb, hml, hown, hts⟩ (c_X6_workOut l D cA ad (up w 200 (oB 6 [.int (iI 0), .int (iI (sc 0)), .ref (ad 201), .ref (ad 202), .ref (ad 203), .ref (ad 204), .int (iI (sc 1)), .ref (ad 205), .ref (ad 206), .ref (ad 207), .ref (ad 208), .ref (ad 209), .int (iI (sc 2)), .int (iI (sc 3)), .int (iI (sc 4)), .ref (ad 210), .int (iI fr), .ref (ad 211), .ref (ad 212)])) H.size sc fn 0 fr G1 G2 us ut ub S F hI (up_s _ _ _) (up_n (by decide) k1) (up_n (by decide) k2) (up_n (by decide) k3) (up_n (by decide) k4) (up_n (by decide) k5) (up_n (by decide) k6) (up_n (by decide) k7) (up_n (by decide) k8) (up_n (by decide) k9) (up_n (by decide) k10) (up_n (by decide) k11) (up_n (by decide) k12) hG1 hG2 hus hut hub hS9 hF hmc hmu hrk) (cwV 0 hts gX6_state_X6_workOut rfl rfl rfl (by decide +kernel) ⟨Nat.le_of_ble_eq_true rfl, Nat.le_of_ble_eq_true rfl⟩) (gV_V hP hD hK hB hS hA hZ 200 (ci := 6) rfl (up_s _ _ _)) rfl rfl hl.1 rfl (lv_room (Nat.le_of_ble_eq_true rfl)) dX6_state_19 ⟨Nat.le_of_ble_eq_true rfl, Nat.le_of_ble_eq_true rfl⟩) hS (gA_sub hD hS hA) (fun v_19 ad_19 w_19 H locs hv_19 hP hD hS => ?_)
    obtain ⟨hv1, hv2, hv3⟩ := hv_19
    subst hv1
    rw [hv2, hv3] at hP hD
    rw [show up ((up w 200 (oB 6 [.int (iI 0), .int (iI (sc 0)), .ref (ad 201), .ref (ad 202), .ref (ad 203), .ref (ad 204), .int (iI (sc 1)), .ref (ad 205), .ref (ad 206), .ref (ad 207), .ref (ad 208), .ref (ad 209), .int (iI (sc 2)), .int (iI (sc 3)), .int (iI (sc 4)), .ref (ad 210), .int (iI fr), .ref (ad 211), .ref (ad 212)]))) 200 (oB 6 [.int (iI 0), .int (iI (sc 0)), .ref (ad 201), .ref (ad 202), .ref (ad 203), .ref (ad 204), .int (iI (sc 1)), .ref (ad 205), .ref (ad 206), .ref (ad 207), .ref (ad 208), .ref (ad 209), .int (iI (sc 2)), .int (iI (sc 3)), .int (iI (sc 4)), .ref (ad 210), .int (iI 1), .ref (ad 211), .ref (ad 212)]) = _ from (up_up _ _ _ _)] at hP hD
    refine W.eq (g2 := F0 m 22 ls []) rfl ?_
    refine W.cs (cells' := 0) (slots' := 0) rfl rfl ?_
    refine lv_aload_n (pc := 22) hx hb dX6_state_22 rfl (lv_at hl 0 rfl) ?_
    refine k_get (pc := 23) (ci := 6) (C := RX6) (T := TX6) (N := 19) hx hb hts hi6 hown hK hP 200 (up_n (by decide) (up_n (by decide) (up_s _ _ _))) rfl 17 (by decide) hf48 (fun _ h9 => h9) rfl dX6_state_23 ?_
    refine lv_iload_n (pc := 26) hx hb dX6_state_26 rfl (lv_at hl 1 rfl) ?_
    refine k_iald (pc := 27) hx hb hK hP 211 0 (up_n (by decide) (up_s _ _ _)) rfl (by omega) (by omega) (by omega) dX6_state_27 ?_
    have hq_27 := (tbOk_tb hI).2.1 d
    rw [hQ9]
    exact W.iret (v := iI ((tbS sc fn) d)) hx hb hret (fun t ht hW => ⟨⟨some (.int (iI ((tbS sc fn) d))), ad, (up (up (up w 200 (oB 6 [.int (iI 0), .int (iI (sc 0)), .ref (ad 201), .ref (ad 202), .ref (ad 203), .ref (ad 204), .int (iI (sc 1)), .ref (ad 205), .ref (ad 206), .ref (ad 207), .ref (ad 208), .ref (ad 209), .int (iI (sc 2)), .int (iI (sc 3)), .int (iI (sc 4)), .ref (ad 210), .int (iI 1), .ref (ad 211), .ref (ad 212)])) 211 (eI (cA 0) 400 (tbS sc fn))) 212 (eJ (cA 2) 400 (tbF sc fn))), rfl, ⟨0, sc, fn, ⟨1, G1, G2, us, ut, ub, (tbS sc fn), (tbF sc fn), ⟨(up_n (by decide) (up_n (by decide) (up_s _ _ _))), (up_n (by decide) (up_n (by decide) (up_n (by decide) k1))), (up_n (by decide) (up_n (by decide) (up_n (by decide) k2))), (up_n (by decide) (up_n (by decide) (up_n (by decide) k3))), (up_n (by decide) (up_n (by decide) (up_n (by decide) k4))), (up_n (by decide) (up_n (by decide) (up_n (by decide) k5))), (up_n (by decide) (up_n (by decide) (up_n (by decide) k6))), (up_n (by decide) (up_n (by decide) (up_n (by decide) k7))), (up_n (by decide) (up_n (by decide) (up_n (by decide) k8))), (up_n (by decide) (up_n (by decide) (up_n (by decide) k9))), (up_n (by decide) (up_n (by decide) (up_n (by decide) k10))), (up_n (by decide) (up_s _ _ _)), (up_s _ _ _)⟩, hG1, hG2, hus, hut, hub, (tbOk_tb hI).2.1, (tbOk_tb hI).1, hmc, hmu, hmt, (Or.inr ⟨rfl, rfl, rfl⟩)⟩, hI, ⟨rfl, fun r hr => ⟨(up_n (by omega) (up_n (by omega) (up_n (by omega) rfl))), rfl⟩⟩, Or.inl (⟨rfl, ⟨rfl, rfl, by omega, by omega, rfl⟩⟩)⟩, by rw [ht]; exact hP, hD⟩, hS.F ht⟩) hS.2.2 dX6_state_28
  · skip
    refine lv_aload_n (pc := 12) hx hb dX6_state_12 rfl (lv_at hl 0 rfl) ?_
    refine k_iconst (pc := 13) hx hb dX6_state_13 ?_
    refine k_call1 (pc := 14) (va_runV (As := [.int (iI 1)]) (rest := []) ⟨hx, hb, hml, hown, hts⟩ (c_X6_fail l D cA ad (up w 200 (oB 6 [.int (iI 0), .int (iI (sc 0)), .ref (ad 201), .ref (ad 202), .ref (ad 203), .ref (ad 204), .int (iI (sc 1)), .ref (ad 205), .ref (ad 206), .ref (ad 207), .ref (ad 208), .ref (ad 209), .int (iI (sc 2)), .int (iI (sc 3)), .int (iI (sc 4)), .ref (ad 210), .int (iI fr), .ref (ad 211), .ref (ad 212)])) H.size 0 (sc 0) (sc 1) (sc 2) (sc 3) (sc 4) fr (up_s _ _ _) 1) (cwV 1 hts gX6_state_X6_fail rfl rfl rfl (by decide +kernel) ⟨Nat.le_of_ble_eq_true rfl, Nat.le_of_ble_eq_true rfl⟩) (gV_V hP hD hK hB hS hA hZ 200 (ci := 6) rfl (up_s _ _ _)) rfl rfl hl.1 rfl (lv_room (Nat.le_of_ble_eq_true rfl)) dX6_state_14 ⟨Nat.le_of_ble_eq_true rfl, Nat.le_of_ble_eq_true rfl⟩) hS (gA_sub hD hS hA) (fun v_14 ad_14 w_14 H locs hv_14 hP hD hS => ?_)
    obtain ⟨hv1, hv2, hv3⟩ := hv_14
    subst hv1
    rw [hv2, hv3] at hP hD
    rw [show up ((up w 200 (oB 6 [.int (iI 0), .int (iI (sc 0)), .ref (ad 201), .ref (ad 202), .ref (ad 203), .ref (ad 204), .int (iI (sc 1)), .ref (ad 205), .ref (ad 206), .ref (ad 207), .ref (ad 208), .ref (ad 209), .int (iI (sc 2)), .int (iI (sc 3)), .int (iI (sc 4)), .ref (ad 210), .int (iI fr), .ref (ad 211), .ref (ad 212)]))) 200 (oB 6 [.int (iI 1), .int (iI (sc 0)), .ref (ad 201), .ref (ad 202), .ref (ad 203), .ref (ad 204), .int (iI (sc 1)), .ref (ad 205), .ref (ad 206), .ref (ad 207), .ref (ad 208), .ref (ad 209), .int (iI (sc 2)), .int (iI (sc 3)), .int (iI (sc 4)), .ref (ad 210), .int (iI fr), .ref (ad 211), .ref (ad 212)]) = _ from (up_up _ _ _ _)] at hP hD
    refine W.eq (g2 := F0 m 17 ls [.int (iI 0)]) rfl ?_
    refine W.cs (cells' := 0) (slots' := 0) rfl rfl ?_
    rw [hQ9]
    exact W.iret (v := iI 0) hx hb hret (fun t ht hW => ⟨⟨some (.int (iI 0)), ad, (up w 200 (oB 6 [.int (iI 1), .int (iI (sc 0)), .ref (ad 201), .ref (ad 202), .ref (ad 203), .ref (ad 204), .int (iI (sc 1)), .ref (ad 205), .ref (ad 206), .ref (ad 207), .ref (ad 208), .ref (ad 209), .int (iI (sc 2)), .int (iI (sc 3)), .int (iI (sc 4)), .ref (ad 210), .int (iI fr), .ref (ad 211), .ref (ad 212)])), rfl, ⟨1, sc, fn, ⟨fr, G1, G2, us, ut, ub, S, F, ⟨(up_s _ _ _), (up_n (by decide) k1), (up_n (by decide) k2), (up_n (by decide) k3), (up_n (by decide) k4), (up_n (by decide) k5), (up_n (by decide) k6), (up_n (by decide) k7), (up_n (by decide) k8), (up_n (by decide) k9), (up_n (by decide) k10), (up_n (by decide) k11), (up_n (by decide) k12)⟩, hG1, hG2, hus, hut, hub, hS9, hF, hmc, hmu, hmt, hrk⟩, hI, ⟨rfl, fun r hr => ⟨(up_n (by omega) rfl), rfl⟩⟩, Or.inr (⟨rfl, rfl, rfl, rfl, by omega⟩)⟩, by rw [ht]; exact hP, hD⟩, hS.F ht⟩) hS.2.2 dX6_state_17

abbrev rmX6_flow : Room := { frames := 2, cells := 0, slots := 0, locals := 51 }
theorem hiX6_flow_6 : ∀ w ∈ wsX60, w ∈ wsX6_flow := by decide +kernel
set_option maxHeartbeats 4000000 in
set_option maxRecDepth 100000 in
theorem c_X6_flow (l : Launch) (D : va_G) (cA : Nat → ClassId) (ad : Nat → Nat) (w : Nat → Option va_E) (sz : Nat) (th : Int) (sc : Nat → Int) (fn : Nat → Int → Int) (hI : bkInv sc fn) (hmd : mdS cA ad w th sc fn) (d : Int) (hd : (-2147483648 ≤ d ∧ d < 2147483648)) : Met l yX6_flow wsX6_flow rmX6_flow (gV D cA ad w sz [.ref (ad 200), .int (iI d)]) (gW D (fun v9 ad1 w1 => ∃ (th2 : Int) (sc2 : Nat → Int) (fn2 : Nat → Int → Int), mdS cA ad1 w1 th2 sc2 fn2 ∧ bkInv sc2 fn2 ∧ keepM ad ad1 w w1 ∧ ((th2 = 0 ∧ (sc2 = sc ∧ fn2 = fn ∧ 0 ≤ d ∧ d < 400 ∧ v9 = some (.long (lI (tbF sc fn d))))) ∨ (th2 = 1 ∧ v9 = some (.long (lI 0)) ∧ sc2 = sc ∧ fn2 = fn ∧ (¬ (0 ≤ d ∧ d < 400))))) (gA ad w sz)) 0 0 (gA ad w sz) := by
  refine Met.ofW (cc := cX6_flow) (maxL := 2) (ret := (some .long)) (by decide) rfl ?_
  intro p e s m args below meth c s₁ B hml hv
  obtain ⟨hav, hsz, hP, hD0, hK, hB, hZ⟩ := hv
  have hx := B.exec
  have hb := B.bytes
  have hret := B.returns
  have hts := atoms_spec (ws := wsX6_flow) B.pre
  have hown : s.vm.findClass RX6 = some m.cls := findClass_of_methodNamed B.named
  have hlocks := B.notSynchronized
  subst hsz
  have hD := hD0.self (sz := s.heap.size)
  generalize hAe : gA ad w s.heap.size = A at hD hZ ⊢
  have hA : ∀ q : Nat, s.heap.size ≤ q → A q := fun q h => by rw [← hAe]; exact Or.inr h
  have hS : va_S A s.heap s.heap [] := va_S.rf
  have hi6 := hiX6_flow_6
  have hf51 := hts (.fieldLink RX6 51 "GaugeBookModel" "worked" "[J") (by decide +kernel)
  have hf55 := hts (.fieldLink RX6 55 "GaugeBookModel" "thrown" "I") (by decide +kernel)
  have he9 : entryFrame m args 2 = F0 m 0 ((lg_sl ([.ref (ad 200), .int (iI d)] : List Value) ++ List.replicate (2 - (lg_sl ([.ref (ad 200), .int (iI d)] : List Value)).length) Slot.unset).toArray) [] := by rw [hav, lg_entry_eq]
  rw [he9]
  have hl := lv_entry ([.ref (ad 200), .int (iI d)] : List Value) (n := 2) (Nat.le_of_ble_eq_true rfl)
  generalize (lg_sl ([.ref (ad 200), .int (iI d)] : List Value) ++ List.replicate (2 - (lg_sl ([.ref (ad 200), .int (iI d)] : List Value)).length) Slot.unset).toArray = ls at hl ⊢
  have hl : lv_has ls 2 [(0, .ref (ad 200)), (1, .int (iI d))] := hl
  obtain ⟨Q9, hQ9⟩ : ∃ z, z = MQ below (gW D (fun v9 ad1 w1 => ∃ (th2 : Int) (sc2 : Nat → Int) (fn2 : Nat → Int → Int), mdS cA ad1 w1 th2 sc2 fn2 ∧ bkInv sc2 fn2 ∧ keepM ad ad1 w w1 ∧ ((th2 = 0 ∧ (sc2 = sc ∧ fn2 = fn ∧ 0 ≤ d ∧ d < 400 ∧ v9 = some (.long (lI (tbF sc fn d))))) ∨ (th2 = 1 ∧ v9 = some (.long (lI 0)) ∧ sc2 = sc ∧ fn2 = fn ∧ (¬ (0 ≤ d ∧ d < 400))))) A) args s 0 0 A := ⟨_, rfl⟩
  rw [← hQ9]
  show W p l e rmX6_flow s m args below meth c s.heap [] 0 0 Q9 (F0 m 0 ls [])
  obtain ⟨H, hHe⟩ : ∃ z, z = s.heap := ⟨_, rfl⟩
  obtain ⟨locs, hLe⟩ : ∃ z, z = ([] : List Loc) := ⟨_, rfl⟩
  have hP : gP D vwCl ad w H := by rw [hHe]; exact hP
  have hS : va_S A s.heap H locs := by rw [hHe, hLe]; exact va_S.rf
  rw [show W p l e rmX6_flow s m args below meth c s.heap [] 0 0 Q9 (F0 m 0 ls []) = W p l e rmX6_flow s m args below meth c H locs 0 0 Q9 (F0 m 0 ls []) by rw [hHe, hLe]]
  clear hHe hLe
  obtain ⟨fr, G1, G2, us, ut, ub, S, F, ⟨k0, k1, k2, k3, k4, k5, k6, k7, k8, k9, k10, k11, k12⟩, hG1, hG2, hus, hut, hub, hS9, hF, hmc, hmu, hmt, hrk⟩ := hmd
  have hI1 := hI.1
  refine lv_aload_n (pc := 0) hx hb dX6_flow_0 rfl (lv_at hl 0 rfl) ?_
  refine lv_iload_n (pc := 1) hx hb dX6_flow_1 rfl (lv_at hl 1 rfl) ?_
  refine k_call0 (pc := 2) (va_runS (As := [.int (iI d)]) (rest := [.ref (ad 200)]) ⟨hx, hb, hml, hown, hts⟩ (c_X6_isDay l D cA ad w d (by omega)) (va_cwS 1 hts gX6_flow_X6_isDay rfl rfl rfl (by decide +kernel) ⟨Nat.le_of_ble_eq_true rfl, Nat.le_of_ble_eq_true rfl⟩) (gR_S hP hK hB) rfl rfl hl.1 rfl (lv_room (Nat.le_of_ble_eq_true rfl)) dX6_flow_2 ⟨Nat.le_of_ble_eq_true rfl, Nat.le_of_ble_eq_true rfl⟩) (fun v_2 hv_2 => ?_)
  obtain ⟨z_2, rfl, hz_2⟩ := hv_2
  refine W.eq (g2 := F0 m 5 ls [.int (iI z_2), .ref (ad 200)]) rfl ?_
  refine k_if_eq (pc := 5) (tgt := 12) hx hb ⟨by omega, by omega⟩ dX6_flow_5 (by decide) (fun hc_5 => ?_) (fun hc_5 => ?_)
  · skip
    refine k_iconst (pc := 12) hx hb dX6_flow_12 ?_
    refine k_put (pc := 13) (ci := 6) (C := RX6) (T := TX6) (N := 19) (ty := .int) (v := .int (iI 1)) (w1 := (up w 200 (oB 6 [.int (iI 1), .int (iI (sc 0)), .ref (ad 201), .ref (ad 202), .ref (ad 203), .ref (ad 204), .int (iI (sc 1)), .ref (ad 205), .ref (ad 206), .ref (ad 207), .ref (ad 208), .ref (ad 209), .int (iI (sc 2)), .int (iI (sc 3)), .int (iI (sc 4)), .ref (ad 210), .int (iI fr), .ref (ad 211), .ref (ad 212)]))) hx hb hts hi6 tyX6 tyX6_ok nmX6 hown hK hP hD hS 200 k0 rfl 0 (by decide) hf55 (fun _ h9 => h9) rfl (by decide +kernel) rfl rfl (Nat.le_of_ble_eq_true rfl) rfl dX6_flow_13 (fun H locs hP hD hS => ?_)
    refine lv_aload_n (pc := 16) hx hb dX6_flow_16 rfl (lv_at hl 0 rfl) ?_
    refine k_get (pc := 17) (ci := 6) (C := RX6) (T := TX6) (N := 19) hx hb hts hi6 hown hK hP 200 (up_s _ _ _) rfl 0 (by decide) hf55 (fun _ h9 => h9) rfl dX6_flow_17 ?_
    refine k_if_eq (pc := 20) (tgt := 25) hx hb ⟨by omega, by omega⟩ dX6_flow_20 (by decide) (fun hc_20 => ?_) (fun hc_20 => ?_)
    · skip
      exfalso
      omega
    · skip
      refine k_lconst0 (pc := 23) hx hb dX6_flow_23 ?_
      rw [hQ9]
      exact W.lret (v := lI 0) hx hb hret (fun t ht hW => ⟨⟨some (.long (lI 0)), ad, (up w 200 (oB 6 [.int (iI 1), .int (iI (sc 0)), .ref (ad 201), .ref (ad 202), .ref (ad 203), .ref (ad 204), .int (iI (sc 1)), .ref (ad 205), .ref (ad 206), .ref (ad 207), .ref (ad 208), .ref (ad 209), .int (iI (sc 2)), .int (iI (sc 3)), .int (iI (sc 4)), .ref (ad 210), .int (iI fr), .ref (ad 211), .ref (ad 212)])), rfl, ⟨1, sc, fn, ⟨fr, G1, G2, us, ut, ub, S, F, ⟨(up_s _ _ _), (up_n (by decide) k1), (up_n (by decide) k2), (up_n (by decide) k3), (up_n (by decide) k4), (up_n (by decide) k5), (up_n (by decide) k6), (up_n (by decide) k7), (up_n (by decide) k8), (up_n (by decide) k9), (up_n (by decide) k10), (up_n (by decide) k11), (up_n (by decide) k12)⟩, hG1, hG2, hus, hut, hub, hS9, hF, hmc, hmu, hmt, hrk⟩, hI, ⟨rfl, fun r hr => ⟨(up_n (by omega) rfl), rfl⟩⟩, Or.inr (⟨rfl, rfl, rfl, rfl, by omega⟩)⟩, by rw [ht]; exact hP, hD⟩, hS.F ht⟩) hS.2.2 dX6_flow_24
  · skip
    refine k_iconst (pc := 8) hx hb dX6_flow_8 ?_
    refine lv_goto (pc := 9) (tgt := 13) hx hb dX6_flow_9 (by decide) ?_
    refine k_put (pc := 13) (ci := 6) (C := RX6) (T := TX6) (N := 19) (ty := .int) (v := .int (iI 0)) (w1 := (up w 200 (oB 6 [.int (iI 0), .int (iI (sc 0)), .ref (ad 201), .ref (ad 202), .ref (ad 203), .ref (ad 204), .int (iI (sc 1)), .ref (ad 205), .ref (ad 206), .ref (ad 207), .ref (ad 208), .ref (ad 209), .int (iI (sc 2)), .int (iI (sc 3)), .int (iI (sc 4)), .ref (ad 210), .int (iI fr), .ref (ad 211), .ref (ad 212)]))) hx hb hts hi6 tyX6 tyX6_ok nmX6 hown hK hP hD hS 200 k0 rfl 0 (by decide) hf55 (fun _ h9 => h9) rfl (by decide +kernel) rfl rfl (Nat.le_of_ble_eq_true rfl) rfl dX6_flow_13 (fun H locs hP hD hS => ?_)
    refine lv_aload_n (pc := 16) hx hb dX6_flow_16 rfl (lv_at hl 0 rfl) ?_
    refine k_get (pc := 17) (ci := 6) (C := RX6) (T := TX6) (N := 19) hx hb hts hi6 hown hK hP 200 (up_s _ _ _) rfl 0 (by decide) hf55 (fun _ h9 => h9) rfl dX6_flow_17 ?_
    refine k_if_eq (pc := 20) (tgt := 25) hx hb ⟨by omega, by omega⟩ dX6_flow_20 (by decide) (fun hc_20 => ?_) (fun hc_20 => ?_)
    · skip
      refine lv_aload_n (pc := 25) hx hb dX6_flow_25 rfl (lv_at hl 0 rfl) ?_
      refine k_call1 (pc := 26) (va_runV (As := []) (rest := []) ⟨hx, hb, hml, hown, hts⟩ (c_X6_workOut l D cA ad (up w 200 (oB 6 [.int (iI 0), .int (iI (sc 0)), .ref (ad 201), .ref (ad 202), .ref (ad 203), .ref (ad 204), .int (iI (sc 1)), .ref (ad 205), .ref (ad 206), .ref (ad 207), .ref (ad 208), .ref (ad 209), .int (iI (sc 2)), .int (iI (sc 3)), .int (iI (sc 4)), .ref (ad 210), .int (iI fr), .ref (ad 211), .ref (ad 212)])) H.size sc fn 0 fr G1 G2 us ut ub S F hI (up_s _ _ _) (up_n (by decide) k1) (up_n (by decide) k2) (up_n (by decide) k3) (up_n (by decide) k4) (up_n (by decide) k5) (up_n (by decide) k6) (up_n (by decide) k7) (up_n (by decide) k8) (up_n (by decide) k9) (up_n (by decide) k10) (up_n (by decide) k11) (up_n (by decide) k12) hG1 hG2 hus hut hub hS9 hF hmc hmu hrk) (cwV 0 hts gX6_flow_X6_workOut rfl rfl rfl (by decide +kernel) ⟨Nat.le_of_ble_eq_true rfl, Nat.le_of_ble_eq_true rfl⟩) (gV_V hP hD hK hB hS hA hZ 200 (ci := 6) rfl (up_s _ _ _)) rfl rfl hl.1 rfl (lv_room (Nat.le_of_ble_eq_true rfl)) dX6_flow_26 ⟨Nat.le_of_ble_eq_true rfl, Nat.le_of_ble_eq_true rfl⟩) hS (gA_sub hD hS hA) (fun v_26 ad_26 w_26 H locs hv_26 hP hD hS => ?_)
      obtain ⟨hv1, hv2, hv3⟩ := hv_26
      subst hv1
      rw [hv2, hv3] at hP hD
      rw [show up ((up w 200 (oB 6 [.int (iI 0), .int (iI (sc 0)), .ref (ad 201), .ref (ad 202), .ref (ad 203), .ref (ad 204), .int (iI (sc 1)), .ref (ad 205), .ref (ad 206), .ref (ad 207), .ref (ad 208), .ref (ad 209), .int (iI (sc 2)), .int (iI (sc 3)), .int (iI (sc 4)), .ref (ad 210), .int (iI fr), .ref (ad 211), .ref (ad 212)]))) 200 (oB 6 [.int (iI 0), .int (iI (sc 0)), .ref (ad 201), .ref (ad 202), .ref (ad 203), .ref (ad 204), .int (iI (sc 1)), .ref (ad 205), .ref (ad 206), .ref (ad 207), .ref (ad 208), .ref (ad 209), .int (iI (sc 2)), .int (iI (sc 3)), .int (iI (sc 4)), .ref (ad 210), .int (iI 1), .ref (ad 211), .ref (ad 212)]) = _ from (up_up _ _ _ _)] at hP hD
      refine W.eq (g2 := F0 m 29 ls []) rfl ?_
      refine W.cs (cells' := 0) (slots' := 0) rfl rfl ?_
      refine lv_aload_n (pc := 29) hx hb dX6_flow_29 rfl (lv_at hl 0 rfl) ?_
      refine k_get (pc := 30) (ci := 6) (C := RX6) (T := TX6) (N := 19) hx hb hts hi6 hown hK hP 200 (up_n (by decide) (up_n (by decide) (up_s _ _ _))) rfl 18 (by decide) hf51 (fun _ h9 => h9) rfl dX6_flow_30 ?_
      refine lv_iload_n (pc := 33) hx hb dX6_flow_33 rfl (lv_at hl 1 rfl) ?_
      refine k_lald (pc := 34) hx hb hK hP 212 2 (up_s _ _ _) rfl (by omega) (by omega) (by omega) dX6_flow_34 ?_
      have hq_34 := (tbOk_tb hI).1 d
      rw [hQ9]
      exact W.lret (v := lI ((tbF sc fn) d)) hx hb hret (fun t ht hW => ⟨⟨some (.long (lI ((tbF sc fn) d))), ad, (up (up (up w 200 (oB 6 [.int (iI 0), .int (iI (sc 0)), .ref (ad 201), .ref (ad 202), .ref (ad 203), .ref (ad 204), .int (iI (sc 1)), .ref (ad 205), .ref (ad 206), .ref (ad 207), .ref (ad 208), .ref (ad 209), .int (iI (sc 2)), .int (iI (sc 3)), .int (iI (sc 4)), .ref (ad 210), .int (iI 1), .ref (ad 211), .ref (ad 212)])) 211 (eI (cA 0) 400 (tbS sc fn))) 212 (eJ (cA 2) 400 (tbF sc fn))), rfl, ⟨0, sc, fn, ⟨1, G1, G2, us, ut, ub, (tbS sc fn), (tbF sc fn), ⟨(up_n (by decide) (up_n (by decide) (up_s _ _ _))), (up_n (by decide) (up_n (by decide) (up_n (by decide) k1))), (up_n (by decide) (up_n (by decide) (up_n (by decide) k2))), (up_n (by decide) (up_n (by decide) (up_n (by decide) k3))), (up_n (by decide) (up_n (by decide) (up_n (by decide) k4))), (up_n (by decide) (up_n (by decide) (up_n (by decide) k5))), (up_n (by decide) (up_n (by decide) (up_n (by decide) k6))), (up_n (by decide) (up_n (by decide) (up_n (by decide) k7))), (up_n (by decide) (up_n (by decide) (up_n (by decide) k8))), (up_n (by decide) (up_n (by decide) (up_n (by decide) k9))), (up_n (by decide) (up_n (by decide) (up_n (by decide) k10))), (up_n (by decide) (up_s _ _ _)), (up_s _ _ _)⟩, hG1, hG2, hus, hut, hub, (tbOk_tb hI).2.1, (tbOk_tb hI).1, hmc, hmu, hmt, (Or.inr ⟨rfl, rfl, rfl⟩)⟩, hI, ⟨rfl, fun r hr => ⟨(up_n (by omega) (up_n (by omega) (up_n (by omega) rfl))), rfl⟩⟩, Or.inl (⟨rfl, ⟨rfl, rfl, by omega, by omega, rfl⟩⟩)⟩, by rw [ht]; exact hP, hD⟩, hS.F ht⟩) hS.2.2 dX6_flow_35
    · skip
      exfalso
      omega

abbrev rmX6_spell : Room := { frames := 2, cells := 0, slots := 0, locals := 51 }
theorem hiX6_spell_6 : ∀ w ∈ wsX60, w ∈ wsX6_spell := by decide +kernel
set_option maxHeartbeats 4000000 in
set_option maxRecDepth 100000 in
theorem c_X6_spell (l : Launch) (D : va_G) (cA : Nat → ClassId) (ad : Nat → Nat) (w : Nat → Option va_E) (sz : Nat) (th : Int) (sc : Nat → Int) (fn : Nat → Int → Int) (hI : bkInv sc fn) (hmd : mdS cA ad w th sc fn) (lm : Int) (hlm : (-9223372036854775808 ≤ lm ∧ lm < 9223372036854775808)) : Met l yX6_spell wsX6_spell rmX6_spell (gV D cA ad w sz [.ref (ad 200), .long (lI lm)]) (gW D (fun v9 ad1 w1 => ∃ (th2 : Int) (sc2 : Nat → Int) (fn2 : Nat → Int → Int), mdS cA ad1 w1 th2 sc2 fn2 ∧ bkInv sc2 fn2 ∧ keepM ad ad1 w w1 ∧ ((th2 = 0 ∧ (sc2 = sc ∧ fn2 = fn ∧ 0 ≤ lm ∧ v9 = some (.int (iI (lngT (tbF sc fn) (tbS sc fn) lm 400))))) ∨ (th2 = 1 ∧ v9 = some (.int (iI 0)) ∧ sc2 = sc ∧ fn2 = fn ∧ (¬ (0 ≤ lm))))) (gA ad w sz)) 0 0 (gA ad w sz) := by
  refine Met.ofW (cc := cX6_spell) (maxL := 6) (ret := (some .int)) (by decide) rfl ?_
  intro p e s m args below meth c s₁ B hml hv
  obtain ⟨hav, hsz, hP, hD0, hK, hB, hZ⟩ := hv
  have hx := B.exec
  have hb := B.bytes
  have hret := B.returns
  have hts := atoms_spec (ws := wsX6_spell) B.pre
  have hown : s.vm.findClass RX6 = some m.cls := findClass_of_methodNamed B.named
  have hlocks := B.notSynchronized
  subst hsz
  have hD := hD0.self (sz := s.heap.size)
  generalize hAe : gA ad w s.heap.size = A at hD hZ ⊢
  have hA : ∀ q : Nat, s.heap.size ≤ q → A q := fun q h => by rw [← hAe]; exact Or.inr h
  have hS : va_S A s.heap s.heap [] := va_S.rf
  have hi6 := hiX6_spell_6
  have hf48 := hts (.fieldLink RX6 48 "GaugeBookModel" "states" "[I") (by decide +kernel)
  have hf51 := hts (.fieldLink RX6 51 "GaugeBookModel" "worked" "[J") (by decide +kernel)
  have hf55 := hts (.fieldLink RX6 55 "GaugeBookModel" "thrown" "I") (by decide +kernel)
  have he9 : entryFrame m args 6 = F0 m 0 ((lg_sl ([.ref (ad 200), .long (lI lm)] : List Value) ++ List.replicate (6 - (lg_sl ([.ref (ad 200), .long (lI lm)] : List Value)).length) Slot.unset).toArray) [] := by rw [hav, lg_entry_eq]
  rw [he9]
  have hl := lv_entry ([.ref (ad 200), .long (lI lm)] : List Value) (n := 6) (Nat.le_of_ble_eq_true rfl)
  generalize (lg_sl ([.ref (ad 200), .long (lI lm)] : List Value) ++ List.replicate (6 - (lg_sl ([.ref (ad 200), .long (lI lm)] : List Value)).length) Slot.unset).toArray = ls at hl ⊢
  have hl : lv_has ls 6 [(0, .ref (ad 200)), (1, .long (lI lm))] := hl
  obtain ⟨Q9, hQ9⟩ : ∃ z, z = MQ below (gW D (fun v9 ad1 w1 => ∃ (th2 : Int) (sc2 : Nat → Int) (fn2 : Nat → Int → Int), mdS cA ad1 w1 th2 sc2 fn2 ∧ bkInv sc2 fn2 ∧ keepM ad ad1 w w1 ∧ ((th2 = 0 ∧ (sc2 = sc ∧ fn2 = fn ∧ 0 ≤ lm ∧ v9 = some (.int (iI (lngT (tbF sc fn) (tbS sc fn) lm 400))))) ∨ (th2 = 1 ∧ v9 = some (.int (iI 0)) ∧ sc2 = sc ∧ fn2 = fn ∧ (¬ (0 ≤ lm))))) A) args s 0 0 A := ⟨_, rfl⟩
  rw [← hQ9]
  show W p l e rmX6_spell s m args below meth c s.heap [] 0 0 Q9 (F0 m 0 ls [])
  obtain ⟨H, hHe⟩ : ∃ z, z = s.heap := ⟨_, rfl⟩
  obtain ⟨locs, hLe⟩ : ∃ z, z = ([] : List Loc) := ⟨_, rfl⟩
  have hP : gP D vwCl ad w H := by rw [hHe]; exact hP
  have hS : va_S A s.heap H locs := by rw [hHe, hLe]; exact va_S.rf
  rw [show W p l e rmX6_spell s m args below meth c s.heap [] 0 0 Q9 (F0 m 0 ls []) = W p l e rmX6_spell s m args below meth c H locs 0 0 Q9 (F0 m 0 ls []) by rw [hHe, hLe]]
  clear hHe hLe
  obtain ⟨fr, G1, G2, us, ut, ub, S, F, ⟨k0, k1, k2, k3, k4, k5, k6, k7, k8, k9, k10, k11, k12⟩, hG1, hG2, hus, hut, hub, hS9, hF, hmc, hmu, hmt, hrk⟩ := hmd
  have hI1 := hI.1
  refine lv_aload_n (pc := 0) hx hb dX6_spell_0 rfl (lv_at hl 0 rfl) ?_
  refine k_iconst (pc := 1) hx hb dX6_spell_1 ?_
  refine k_put (pc := 2) (ci := 6) (C := RX6) (T := TX6) (N := 19) (ty := .int) (v := .int (iI 0)) (w1 := (up w 200 (oB 6 [.int (iI 0), .int (iI (sc 0)), .ref (ad 201), .ref (ad 202), .ref (ad 203), .ref (ad 204), .int (iI (sc 1)), .ref (ad 205), .ref (ad 206), .ref (ad 207), .ref (ad 208), .ref (ad 209), .int (iI (sc 2)), .int (iI (sc 3)), .int (iI (sc 4)), .ref (ad 210), .int (iI fr), .ref (ad 211), .ref (ad 212)]))) hx hb hts hi6 tyX6 tyX6_ok nmX6 hown hK hP hD hS 200 k0 rfl 0 (by decide) hf55 (fun _ h9 => h9) rfl (by decide +kernel) rfl rfl (Nat.le_of_ble_eq_true rfl) rfl dX6_spell_2 (fun H locs hP hD hS => ?_)
  refine lv_lload_n (pc := 5) hx hb dX6_spell_5 rfl (lv_at hl 1 rfl) ?_
  refine k_lconst0 (pc := 6) hx hb dX6_spell_6 ?_
  refine k_lcmp_ge (pc := 7) (tgt := 17) hx hb ⟨by omega, by omega⟩ ⟨by omega, by omega⟩ dX6_spell_7 dX6_spell_8 (by decide) (fun hc_7 => ?_) (fun hc_7 => ?_)
  · skip
    refine lv_aload_n (pc := 17) hx hb dX6_spell_17 rfl (lv_at hl 0 rfl) ?_
    refine k_call1 (pc := 18) (va_runV (As := []) (rest := []) ⟨hx, hb, hml, hown, hts⟩ (c_X6_workOut l D cA ad (up w 200 (oB 6 [.int (iI 0), .int (iI (sc 0)), .ref (ad 201), .ref (ad 202), .ref (ad 203), .ref (ad 204), .int (iI (sc 1)), .ref (ad 205), .ref (ad 206), .ref (ad 207), .ref (ad 208), .ref (ad 209), .int (iI (sc 2)), .int (iI (sc 3)), .int (iI (sc 4)), .ref (ad 210), .int (iI fr), .ref (ad 211), .ref (ad 212)])) H.size sc fn 0 fr G1 G2 us ut ub S F hI (up_s _ _ _) (up_n (by decide) k1) (up_n (by decide) k2) (up_n (by decide) k3) (up_n (by decide) k4) (up_n (by decide) k5) (up_n (by decide) k6) (up_n (by decide) k7) (up_n (by decide) k8) (up_n (by decide) k9) (up_n (by decide) k10) (up_n (by decide) k11) (up_n (by decide) k12) hG1 hG2 hus hut hub hS9 hF hmc hmu hrk) (cwV 0 hts gX6_spell_X6_workOut rfl rfl rfl (by decide +kernel) ⟨Nat.le_of_ble_eq_true rfl, Nat.le_of_ble_eq_true rfl⟩) (gV_V hP hD hK hB hS hA hZ 200 (ci := 6) rfl (up_s _ _ _)) rfl rfl hl.1 rfl (lv_room (Nat.le_of_ble_eq_true rfl)) dX6_spell_18 ⟨Nat.le_of_ble_eq_true rfl, Nat.le_of_ble_eq_true rfl⟩) hS (gA_sub hD hS hA) (fun v_18 ad_18 w_18 H locs hv_18 hP hD hS => ?_)
    obtain ⟨hv1, hv2, hv3⟩ := hv_18
    subst hv1
    rw [hv2, hv3] at hP hD
    rw [show up ((up w 200 (oB 6 [.int (iI 0), .int (iI (sc 0)), .ref (ad 201), .ref (ad 202), .ref (ad 203), .ref (ad 204), .int (iI (sc 1)), .ref (ad 205), .ref (ad 206), .ref (ad 207), .ref (ad 208), .ref (ad 209), .int (iI (sc 2)), .int (iI (sc 3)), .int (iI (sc 4)), .ref (ad 210), .int (iI fr), .ref (ad 211), .ref (ad 212)]))) 200 (oB 6 [.int (iI 0), .int (iI (sc 0)), .ref (ad 201), .ref (ad 202), .ref (ad 203), .ref (ad 204), .int (iI (sc 1)), .ref (ad 205), .ref (ad 206), .ref (ad 207), .ref (ad 208), .ref (ad 209), .int (iI (sc 2)), .int (iI (sc 3)), .int (iI (sc 4)), .ref (ad 210), .int (iI 1), .ref (ad 211), .ref (ad 212)]) = _ from (up_up _ _ _ _)] at hP hD
    refine W.eq (g2 := F0 m 21 ls []) rfl ?_
    refine W.cs (cells' := 0) (slots' := 0) rfl rfl ?_
    refine k_iconst (pc := 21) hx hb dX6_spell_21 ?_
    refine lv_istore_n (pc := 22) (lv' := [(3, .int (iI 0)), (0, .ref (ad 200)), (1, .long (lI lm))]) hx hb dX6_spell_22 rfl hl (by decide) rfl (fun ls hl => ?_)
    refine k_iconst (pc := 23) hx hb dX6_spell_23 ?_
    refine lv_istore (pc := 24) (lv' := [(4, .int (iI 0)), (3, .int (iI 0)), (0, .ref (ad 200)), (1, .long (lI lm))]) hx hb dX6_spell_24 hl (by decide) rfl (fun ls hl => ?_)
    refine k_iconst (pc := 26) hx hb dX6_spell_26 ?_
    refine lv_istore (pc := 27) (lv' := [(5, .int (iI 0)), (4, .int (iI 0)), (3, .int (iI 0)), (0, .ref (ad 200)), (1, .long (lI lm))]) hx hb dX6_spell_27 hl (by decide) rfl (fun ls hl => ?_)
    have lp_29 : ∀ (N9 : Nat) (d : Int) (x : Int) (y : Int), (0 ≤ d ∧ d ≤ 400) → (x = runT (tbF sc fn) (tbS sc fn) lm d.toNat) → (y = lngT (tbF sc fn) (tbS sc fn) lm d.toNat) → (0 ≤ x ∧ x ≤ d ∧ 0 ≤ y ∧ y ≤ d) → (400 - d).toNat < N9 → ∀ (H : Heap) (locs : List Loc), gP D vwCl ad (up (up (up w 200 (oB 6 [.int (iI 0), .int (iI (sc 0)), .ref (ad 201), .ref (ad 202), .ref (ad 203), .ref (ad 204), .int (iI (sc 1)), .ref (ad 205), .ref (ad 206), .ref (ad 207), .ref (ad 208), .ref (ad 209), .int (iI (sc 2)), .int (iI (sc 3)), .int (iI (sc 4)), .ref (ad 210), .int (iI 1), .ref (ad 211), .ref (ad 212)])) 211 (eI (cA 0) 400 (tbS sc fn))) 212 (eJ (cA 2) 400 (tbF sc fn))) H → gD A ad (up (up (up w 200 (oB 6 [.int (iI 0), .int (iI (sc 0)), .ref (ad 201), .ref (ad 202), .ref (ad 203), .ref (ad 204), .int (iI (sc 1)), .ref (ad 205), .ref (ad 206), .ref (ad 207), .ref (ad 208), .ref (ad 209), .int (iI (sc 2)), .int (iI (sc 3)), .int (iI (sc 4)), .ref (ad 210), .int (iI 1), .ref (ad 211), .ref (ad 212)])) 211 (eI (cA 0) 400 (tbS sc fn))) 212 (eJ (cA 2) 400 (tbF sc fn))) → va_S A s.heap H locs → ∀ (ls : Array Slot), lv_has ls 6 [(5, .int (iI d)), (4, .int (iI y)), (3, .int (iI x)), (0, .ref (ad 200)), (1, .long (lI lm))] → W p l e rmX6_spell s m args below meth c H locs 0 0 Q9 (F0 m 29 ls []) := by
      intro N9
      induction N9 with
      | zero => intro d x y i0 iX iY iB hmu; exact absurd hmu (Nat.not_lt_zero _)
      | succ N9 ih_29 =>
        intro d x y i0 iX iY iB hmu_29 H locs hP hD hS ls hl
        refine lv_iload (pc := 29) hx hb dX6_spell_29 (lv_at hl 0 rfl) ?_
        refine k_sipush (pc := 31) hx hb dX6_spell_31 (by decide +kernel) ?_
        refine k_icmp_ge (pc := 34) (tgt := 81) hx hb ⟨by omega, by omega⟩ ⟨by omega, by omega⟩ dX6_spell_34 (by decide) (fun hc_34 => ?_) (fun hc_34 => ?_)
        · skip
          refine lv_iload (pc := 81) hx hb dX6_spell_81 (lv_at hl 1 rfl) ?_
          rw [hQ9]
          exact W.iret (v := iI y) hx hb hret (fun t ht hW => ⟨⟨some (.int (iI y)), ad, (up (up (up w 200 (oB 6 [.int (iI 0), .int (iI (sc 0)), .ref (ad 201), .ref (ad 202), .ref (ad 203), .ref (ad 204), .int (iI (sc 1)), .ref (ad 205), .ref (ad 206), .ref (ad 207), .ref (ad 208), .ref (ad 209), .int (iI (sc 2)), .int (iI (sc 3)), .int (iI (sc 4)), .ref (ad 210), .int (iI 1), .ref (ad 211), .ref (ad 212)])) 211 (eI (cA 0) 400 (tbS sc fn))) 212 (eJ (cA 2) 400 (tbF sc fn))), rfl, ⟨0, sc, fn, ⟨1, G1, G2, us, ut, ub, (tbS sc fn), (tbF sc fn), ⟨(up_n (by decide) (up_n (by decide) (up_s _ _ _))), (up_n (by decide) (up_n (by decide) (up_n (by decide) k1))), (up_n (by decide) (up_n (by decide) (up_n (by decide) k2))), (up_n (by decide) (up_n (by decide) (up_n (by decide) k3))), (up_n (by decide) (up_n (by decide) (up_n (by decide) k4))), (up_n (by decide) (up_n (by decide) (up_n (by decide) k5))), (up_n (by decide) (up_n (by decide) (up_n (by decide) k6))), (up_n (by decide) (up_n (by decide) (up_n (by decide) k7))), (up_n (by decide) (up_n (by decide) (up_n (by decide) k8))), (up_n (by decide) (up_n (by decide) (up_n (by decide) k9))), (up_n (by decide) (up_n (by decide) (up_n (by decide) k10))), (up_n (by decide) (up_s _ _ _)), (up_s _ _ _)⟩, hG1, hG2, hus, hut, hub, (tbOk_tb hI).2.1, (tbOk_tb hI).1, hmc, hmu, hmt, (Or.inr ⟨rfl, rfl, rfl⟩)⟩, hI, ⟨rfl, fun r hr => ⟨(up_n (by omega) (up_n (by omega) (up_n (by omega) rfl))), rfl⟩⟩, Or.inl (⟨rfl, ⟨rfl, rfl, by omega, by rw [iY, show d = 400 by omega]; rfl⟩⟩)⟩, by rw [ht]; exact hP, hD⟩, hS.F ht⟩) hS.2.2 dX6_spell_83
        · skip
          refine lv_aload_n (pc := 37) hx hb dX6_spell_37 rfl (lv_at hl 3 rfl) ?_
          refine k_get (pc := 38) (ci := 6) (C := RX6) (T := TX6) (N := 19) hx hb hts hi6 hown hK hP 200 (up_n (by decide) (up_n (by decide) (up_s _ _ _))) rfl 17 (by decide) hf48 (fun _ h9 => h9) rfl dX6_spell_38 ?_
          refine lv_iload (pc := 41) hx hb dX6_spell_41 (lv_at hl 0 rfl) ?_
          refine k_iald (pc := 43) hx hb hK hP 211 0 (up_n (by decide) (up_s _ _ _)) rfl (by omega) (by omega) (by omega) dX6_spell_43 ?_
          have hq_43 := (tbOk_tb hI).2.1 d
          refine k_if_eq (pc := 44) (tgt := 65) hx hb ⟨by omega, by omega⟩ dX6_spell_44 (by decide) (fun hc_44 => ?_) (fun hc_44 => ?_)
          · skip
            refine k_iconst (pc := 65) hx hb dX6_spell_65 ?_
            refine lv_istore_n (pc := 66) (lv' := [(3, .int (iI 0)), (5, .int (iI d)), (4, .int (iI y)), (0, .ref (ad 200)), (1, .long (lI lm))]) hx hb dX6_spell_66 rfl hl (by decide) rfl (fun ls hl => ?_)
            refine lv_iload (pc := 67) hx hb dX6_spell_67 (lv_at hl 2 rfl) ?_
            refine lv_iload_n (pc := 69) hx hb dX6_spell_69 rfl (lv_at hl 0 rfl) ?_
            refine k_mmax (pc := 70) hx hb (hml.trans hl.1.symm) hown (hts (.methodLink RX6 148 Lib.Math.max.name) (by decide +kernel)) (hts (.static Lib.Math.max.name) (by decide +kernel)) (hts (.initialized "java/lang/Math") (by decide +kernel)) (hts (.code Lib.Math.max.name Lib.Math.max.code 2 (some .int)) (by decide +kernel)) (Nat.le_of_ble_eq_true rfl) (Nat.le_of_ble_eq_true rfl) (Nat.le_of_ble_eq_true rfl) (Nat.le_of_ble_eq_true rfl) ⟨by omega, by omega⟩ ⟨by omega, by omega⟩ dX6_spell_70 ?_
            refine lv_istore (pc := 73) (lv' := [(4, .int (iI (max y 0))), (3, .int (iI 0)), (5, .int (iI d)), (0, .ref (ad 200)), (1, .long (lI lm))]) hx hb dX6_spell_73 hl (by decide) rfl (fun ls hl => ?_)
            refine lv_iinc (pc := 75) (v := iI (d + 1)) (lv' := [(5, .int (iI (d + 1))), (4, .int (iI (max y 0))), (3, .int (iI 0)), (0, .ref (ad 200)), (1, .long (lI lm))]) hx hb dX6_spell_75 hl (k := 2) rfl (iI_add _ _) (by decide) rfl (fun ls hl => ?_)
            refine lv_goto (pc := 78) (tgt := 29) hx hb dX6_spell_78 (by decide) ?_
            have e1 := runT_s (tbF sc fn) (tbS sc fn) lm (d := d) (by omega)
            have e2 := lngT_s (tbF sc fn) (tbS sc fn) lm (d := d) (by omega)
            first | rw [if_pos (by omega)] at e1 | rw [if_neg (by omega)] at e1
            exact ih_29 (d + 1) 0 (max y 0) (by omega) (by omega) (by omega) (by omega) (by omega) H locs hP hD hS ls (lv_sub hl [0, 1, 2, 3, 4] rfl)
          · skip
            refine lv_aload_n (pc := 47) hx hb dX6_spell_47 rfl (lv_at hl 3 rfl) ?_
            refine k_get (pc := 48) (ci := 6) (C := RX6) (T := TX6) (N := 19) hx hb hts hi6 hown hK hP 200 (up_n (by decide) (up_n (by decide) (up_s _ _ _))) rfl 18 (by decide) hf51 (fun _ h9 => h9) rfl dX6_spell_48 ?_
            refine lv_iload (pc := 51) hx hb dX6_spell_51 (lv_at hl 0 rfl) ?_
            refine k_lald (pc := 53) hx hb hK hP 212 2 (up_s _ _ _) rfl (by omega) (by omega) (by omega) dX6_spell_53 ?_
            have hq_53 := (tbOk_tb hI).1 d
            refine lv_lload_n (pc := 54) hx hb dX6_spell_54 rfl (lv_at hl 4 rfl) ?_
            refine k_lcmp_ge (pc := 55) (tgt := 65) hx hb ⟨by omega, by omega⟩ ⟨by omega, by omega⟩ dX6_spell_55 dX6_spell_56 (by decide) (fun hc_55 => ?_) (fun hc_55 => ?_)
            · skip
              refine k_iconst (pc := 65) hx hb dX6_spell_65 ?_
              refine lv_istore_n (pc := 66) (lv' := [(3, .int (iI 0)), (5, .int (iI d)), (4, .int (iI y)), (0, .ref (ad 200)), (1, .long (lI lm))]) hx hb dX6_spell_66 rfl hl (by decide) rfl (fun ls hl => ?_)
              refine lv_iload (pc := 67) hx hb dX6_spell_67 (lv_at hl 2 rfl) ?_
              refine lv_iload_n (pc := 69) hx hb dX6_spell_69 rfl (lv_at hl 0 rfl) ?_
              refine k_mmax (pc := 70) hx hb (hml.trans hl.1.symm) hown (hts (.methodLink RX6 148 Lib.Math.max.name) (by decide +kernel)) (hts (.static Lib.Math.max.name) (by decide +kernel)) (hts (.initialized "java/lang/Math") (by decide +kernel)) (hts (.code Lib.Math.max.name Lib.Math.max.code 2 (some .int)) (by decide +kernel)) (Nat.le_of_ble_eq_true rfl) (Nat.le_of_ble_eq_true rfl) (Nat.le_of_ble_eq_true rfl) (Nat.le_of_ble_eq_true rfl) ⟨by omega, by omega⟩ ⟨by omega, by omega⟩ dX6_spell_70 ?_
              refine lv_istore (pc := 73) (lv' := [(4, .int (iI (max y 0))), (3, .int (iI 0)), (5, .int (iI d)), (0, .ref (ad 200)), (1, .long (lI lm))]) hx hb dX6_spell_73 hl (by decide) rfl (fun ls hl => ?_)
              refine lv_iinc (pc := 75) (v := iI (d + 1)) (lv' := [(5, .int (iI (d + 1))), (4, .int (iI (max y 0))), (3, .int (iI 0)), (0, .ref (ad 200)), (1, .long (lI lm))]) hx hb dX6_spell_75 hl (k := 2) rfl (iI_add _ _) (by decide) rfl (fun ls hl => ?_)
              refine lv_goto (pc := 78) (tgt := 29) hx hb dX6_spell_78 (by decide) ?_
              have e1 := runT_s (tbF sc fn) (tbS sc fn) lm (d := d) (by omega)
              have e2 := lngT_s (tbF sc fn) (tbS sc fn) lm (d := d) (by omega)
              first | rw [if_pos (by omega)] at e1 | rw [if_neg (by omega)] at e1
              exact ih_29 (d + 1) 0 (max y 0) (by omega) (by omega) (by omega) (by omega) (by omega) H locs hP hD hS ls (lv_sub hl [0, 1, 2, 3, 4] rfl)
            · skip
              refine lv_iload_n (pc := 59) hx hb dX6_spell_59 rfl (lv_at hl 2 rfl) ?_
              refine k_iconst (pc := 60) hx hb dX6_spell_60 ?_
              refine k_iadd (pc := 61) hx hb dX6_spell_61 ?_
              refine lv_goto (pc := 62) (tgt := 66) hx hb dX6_spell_62 (by decide) ?_
              refine lv_istore_n (pc := 66) (lv' := [(3, .int (iI (x + 1))), (5, .int (iI d)), (4, .int (iI y)), (0, .ref (ad 200)), (1, .long (lI lm))]) hx hb dX6_spell_66 rfl hl (by decide) rfl (fun ls hl => ?_)
              refine lv_iload (pc := 67) hx hb dX6_spell_67 (lv_at hl 2 rfl) ?_
              refine lv_iload_n (pc := 69) hx hb dX6_spell_69 rfl (lv_at hl 0 rfl) ?_
              refine k_mmax (pc := 70) hx hb (hml.trans hl.1.symm) hown (hts (.methodLink RX6 148 Lib.Math.max.name) (by decide +kernel)) (hts (.static Lib.Math.max.name) (by decide +kernel)) (hts (.initialized "java/lang/Math") (by decide +kernel)) (hts (.code Lib.Math.max.name Lib.Math.max.code 2 (some .int)) (by decide +kernel)) (Nat.le_of_ble_eq_true rfl) (Nat.le_of_ble_eq_true rfl) (Nat.le_of_ble_eq_true rfl) (Nat.le_of_ble_eq_true rfl) ⟨by omega, by omega⟩ ⟨by omega, by omega⟩ dX6_spell_70 ?_
              refine lv_istore (pc := 73) (lv' := [(4, .int (iI (max y (x + 1)))), (3, .int (iI (x + 1))), (5, .int (iI d)), (0, .ref (ad 200)), (1, .long (lI lm))]) hx hb dX6_spell_73 hl (by decide) rfl (fun ls hl => ?_)
              refine lv_iinc (pc := 75) (v := iI (d + 1)) (lv' := [(5, .int (iI (d + 1))), (4, .int (iI (max y (x + 1)))), (3, .int (iI (x + 1))), (0, .ref (ad 200)), (1, .long (lI lm))]) hx hb dX6_spell_75 hl (k := 2) rfl (iI_add _ _) (by decide) rfl (fun ls hl => ?_)
              refine lv_goto (pc := 78) (tgt := 29) hx hb dX6_spell_78 (by decide) ?_
              have e1 := runT_s (tbF sc fn) (tbS sc fn) lm (d := d) (by omega)
              have e2 := lngT_s (tbF sc fn) (tbS sc fn) lm (d := d) (by omega)
              first | rw [if_pos (by omega)] at e1 | rw [if_neg (by omega)] at e1
              exact ih_29 (d + 1) (x + 1) (max y (x + 1)) (by omega) (by omega) (by omega) (by omega) (by omega) H locs hP hD hS ls (lv_sub hl [0, 1, 2, 3, 4] rfl)
    exact lp_29 _ 0 0 0 (by omega) rfl rfl (by omega) (Nat.lt_succ_self _) H locs hP hD hS ls (lv_sub hl [0, 1, 2, 3, 4] rfl)
  · skip
    refine lv_aload_n (pc := 11) hx hb dX6_spell_11 rfl (lv_at hl 0 rfl) ?_
    refine k_iconst (pc := 12) hx hb dX6_spell_12 ?_
    refine k_call1 (pc := 13) (va_runV (As := [.int (iI 1)]) (rest := []) ⟨hx, hb, hml, hown, hts⟩ (c_X6_fail l D cA ad (up w 200 (oB 6 [.int (iI 0), .int (iI (sc 0)), .ref (ad 201), .ref (ad 202), .ref (ad 203), .ref (ad 204), .int (iI (sc 1)), .ref (ad 205), .ref (ad 206), .ref (ad 207), .ref (ad 208), .ref (ad 209), .int (iI (sc 2)), .int (iI (sc 3)), .int (iI (sc 4)), .ref (ad 210), .int (iI fr), .ref (ad 211), .ref (ad 212)])) H.size 0 (sc 0) (sc 1) (sc 2) (sc 3) (sc 4) fr (up_s _ _ _) 1) (cwV 1 hts gX6_spell_X6_fail rfl rfl rfl (by decide +kernel) ⟨Nat.le_of_ble_eq_true rfl, Nat.le_of_ble_eq_true rfl⟩) (gV_V hP hD hK hB hS hA hZ 200 (ci := 6) rfl (up_s _ _ _)) rfl rfl hl.1 rfl (lv_room (Nat.le_of_ble_eq_true rfl)) dX6_spell_13 ⟨Nat.le_of_ble_eq_true rfl, Nat.le_of_ble_eq_true rfl⟩) hS (gA_sub hD hS hA) (fun v_13 ad_13 w_13 H locs hv_13 hP hD hS => ?_)
    obtain ⟨hv1, hv2, hv3⟩ := hv_13
    subst hv1
    rw [hv2, hv3] at hP hD
    rw [show up ((up w 200 (oB 6 [.int (iI 0), .int (iI (sc 0)), .ref (ad 201), .ref (ad 202), .ref (ad 203), .ref (ad 204), .int (iI (sc 1)), .ref (ad 205), .ref (ad 206), .ref (ad 207), .ref (ad 208), .ref (ad 209), .int (iI (sc 2)), .int (iI (sc 3)), .int (iI (sc 4)), .ref (ad 210), .int (iI fr), .ref (ad 211), .ref (ad 212)]))) 200 (oB 6 [.int (iI 1), .int (iI (sc 0)), .ref (ad 201), .ref (ad 202), .ref (ad 203), .ref (ad 204), .int (iI (sc 1)), .ref (ad 205), .ref (ad 206), .ref (ad 207), .ref (ad 208), .ref (ad 209), .int (iI (sc 2)), .int (iI (sc 3)), .int (iI (sc 4)), .ref (ad 210), .int (iI fr), .ref (ad 211), .ref (ad 212)]) = _ from (up_up _ _ _ _)] at hP hD
    refine W.eq (g2 := F0 m 16 ls [.int (iI 0)]) rfl ?_
    refine W.cs (cells' := 0) (slots' := 0) rfl rfl ?_
    rw [hQ9]
    exact W.iret (v := iI 0) hx hb hret (fun t ht hW => ⟨⟨some (.int (iI 0)), ad, (up w 200 (oB 6 [.int (iI 1), .int (iI (sc 0)), .ref (ad 201), .ref (ad 202), .ref (ad 203), .ref (ad 204), .int (iI (sc 1)), .ref (ad 205), .ref (ad 206), .ref (ad 207), .ref (ad 208), .ref (ad 209), .int (iI (sc 2)), .int (iI (sc 3)), .int (iI (sc 4)), .ref (ad 210), .int (iI fr), .ref (ad 211), .ref (ad 212)])), rfl, ⟨1, sc, fn, ⟨fr, G1, G2, us, ut, ub, S, F, ⟨(up_s _ _ _), (up_n (by decide) k1), (up_n (by decide) k2), (up_n (by decide) k3), (up_n (by decide) k4), (up_n (by decide) k5), (up_n (by decide) k6), (up_n (by decide) k7), (up_n (by decide) k8), (up_n (by decide) k9), (up_n (by decide) k10), (up_n (by decide) k11), (up_n (by decide) k12)⟩, hG1, hG2, hus, hut, hub, hS9, hF, hmc, hmu, hmt, hrk⟩, hI, ⟨rfl, fun r hr => ⟨(up_n (by omega) rfl), rfl⟩⟩, Or.inr (⟨rfl, rfl, rfl, rfl, by omega⟩)⟩, by rw [ht]; exact hP, hD⟩, hS.F ht⟩) hS.2.2 dX6_spell_16

abbrev rmX6_digest : Room := { frames := 2, cells := 0, slots := 0, locals := 51 }
theorem hiX6_digest_6 : ∀ w ∈ wsX60, w ∈ wsX6_digest := by decide +kernel
set_option maxHeartbeats 4000000 in
set_option maxRecDepth 100000 in
theorem c_X6_digest (l : Launch) (D : va_G) (cA : Nat → ClassId) (ad : Nat → Nat) (w : Nat → Option va_E) (sz : Nat) (th : Int) (sc : Nat → Int) (fn : Nat → Int → Int) (hI : bkInv sc fn) (hmd : mdS cA ad w th sc fn)  : Met l yX6_digest wsX6_digest rmX6_digest (gV D cA ad w sz [.ref (ad 200)]) (gW D (fun v9 ad1 w1 => ∃ (th2 : Int) (sc2 : Nat → Int) (fn2 : Nat → Int → Int), mdS cA ad1 w1 th2 sc2 fn2 ∧ bkInv sc2 fn2 ∧ keepM ad ad1 w w1 ∧ ((th2 = 0 ∧ (sc2 = sc ∧ fn2 = fn ∧ v9 = some (.long (lI (dgV sc fn))))))) (gA ad w sz)) 0 0 (gA ad w sz) := by
  refine Met.ofW (cc := cX6_digest) (maxL := 4) (ret := (some .long)) (by decide) rfl ?_
  intro p e s m args below meth c s₁ B hml hv
  obtain ⟨hav, hsz, hP, hD0, hK, hB, hZ⟩ := hv
  have hx := B.exec
  have hb := B.bytes
  have hret := B.returns
  have hts := atoms_spec (ws := wsX6_digest) B.pre
  have hown : s.vm.findClass RX6 = some m.cls := findClass_of_methodNamed B.named
  have hlocks := B.notSynchronized
  subst hsz
  have hD := hD0.self (sz := s.heap.size)
  generalize hAe : gA ad w s.heap.size = A at hD hZ ⊢
  have hA : ∀ q : Nat, s.heap.size ≤ q → A q := fun q h => by rw [← hAe]; exact Or.inr h
  have hS : va_S A s.heap s.heap [] := va_S.rf
  have hi6 := hiX6_digest_6
  have hf38 := hts (.fieldLink RX6 38 "GaugeBookModel" "factor" "I") (by decide +kernel)
  have hf42 := hts (.fieldLink RX6 42 "GaugeBookModel" "limit" "I") (by decide +kernel)
  have hf48 := hts (.fieldLink RX6 48 "GaugeBookModel" "states" "[I") (by decide +kernel)
  have hf51 := hts (.fieldLink RX6 51 "GaugeBookModel" "worked" "[J") (by decide +kernel)
  have hf55 := hts (.fieldLink RX6 55 "GaugeBookModel" "thrown" "I") (by decide +kernel)
  have he9 : entryFrame m args 4 = F0 m 0 ((lg_sl ([.ref (ad 200)] : List Value) ++ List.replicate (4 - (lg_sl ([.ref (ad 200)] : List Value)).length) Slot.unset).toArray) [] := by rw [hav, lg_entry_eq]
  rw [he9]
  have hl := lv_entry ([.ref (ad 200)] : List Value) (n := 4) (Nat.le_of_ble_eq_true rfl)
  generalize (lg_sl ([.ref (ad 200)] : List Value) ++ List.replicate (4 - (lg_sl ([.ref (ad 200)] : List Value)).length) Slot.unset).toArray = ls at hl ⊢
  have hl : lv_has ls 4 [(0, .ref (ad 200))] := hl
  obtain ⟨Q9, hQ9⟩ : ∃ z, z = MQ below (gW D (fun v9 ad1 w1 => ∃ (th2 : Int) (sc2 : Nat → Int) (fn2 : Nat → Int → Int), mdS cA ad1 w1 th2 sc2 fn2 ∧ bkInv sc2 fn2 ∧ keepM ad ad1 w w1 ∧ ((th2 = 0 ∧ (sc2 = sc ∧ fn2 = fn ∧ v9 = some (.long (lI (dgV sc fn))))))) A) args s 0 0 A := ⟨_, rfl⟩
  rw [← hQ9]
  show W p l e rmX6_digest s m args below meth c s.heap [] 0 0 Q9 (F0 m 0 ls [])
  obtain ⟨H, hHe⟩ : ∃ z, z = s.heap := ⟨_, rfl⟩
  obtain ⟨locs, hLe⟩ : ∃ z, z = ([] : List Loc) := ⟨_, rfl⟩
  have hP : gP D vwCl ad w H := by rw [hHe]; exact hP
  have hS : va_S A s.heap H locs := by rw [hHe, hLe]; exact va_S.rf
  rw [show W p l e rmX6_digest s m args below meth c s.heap [] 0 0 Q9 (F0 m 0 ls []) = W p l e rmX6_digest s m args below meth c H locs 0 0 Q9 (F0 m 0 ls []) by rw [hHe, hLe]]
  clear hHe hLe
  obtain ⟨fr, G1, G2, us, ut, ub, S, F, ⟨k0, k1, k2, k3, k4, k5, k6, k7, k8, k9, k10, k11, k12⟩, hG1, hG2, hus, hut, hub, hS9, hF, hmc, hmu, hmt, hrk⟩ := hmd
  have hI1 := hI.1
  refine lv_aload_n (pc := 0) hx hb dX6_digest_0 rfl (lv_at hl 0 rfl) ?_
  refine k_iconst (pc := 1) hx hb dX6_digest_1 ?_
  refine k_put (pc := 2) (ci := 6) (C := RX6) (T := TX6) (N := 19) (ty := .int) (v := .int (iI 0)) (w1 := (up w 200 (oB 6 [.int (iI 0), .int (iI (sc 0)), .ref (ad 201), .ref (ad 202), .ref (ad 203), .ref (ad 204), .int (iI (sc 1)), .ref (ad 205), .ref (ad 206), .ref (ad 207), .ref (ad 208), .ref (ad 209), .int (iI (sc 2)), .int (iI (sc 3)), .int (iI (sc 4)), .ref (ad 210), .int (iI fr), .ref (ad 211), .ref (ad 212)]))) hx hb hts hi6 tyX6 tyX6_ok nmX6 hown hK hP hD hS 200 k0 rfl 0 (by decide) hf55 (fun _ h9 => h9) rfl (by decide +kernel) rfl rfl (Nat.le_of_ble_eq_true rfl) rfl dX6_digest_2 (fun H locs hP hD hS => ?_)
  refine lv_aload_n (pc := 5) hx hb dX6_digest_5 rfl (lv_at hl 0 rfl) ?_
  refine k_call1 (pc := 6) (va_runV (As := []) (rest := []) ⟨hx, hb, hml, hown, hts⟩ (c_X6_workOut l D cA ad (up w 200 (oB 6 [.int (iI 0), .int (iI (sc 0)), .ref (ad 201), .ref (ad 202), .ref (ad 203), .ref (ad 204), .int (iI (sc 1)), .ref (ad 205), .ref (ad 206), .ref (ad 207), .ref (ad 208), .ref (ad 209), .int (iI (sc 2)), .int (iI (sc 3)), .int (iI (sc 4)), .ref (ad 210), .int (iI fr), .ref (ad 211), .ref (ad 212)])) H.size sc fn 0 fr G1 G2 us ut ub S F hI (up_s _ _ _) (up_n (by decide) k1) (up_n (by decide) k2) (up_n (by decide) k3) (up_n (by decide) k4) (up_n (by decide) k5) (up_n (by decide) k6) (up_n (by decide) k7) (up_n (by decide) k8) (up_n (by decide) k9) (up_n (by decide) k10) (up_n (by decide) k11) (up_n (by decide) k12) hG1 hG2 hus hut hub hS9 hF hmc hmu hrk) (cwV 0 hts gX6_digest_X6_workOut rfl rfl rfl (by decide +kernel) ⟨Nat.le_of_ble_eq_true rfl, Nat.le_of_ble_eq_true rfl⟩) (gV_V hP hD hK hB hS hA hZ 200 (ci := 6) rfl (up_s _ _ _)) rfl rfl hl.1 rfl (lv_room (Nat.le_of_ble_eq_true rfl)) dX6_digest_6 ⟨Nat.le_of_ble_eq_true rfl, Nat.le_of_ble_eq_true rfl⟩) hS (gA_sub hD hS hA) (fun v_6 ad_6 w_6 H locs hv_6 hP hD hS => ?_)
  obtain ⟨hv1, hv2, hv3⟩ := hv_6
  subst hv1
  rw [hv2, hv3] at hP hD
  rw [show up ((up w 200 (oB 6 [.int (iI 0), .int (iI (sc 0)), .ref (ad 201), .ref (ad 202), .ref (ad 203), .ref (ad 204), .int (iI (sc 1)), .ref (ad 205), .ref (ad 206), .ref (ad 207), .ref (ad 208), .ref (ad 209), .int (iI (sc 2)), .int (iI (sc 3)), .int (iI (sc 4)), .ref (ad 210), .int (iI fr), .ref (ad 211), .ref (ad 212)]))) 200 (oB 6 [.int (iI 0), .int (iI (sc 0)), .ref (ad 201), .ref (ad 202), .ref (ad 203), .ref (ad 204), .int (iI (sc 1)), .ref (ad 205), .ref (ad 206), .ref (ad 207), .ref (ad 208), .ref (ad 209), .int (iI (sc 2)), .int (iI (sc 3)), .int (iI (sc 4)), .ref (ad 210), .int (iI 1), .ref (ad 211), .ref (ad 212)]) = _ from (up_up _ _ _ _)] at hP hD
  refine W.eq (g2 := F0 m 9 ls []) rfl ?_
  refine W.cs (cells' := 0) (slots' := 0) rfl rfl ?_
  refine k_ldc2 (z := 317) (pc := 9) hx hb hown (hts (.constantLong RX6 171 (317)) (by decide +kernel)) (by decide +kernel) dX6_digest_9 ?_
  refine lv_lstore_n (pc := 12) (lv' := [(1, .long (lI 317)), (0, .ref (ad 200))]) hx hb dX6_digest_12 rfl hl (by decide) rfl (fun ls hl => ?_)
  refine k_iconst (pc := 13) hx hb dX6_digest_13 ?_
  refine lv_istore_n (pc := 14) (lv' := [(3, .int (iI 0)), (1, .long (lI 317)), (0, .ref (ad 200))]) hx hb dX6_digest_14 rfl hl (by decide) rfl (fun ls hl => ?_)
  have lp_15 : ∀ (N9 : Nat) (i : Int) (z : Int), (0 ≤ i ∧ i ≤ 5) → (z = dgC sc fn i.toNat) → (5 - i).toNat < N9 → ∀ (H : Heap) (locs : List Loc), gP D vwCl ad (up (up (up w 200 (oB 6 [.int (iI 0), .int (iI (sc 0)), .ref (ad 201), .ref (ad 202), .ref (ad 203), .ref (ad 204), .int (iI (sc 1)), .ref (ad 205), .ref (ad 206), .ref (ad 207), .ref (ad 208), .ref (ad 209), .int (iI (sc 2)), .int (iI (sc 3)), .int (iI (sc 4)), .ref (ad 210), .int (iI 1), .ref (ad 211), .ref (ad 212)])) 211 (eI (cA 0) 400 (tbS sc fn))) 212 (eJ (cA 2) 400 (tbF sc fn))) H → gD A ad (up (up (up w 200 (oB 6 [.int (iI 0), .int (iI (sc 0)), .ref (ad 201), .ref (ad 202), .ref (ad 203), .ref (ad 204), .int (iI (sc 1)), .ref (ad 205), .ref (ad 206), .ref (ad 207), .ref (ad 208), .ref (ad 209), .int (iI (sc 2)), .int (iI (sc 3)), .int (iI (sc 4)), .ref (ad 210), .int (iI 1), .ref (ad 211), .ref (ad 212)])) 211 (eI (cA 0) 400 (tbS sc fn))) 212 (eJ (cA 2) 400 (tbF sc fn))) → va_S A s.heap H locs → ∀ (ls : Array Slot), lv_has ls 4 [(3, .int (iI i)), (1, .long (lI z)), (0, .ref (ad 200))] → W p l e rmX6_digest s m args below meth c H locs 0 0 Q9 (F0 m 15 ls []) := by
    intro N9
    induction N9 with
    | zero => intro i z i0 iC hmu; exact absurd hmu (Nat.not_lt_zero _)
    | succ N9 ih_15 =>
      intro i z i0 iC hmu_15 H locs hP hD hS ls hl
      have cb_ := cntV_b hI (x := i)
      refine lv_iload_n (pc := 15) hx hb dX6_digest_15 rfl (lv_at hl 0 rfl) ?_
      refine k_iconst (pc := 16) hx hb dX6_digest_16 ?_
      refine k_icmp_ge (pc := 17) (tgt := 39) hx hb ⟨by omega, by omega⟩ ⟨by omega, by omega⟩ dX6_digest_17 (by decide) (fun hc_17 => ?_) (fun hc_17 => ?_)
      · skip
        refine lv_lload_n (pc := 39) hx hb dX6_digest_39 rfl (lv_at hl 1 rfl) ?_
        refine k_ldc2 (z := 31) (pc := 40) hx hb hown (hts (.constantLong RX6 173 (31)) (by decide +kernel)) (by decide +kernel) dX6_digest_40 ?_
        refine k_lmul (pc := 43) hx hb dX6_digest_43 ?_
        refine lv_aload_n (pc := 44) hx hb dX6_digest_44 rfl (lv_at hl 2 rfl) ?_
        refine k_get (pc := 45) (ci := 6) (C := RX6) (T := TX6) (N := 19) hx hb hts hi6 hown hK hP 200 (up_n (by decide) (up_n (by decide) (up_s _ _ _))) rfl 12 (by decide) hf38 (fun _ h9 => h9) rfl dX6_digest_45 ?_
        refine k_i2l (pc := 48) hx hb ⟨by omega, by omega⟩ dX6_digest_48 ?_
        refine k_ladd (pc := 49) hx hb dX6_digest_49 ?_
        refine k_ldc2 (z := 31) (pc := 50) hx hb hown (hts (.constantLong RX6 173 (31)) (by decide +kernel)) (by decide +kernel) dX6_digest_50 ?_
        refine k_lmul (pc := 53) hx hb dX6_digest_53 ?_
        refine lv_aload_n (pc := 54) hx hb dX6_digest_54 rfl (lv_at hl 2 rfl) ?_
        refine k_get (pc := 55) (ci := 6) (C := RX6) (T := TX6) (N := 19) hx hb hts hi6 hown hK hP 200 (up_n (by decide) (up_n (by decide) (up_s _ _ _))) rfl 13 (by decide) hf42 (fun _ h9 => h9) rfl dX6_digest_55 ?_
        refine k_i2l (pc := 58) hx hb ⟨by omega, by omega⟩ dX6_digest_58 ?_
        refine k_ladd (pc := 59) hx hb dX6_digest_59 ?_
        refine lv_lstore_n (pc := 60) (lv' := [(1, .long (lI ((((z * 31) + (sc 2)) * 31) + (sc 3)))), (3, .int (iI i)), (0, .ref (ad 200))]) hx hb dX6_digest_60 rfl hl (by decide) rfl (fun ls hl => ?_)
        refine k_iconst (pc := 61) hx hb dX6_digest_61 ?_
        refine lv_istore_n (pc := 62) (lv' := [(3, .int (iI 0)), (1, .long (lI ((((z * 31) + (sc 2)) * 31) + (sc 3)))), (0, .ref (ad 200))]) hx hb dX6_digest_62 rfl hl (by decide) rfl (fun ls hl => ?_)
        have lp_63 : ∀ (N9 : Nat) (i9 : Int) (z9 : Int), (0 ≤ i9 ∧ i9 ≤ 400) → (z9 = dgD sc fn ((dgC sc fn 5 * 31 + sc 2) * 31 + sc 3) i9.toNat) → (400 - i9).toNat < N9 → ∀ (H : Heap) (locs : List Loc), gP D vwCl ad (up (up (up w 200 (oB 6 [.int (iI 0), .int (iI (sc 0)), .ref (ad 201), .ref (ad 202), .ref (ad 203), .ref (ad 204), .int (iI (sc 1)), .ref (ad 205), .ref (ad 206), .ref (ad 207), .ref (ad 208), .ref (ad 209), .int (iI (sc 2)), .int (iI (sc 3)), .int (iI (sc 4)), .ref (ad 210), .int (iI 1), .ref (ad 211), .ref (ad 212)])) 211 (eI (cA 0) 400 (tbS sc fn))) 212 (eJ (cA 2) 400 (tbF sc fn))) H → gD A ad (up (up (up w 200 (oB 6 [.int (iI 0), .int (iI (sc 0)), .ref (ad 201), .ref (ad 202), .ref (ad 203), .ref (ad 204), .int (iI (sc 1)), .ref (ad 205), .ref (ad 206), .ref (ad 207), .ref (ad 208), .ref (ad 209), .int (iI (sc 2)), .int (iI (sc 3)), .int (iI (sc 4)), .ref (ad 210), .int (iI 1), .ref (ad 211), .ref (ad 212)])) 211 (eI (cA 0) 400 (tbS sc fn))) 212 (eJ (cA 2) 400 (tbF sc fn))) → va_S A s.heap H locs → ∀ (ls : Array Slot), lv_has ls 4 [(3, .int (iI i9)), (1, .long (lI z9)), (0, .ref (ad 200))] → W p l e rmX6_digest s m args below meth c H locs 0 0 Q9 (F0 m 63 ls []) := by
          intro N9
          induction N9 with
          | zero => intro i9 z9 j0 jC hmu; exact absurd hmu (Nat.not_lt_zero _)
          | succ N9 ih_63 =>
            intro i9 z9 j0 jC hmu_63 H locs hP hD hS ls hl
            have sb_ := sftF_bd hI1.2.1.1 hI.2.1 i9
            refine lv_iload_n (pc := 63) hx hb dX6_digest_63 rfl (lv_at hl 0 rfl) ?_
            refine k_sipush (pc := 64) hx hb dX6_digest_64 (by decide +kernel) ?_
            refine k_icmp_ge (pc := 67) (tgt := 112) hx hb ⟨by omega, by omega⟩ ⟨by omega, by omega⟩ dX6_digest_67 (by decide) (fun hc_67 => ?_) (fun hc_67 => ?_)
            · skip
              refine lv_lload_n (pc := 112) hx hb dX6_digest_112 rfl (lv_at hl 1 rfl) ?_
              have hz9 : z9 = dgV sc fn := by rw [jC, show i9 = 400 by omega]; rfl
              rw [hQ9]
              exact W.lret (v := lI z9) hx hb hret (fun t ht hW => ⟨⟨some (.long (lI z9)), ad, (up (up (up w 200 (oB 6 [.int (iI 0), .int (iI (sc 0)), .ref (ad 201), .ref (ad 202), .ref (ad 203), .ref (ad 204), .int (iI (sc 1)), .ref (ad 205), .ref (ad 206), .ref (ad 207), .ref (ad 208), .ref (ad 209), .int (iI (sc 2)), .int (iI (sc 3)), .int (iI (sc 4)), .ref (ad 210), .int (iI 1), .ref (ad 211), .ref (ad 212)])) 211 (eI (cA 0) 400 (tbS sc fn))) 212 (eJ (cA 2) 400 (tbF sc fn))), rfl, ⟨0, sc, fn, ⟨1, G1, G2, us, ut, ub, (tbS sc fn), (tbF sc fn), ⟨(up_n (by decide) (up_n (by decide) (up_s _ _ _))), (up_n (by decide) (up_n (by decide) (up_n (by decide) k1))), (up_n (by decide) (up_n (by decide) (up_n (by decide) k2))), (up_n (by decide) (up_n (by decide) (up_n (by decide) k3))), (up_n (by decide) (up_n (by decide) (up_n (by decide) k4))), (up_n (by decide) (up_n (by decide) (up_n (by decide) k5))), (up_n (by decide) (up_n (by decide) (up_n (by decide) k6))), (up_n (by decide) (up_n (by decide) (up_n (by decide) k7))), (up_n (by decide) (up_n (by decide) (up_n (by decide) k8))), (up_n (by decide) (up_n (by decide) (up_n (by decide) k9))), (up_n (by decide) (up_n (by decide) (up_n (by decide) k10))), (up_n (by decide) (up_s _ _ _)), (up_s _ _ _)⟩, hG1, hG2, hus, hut, hub, (tbOk_tb hI).2.1, (tbOk_tb hI).1, hmc, hmu, hmt, (Or.inr ⟨rfl, rfl, rfl⟩)⟩, hI, ⟨rfl, fun r hr => ⟨(up_n (by omega) (up_n (by omega) (up_n (by omega) rfl))), rfl⟩⟩, ⟨rfl, ⟨rfl, rfl, by rw [hz9]⟩⟩⟩, by rw [ht]; exact hP, hD⟩, hS.F ht⟩) hS.2.2 dX6_digest_113
            · skip
              refine lv_lload_n (pc := 70) hx hb dX6_digest_70 rfl (lv_at hl 1 rfl) ?_
              refine k_ldc2 (z := 31) (pc := 71) hx hb hown (hts (.constantLong RX6 173 (31)) (by decide +kernel)) (by decide +kernel) dX6_digest_71 ?_
              refine k_lmul (pc := 74) hx hb dX6_digest_74 ?_
              refine lv_aload_n (pc := 75) hx hb dX6_digest_75 rfl (lv_at hl 2 rfl) ?_
              refine lv_iload_n (pc := 76) hx hb dX6_digest_76 rfl (lv_at hl 0 rfl) ?_
              refine k_call0 (pc := 77) (va_runV (As := [.int (iI i9)]) (rest := [.long (lI (z9 * 31))]) ⟨hx, hb, hml, hown, hts⟩ (c_X6_shiftAt l D cA ad (up (up (up w 200 (oB 6 [.int (iI 0), .int (iI (sc 0)), .ref (ad 201), .ref (ad 202), .ref (ad 203), .ref (ad 204), .int (iI (sc 1)), .ref (ad 205), .ref (ad 206), .ref (ad 207), .ref (ad 208), .ref (ad 209), .int (iI (sc 2)), .int (iI (sc 3)), .int (iI (sc 4)), .ref (ad 210), .int (iI 1), .ref (ad 211), .ref (ad 212)])) 211 (eI (cA 0) 400 (tbS sc fn))) 212 (eJ (cA 2) 400 (tbF sc fn))) sc fn 0 1 us ut hI (up_n (by decide) (up_n (by decide) (up_s _ _ _))) (up_n (by decide) (up_n (by decide) (up_n (by decide) k5))) (up_n (by decide) (up_n (by decide) (up_n (by decide) k6))) hus hut hmu i9 (by omega)) (cwV 1 hts gX6_digest_X6_shiftAt rfl rfl rfl (by decide +kernel) ⟨Nat.le_of_ble_eq_true rfl, Nat.le_of_ble_eq_true rfl⟩) (gR_V hP hK hB 200 (ci := 6) rfl (up_n (by decide) (up_n (by decide) (up_s _ _ _)))) rfl rfl hl.1 rfl (lv_room (Nat.le_of_ble_eq_true rfl)) dX6_digest_77 ⟨Nat.le_of_ble_eq_true rfl, Nat.le_of_ble_eq_true rfl⟩) (fun v_77 hv_77 => ?_)
              obtain ⟨z_77, rfl, hz_77⟩ := hv_77
              refine W.eq (g2 := F0 m 80 ls [.int (iI z_77), .long (lI (z9 * 31))]) rfl ?_
              refine k_i2l (pc := 80) hx hb ⟨by omega, by omega⟩ dX6_digest_80 ?_
              refine k_ladd (pc := 81) hx hb dX6_digest_81 ?_
              refine k_ldc2 (z := 31) (pc := 82) hx hb hown (hts (.constantLong RX6 173 (31)) (by decide +kernel)) (by decide +kernel) dX6_digest_82 ?_
              refine k_lmul (pc := 85) hx hb dX6_digest_85 ?_
              refine lv_aload_n (pc := 86) hx hb dX6_digest_86 rfl (lv_at hl 2 rfl) ?_
              refine k_get (pc := 87) (ci := 6) (C := RX6) (T := TX6) (N := 19) hx hb hts hi6 hown hK hP 200 (up_n (by decide) (up_n (by decide) (up_s _ _ _))) rfl 17 (by decide) hf48 (fun _ h9 => h9) rfl dX6_digest_87 ?_
              refine lv_iload_n (pc := 90) hx hb dX6_digest_90 rfl (lv_at hl 0 rfl) ?_
              refine k_iald (pc := 91) hx hb hK hP 211 0 (up_n (by decide) (up_s _ _ _)) rfl (by omega) (by omega) (by omega) dX6_digest_91 ?_
              have hq_91 := (tbOk_tb hI).2.1 i9
              refine k_i2l (pc := 92) hx hb ⟨by omega, by omega⟩ dX6_digest_92 ?_
              refine k_ladd (pc := 93) hx hb dX6_digest_93 ?_
              refine k_ldc2 (z := 31) (pc := 94) hx hb hown (hts (.constantLong RX6 173 (31)) (by decide +kernel)) (by decide +kernel) dX6_digest_94 ?_
              refine k_lmul (pc := 97) hx hb dX6_digest_97 ?_
              refine lv_aload_n (pc := 98) hx hb dX6_digest_98 rfl (lv_at hl 2 rfl) ?_
              refine k_get (pc := 99) (ci := 6) (C := RX6) (T := TX6) (N := 19) hx hb hts hi6 hown hK hP 200 (up_n (by decide) (up_n (by decide) (up_s _ _ _))) rfl 18 (by decide) hf51 (fun _ h9 => h9) rfl dX6_digest_99 ?_
              refine lv_iload_n (pc := 102) hx hb dX6_digest_102 rfl (lv_at hl 0 rfl) ?_
              refine k_lald (pc := 103) hx hb hK hP 212 2 (up_s _ _ _) rfl (by omega) (by omega) (by omega) dX6_digest_103 ?_
              have hq_103 := (tbOk_tb hI).1 i9
              refine k_ladd (pc := 104) hx hb dX6_digest_104 ?_
              refine lv_lstore_n (pc := 105) (lv' := [(1, .long (lI ((((((z9 * 31) + z_77) * 31) + ((tbS sc fn) i9)) * 31) + ((tbF sc fn) i9)))), (3, .int (iI i9)), (0, .ref (ad 200))]) hx hb dX6_digest_105 rfl hl (by decide) rfl (fun ls hl => ?_)
              refine lv_iinc (pc := 106) (v := iI (i9 + 1)) (lv' := [(3, .int (iI (i9 + 1))), (1, .long (lI ((((((z9 * 31) + z_77) * 31) + ((tbS sc fn) i9)) * 31) + ((tbF sc fn) i9)))), (0, .ref (ad 200))]) hx hb dX6_digest_106 hl (k := 1) rfl (iI_add _ _) (by decide) rfl (fun ls hl => ?_)
              refine lv_goto (pc := 109) (tgt := 63) hx hb dX6_digest_109 (by decide) ?_
              exact ih_63 (i9 + 1) ((((((z9 * 31) + z_77) * 31) + ((tbS sc fn) i9)) * 31) + ((tbF sc fn) i9)) (by omega) (by rw [dgD_s (i := i9) (by omega), ← jC, hz_77]) (by omega) H locs hP hD hS ls (lv_sub hl [0, 1, 2] rfl)
        exact lp_63 _ 0 ((z * 31 + sc 2) * 31 + sc 3) (by omega) (by rw [iC, show i = 5 by omega]; rfl) (Nat.lt_succ_self _) H locs hP hD hS ls (lv_sub hl [0, 1, 2] rfl)
      · skip
        refine lv_lload_n (pc := 20) hx hb dX6_digest_20 rfl (lv_at hl 1 rfl) ?_
        refine k_ldc2 (z := 31) (pc := 21) hx hb hown (hts (.constantLong RX6 173 (31)) (by decide +kernel)) (by decide +kernel) dX6_digest_21 ?_
        refine k_lmul (pc := 24) hx hb dX6_digest_24 ?_
        refine lv_aload_n (pc := 25) hx hb dX6_digest_25 rfl (lv_at hl 2 rfl) ?_
        refine lv_iload_n (pc := 26) hx hb dX6_digest_26 rfl (lv_at hl 0 rfl) ?_
        refine k_call0 (pc := 27) (va_runV (As := [.int (iI i)]) (rest := [.long (lI (z * 31))]) ⟨hx, hb, hml, hown, hts⟩ (c_X6_counted l D cA ad (up (up (up w 200 (oB 6 [.int (iI 0), .int (iI (sc 0)), .ref (ad 201), .ref (ad 202), .ref (ad 203), .ref (ad 204), .int (iI (sc 1)), .ref (ad 205), .ref (ad 206), .ref (ad 207), .ref (ad 208), .ref (ad 209), .int (iI (sc 2)), .int (iI (sc 3)), .int (iI (sc 4)), .ref (ad 210), .int (iI 1), .ref (ad 211), .ref (ad 212)])) 211 (eI (cA 0) 400 (tbS sc fn))) 212 (eJ (cA 2) 400 (tbF sc fn))) sc fn 0 1 hI (up_n (by decide) (up_n (by decide) (up_s _ _ _))) (up_n (by decide) (up_n (by decide) (up_n (by decide) k7))) (up_n (by decide) (up_n (by decide) (up_n (by decide) k9))) i (by omega)) (cwV 1 hts gX6_digest_X6_counted rfl rfl rfl (by decide +kernel) ⟨Nat.le_of_ble_eq_true rfl, Nat.le_of_ble_eq_true rfl⟩) (gR_V hP hK hB 200 (ci := 6) rfl (up_n (by decide) (up_n (by decide) (up_s _ _ _)))) rfl rfl hl.1 rfl (lv_room (Nat.le_of_ble_eq_true rfl)) dX6_digest_27 ⟨Nat.le_of_ble_eq_true rfl, Nat.le_of_ble_eq_true rfl⟩) (fun v_27 hv_27 => ?_)
        obtain ⟨z_27, rfl, hz_27⟩ := hv_27
        refine W.eq (g2 := F0 m 30 ls [.int (iI z_27), .long (lI (z * 31))]) rfl ?_
        refine k_i2l (pc := 30) hx hb ⟨by omega, by omega⟩ dX6_digest_30 ?_
        refine k_ladd (pc := 31) hx hb dX6_digest_31 ?_
        refine lv_lstore_n (pc := 32) (lv' := [(1, .long (lI ((z * 31) + z_27))), (3, .int (iI i)), (0, .ref (ad 200))]) hx hb dX6_digest_32 rfl hl (by decide) rfl (fun ls hl => ?_)
        refine lv_iinc (pc := 33) (v := iI (i + 1)) (lv' := [(3, .int (iI (i + 1))), (1, .long (lI ((z * 31) + z_27))), (0, .ref (ad 200))]) hx hb dX6_digest_33 hl (k := 1) rfl (iI_add _ _) (by decide) rfl (fun ls hl => ?_)
        refine lv_goto (pc := 36) (tgt := 15) hx hb dX6_digest_36 (by decide) ?_
        exact ih_15 (i + 1) ((z * 31) + z_27) (by omega) (by rw [dgC_s (i := i) (by omega), ← iC, hz_27]) (by omega) H locs hP hD hS ls (lv_sub hl [0, 1, 2] rfl)
  exact lp_15 _ 0 317 (by omega) rfl (Nat.lt_succ_self _) H locs hP hD hS ls (lv_sub hl [0, 1, 2] rfl)

abbrev rmX6_whyMeasurement : Room := { frames := 1, cells := 0, slots := 0, locals := 25 }
theorem hiX6_whyMeasurement_6 : ∀ w ∈ wsX60, w ∈ wsX6_whyMeasurement := by decide +kernel
set_option maxHeartbeats 4000000 in
set_option maxRecDepth 100000 in
theorem c_X6_whyMeasurement (l : Launch) (D : va_G) (cA : Nat → ClassId) (ad : Nat → Nat) (w : Nat → Option va_E) (sc : Nat → Int) (fn : Nat → Int → Int) (th fr : Int) (ub : Int → Int) (hI : bkInv sc fn) (k0 : w 200 = some (oB 6 [.int (iI th), .int (iI (sc 0)), .ref (ad 201), .ref (ad 202), .ref (ad 203), .ref (ad 204), .int (iI (sc 1)), .ref (ad 205), .ref (ad 206), .ref (ad 207), .ref (ad 208), .ref (ad 209), .int (iI (sc 2)), .int (iI (sc 3)), .int (iI (sc 4)), .ref (ad 210), .int (iI fr), .ref (ad 211), .ref (ad 212)])) (k1 : w 201 = some (eI (cA 0) 6 (fn 8))) (k2 : w 202 = some (eI (cA 0) 6 (fn 9))) (k10 : w 210 = some (eI (cA 0) 120 ub)) (hub : ∀ j : Int, -500 ≤ ub j ∧ ub j ≤ 1000000) (hmt : mdT sc fn ub) (mi : Int) (hmi : (-2147483648 ≤ mi ∧ mi < 2147483648)) : Met l yX6_whyMeasurement wsX6_whyMeasurement rmX6_whyMeasurement (gR D cA ad w [.ref (ad 200), .int (iI mi)]) (gR0 (fun v9 => ∃ z : Int, v9 = some (.int (iI z)) ∧ ((z = 1 ∧ ¬ (0 ≤ mi ∧ mi < sc 4)) ∨ (z = 2 ∧ (0 ≤ mi ∧ mi < sc 4) ∧ ¬ (cvno sc fn (fn 5 mi) ≠ -1 ∧ 2 ≤ fn 9 (cvno sc fn (fn 5 mi)))) ∨ (z = 0 ∧ (0 ≤ mi ∧ mi < sc 4) ∧ (cvno sc fn (fn 5 mi) ≠ -1 ∧ 2 ≤ fn 9 (cvno sc fn (fn 5 mi))))))) 0 0 (fun _ => False) := by
  refine Met.ofW (cc := cX6_whyMeasurement) (maxL := 2) (ret := (some .int)) (by decide) rfl ?_
  intro p e s m args below meth c s₁ B hml hv
  obtain ⟨hav, hP, hK, hB⟩ := hv
  have hx := B.exec
  have hb := B.bytes
  have hret := B.returns
  have hts := atoms_spec (ws := wsX6_whyMeasurement) B.pre
  have hown : s.vm.findClass RX6 = some m.cls := findClass_of_methodNamed B.named
  have hlocks := B.notSynchronized
  have hS : va_S (fun _ => False) s.heap s.heap [] := va_S.rf
  have hi6 := hiX6_whyMeasurement_6
  have hf45 := hts (.fieldLink RX6 45 "GaugeBookModel" "table" "[I") (by decide +kernel)
  have hf156 := hts (.fieldLink RX6 156 "GaugeBookModel" "measured" "I") (by decide +kernel)
  have he9 : entryFrame m args 2 = F0 m 0 ((lg_sl ([.ref (ad 200), .int (iI mi)] : List Value) ++ List.replicate (2 - (lg_sl ([.ref (ad 200), .int (iI mi)] : List Value)).length) Slot.unset).toArray) [] := by rw [hav, lg_entry_eq]
  rw [he9]
  have hl := lv_entry ([.ref (ad 200), .int (iI mi)] : List Value) (n := 2) (Nat.le_of_ble_eq_true rfl)
  generalize (lg_sl ([.ref (ad 200), .int (iI mi)] : List Value) ++ List.replicate (2 - (lg_sl ([.ref (ad 200), .int (iI mi)] : List Value)).length) Slot.unset).toArray = ls at hl ⊢
  have hl : lv_has ls 2 [(0, .ref (ad 200)), (1, .int (iI mi))] := hl
  obtain ⟨Q9, hQ9⟩ : ∃ z, z = MQ below (gR0 (fun v9 => ∃ z : Int, v9 = some (.int (iI z)) ∧ ((z = 1 ∧ ¬ (0 ≤ mi ∧ mi < sc 4)) ∨ (z = 2 ∧ (0 ≤ mi ∧ mi < sc 4) ∧ ¬ (cvno sc fn (fn 5 mi) ≠ -1 ∧ 2 ≤ fn 9 (cvno sc fn (fn 5 mi)))) ∨ (z = 0 ∧ (0 ≤ mi ∧ mi < sc 4) ∧ (cvno sc fn (fn 5 mi) ≠ -1 ∧ 2 ≤ fn 9 (cvno sc fn (fn 5 mi))))))) args s 0 0 (fun _ => False) := ⟨_, rfl⟩
  rw [← hQ9]
  show W p l e rmX6_whyMeasurement s m args below meth c s.heap [] 0 0 Q9 (F0 m 0 ls [])
  have hI1 := hI.1
  refine lv_iload_n (pc := 0) hx hb dX6_whyMeasurement_0 rfl (lv_at hl 1 rfl) ?_
  refine k_i2l (pc := 1) hx hb ⟨by omega, by omega⟩ dX6_whyMeasurement_1 ?_
  refine k_lconst0 (pc := 2) hx hb dX6_whyMeasurement_2 ?_
  refine lv_aload_n (pc := 3) hx hb dX6_whyMeasurement_3 rfl (lv_at hl 0 rfl) ?_
  refine k_get (pc := 4) (ci := 6) (C := RX6) (T := TX6) (N := 19) hx hb hts hi6 hown hK hP 200 k0 rfl 14 (by decide) hf156 (fun _ h9 => h9) rfl dX6_whyMeasurement_4 ?_
  refine k_iconst (pc := 7) hx hb dX6_whyMeasurement_7 ?_
  refine k_isub (pc := 8) hx hb dX6_whyMeasurement_8 ?_
  refine k_i2l (pc := 9) hx hb ⟨by omega, by omega⟩ dX6_whyMeasurement_9 ?_
  refine k_call0 (pc := 10) (va_runS (As := [.long (lI mi), .long (lI 0), .long (lI ((sc 4) - 1))]) (rest := []) ⟨hx, hb, hml, hown, hts⟩ (c_X6_isIn l D cA ad w mi 0 ((sc 4) - 1) (by omega) (by omega) (by omega)) (va_cwS 3 hts gX6_whyMeasurement_X6_isIn rfl rfl rfl (by decide +kernel) ⟨Nat.le_of_ble_eq_true rfl, Nat.le_of_ble_eq_true rfl⟩) (gR_S hP hK hB) rfl rfl hl.1 rfl (lv_room (Nat.le_of_ble_eq_true rfl)) dX6_whyMeasurement_10 ⟨Nat.le_of_ble_eq_true rfl, Nat.le_of_ble_eq_true rfl⟩) (fun v_10 hv_10 => ?_)
  obtain ⟨z_10, rfl, hz_10⟩ := hv_10
  refine W.eq (g2 := F0 m 13 ls [.int (iI z_10)]) rfl ?_
  refine k_if_ne (pc := 13) (tgt := 20) hx hb ⟨by omega, by omega⟩ dX6_whyMeasurement_13 (by decide) (fun hc_13 => ?_) (fun hc_13 => ?_)
  · skip
    have tt_ := hmt mi (by omega) (by omega)
    have b5_ := hI.2.2.2.2.2.1 mi
    have b6_ := hI.2.2.2.2.2.2.1 mi
    have b7_ := hI.2.2.2.2.2.2.2.1 mi
    refine lv_aload_n (pc := 20) hx hb dX6_whyMeasurement_20 rfl (lv_at hl 0 rfl) ?_
    refine lv_aload_n (pc := 21) hx hb dX6_whyMeasurement_21 rfl (lv_at hl 0 rfl) ?_
    refine lv_aload_n (pc := 22) hx hb dX6_whyMeasurement_22 rfl (lv_at hl 0 rfl) ?_
    refine k_get (pc := 23) (ci := 6) (C := RX6) (T := TX6) (N := 19) hx hb hts hi6 hown hK hP 200 k0 rfl 15 (by decide) hf45 (fun _ h9 => h9) rfl dX6_whyMeasurement_23 ?_
    refine k_iconst (pc := 26) hx hb dX6_whyMeasurement_26 ?_
    refine lv_iload_n (pc := 27) hx hb dX6_whyMeasurement_27 rfl (lv_at hl 1 rfl) ?_
    refine k_imul (pc := 28) hx hb dX6_whyMeasurement_28 ?_
    refine k_iald (pc := 29) hx hb hK hP 210 0 k10 rfl (by omega) (by omega) (by omega) dX6_whyMeasurement_29 ?_
    have hq_29 := hub (3 * mi)
    have he_30 : ub (3 * mi) = fn 5 mi := tt_.1
    rw [he_30]
    refine k_call0 (pc := 30) (va_runV (As := [.int (iI (fn 5 mi))]) (rest := [.ref (ad 200)]) ⟨hx, hb, hml, hown, hts⟩ (c_X6_curveAt l D cA ad w sc fn th fr hI k0 k1 (fn 5 mi) (by omega)) (cwV 1 hts gX6_whyMeasurement_X6_curveAt rfl rfl rfl (by decide +kernel) ⟨Nat.le_of_ble_eq_true rfl, Nat.le_of_ble_eq_true rfl⟩) (gR_V hP hK hB 200 (ci := 6) rfl k0) rfl rfl hl.1 rfl (lv_room (Nat.le_of_ble_eq_true rfl)) dX6_whyMeasurement_30 ⟨Nat.le_of_ble_eq_true rfl, Nat.le_of_ble_eq_true rfl⟩) (fun v_30 hv_30 => ?_)
    obtain ⟨z_30, rfl, hz_30, hy_30, hw_30⟩ := hv_30
    refine W.eq (g2 := F0 m 33 ls [.int (iI z_30), .ref (ad 200)]) rfl ?_
    refine k_call0 (pc := 33) (va_runV (As := [.int (iI z_30)]) (rest := []) ⟨hx, hb, hml, hown, hts⟩ (c_X6_isComplete l D cA ad w sc fn th fr hI k0 k2 z_30 (by omega)) (cwV 1 hts gX6_whyMeasurement_X6_isComplete rfl rfl rfl (by decide +kernel) ⟨Nat.le_of_ble_eq_true rfl, Nat.le_of_ble_eq_true rfl⟩) (gR_V hP hK hB 200 (ci := 6) rfl k0) rfl rfl hl.1 rfl (lv_room (Nat.le_of_ble_eq_true rfl)) dX6_whyMeasurement_33 ⟨Nat.le_of_ble_eq_true rfl, Nat.le_of_ble_eq_true rfl⟩) (fun v_33 hv_33 => ?_)
    obtain ⟨z_33, rfl, hz_33⟩ := hv_33
    refine W.eq (g2 := F0 m 36 ls [.int (iI z_33)]) rfl ?_
    refine k_if_ne (pc := 36) (tgt := 43) hx hb ⟨by omega, by omega⟩ dX6_whyMeasurement_36 (by decide) (fun hc_36 => ?_) (fun hc_36 => ?_)
    · skip
      rw [hz_30] at hz_33
      refine k_iconst (pc := 43) hx hb dX6_whyMeasurement_43 ?_
      rw [hQ9]
      exact W.iret (v := iI 0) hx hb hret (fun t ht hW => ⟨some (.int (iI 0)), rfl, ⟨0, rfl, Or.inr (Or.inr ⟨rfl, by omega, by omega⟩)⟩, ht⟩) (fun q hq => by cases hq) dX6_whyMeasurement_44
    · skip
      rw [hz_30] at hz_33
      refine k_iconst (pc := 39) hx hb dX6_whyMeasurement_39 ?_
      refine lv_goto (pc := 40) (tgt := 44) hx hb dX6_whyMeasurement_40 (by decide) ?_
      rw [hQ9]
      exact W.iret (v := iI 2) hx hb hret (fun t ht hW => ⟨some (.int (iI 2)), rfl, ⟨2, rfl, Or.inr (Or.inl ⟨rfl, by omega, by omega⟩)⟩, ht⟩) (fun q hq => by cases hq) dX6_whyMeasurement_44
  · skip
    refine k_iconst (pc := 16) hx hb dX6_whyMeasurement_16 ?_
    refine lv_goto (pc := 17) (tgt := 44) hx hb dX6_whyMeasurement_17 (by decide) ?_
    rw [hQ9]
    exact W.iret (v := iI 1) hx hb hret (fun t ht hW => ⟨some (.int (iI 1)), rfl, ⟨1, rfl, Or.inl ⟨rfl, by omega⟩⟩, ht⟩) (fun q hq => by cases hq) dX6_whyMeasurement_44

abbrev rmX6_deviation : Room := { frames := 2, cells := 0, slots := 0, locals := 46 }
theorem hiX6_deviation_6 : ∀ w ∈ wsX60, w ∈ wsX6_deviation := by decide +kernel
set_option maxHeartbeats 4000000 in
set_option maxRecDepth 100000 in
theorem c_X6_deviation (l : Launch) (D : va_G) (cA : Nat → ClassId) (ad : Nat → Nat) (w : Nat → Option va_E) (sz : Nat) (th : Int) (sc : Nat → Int) (fn : Nat → Int → Int) (hI : bkInv sc fn) (hmd : mdS cA ad w th sc fn) (mi : Int) (hmi : (-2147483648 ≤ mi ∧ mi < 2147483648)) : Met l yX6_deviation wsX6_deviation rmX6_deviation (gV D cA ad w sz [.ref (ad 200), .int (iI mi)]) (gW D (fun v9 ad1 w1 => ∃ (th2 : Int) (sc2 : Nat → Int) (fn2 : Nat → Int → Int), mdS cA ad1 w1 th2 sc2 fn2 ∧ bkInv sc2 fn2 ∧ keepM ad ad1 w w1 ∧ ((th2 = 0 ∧ (sc2 = sc ∧ fn2 = fn ∧ 0 ≤ mi ∧ mi < sc 4 ∧ (cvno sc fn (fn 5 mi) ≠ -1 ∧ 2 ≤ fn 9 (cvno sc fn (fn 5 mi))) ∧ v9 = some (.long (lI (fn 7 mi - flowF (fn (20 + (cvno sc fn (fn 5 mi)).toNat)) (fn (30 + (cvno sc fn (fn 5 mi)).toNat)) (fn 9 (cvno sc fn (fn 5 mi))) (fn 6 mi - sftF (fn 0) (fn 1) (sc 1) (fn 5 mi))))))) ∨ (th2 = 1 ∧ v9 = some (.long (lI 0)) ∧ sc2 = sc ∧ fn2 = fn ∧ (¬ (0 ≤ mi ∧ mi < sc 4))) ∨ (th2 = 2 ∧ v9 = some (.long (lI 0)) ∧ sc2 = sc ∧ fn2 = fn ∧ ((0 ≤ mi ∧ mi < sc 4) ∧ ¬ (cvno sc fn (fn 5 mi) ≠ -1 ∧ 2 ≤ fn 9 (cvno sc fn (fn 5 mi))))))) (gA ad w sz)) 0 0 (gA ad w sz) := by
  refine Met.ofW (cc := cX6_deviation) (maxL := 3) (ret := (some .long)) (by decide) rfl ?_
  intro p e s m args below meth c s₁ B hml hv
  obtain ⟨hav, hsz, hP, hD0, hK, hB, hZ⟩ := hv
  have hx := B.exec
  have hb := B.bytes
  have hret := B.returns
  have hts := atoms_spec (ws := wsX6_deviation) B.pre
  have hown : s.vm.findClass RX6 = some m.cls := findClass_of_methodNamed B.named
  have hlocks := B.notSynchronized
  subst hsz
  have hD := hD0.self (sz := s.heap.size)
  generalize hAe : gA ad w s.heap.size = A at hD hZ ⊢
  have hA : ∀ q : Nat, s.heap.size ≤ q → A q := fun q h => by rw [← hAe]; exact Or.inr h
  have hS : va_S A s.heap s.heap [] := va_S.rf
  have hi6 := hiX6_deviation_6
  have hf45 := hts (.fieldLink RX6 45 "GaugeBookModel" "table" "[I") (by decide +kernel)
  have hf55 := hts (.fieldLink RX6 55 "GaugeBookModel" "thrown" "I") (by decide +kernel)
  have he9 : entryFrame m args 3 = F0 m 0 ((lg_sl ([.ref (ad 200), .int (iI mi)] : List Value) ++ List.replicate (3 - (lg_sl ([.ref (ad 200), .int (iI mi)] : List Value)).length) Slot.unset).toArray) [] := by rw [hav, lg_entry_eq]
  rw [he9]
  have hl := lv_entry ([.ref (ad 200), .int (iI mi)] : List Value) (n := 3) (Nat.le_of_ble_eq_true rfl)
  generalize (lg_sl ([.ref (ad 200), .int (iI mi)] : List Value) ++ List.replicate (3 - (lg_sl ([.ref (ad 200), .int (iI mi)] : List Value)).length) Slot.unset).toArray = ls at hl ⊢
  have hl : lv_has ls 3 [(0, .ref (ad 200)), (1, .int (iI mi))] := hl
  obtain ⟨Q9, hQ9⟩ : ∃ z, z = MQ below (gW D (fun v9 ad1 w1 => ∃ (th2 : Int) (sc2 : Nat → Int) (fn2 : Nat → Int → Int), mdS cA ad1 w1 th2 sc2 fn2 ∧ bkInv sc2 fn2 ∧ keepM ad ad1 w w1 ∧ ((th2 = 0 ∧ (sc2 = sc ∧ fn2 = fn ∧ 0 ≤ mi ∧ mi < sc 4 ∧ (cvno sc fn (fn 5 mi) ≠ -1 ∧ 2 ≤ fn 9 (cvno sc fn (fn 5 mi))) ∧ v9 = some (.long (lI (fn 7 mi - flowF (fn (20 + (cvno sc fn (fn 5 mi)).toNat)) (fn (30 + (cvno sc fn (fn 5 mi)).toNat)) (fn 9 (cvno sc fn (fn 5 mi))) (fn 6 mi - sftF (fn 0) (fn 1) (sc 1) (fn 5 mi))))))) ∨ (th2 = 1 ∧ v9 = some (.long (lI 0)) ∧ sc2 = sc ∧ fn2 = fn ∧ (¬ (0 ≤ mi ∧ mi < sc 4))) ∨ (th2 = 2 ∧ v9 = some (.long (lI 0)) ∧ sc2 = sc ∧ fn2 = fn ∧ ((0 ≤ mi ∧ mi < sc 4) ∧ ¬ (cvno sc fn (fn 5 mi) ≠ -1 ∧ 2 ≤ fn 9 (cvno sc fn (fn 5 mi))))))) A) args s 0 0 A := ⟨_, rfl⟩
  rw [← hQ9]
  show W p l e rmX6_deviation s m args below meth c s.heap [] 0 0 Q9 (F0 m 0 ls [])
  obtain ⟨H, hHe⟩ : ∃ z, z = s.heap := ⟨_, rfl⟩
  obtain ⟨locs, hLe⟩ : ∃ z, z = ([] : List Loc) := ⟨_, rfl⟩
  have hP : gP D vwCl ad w H := by rw [hHe]; exact hP
  have hS : va_S A s.heap H locs := by rw [hHe, hLe]; exact va_S.rf
  rw [show W p l e rmX6_deviation s m args below meth c s.heap [] 0 0 Q9 (F0 m 0 ls []) = W p l e rmX6_deviation s m args below meth c H locs 0 0 Q9 (F0 m 0 ls []) by rw [hHe, hLe]]
  clear hHe hLe
  obtain ⟨fr, G1, G2, us, ut, ub, S, F, ⟨k0, k1, k2, k3, k4, k5, k6, k7, k8, k9, k10, k11, k12⟩, hG1, hG2, hus, hut, hub, hS9, hF, hmc, hmu, hmt, hrk⟩ := hmd
  have hI1 := hI.1
  refine lv_aload_n (pc := 0) hx hb dX6_deviation_0 rfl (lv_at hl 0 rfl) ?_
  refine lv_aload_n (pc := 1) hx hb dX6_deviation_1 rfl (lv_at hl 0 rfl) ?_
  refine lv_iload_n (pc := 2) hx hb dX6_deviation_2 rfl (lv_at hl 1 rfl) ?_
  refine k_call0 (pc := 3) (va_runV (As := [.int (iI mi)]) (rest := [.ref (ad 200)]) ⟨hx, hb, hml, hown, hts⟩ (c_X6_whyMeasurement l D cA ad w sc fn th fr ub hI k0 k1 k2 k10 hub hmt mi (by omega)) (cwV 1 hts gX6_deviation_X6_whyMeasurement rfl rfl rfl (by decide +kernel) ⟨Nat.le_of_ble_eq_true rfl, Nat.le_of_ble_eq_true rfl⟩) (gR_V hP hK hB 200 (ci := 6) rfl k0) rfl rfl hl.1 rfl (lv_room (Nat.le_of_ble_eq_true rfl)) dX6_deviation_3 ⟨Nat.le_of_ble_eq_true rfl, Nat.le_of_ble_eq_true rfl⟩) (fun v_3 hv_3 => ?_)
  obtain ⟨z_3, rfl, hz_3⟩ := hv_3
  refine W.eq (g2 := F0 m 6 ls [.int (iI z_3), .ref (ad 200)]) rfl ?_
  refine k_put (pc := 6) (ci := 6) (C := RX6) (T := TX6) (N := 19) (ty := .int) (v := .int (iI z_3)) (w1 := (up w 200 (oB 6 [.int (iI z_3), .int (iI (sc 0)), .ref (ad 201), .ref (ad 202), .ref (ad 203), .ref (ad 204), .int (iI (sc 1)), .ref (ad 205), .ref (ad 206), .ref (ad 207), .ref (ad 208), .ref (ad 209), .int (iI (sc 2)), .int (iI (sc 3)), .int (iI (sc 4)), .ref (ad 210), .int (iI fr), .ref (ad 211), .ref (ad 212)]))) hx hb hts hi6 tyX6 tyX6_ok nmX6 hown hK hP hD hS 200 k0 rfl 0 (by decide) hf55 (fun _ h9 => h9) rfl (by decide +kernel) rfl rfl (Nat.le_of_ble_eq_true rfl) rfl dX6_deviation_6 (fun H locs hP hD hS => ?_)
  rcases hz_3 with ⟨e9_, q1_⟩ | ⟨e9_, q1_, q2_⟩ | ⟨e9_, q1_, q2_, q3_⟩
  · skip
    subst e9_
    refine lv_aload_n (pc := 9) hx hb dX6_deviation_9 rfl (lv_at hl 0 rfl) ?_
    refine k_get (pc := 10) (ci := 6) (C := RX6) (T := TX6) (N := 19) hx hb hts hi6 hown hK hP 200 (up_s _ _ _) rfl 0 (by decide) hf55 (fun _ h9 => h9) rfl dX6_deviation_10 ?_
    refine k_if_eq (pc := 13) (tgt := 18) hx hb ⟨by omega, by omega⟩ dX6_deviation_13 (by decide) (fun hc_13 => ?_) (fun hc_13 => ?_)
    · skip
      exfalso
      omega
    · skip
      refine k_lconst0 (pc := 16) hx hb dX6_deviation_16 ?_
      rw [hQ9]
      exact W.lret (v := lI 0) hx hb hret (fun t ht hW => ⟨⟨some (.long (lI 0)), ad, (up w 200 (oB 6 [.int (iI 1), .int (iI (sc 0)), .ref (ad 201), .ref (ad 202), .ref (ad 203), .ref (ad 204), .int (iI (sc 1)), .ref (ad 205), .ref (ad 206), .ref (ad 207), .ref (ad 208), .ref (ad 209), .int (iI (sc 2)), .int (iI (sc 3)), .int (iI (sc 4)), .ref (ad 210), .int (iI fr), .ref (ad 211), .ref (ad 212)])), rfl, ⟨1, sc, fn, ⟨fr, G1, G2, us, ut, ub, S, F, ⟨(up_s _ _ _), (up_n (by decide) k1), (up_n (by decide) k2), (up_n (by decide) k3), (up_n (by decide) k4), (up_n (by decide) k5), (up_n (by decide) k6), (up_n (by decide) k7), (up_n (by decide) k8), (up_n (by decide) k9), (up_n (by decide) k10), (up_n (by decide) k11), (up_n (by decide) k12)⟩, hG1, hG2, hus, hut, hub, hS9, hF, hmc, hmu, hmt, hrk⟩, hI, ⟨rfl, fun r hr => ⟨(up_n (by omega) rfl), rfl⟩⟩, Or.inr (Or.inl (⟨rfl, rfl, rfl, rfl, by omega⟩))⟩, by rw [ht]; exact hP, hD⟩, hS.F ht⟩) hS.2.2 dX6_deviation_17
  · skip
    subst e9_
    refine lv_aload_n (pc := 9) hx hb dX6_deviation_9 rfl (lv_at hl 0 rfl) ?_
    refine k_get (pc := 10) (ci := 6) (C := RX6) (T := TX6) (N := 19) hx hb hts hi6 hown hK hP 200 (up_s _ _ _) rfl 0 (by decide) hf55 (fun _ h9 => h9) rfl dX6_deviation_10 ?_
    refine k_if_eq (pc := 13) (tgt := 18) hx hb ⟨by omega, by omega⟩ dX6_deviation_13 (by decide) (fun hc_13 => ?_) (fun hc_13 => ?_)
    · skip
      exfalso
      omega
    · skip
      refine k_lconst0 (pc := 16) hx hb dX6_deviation_16 ?_
      rw [hQ9]
      exact W.lret (v := lI 0) hx hb hret (fun t ht hW => ⟨⟨some (.long (lI 0)), ad, (up w 200 (oB 6 [.int (iI 2), .int (iI (sc 0)), .ref (ad 201), .ref (ad 202), .ref (ad 203), .ref (ad 204), .int (iI (sc 1)), .ref (ad 205), .ref (ad 206), .ref (ad 207), .ref (ad 208), .ref (ad 209), .int (iI (sc 2)), .int (iI (sc 3)), .int (iI (sc 4)), .ref (ad 210), .int (iI fr), .ref (ad 211), .ref (ad 212)])), rfl, ⟨2, sc, fn, ⟨fr, G1, G2, us, ut, ub, S, F, ⟨(up_s _ _ _), (up_n (by decide) k1), (up_n (by decide) k2), (up_n (by decide) k3), (up_n (by decide) k4), (up_n (by decide) k5), (up_n (by decide) k6), (up_n (by decide) k7), (up_n (by decide) k8), (up_n (by decide) k9), (up_n (by decide) k10), (up_n (by decide) k11), (up_n (by decide) k12)⟩, hG1, hG2, hus, hut, hub, hS9, hF, hmc, hmu, hmt, hrk⟩, hI, ⟨rfl, fun r hr => ⟨(up_n (by omega) rfl), rfl⟩⟩, Or.inr (Or.inr (⟨rfl, rfl, rfl, rfl, ⟨by omega, q2_⟩⟩))⟩, by rw [ht]; exact hP, hD⟩, hS.F ht⟩) hS.2.2 dX6_deviation_17
  · skip
    subst e9_
    refine lv_aload_n (pc := 9) hx hb dX6_deviation_9 rfl (lv_at hl 0 rfl) ?_
    refine k_get (pc := 10) (ci := 6) (C := RX6) (T := TX6) (N := 19) hx hb hts hi6 hown hK hP 200 (up_s _ _ _) rfl 0 (by decide) hf55 (fun _ h9 => h9) rfl dX6_deviation_10 ?_
    refine k_if_eq (pc := 13) (tgt := 18) hx hb ⟨by omega, by omega⟩ dX6_deviation_13 (by decide) (fun hc_13 => ?_) (fun hc_13 => ?_)
    · skip
      have tt_ := hmt mi (by omega) (by omega)
      have b5_ := hI.2.2.2.2.2.1 mi
      have b6_ := hI.2.2.2.2.2.2.1 mi
      have b7_ := hI.2.2.2.2.2.2.2.1 mi
      have sb_ := sftF_bd hI1.2.1.1 hI.2.1 (fn 5 mi)
      refine lv_aload_n (pc := 18) hx hb dX6_deviation_18 rfl (lv_at hl 0 rfl) ?_
      refine k_get (pc := 19) (ci := 6) (C := RX6) (T := TX6) (N := 19) hx hb hts hi6 hown hK hP 200 (up_s _ _ _) rfl 15 (by decide) hf45 (fun _ h9 => h9) rfl dX6_deviation_19 ?_
      refine k_iconst (pc := 22) hx hb dX6_deviation_22 ?_
      refine lv_iload_n (pc := 23) hx hb dX6_deviation_23 rfl (lv_at hl 1 rfl) ?_
      refine k_imul (pc := 24) hx hb dX6_deviation_24 ?_
      refine k_iald (pc := 25) hx hb hK hP 210 0 (up_n (by decide) k10) rfl (by omega) (by omega) (by omega) dX6_deviation_25 ?_
      have hq_25 := hub (3 * mi)
      have he_26 : ub (3 * mi) = fn 5 mi := tt_.1
      rw [he_26]
      refine lv_istore_n (pc := 26) (lv' := [(2, .int (iI (fn 5 mi))), (0, .ref (ad 200)), (1, .int (iI mi))]) hx hb dX6_deviation_26 rfl hl (by decide) rfl (fun ls hl => ?_)
      refine lv_aload_n (pc := 27) hx hb dX6_deviation_27 rfl (lv_at hl 1 rfl) ?_
      refine k_get (pc := 28) (ci := 6) (C := RX6) (T := TX6) (N := 19) hx hb hts hi6 hown hK hP 200 (up_s _ _ _) rfl 15 (by decide) hf45 (fun _ h9 => h9) rfl dX6_deviation_28 ?_
      refine k_iconst (pc := 31) hx hb dX6_deviation_31 ?_
      refine lv_iload_n (pc := 32) hx hb dX6_deviation_32 rfl (lv_at hl 2 rfl) ?_
      refine k_imul (pc := 33) hx hb dX6_deviation_33 ?_
      refine k_iconst (pc := 34) hx hb dX6_deviation_34 ?_
      refine k_iadd (pc := 35) hx hb dX6_deviation_35 ?_
      refine k_iald (pc := 36) hx hb hK hP 210 0 (up_n (by decide) k10) rfl (by omega) (by omega) (by omega) dX6_deviation_36 ?_
      have hq_36 := hub ((3 * mi) + 2)
      have he_37 : ub ((3 * mi) + 2) = fn 7 mi := tt_.2.2
      rw [he_37]
      refine k_i2l (pc := 37) hx hb ⟨by omega, by omega⟩ dX6_deviation_37 ?_
      refine lv_aload_n (pc := 38) hx hb dX6_deviation_38 rfl (lv_at hl 1 rfl) ?_
      refine lv_aload_n (pc := 39) hx hb dX6_deviation_39 rfl (lv_at hl 1 rfl) ?_
      refine lv_iload_n (pc := 40) hx hb dX6_deviation_40 rfl (lv_at hl 0 rfl) ?_
      refine k_call0 (pc := 41) (va_runV (As := [.int (iI (fn 5 mi))]) (rest := [.ref (ad 200), .long (lI (fn 7 mi))]) ⟨hx, hb, hml, hown, hts⟩ (c_X6_curveAt l D cA ad (up w 200 (oB 6 [.int (iI 0), .int (iI (sc 0)), .ref (ad 201), .ref (ad 202), .ref (ad 203), .ref (ad 204), .int (iI (sc 1)), .ref (ad 205), .ref (ad 206), .ref (ad 207), .ref (ad 208), .ref (ad 209), .int (iI (sc 2)), .int (iI (sc 3)), .int (iI (sc 4)), .ref (ad 210), .int (iI fr), .ref (ad 211), .ref (ad 212)])) sc fn 0 fr hI (up_s _ _ _) (up_n (by decide) k1) (fn 5 mi) (by omega)) (cwV 1 hts gX6_deviation_X6_curveAt rfl rfl rfl (by decide +kernel) ⟨Nat.le_of_ble_eq_true rfl, Nat.le_of_ble_eq_true rfl⟩) (gR_V hP hK hB 200 (ci := 6) rfl (up_s _ _ _)) rfl rfl hl.1 rfl (lv_room (Nat.le_of_ble_eq_true rfl)) dX6_deviation_41 ⟨Nat.le_of_ble_eq_true rfl, Nat.le_of_ble_eq_true rfl⟩) (fun v_41 hv_41 => ?_)
      obtain ⟨z_41, rfl, hz_41, hy_41, hw_41⟩ := hv_41
      refine W.eq (g2 := F0 m 44 ls [.int (iI z_41), .ref (ad 200), .long (lI (fn 7 mi))]) rfl ?_
      have hcc_ : (cvno sc fn (fn 5 mi) ≠ -1 ∧ 2 ≤ fn 9 (cvno sc fn (fn 5 mi))) := ⟨q2_, q3_⟩
      rw [← hz_41] at q2_ q3_
      refine lv_aload_n (pc := 44) hx hb dX6_deviation_44 rfl (lv_at hl 1 rfl) ?_
      refine k_get (pc := 45) (ci := 6) (C := RX6) (T := TX6) (N := 19) hx hb hts hi6 hown hK hP 200 (up_s _ _ _) rfl 15 (by decide) hf45 (fun _ h9 => h9) rfl dX6_deviation_45 ?_
      refine k_iconst (pc := 48) hx hb dX6_deviation_48 ?_
      refine lv_iload_n (pc := 49) hx hb dX6_deviation_49 rfl (lv_at hl 2 rfl) ?_
      refine k_imul (pc := 50) hx hb dX6_deviation_50 ?_
      refine k_iconst (pc := 51) hx hb dX6_deviation_51 ?_
      refine k_iadd (pc := 52) hx hb dX6_deviation_52 ?_
      refine k_iald (pc := 53) hx hb hK hP 210 0 (up_n (by decide) k10) rfl (by omega) (by omega) (by omega) dX6_deviation_53 ?_
      have hq_53 := hub ((3 * mi) + 1)
      have he_54 : ub ((3 * mi) + 1) = fn 6 mi := tt_.2.1
      rw [he_54]
      refine lv_aload_n (pc := 54) hx hb dX6_deviation_54 rfl (lv_at hl 1 rfl) ?_
      refine lv_iload_n (pc := 55) hx hb dX6_deviation_55 rfl (lv_at hl 0 rfl) ?_
      refine k_call0 (pc := 56) (va_runV (As := [.int (iI (fn 5 mi))]) (rest := [.int (iI (fn 6 mi)), .int (iI z_41), .ref (ad 200), .long (lI (fn 7 mi))]) ⟨hx, hb, hml, hown, hts⟩ (c_X6_shiftAt l D cA ad (up w 200 (oB 6 [.int (iI 0), .int (iI (sc 0)), .ref (ad 201), .ref (ad 202), .ref (ad 203), .ref (ad 204), .int (iI (sc 1)), .ref (ad 205), .ref (ad 206), .ref (ad 207), .ref (ad 208), .ref (ad 209), .int (iI (sc 2)), .int (iI (sc 3)), .int (iI (sc 4)), .ref (ad 210), .int (iI fr), .ref (ad 211), .ref (ad 212)])) sc fn 0 fr us ut hI (up_s _ _ _) (up_n (by decide) k5) (up_n (by decide) k6) hus hut hmu (fn 5 mi) (by omega)) (cwV 1 hts gX6_deviation_X6_shiftAt rfl rfl rfl (by decide +kernel) ⟨Nat.le_of_ble_eq_true rfl, Nat.le_of_ble_eq_true rfl⟩) (gR_V hP hK hB 200 (ci := 6) rfl (up_s _ _ _)) rfl rfl hl.1 rfl (lv_room (Nat.le_of_ble_eq_true rfl)) dX6_deviation_56 ⟨Nat.le_of_ble_eq_true rfl, Nat.le_of_ble_eq_true rfl⟩) (fun v_56 hv_56 => ?_)
      obtain ⟨z_56, rfl, hz_56⟩ := hv_56
      refine W.eq (g2 := F0 m 59 ls [.int (iI z_56), .int (iI (fn 6 mi)), .int (iI z_41), .ref (ad 200), .long (lI (fn 7 mi))]) rfl ?_
      refine k_isub (pc := 59) hx hb dX6_deviation_59 ?_
      refine k_call0 (pc := 60) (va_runV (As := [.int (iI z_41), .int (iI ((fn 6 mi) - z_56))]) (rest := [.long (lI (fn 7 mi))]) ⟨hx, hb, hml, hown, hts⟩ (c_X6_flowFor l D cA ad (up w 200 (oB 6 [.int (iI 0), .int (iI (sc 0)), .ref (ad 201), .ref (ad 202), .ref (ad 203), .ref (ad 204), .int (iI (sc 1)), .ref (ad 205), .ref (ad 206), .ref (ad 207), .ref (ad 208), .ref (ad 209), .int (iI (sc 2)), .int (iI (sc 3)), .int (iI (sc 4)), .ref (ad 210), .int (iI fr), .ref (ad 211), .ref (ad 212)])) sc fn 0 fr G1 G2 hI (up_s _ _ _) (up_n (by decide) k2) (up_n (by decide) k3) (up_n (by decide) k4) hG1 hG2 hmc z_41 ((fn 6 mi) - z_56) (by omega) (by omega) (by omega)) (cwV 2 hts gX6_deviation_X6_flowFor rfl rfl rfl (by decide +kernel) ⟨Nat.le_of_ble_eq_true rfl, Nat.le_of_ble_eq_true rfl⟩) (gR_V hP hK hB 200 (ci := 6) rfl (up_s _ _ _)) rfl rfl hl.1 rfl (lv_room (Nat.le_of_ble_eq_true rfl)) dX6_deviation_60 ⟨Nat.le_of_ble_eq_true rfl, Nat.le_of_ble_eq_true rfl⟩) (fun v_60 hv_60 => ?_)
      obtain ⟨z_60, rfl, hz_60⟩ := hv_60
      refine W.eq (g2 := F0 m 63 ls [.long (lI z_60), .long (lI (fn 7 mi))]) rfl ?_
      refine k_lsub (pc := 63) hx hb dX6_deviation_63 ?_
      have he_64 : (fn 7 mi) - z_60 = fn 7 mi - flowF (fn (20 + (cvno sc fn (fn 5 mi)).toNat)) (fn (30 + (cvno sc fn (fn 5 mi)).toNat)) (fn 9 (cvno sc fn (fn 5 mi))) (fn 6 mi - sftF (fn 0) (fn 1) (sc 1) (fn 5 mi)) := by rw [hz_60, hz_56, hz_41]
      rw [he_64]
      rw [hQ9]
      exact W.lret (v := lI (fn 7 mi - flowF (fn (20 + (cvno sc fn (fn 5 mi)).toNat)) (fn (30 + (cvno sc fn (fn 5 mi)).toNat)) (fn 9 (cvno sc fn (fn 5 mi))) (fn 6 mi - sftF (fn 0) (fn 1) (sc 1) (fn 5 mi)))) hx hb hret (fun t ht hW => ⟨⟨some (.long (lI (fn 7 mi - flowF (fn (20 + (cvno sc fn (fn 5 mi)).toNat)) (fn (30 + (cvno sc fn (fn 5 mi)).toNat)) (fn 9 (cvno sc fn (fn 5 mi))) (fn 6 mi - sftF (fn 0) (fn 1) (sc 1) (fn 5 mi))))), ad, (up w 200 (oB 6 [.int (iI 0), .int (iI (sc 0)), .ref (ad 201), .ref (ad 202), .ref (ad 203), .ref (ad 204), .int (iI (sc 1)), .ref (ad 205), .ref (ad 206), .ref (ad 207), .ref (ad 208), .ref (ad 209), .int (iI (sc 2)), .int (iI (sc 3)), .int (iI (sc 4)), .ref (ad 210), .int (iI fr), .ref (ad 211), .ref (ad 212)])), rfl, ⟨0, sc, fn, ⟨fr, G1, G2, us, ut, ub, S, F, ⟨(up_s _ _ _), (up_n (by decide) k1), (up_n (by decide) k2), (up_n (by decide) k3), (up_n (by decide) k4), (up_n (by decide) k5), (up_n (by decide) k6), (up_n (by decide) k7), (up_n (by decide) k8), (up_n (by decide) k9), (up_n (by decide) k10), (up_n (by decide) k11), (up_n (by decide) k12)⟩, hG1, hG2, hus, hut, hub, hS9, hF, hmc, hmu, hmt, hrk⟩, hI, ⟨rfl, fun r hr => ⟨(up_n (by omega) rfl), rfl⟩⟩, Or.inl (⟨rfl, ⟨rfl, rfl, by omega, by omega, hcc_, rfl⟩⟩)⟩, by rw [ht]; exact hP, hD⟩, hS.F ht⟩) hS.2.2 dX6_deviation_64
    · skip
      exfalso
      omega

abbrev rmX6_wouldShift : Room := { frames := 2, cells := 0, slots := 0, locals := 49 }
theorem hiX6_wouldShift_6 : ∀ w ∈ wsX60, w ∈ wsX6_wouldShift := by decide +kernel
set_option maxHeartbeats 4000000 in
set_option maxRecDepth 100000 in
theorem c_X6_wouldShift (l : Launch) (D : va_G) (cA : Nat → ClassId) (ad : Nat → Nat) (w : Nat → Option va_E) (sz : Nat) (th : Int) (sc : Nat → Int) (fn : Nat → Int → Int) (hI : bkInv sc fn) (hmd : mdS cA ad w th sc fn) (mi : Int) (hmi : (-2147483648 ≤ mi ∧ mi < 2147483648)) : Met l yX6_wouldShift wsX6_wouldShift rmX6_wouldShift (gV D cA ad w sz [.ref (ad 200), .int (iI mi)]) (gW D (fun v9 ad1 w1 => ∃ (th2 : Int) (sc2 : Nat → Int) (fn2 : Nat → Int → Int), mdS cA ad1 w1 th2 sc2 fn2 ∧ bkInv sc2 fn2 ∧ keepM ad ad1 w w1 ∧ ((th2 = 0 ∧ (sc2 = sc ∧ fn2 = fn ∧ 0 ≤ mi ∧ mi < sc 4 ∧ (cvno sc fn (fn 5 mi) ≠ -1 ∧ 2 ≤ fn 9 (cvno sc fn (fn 5 mi))) ∧ stageF (fn (20 + (cvno sc fn (fn 5 mi)).toNat)) (fn (30 + (cvno sc fn (fn 5 mi)).toNat)) (fn 9 (cvno sc fn (fn 5 mi))) (fn 7 mi) ≠ -9999 ∧ v9 = some (.int (iI (fn 6 mi - stageF (fn (20 + (cvno sc fn (fn 5 mi)).toNat)) (fn (30 + (cvno sc fn (fn 5 mi)).toNat)) (fn 9 (cvno sc fn (fn 5 mi))) (fn 7 mi)))))) ∨ (th2 = 1 ∧ v9 = some (.int (iI 0)) ∧ sc2 = sc ∧ fn2 = fn ∧ (¬ (0 ≤ mi ∧ mi < sc 4))) ∨ (th2 = 2 ∧ v9 = some (.int (iI 0)) ∧ sc2 = sc ∧ fn2 = fn ∧ ((0 ≤ mi ∧ mi < sc 4) ∧ ¬ ((cvno sc fn (fn 5 mi) ≠ -1 ∧ 2 ≤ fn 9 (cvno sc fn (fn 5 mi))) ∧ stageF (fn (20 + (cvno sc fn (fn 5 mi)).toNat)) (fn (30 + (cvno sc fn (fn 5 mi)).toNat)) (fn 9 (cvno sc fn (fn 5 mi))) (fn 7 mi) ≠ -9999))))) (gA ad w sz)) 0 0 (gA ad w sz) := by
  refine Met.ofW (cc := cX6_wouldShift) (maxL := 3) (ret := (some .int)) (by decide) rfl ?_
  intro p e s m args below meth c s₁ B hml hv
  obtain ⟨hav, hsz, hP, hD0, hK, hB, hZ⟩ := hv
  have hx := B.exec
  have hb := B.bytes
  have hret := B.returns
  have hts := atoms_spec (ws := wsX6_wouldShift) B.pre
  have hown : s.vm.findClass RX6 = some m.cls := findClass_of_methodNamed B.named
  have hlocks := B.notSynchronized
  subst hsz
  have hD := hD0.self (sz := s.heap.size)
  generalize hAe : gA ad w s.heap.size = A at hD hZ ⊢
  have hA : ∀ q : Nat, s.heap.size ≤ q → A q := fun q h => by rw [← hAe]; exact Or.inr h
  have hS : va_S A s.heap s.heap [] := va_S.rf
  have hi6 := hiX6_wouldShift_6
  have hf45 := hts (.fieldLink RX6 45 "GaugeBookModel" "table" "[I") (by decide +kernel)
  have hf55 := hts (.fieldLink RX6 55 "GaugeBookModel" "thrown" "I") (by decide +kernel)
  have he9 : entryFrame m args 3 = F0 m 0 ((lg_sl ([.ref (ad 200), .int (iI mi)] : List Value) ++ List.replicate (3 - (lg_sl ([.ref (ad 200), .int (iI mi)] : List Value)).length) Slot.unset).toArray) [] := by rw [hav, lg_entry_eq]
  rw [he9]
  have hl := lv_entry ([.ref (ad 200), .int (iI mi)] : List Value) (n := 3) (Nat.le_of_ble_eq_true rfl)
  generalize (lg_sl ([.ref (ad 200), .int (iI mi)] : List Value) ++ List.replicate (3 - (lg_sl ([.ref (ad 200), .int (iI mi)] : List Value)).length) Slot.unset).toArray = ls at hl ⊢
  have hl : lv_has ls 3 [(0, .ref (ad 200)), (1, .int (iI mi))] := hl
  obtain ⟨Q9, hQ9⟩ : ∃ z, z = MQ below (gW D (fun v9 ad1 w1 => ∃ (th2 : Int) (sc2 : Nat → Int) (fn2 : Nat → Int → Int), mdS cA ad1 w1 th2 sc2 fn2 ∧ bkInv sc2 fn2 ∧ keepM ad ad1 w w1 ∧ ((th2 = 0 ∧ (sc2 = sc ∧ fn2 = fn ∧ 0 ≤ mi ∧ mi < sc 4 ∧ (cvno sc fn (fn 5 mi) ≠ -1 ∧ 2 ≤ fn 9 (cvno sc fn (fn 5 mi))) ∧ stageF (fn (20 + (cvno sc fn (fn 5 mi)).toNat)) (fn (30 + (cvno sc fn (fn 5 mi)).toNat)) (fn 9 (cvno sc fn (fn 5 mi))) (fn 7 mi) ≠ -9999 ∧ v9 = some (.int (iI (fn 6 mi - stageF (fn (20 + (cvno sc fn (fn 5 mi)).toNat)) (fn (30 + (cvno sc fn (fn 5 mi)).toNat)) (fn 9 (cvno sc fn (fn 5 mi))) (fn 7 mi)))))) ∨ (th2 = 1 ∧ v9 = some (.int (iI 0)) ∧ sc2 = sc ∧ fn2 = fn ∧ (¬ (0 ≤ mi ∧ mi < sc 4))) ∨ (th2 = 2 ∧ v9 = some (.int (iI 0)) ∧ sc2 = sc ∧ fn2 = fn ∧ ((0 ≤ mi ∧ mi < sc 4) ∧ ¬ ((cvno sc fn (fn 5 mi) ≠ -1 ∧ 2 ≤ fn 9 (cvno sc fn (fn 5 mi))) ∧ stageF (fn (20 + (cvno sc fn (fn 5 mi)).toNat)) (fn (30 + (cvno sc fn (fn 5 mi)).toNat)) (fn 9 (cvno sc fn (fn 5 mi))) (fn 7 mi) ≠ -9999))))) A) args s 0 0 A := ⟨_, rfl⟩
  rw [← hQ9]
  show W p l e rmX6_wouldShift s m args below meth c s.heap [] 0 0 Q9 (F0 m 0 ls [])
  obtain ⟨H, hHe⟩ : ∃ z, z = s.heap := ⟨_, rfl⟩
  obtain ⟨locs, hLe⟩ : ∃ z, z = ([] : List Loc) := ⟨_, rfl⟩
  have hP : gP D vwCl ad w H := by rw [hHe]; exact hP
  have hS : va_S A s.heap H locs := by rw [hHe, hLe]; exact va_S.rf
  rw [show W p l e rmX6_wouldShift s m args below meth c s.heap [] 0 0 Q9 (F0 m 0 ls []) = W p l e rmX6_wouldShift s m args below meth c H locs 0 0 Q9 (F0 m 0 ls []) by rw [hHe, hLe]]
  clear hHe hLe
  obtain ⟨fr, G1, G2, us, ut, ub, S, F, ⟨k0, k1, k2, k3, k4, k5, k6, k7, k8, k9, k10, k11, k12⟩, hG1, hG2, hus, hut, hub, hS9, hF, hmc, hmu, hmt, hrk⟩ := hmd
  have hI1 := hI.1
  refine lv_aload_n (pc := 0) hx hb dX6_wouldShift_0 rfl (lv_at hl 0 rfl) ?_
  refine lv_aload_n (pc := 1) hx hb dX6_wouldShift_1 rfl (lv_at hl 0 rfl) ?_
  refine lv_iload_n (pc := 2) hx hb dX6_wouldShift_2 rfl (lv_at hl 1 rfl) ?_
  refine k_call0 (pc := 3) (va_runV (As := [.int (iI mi)]) (rest := [.ref (ad 200)]) ⟨hx, hb, hml, hown, hts⟩ (c_X6_whyMeasurement l D cA ad w sc fn th fr ub hI k0 k1 k2 k10 hub hmt mi (by omega)) (cwV 1 hts gX6_wouldShift_X6_whyMeasurement rfl rfl rfl (by decide +kernel) ⟨Nat.le_of_ble_eq_true rfl, Nat.le_of_ble_eq_true rfl⟩) (gR_V hP hK hB 200 (ci := 6) rfl k0) rfl rfl hl.1 rfl (lv_room (Nat.le_of_ble_eq_true rfl)) dX6_wouldShift_3 ⟨Nat.le_of_ble_eq_true rfl, Nat.le_of_ble_eq_true rfl⟩) (fun v_3 hv_3 => ?_)
  obtain ⟨z_3, rfl, hz_3⟩ := hv_3
  refine W.eq (g2 := F0 m 6 ls [.int (iI z_3), .ref (ad 200)]) rfl ?_
  refine k_put (pc := 6) (ci := 6) (C := RX6) (T := TX6) (N := 19) (ty := .int) (v := .int (iI z_3)) (w1 := (up w 200 (oB 6 [.int (iI z_3), .int (iI (sc 0)), .ref (ad 201), .ref (ad 202), .ref (ad 203), .ref (ad 204), .int (iI (sc 1)), .ref (ad 205), .ref (ad 206), .ref (ad 207), .ref (ad 208), .ref (ad 209), .int (iI (sc 2)), .int (iI (sc 3)), .int (iI (sc 4)), .ref (ad 210), .int (iI fr), .ref (ad 211), .ref (ad 212)]))) hx hb hts hi6 tyX6 tyX6_ok nmX6 hown hK hP hD hS 200 k0 rfl 0 (by decide) hf55 (fun _ h9 => h9) rfl (by decide +kernel) rfl rfl (Nat.le_of_ble_eq_true rfl) rfl dX6_wouldShift_6 (fun H locs hP hD hS => ?_)
  rcases hz_3 with ⟨e9_, q1_⟩ | ⟨e9_, q1_, q2_⟩ | ⟨e9_, q1_, q2_, q3_⟩
  · skip
    subst e9_
    refine lv_aload_n (pc := 9) hx hb dX6_wouldShift_9 rfl (lv_at hl 0 rfl) ?_
    refine k_get (pc := 10) (ci := 6) (C := RX6) (T := TX6) (N := 19) hx hb hts hi6 hown hK hP 200 (up_s _ _ _) rfl 0 (by decide) hf55 (fun _ h9 => h9) rfl dX6_wouldShift_10 ?_
    refine k_if_eq (pc := 13) (tgt := 18) hx hb ⟨by omega, by omega⟩ dX6_wouldShift_13 (by decide) (fun hc_13 => ?_) (fun hc_13 => ?_)
    · skip
      exfalso
      omega
    · skip
      refine k_iconst (pc := 16) hx hb dX6_wouldShift_16 ?_
      rw [hQ9]
      exact W.iret (v := iI 0) hx hb hret (fun t ht hW => ⟨⟨some (.int (iI 0)), ad, (up w 200 (oB 6 [.int (iI 1), .int (iI (sc 0)), .ref (ad 201), .ref (ad 202), .ref (ad 203), .ref (ad 204), .int (iI (sc 1)), .ref (ad 205), .ref (ad 206), .ref (ad 207), .ref (ad 208), .ref (ad 209), .int (iI (sc 2)), .int (iI (sc 3)), .int (iI (sc 4)), .ref (ad 210), .int (iI fr), .ref (ad 211), .ref (ad 212)])), rfl, ⟨1, sc, fn, ⟨fr, G1, G2, us, ut, ub, S, F, ⟨(up_s _ _ _), (up_n (by decide) k1), (up_n (by decide) k2), (up_n (by decide) k3), (up_n (by decide) k4), (up_n (by decide) k5), (up_n (by decide) k6), (up_n (by decide) k7), (up_n (by decide) k8), (up_n (by decide) k9), (up_n (by decide) k10), (up_n (by decide) k11), (up_n (by decide) k12)⟩, hG1, hG2, hus, hut, hub, hS9, hF, hmc, hmu, hmt, hrk⟩, hI, ⟨rfl, fun r hr => ⟨(up_n (by omega) rfl), rfl⟩⟩, Or.inr (Or.inl (⟨rfl, rfl, rfl, rfl, by omega⟩))⟩, by rw [ht]; exact hP, hD⟩, hS.F ht⟩) hS.2.2 dX6_wouldShift_17
  · skip
    subst e9_
    refine lv_aload_n (pc := 9) hx hb dX6_wouldShift_9 rfl (lv_at hl 0 rfl) ?_
    refine k_get (pc := 10) (ci := 6) (C := RX6) (T := TX6) (N := 19) hx hb hts hi6 hown hK hP 200 (up_s _ _ _) rfl 0 (by decide) hf55 (fun _ h9 => h9) rfl dX6_wouldShift_10 ?_
    refine k_if_eq (pc := 13) (tgt := 18) hx hb ⟨by omega, by omega⟩ dX6_wouldShift_13 (by decide) (fun hc_13 => ?_) (fun hc_13 => ?_)
    · skip
      exfalso
      omega
    · skip
      refine k_iconst (pc := 16) hx hb dX6_wouldShift_16 ?_
      rw [hQ9]
      exact W.iret (v := iI 0) hx hb hret (fun t ht hW => ⟨⟨some (.int (iI 0)), ad, (up w 200 (oB 6 [.int (iI 2), .int (iI (sc 0)), .ref (ad 201), .ref (ad 202), .ref (ad 203), .ref (ad 204), .int (iI (sc 1)), .ref (ad 205), .ref (ad 206), .ref (ad 207), .ref (ad 208), .ref (ad 209), .int (iI (sc 2)), .int (iI (sc 3)), .int (iI (sc 4)), .ref (ad 210), .int (iI fr), .ref (ad 211), .ref (ad 212)])), rfl, ⟨2, sc, fn, ⟨fr, G1, G2, us, ut, ub, S, F, ⟨(up_s _ _ _), (up_n (by decide) k1), (up_n (by decide) k2), (up_n (by decide) k3), (up_n (by decide) k4), (up_n (by decide) k5), (up_n (by decide) k6), (up_n (by decide) k7), (up_n (by decide) k8), (up_n (by decide) k9), (up_n (by decide) k10), (up_n (by decide) k11), (up_n (by decide) k12)⟩, hG1, hG2, hus, hut, hub, hS9, hF, hmc, hmu, hmt, hrk⟩, hI, ⟨rfl, fun r hr => ⟨(up_n (by omega) rfl), rfl⟩⟩, Or.inr (Or.inr (⟨rfl, rfl, rfl, rfl, ⟨by omega, fun z => q2_ z.1⟩⟩))⟩, by rw [ht]; exact hP, hD⟩, hS.F ht⟩) hS.2.2 dX6_wouldShift_17
  · skip
    subst e9_
    refine lv_aload_n (pc := 9) hx hb dX6_wouldShift_9 rfl (lv_at hl 0 rfl) ?_
    refine k_get (pc := 10) (ci := 6) (C := RX6) (T := TX6) (N := 19) hx hb hts hi6 hown hK hP 200 (up_s _ _ _) rfl 0 (by decide) hf55 (fun _ h9 => h9) rfl dX6_wouldShift_10 ?_
    refine k_if_eq (pc := 13) (tgt := 18) hx hb ⟨by omega, by omega⟩ dX6_wouldShift_13 (by decide) (fun hc_13 => ?_) (fun hc_13 => ?_)
    · skip
      have tt_ := hmt mi (by omega) (by omega)
      have b5_ := hI.2.2.2.2.2.1 mi
      have b6_ := hI.2.2.2.2.2.2.1 mi
      have b7_ := hI.2.2.2.2.2.2.2.1 mi
      refine lv_aload_n (pc := 18) hx hb dX6_wouldShift_18 rfl (lv_at hl 0 rfl) ?_
      refine lv_aload_n (pc := 19) hx hb dX6_wouldShift_19 rfl (lv_at hl 0 rfl) ?_
      refine lv_aload_n (pc := 20) hx hb dX6_wouldShift_20 rfl (lv_at hl 0 rfl) ?_
      refine k_get (pc := 21) (ci := 6) (C := RX6) (T := TX6) (N := 19) hx hb hts hi6 hown hK hP 200 (up_s _ _ _) rfl 15 (by decide) hf45 (fun _ h9 => h9) rfl dX6_wouldShift_21 ?_
      refine k_iconst (pc := 24) hx hb dX6_wouldShift_24 ?_
      refine lv_iload_n (pc := 25) hx hb dX6_wouldShift_25 rfl (lv_at hl 1 rfl) ?_
      refine k_imul (pc := 26) hx hb dX6_wouldShift_26 ?_
      refine k_iald (pc := 27) hx hb hK hP 210 0 (up_n (by decide) k10) rfl (by omega) (by omega) (by omega) dX6_wouldShift_27 ?_
      have hq_27 := hub (3 * mi)
      have he_28 : ub (3 * mi) = fn 5 mi := tt_.1
      rw [he_28]
      refine k_call0 (pc := 28) (va_runV (As := [.int (iI (fn 5 mi))]) (rest := [.ref (ad 200)]) ⟨hx, hb, hml, hown, hts⟩ (c_X6_curveAt l D cA ad (up w 200 (oB 6 [.int (iI 0), .int (iI (sc 0)), .ref (ad 201), .ref (ad 202), .ref (ad 203), .ref (ad 204), .int (iI (sc 1)), .ref (ad 205), .ref (ad 206), .ref (ad 207), .ref (ad 208), .ref (ad 209), .int (iI (sc 2)), .int (iI (sc 3)), .int (iI (sc 4)), .ref (ad 210), .int (iI fr), .ref (ad 211), .ref (ad 212)])) sc fn 0 fr hI (up_s _ _ _) (up_n (by decide) k1) (fn 5 mi) (by omega)) (cwV 1 hts gX6_wouldShift_X6_curveAt rfl rfl rfl (by decide +kernel) ⟨Nat.le_of_ble_eq_true rfl, Nat.le_of_ble_eq_true rfl⟩) (gR_V hP hK hB 200 (ci := 6) rfl (up_s _ _ _)) rfl rfl hl.1 rfl (lv_room (Nat.le_of_ble_eq_true rfl)) dX6_wouldShift_28 ⟨Nat.le_of_ble_eq_true rfl, Nat.le_of_ble_eq_true rfl⟩) (fun v_28 hv_28 => ?_)
      obtain ⟨z_28, rfl, hz_28, hy_28, hw_28⟩ := hv_28
      refine W.eq (g2 := F0 m 31 ls [.int (iI z_28), .ref (ad 200)]) rfl ?_
      have hcc_ : (cvno sc fn (fn 5 mi) ≠ -1 ∧ 2 ≤ fn 9 (cvno sc fn (fn 5 mi))) := ⟨q2_, q3_⟩
      rw [← hz_28] at q2_ q3_
      refine lv_aload_n (pc := 31) hx hb dX6_wouldShift_31 rfl (lv_at hl 0 rfl) ?_
      refine k_get (pc := 32) (ci := 6) (C := RX6) (T := TX6) (N := 19) hx hb hts hi6 hown hK hP 200 (up_s _ _ _) rfl 15 (by decide) hf45 (fun _ h9 => h9) rfl dX6_wouldShift_32 ?_
      refine k_iconst (pc := 35) hx hb dX6_wouldShift_35 ?_
      refine lv_iload_n (pc := 36) hx hb dX6_wouldShift_36 rfl (lv_at hl 1 rfl) ?_
      refine k_imul (pc := 37) hx hb dX6_wouldShift_37 ?_
      refine k_iconst (pc := 38) hx hb dX6_wouldShift_38 ?_
      refine k_iadd (pc := 39) hx hb dX6_wouldShift_39 ?_
      refine k_iald (pc := 40) hx hb hK hP 210 0 (up_n (by decide) k10) rfl (by omega) (by omega) (by omega) dX6_wouldShift_40 ?_
      have hq_40 := hub ((3 * mi) + 2)
      have he_41 : ub ((3 * mi) + 2) = fn 7 mi := tt_.2.2
      rw [he_41]
      refine k_call0 (pc := 41) (va_runV (As := [.int (iI z_28), .int (iI (fn 7 mi))]) (rest := []) ⟨hx, hb, hml, hown, hts⟩ (c_X6_stageFor l D cA ad (up w 200 (oB 6 [.int (iI 0), .int (iI (sc 0)), .ref (ad 201), .ref (ad 202), .ref (ad 203), .ref (ad 204), .int (iI (sc 1)), .ref (ad 205), .ref (ad 206), .ref (ad 207), .ref (ad 208), .ref (ad 209), .int (iI (sc 2)), .int (iI (sc 3)), .int (iI (sc 4)), .ref (ad 210), .int (iI fr), .ref (ad 211), .ref (ad 212)])) sc fn 0 fr G1 G2 hI (up_s _ _ _) (up_n (by decide) k2) (up_n (by decide) k3) (up_n (by decide) k4) hG1 hG2 hmc z_28 (fn 7 mi) (by omega) (by omega) (by omega)) (cwV 2 hts gX6_wouldShift_X6_stageFor rfl rfl rfl (by decide +kernel) ⟨Nat.le_of_ble_eq_true rfl, Nat.le_of_ble_eq_true rfl⟩) (gR_V hP hK hB 200 (ci := 6) rfl (up_s _ _ _)) rfl rfl hl.1 rfl (lv_room (Nat.le_of_ble_eq_true rfl)) dX6_wouldShift_41 ⟨Nat.le_of_ble_eq_true rfl, Nat.le_of_ble_eq_true rfl⟩) (fun v_41 hv_41 => ?_)
      obtain ⟨z_41, rfl, hz_41, hs_41⟩ := hv_41
      refine W.eq (g2 := F0 m 44 ls [.int (iI z_41)]) rfl ?_
      have hws_ : z_41 = stageF (fn (20 + (cvno sc fn (fn 5 mi)).toNat)) (fn (30 + (cvno sc fn (fn 5 mi)).toNat)) (fn 9 (cvno sc fn (fn 5 mi))) (fn 7 mi) := by rw [hz_41, hz_28]
      have hsb_ := stP_bd (hI.2.2.2.2.2.2.2.2.2.2 z_28.toNat (by omega)) (by rw [show ((z_28.toNat : Nat) : Int) = z_28 by omega]; exact q3_) (by rw [show ((z_28.toNat : Nat) : Int) = z_28 by omega]; exact hs_41)
      refine lv_istore_n (pc := 44) (lv' := [(2, .int (iI z_41)), (0, .ref (ad 200)), (1, .int (iI mi))]) hx hb dX6_wouldShift_44 rfl hl (by decide) rfl (fun ls hl => ?_)
      refine lv_iload_n (pc := 45) hx hb dX6_wouldShift_45 rfl (lv_at hl 0 rfl) ?_
      refine k_sipush (pc := 46) hx hb dX6_wouldShift_46 (by decide +kernel) ?_
      refine k_icmp_ne (pc := 49) (tgt := 60) hx hb ⟨by omega, by omega⟩ ⟨by omega, by omega⟩ dX6_wouldShift_49 (by decide) (fun hc_49 => ?_) (fun hc_49 => ?_)
      · skip
        refine lv_aload_n (pc := 60) hx hb dX6_wouldShift_60 rfl (lv_at hl 1 rfl) ?_
        refine k_get (pc := 61) (ci := 6) (C := RX6) (T := TX6) (N := 19) hx hb hts hi6 hown hK hP 200 (up_s _ _ _) rfl 15 (by decide) hf45 (fun _ h9 => h9) rfl dX6_wouldShift_61 ?_
        refine k_iconst (pc := 64) hx hb dX6_wouldShift_64 ?_
        refine lv_iload_n (pc := 65) hx hb dX6_wouldShift_65 rfl (lv_at hl 2 rfl) ?_
        refine k_imul (pc := 66) hx hb dX6_wouldShift_66 ?_
        refine k_iconst (pc := 67) hx hb dX6_wouldShift_67 ?_
        refine k_iadd (pc := 68) hx hb dX6_wouldShift_68 ?_
        refine k_iald (pc := 69) hx hb hK hP 210 0 (up_n (by decide) k10) rfl (by omega) (by omega) (by omega) dX6_wouldShift_69 ?_
        have hq_69 := hub ((3 * mi) + 1)
        have he_70 : ub ((3 * mi) + 1) = fn 6 mi := tt_.2.1
        rw [he_70]
        refine lv_iload_n (pc := 70) hx hb dX6_wouldShift_70 rfl (lv_at hl 0 rfl) ?_
        refine k_isub (pc := 71) hx hb dX6_wouldShift_71 ?_
        have he_72 : (fn 6 mi) - z_41 = fn 6 mi - stageF (fn (20 + (cvno sc fn (fn 5 mi)).toNat)) (fn (30 + (cvno sc fn (fn 5 mi)).toNat)) (fn 9 (cvno sc fn (fn 5 mi))) (fn 7 mi) := by rw [hws_]
        rw [he_72]
        rw [hQ9]
        exact W.iret (v := iI (fn 6 mi - stageF (fn (20 + (cvno sc fn (fn 5 mi)).toNat)) (fn (30 + (cvno sc fn (fn 5 mi)).toNat)) (fn 9 (cvno sc fn (fn 5 mi))) (fn 7 mi))) hx hb hret (fun t ht hW => ⟨⟨some (.int (iI (fn 6 mi - stageF (fn (20 + (cvno sc fn (fn 5 mi)).toNat)) (fn (30 + (cvno sc fn (fn 5 mi)).toNat)) (fn 9 (cvno sc fn (fn 5 mi))) (fn 7 mi)))), ad, (up w 200 (oB 6 [.int (iI 0), .int (iI (sc 0)), .ref (ad 201), .ref (ad 202), .ref (ad 203), .ref (ad 204), .int (iI (sc 1)), .ref (ad 205), .ref (ad 206), .ref (ad 207), .ref (ad 208), .ref (ad 209), .int (iI (sc 2)), .int (iI (sc 3)), .int (iI (sc 4)), .ref (ad 210), .int (iI fr), .ref (ad 211), .ref (ad 212)])), rfl, ⟨0, sc, fn, ⟨fr, G1, G2, us, ut, ub, S, F, ⟨(up_s _ _ _), (up_n (by decide) k1), (up_n (by decide) k2), (up_n (by decide) k3), (up_n (by decide) k4), (up_n (by decide) k5), (up_n (by decide) k6), (up_n (by decide) k7), (up_n (by decide) k8), (up_n (by decide) k9), (up_n (by decide) k10), (up_n (by decide) k11), (up_n (by decide) k12)⟩, hG1, hG2, hus, hut, hub, hS9, hF, hmc, hmu, hmt, hrk⟩, hI, ⟨rfl, fun r hr => ⟨(up_n (by omega) rfl), rfl⟩⟩, Or.inl (⟨rfl, ⟨rfl, rfl, by omega, by omega, hcc_, by rw [← hws_]; omega, rfl⟩⟩)⟩, by rw [ht]; exact hP, hD⟩, hS.F ht⟩) hS.2.2 dX6_wouldShift_72
      · skip
        refine lv_aload_n (pc := 52) hx hb dX6_wouldShift_52 rfl (lv_at hl 1 rfl) ?_
        refine k_iconst (pc := 53) hx hb dX6_wouldShift_53 ?_
        refine k_call1 (pc := 54) (va_runV (As := [.int (iI 2)]) (rest := []) ⟨hx, hb, hml, hown, hts⟩ (c_X6_fail l D cA ad (up w 200 (oB 6 [.int (iI 0), .int (iI (sc 0)), .ref (ad 201), .ref (ad 202), .ref (ad 203), .ref (ad 204), .int (iI (sc 1)), .ref (ad 205), .ref (ad 206), .ref (ad 207), .ref (ad 208), .ref (ad 209), .int (iI (sc 2)), .int (iI (sc 3)), .int (iI (sc 4)), .ref (ad 210), .int (iI fr), .ref (ad 211), .ref (ad 212)])) H.size 0 (sc 0) (sc 1) (sc 2) (sc 3) (sc 4) fr (up_s _ _ _) 2) (cwV 1 hts gX6_wouldShift_X6_fail rfl rfl rfl (by decide +kernel) ⟨Nat.le_of_ble_eq_true rfl, Nat.le_of_ble_eq_true rfl⟩) (gV_V hP hD hK hB hS hA hZ 200 (ci := 6) rfl (up_s _ _ _)) rfl rfl hl.1 rfl (lv_room (Nat.le_of_ble_eq_true rfl)) dX6_wouldShift_54 ⟨Nat.le_of_ble_eq_true rfl, Nat.le_of_ble_eq_true rfl⟩) hS (gA_sub hD hS hA) (fun v_54 ad_54 w_54 H locs hv_54 hP hD hS => ?_)
        obtain ⟨hv1, hv2, hv3⟩ := hv_54
        subst hv1
        rw [hv2, hv3] at hP hD
        rw [show up ((up w 200 (oB 6 [.int (iI 0), .int (iI (sc 0)), .ref (ad 201), .ref (ad 202), .ref (ad 203), .ref (ad 204), .int (iI (sc 1)), .ref (ad 205), .ref (ad 206), .ref (ad 207), .ref (ad 208), .ref (ad 209), .int (iI (sc 2)), .int (iI (sc 3)), .int (iI (sc 4)), .ref (ad 210), .int (iI fr), .ref (ad 211), .ref (ad 212)]))) 200 (oB 6 [.int (iI 2), .int (iI (sc 0)), .ref (ad 201), .ref (ad 202), .ref (ad 203), .ref (ad 204), .int (iI (sc 1)), .ref (ad 205), .ref (ad 206), .ref (ad 207), .ref (ad 208), .ref (ad 209), .int (iI (sc 2)), .int (iI (sc 3)), .int (iI (sc 4)), .ref (ad 210), .int (iI fr), .ref (ad 211), .ref (ad 212)]) = _ from (up_up _ _ _ _)] at hP hD
        refine W.eq (g2 := F0 m 57 ls [.int (iI 0)]) rfl ?_
        refine W.cs (cells' := 0) (slots' := 0) rfl rfl ?_
        refine lv_goto (pc := 57) (tgt := 72) hx hb dX6_wouldShift_57 (by decide) ?_
        rw [hQ9]
        exact W.iret (v := iI 0) hx hb hret (fun t ht hW => ⟨⟨some (.int (iI 0)), ad, (up w 200 (oB 6 [.int (iI 2), .int (iI (sc 0)), .ref (ad 201), .ref (ad 202), .ref (ad 203), .ref (ad 204), .int (iI (sc 1)), .ref (ad 205), .ref (ad 206), .ref (ad 207), .ref (ad 208), .ref (ad 209), .int (iI (sc 2)), .int (iI (sc 3)), .int (iI (sc 4)), .ref (ad 210), .int (iI fr), .ref (ad 211), .ref (ad 212)])), rfl, ⟨2, sc, fn, ⟨fr, G1, G2, us, ut, ub, S, F, ⟨(up_s _ _ _), (up_n (by decide) k1), (up_n (by decide) k2), (up_n (by decide) k3), (up_n (by decide) k4), (up_n (by decide) k5), (up_n (by decide) k6), (up_n (by decide) k7), (up_n (by decide) k8), (up_n (by decide) k9), (up_n (by decide) k10), (up_n (by decide) k11), (up_n (by decide) k12)⟩, hG1, hG2, hus, hut, hub, hS9, hF, hmc, hmu, hmt, hrk⟩, hI, ⟨rfl, fun r hr => ⟨(up_n (by omega) rfl), rfl⟩⟩, Or.inr (Or.inr (⟨rfl, rfl, rfl, rfl, ⟨by omega, fun z => z.2 (by rw [← hws_]; omega)⟩⟩))⟩, by rw [ht]; exact hP, hD⟩, hS.F ht⟩) hS.2.2 dX6_wouldShift_72
    · skip
      exfalso
      omega
