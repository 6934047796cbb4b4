/-- the model's cells at their roles -/
def mdAt (cA : Nat → ClassId) (ad : Nat → Nat) (w : Nat → Option va_E) (th : Int) (sc : Nat → Int) (fn : Nat → Int → Int) (fr : Int) (G1 G2 us ut ub S F : Int → Int) : Prop :=
  (w 200 = some (oB 6 [.int (iI th), .int (iI (sc 0)), .ref (ad 201), .ref (ad 202), .ref (ad 203), .ref (ad 204), .int (iI (sc 1)), .ref (ad 205), .ref (ad 206), .ref (ad 207), .ref (ad 208), .ref (ad 209), .int (iI (sc 2)), .int (iI (sc 3)), .int (iI (sc 4)), .ref (ad 210), .int (iI fr), .ref (ad 211), .ref (ad 212)])) ∧
  (w 201 = some (eI (cA 0) 6 (fn 8))) ∧
  (w 202 = some (eI (cA 0) 6 (fn 9))) ∧
  (w 203 = some (eI (cA 0) 72 G1)) ∧
  (w 204 = some (eI (cA 0) 72 G2)) ∧
  (w 205 = some (eI (cA 1) 400 us)) ∧
  (w 206 = some (eI (cA 0) 400 ut)) ∧
  (w 207 = some (eI (cA 1) 400 (fn 3))) ∧
  (w 208 = some (eI (cA 0) 400 (fn 2))) ∧
  (w 209 = some (eI (cA 1) 400 (fn 4))) ∧
  (w 210 = some (eI (cA 0) 120 ub)) ∧
  (w 211 = some (eI (cA 0) 400 S)) ∧
  (w 212 = some (eJ (cA 2) 400 F))
/-- a model with the state (sc, fn), which last threw th -/
def mdS (cA : Nat → ClassId) (ad : Nat → Nat) (w : Nat → Option va_E) (th : Int) (sc : Nat → Int) (fn : Nat → Int → Int) : Prop := ∃ (fr : Int) (G1 G2 us ut ub S F : Int → Int), mdAt cA ad w th sc fn fr G1 G2 us ut ub S F ∧ (∀ j : Int, -500 ≤ G1 j ∧ G1 j ≤ 2000) ∧ (∀ j : Int, 0 ≤ G2 j ∧ G2 j ≤ 1000000) ∧ (∀ j : Int, 0 ≤ us j ∧ us j ≤ 1) ∧ (∀ j : Int, -200 ≤ ut j ∧ ut j ≤ 200) ∧ (∀ j : Int, -500 ≤ ub j ∧ ub j ≤ 1000000) ∧ (∀ j : Int, 0 ≤ S j ∧ S j ≤ 3) ∧ (∀ j : Int, -1 ≤ F j ∧ F j ≤ 1000000000000) ∧ mdC sc fn G1 G2 ∧ mdU sc fn us ut ∧ mdT sc fn ub ∧ (fr = 0 ∨ (fr = 1 ∧ F = tbF sc fn ∧ S = tbS sc fn))
/-- the rest of the world stays -/
def keepM (ad ad1 : Nat → Nat) (w w1 : Nat → Option va_E) : Prop := ad1 200 = ad 200 ∧ ∀ r : Nat, (r < 200 ∨ 230 ≤ r) → w1 r = w r ∧ ad1 r = ad r
theorem mdC_k {sc sc2 : Nat → Int} {fn fn2 : Nat → Int → Int} {G1 G2 : Int → Int} (h : mdC sc fn G1 G2) (h0 : sc2 0 = sc 0) (hk : ∀ k : Nat, fn2 (20 + k) = fn (20 + k) ∧ fn2 (30 + k) = fn (30 + k)) : mdC sc2 fn2 G1 G2 := by
  intro k j a1 a2 a3 a4
  rw [h0, (hk k.toNat).1, (hk k.toNat).2]
  exact h k j a1 a2 a3 a4

abbrev rmX6_curveOf : Room := { frames := 2, cells := 0, slots := 0, locals := 45 }
theorem hiX6_curveOf_6 : ∀ w ∈ wsX60, w ∈ wsX6_curveOf := by decide +kernel
set_option maxHeartbeats 4000000 in
set_option maxRecDepth 100000 in
theorem c_X6_curveOf (l : Launch) (D : va_G) (cA : Nat → ClassId) (ad : Nat → Nat) (w : Nat → Option va_E) (sz : Nat) (th : Int) (sc : Nat → Int) (fn : Nat → Int → Int) (hI : bkInv sc fn) (hmd : mdS cA ad w th sc fn) (d : Int) (hd : (-2147483648 ≤ d ∧ d < 2147483648)) : Met l yX6_curveOf wsX6_curveOf rmX6_curveOf (gV D cA ad w sz [.ref (ad 200), .int (iI d)]) (gW D (fun v9 ad1 w1 => ∃ (th2 : Int) (sc2 : Nat → Int) (fn2 : Nat → Int → Int), mdS cA ad1 w1 th2 sc2 fn2 ∧ bkInv sc2 fn2 ∧ keepM ad ad1 w w1 ∧ ((th2 = 0 ∧ (sc2 = sc ∧ fn2 = fn ∧ 0 ≤ d ∧ d < 400 ∧ v9 = some (.int (iI (cvno sc fn d))))) ∨ (th2 = 1 ∧ v9 = some (.int (iI 0)) ∧ sc2 = sc ∧ fn2 = fn ∧ (¬ (0 ≤ d ∧ d < 400))))) (gA ad w sz)) 0 0 (gA ad w sz) := by
  refine Met.ofW (cc := cX6_curveOf) (maxL := 2) (ret := (some .int)) (by decide) rfl ?_
  intro p e s m args below meth c s₁ B hml hv
  obtain ⟨hav, hsz, hP, hD0, hK, hB, hZ⟩ := hv
  have hx := B.exec
  have hb := B.bytes
  have hret := B.returns
  have hts := atoms_spec (ws := wsX6_curveOf) B.pre
  have hown : s.vm.findClass RX6 = some m.cls := findClass_of_methodNamed B.named
  have hlocks := B.notSynchronized
  subst hsz
  have hD := hD0.self (sz := s.heap.size)
  generalize hAe : gA ad w s.heap.size = A at hD hZ ⊢
  have hA : ∀ q : Nat, s.heap.size ≤ q → A q := fun q h => by rw [← hAe]; exact Or.inr h
  have hS : va_S A s.heap s.heap [] := va_S.rf
  have hi6 := hiX6_curveOf_6
  have hf55 := hts (.fieldLink RX6 55 "GaugeBookModel" "thrown" "I") (by decide +kernel)
  have he9 : entryFrame m args 2 = F0 m 0 ((lg_sl ([.ref (ad 200), .int (iI d)] : List Value) ++ List.replicate (2 - (lg_sl ([.ref (ad 200), .int (iI d)] : List Value)).length) Slot.unset).toArray) [] := by rw [hav, lg_entry_eq]
  rw [he9]
  have hl := lv_entry ([.ref (ad 200), .int (iI d)] : List Value) (n := 2) (Nat.le_of_ble_eq_true rfl)
  generalize (lg_sl ([.ref (ad 200), .int (iI d)] : List Value) ++ List.replicate (2 - (lg_sl ([.ref (ad 200), .int (iI d)] : List Value)).length) Slot.unset).toArray = ls at hl ⊢
  have hl : lv_has ls 2 [(0, .ref (ad 200)), (1, .int (iI d))] := hl
  obtain ⟨Q9, hQ9⟩ : ∃ z, z = MQ below (gW D (fun v9 ad1 w1 => ∃ (th2 : Int) (sc2 : Nat → Int) (fn2 : Nat → Int → Int), mdS cA ad1 w1 th2 sc2 fn2 ∧ bkInv sc2 fn2 ∧ keepM ad ad1 w w1 ∧ ((th2 = 0 ∧ (sc2 = sc ∧ fn2 = fn ∧ 0 ≤ d ∧ d < 400 ∧ v9 = some (.int (iI (cvno sc fn d))))) ∨ (th2 = 1 ∧ v9 = some (.int (iI 0)) ∧ sc2 = sc ∧ fn2 = fn ∧ (¬ (0 ≤ d ∧ d < 400))))) A) args s 0 0 A := ⟨_, rfl⟩
  rw [← hQ9]
  show W p l e rmX6_curveOf s m args below meth c s.heap [] 0 0 Q9 (F0 m 0 ls [])
  obtain ⟨H, hHe⟩ : ∃ z, z = s.heap := ⟨_, rfl⟩
  obtain ⟨locs, hLe⟩ : ∃ z, z = ([] : List Loc) := ⟨_, rfl⟩
  have hP : gP D vwCl ad w H := by rw [hHe]; exact hP
  have hS : va_S A s.heap H locs := by rw [hHe, hLe]; exact va_S.rf
  rw [show W p l e rmX6_curveOf s m args below meth c s.heap [] 0 0 Q9 (F0 m 0 ls []) = W p l e rmX6_curveOf s m args below meth c H locs 0 0 Q9 (F0 m 0 ls []) by rw [hHe, hLe]]
  clear hHe hLe
  obtain ⟨fr, G1, G2, us, ut, ub, S, F, ⟨k0, k1, k2, k3, k4, k5, k6, k7, k8, k9, k10, k11, k12⟩, hG1, hG2, hus, hut, hub, hS9, hF, hmc, hmu, hmt, hrk⟩ := hmd
  have hI1 := hI.1
  refine lv_aload_n (pc := 0) hx hb dX6_curveOf_0 rfl (lv_at hl 0 rfl) ?_
  refine k_iconst (pc := 1) hx hb dX6_curveOf_1 ?_
  refine k_put (pc := 2) (ci := 6) (C := RX6) (T := TX6) (N := 19) (ty := .int) (v := .int (iI 0)) (w1 := (up w 200 (oB 6 [.int (iI 0), .int (iI (sc 0)), .ref (ad 201), .ref (ad 202), .ref (ad 203), .ref (ad 204), .int (iI (sc 1)), .ref (ad 205), .ref (ad 206), .ref (ad 207), .ref (ad 208), .ref (ad 209), .int (iI (sc 2)), .int (iI (sc 3)), .int (iI (sc 4)), .ref (ad 210), .int (iI fr), .ref (ad 211), .ref (ad 212)]))) hx hb hts hi6 tyX6 tyX6_ok nmX6 hown hK hP hD hS 200 k0 rfl 0 (by decide) hf55 (fun _ h9 => h9) rfl (by decide +kernel) rfl rfl (Nat.le_of_ble_eq_true rfl) rfl dX6_curveOf_2 (fun H locs hP hD hS => ?_)
  refine lv_iload_n (pc := 5) hx hb dX6_curveOf_5 rfl (lv_at hl 1 rfl) ?_
  refine k_call0 (pc := 6) (va_runS (As := [.int (iI d)]) (rest := []) ⟨hx, hb, hml, hown, hts⟩ (c_X6_isDay l D cA ad (up w 200 (oB 6 [.int (iI 0), .int (iI (sc 0)), .ref (ad 201), .ref (ad 202), .ref (ad 203), .ref (ad 204), .int (iI (sc 1)), .ref (ad 205), .ref (ad 206), .ref (ad 207), .ref (ad 208), .ref (ad 209), .int (iI (sc 2)), .int (iI (sc 3)), .int (iI (sc 4)), .ref (ad 210), .int (iI fr), .ref (ad 211), .ref (ad 212)])) d (by omega)) (va_cwS 1 hts gX6_curveOf_X6_isDay rfl rfl rfl (by decide +kernel) ⟨Nat.le_of_ble_eq_true rfl, Nat.le_of_ble_eq_true rfl⟩) (gR_S hP hK hB) rfl rfl hl.1 rfl (lv_room (Nat.le_of_ble_eq_true rfl)) dX6_curveOf_6 ⟨Nat.le_of_ble_eq_true rfl, Nat.le_of_ble_eq_true rfl⟩) (fun v_6 hv_6 => ?_)
  obtain ⟨z_6, rfl, hz_6⟩ := hv_6
  refine W.eq (g2 := F0 m 9 ls [.int (iI z_6)]) rfl ?_
  refine k_if_eq (pc := 9) (tgt := 20) hx hb ⟨by omega, by omega⟩ dX6_curveOf_9 (by decide) (fun hc_9 => ?_) (fun hc_9 => ?_)
  · skip
    refine lv_aload_n (pc := 20) hx hb dX6_curveOf_20 rfl (lv_at hl 0 rfl) ?_
    refine k_iconst (pc := 21) hx hb dX6_curveOf_21 ?_
    refine k_call1 (pc := 22) (va_runV (As := [.int (iI 1)]) (rest := []) ⟨hx, hb, hml, hown, hts⟩ (c_X6_fail l D cA ad (up w 200 (oB 6 [.int (iI 0), .int (iI (sc 0)), .ref (ad 201), .ref (ad 202), .ref (ad 203), .ref (ad 204), .int (iI (sc 1)), .ref (ad 205), .ref (ad 206), .ref (ad 207), .ref (ad 208), .ref (ad 209), .int (iI (sc 2)), .int (iI (sc 3)), .int (iI (sc 4)), .ref (ad 210), .int (iI fr), .ref (ad 211), .ref (ad 212)])) H.size 0 (sc 0) (sc 1) (sc 2) (sc 3) (sc 4) fr (up_s _ _ _) 1) (cwV 1 hts gX6_curveOf_X6_fail rfl rfl rfl (by decide +kernel) ⟨Nat.le_of_ble_eq_true rfl, Nat.le_of_ble_eq_true rfl⟩) (gV_V hP hD hK hB hS hA hZ 200 (ci := 6) rfl (up_s _ _ _)) rfl rfl hl.1 rfl (lv_room (Nat.le_of_ble_eq_true rfl)) dX6_curveOf_22 ⟨Nat.le_of_ble_eq_true rfl, Nat.le_of_ble_eq_true rfl⟩) hS (gA_sub hD hS hA) (fun v_22 ad_22 w_22 H locs hv_22 hP hD hS => ?_)
    obtain ⟨hv1, hv2, hv3⟩ := hv_22
    subst hv1
    rw [hv2, hv3] at hP hD
    rw [show up ((up w 200 (oB 6 [.int (iI 0), .int (iI (sc 0)), .ref (ad 201), .ref (ad 202), .ref (ad 203), .ref (ad 204), .int (iI (sc 1)), .ref (ad 205), .ref (ad 206), .ref (ad 207), .ref (ad 208), .ref (ad 209), .int (iI (sc 2)), .int (iI (sc 3)), .int (iI (sc 4)), .ref (ad 210), .int (iI fr), .ref (ad 211), .ref (ad 212)]))) 200 (oB 6 [.int (iI 1), .int (iI (sc 0)), .ref (ad 201), .ref (ad 202), .ref (ad 203), .ref (ad 204), .int (iI (sc 1)), .ref (ad 205), .ref (ad 206), .ref (ad 207), .ref (ad 208), .ref (ad 209), .int (iI (sc 2)), .int (iI (sc 3)), .int (iI (sc 4)), .ref (ad 210), .int (iI fr), .ref (ad 211), .ref (ad 212)]) = _ from (up_up _ _ _ _)] at hP hD
    refine W.eq (g2 := F0 m 25 ls [.int (iI 0)]) rfl ?_
    refine W.cs (cells' := 0) (slots' := 0) rfl rfl ?_
    rw [hQ9]
    exact W.iret (v := iI 0) hx hb hret (fun t ht hW => ⟨⟨some (.int (iI 0)), ad, (up w 200 (oB 6 [.int (iI 1), .int (iI (sc 0)), .ref (ad 201), .ref (ad 202), .ref (ad 203), .ref (ad 204), .int (iI (sc 1)), .ref (ad 205), .ref (ad 206), .ref (ad 207), .ref (ad 208), .ref (ad 209), .int (iI (sc 2)), .int (iI (sc 3)), .int (iI (sc 4)), .ref (ad 210), .int (iI fr), .ref (ad 211), .ref (ad 212)])), rfl, ⟨1, sc, fn, ⟨fr, G1, G2, us, ut, ub, S, F, ⟨(up_s _ _ _), (up_n (by decide) k1), (up_n (by decide) k2), (up_n (by decide) k3), (up_n (by decide) k4), (up_n (by decide) k5), (up_n (by decide) k6), (up_n (by decide) k7), (up_n (by decide) k8), (up_n (by decide) k9), (up_n (by decide) k10), (up_n (by decide) k11), (up_n (by decide) k12)⟩, hG1, hG2, hus, hut, hub, hS9, hF, hmc, hmu, hmt, hrk⟩, hI, ⟨rfl, fun r hr => ⟨(up_n (by omega) rfl), rfl⟩⟩, Or.inr (⟨rfl, rfl, rfl, rfl, by omega⟩)⟩, by rw [ht]; exact hP, hD⟩, hS.F ht⟩) hS.2.2 dX6_curveOf_25
  · skip
    refine lv_aload_n (pc := 12) hx hb dX6_curveOf_12 rfl (lv_at hl 0 rfl) ?_
    refine lv_iload_n (pc := 13) hx hb dX6_curveOf_13 rfl (lv_at hl 1 rfl) ?_
    refine k_call0 (pc := 14) (va_runV (As := [.int (iI d)]) (rest := []) ⟨hx, hb, hml, hown, hts⟩ (c_X6_curveAt l D cA ad (up w 200 (oB 6 [.int (iI 0), .int (iI (sc 0)), .ref (ad 201), .ref (ad 202), .ref (ad 203), .ref (ad 204), .int (iI (sc 1)), .ref (ad 205), .ref (ad 206), .ref (ad 207), .ref (ad 208), .ref (ad 209), .int (iI (sc 2)), .int (iI (sc 3)), .int (iI (sc 4)), .ref (ad 210), .int (iI fr), .ref (ad 211), .ref (ad 212)])) sc fn 0 fr hI (up_s _ _ _) (up_n (by decide) k1) d (by omega)) (cwV 1 hts gX6_curveOf_X6_curveAt rfl rfl rfl (by decide +kernel) ⟨Nat.le_of_ble_eq_true rfl, Nat.le_of_ble_eq_true rfl⟩) (gR_V hP hK hB 200 (ci := 6) rfl (up_s _ _ _)) rfl rfl hl.1 rfl (lv_room (Nat.le_of_ble_eq_true rfl)) dX6_curveOf_14 ⟨Nat.le_of_ble_eq_true rfl, Nat.le_of_ble_eq_true rfl⟩) (fun v_14 hv_14 => ?_)
    obtain ⟨z_14, rfl, hz_14, hy_14, hw_14⟩ := hv_14
    refine W.eq (g2 := F0 m 17 ls [.int (iI z_14)]) rfl ?_
    have he_17 : z_14 = cvno sc fn d := by omega
    rw [he_17]
    refine lv_goto (pc := 17) (tgt := 25) hx hb dX6_curveOf_17 (by decide) ?_
    rw [hQ9]
    exact W.iret (v := iI (cvno sc fn d)) hx hb hret (fun t ht hW => ⟨⟨some (.int (iI (cvno sc fn d))), ad, (up w 200 (oB 6 [.int (iI 0), .int (iI (sc 0)), .ref (ad 201), .ref (ad 202), .ref (ad 203), .ref (ad 204), .int (iI (sc 1)), .ref (ad 205), .ref (ad 206), .ref (ad 207), .ref (ad 208), .ref (ad 209), .int (iI (sc 2)), .int (iI (sc 3)), .int (iI (sc 4)), .ref (ad 210), .int (iI fr), .ref (ad 211), .ref (ad 212)])), rfl, ⟨0, sc, fn, ⟨fr, G1, G2, us, ut, ub, S, F, ⟨(up_s _ _ _), (up_n (by decide) k1), (up_n (by decide) k2), (up_n (by decide) k3), (up_n (by decide) k4), (up_n (by decide) k5), (up_n (by decide) k6), (up_n (by decide) k7), (up_n (by decide) k8), (up_n (by decide) k9), (up_n (by decide) k10), (up_n (by decide) k11), (up_n (by decide) k12)⟩, hG1, hG2, hus, hut, hub, hS9, hF, hmc, hmu, hmt, hrk⟩, hI, ⟨rfl, fun r hr => ⟨(up_n (by omega) rfl), rfl⟩⟩, Or.inl (⟨rfl, ⟨rfl, rfl, by omega, by omega, rfl⟩⟩)⟩, by rw [ht]; exact hP, hD⟩, hS.F ht⟩) hS.2.2 dX6_curveOf_25

abbrev rmX6_shift : Room := { frames := 2, cells := 0, slots := 0, locals := 45 }
theorem hiX6_shift_6 : ∀ w ∈ wsX60, w ∈ wsX6_shift := by decide +kernel
set_option maxHeartbeats 4000000 in
set_option maxRecDepth 100000 in
theorem c_X6_shift (l : Launch) (D : va_G) (cA : Nat → ClassId) (ad : Nat → Nat) (w : Nat → Option va_E) (sz : Nat) (th : Int) (sc : Nat → Int) (fn : Nat → Int → Int) (hI : bkInv sc fn) (hmd : mdS cA ad w th sc fn) (d : Int) (hd : (-2147483648 ≤ d ∧ d < 2147483648)) : Met l yX6_shift wsX6_shift rmX6_shift (gV D cA ad w sz [.ref (ad 200), .int (iI d)]) (gW D (fun v9 ad1 w1 => ∃ (th2 : Int) (sc2 : Nat → Int) (fn2 : Nat → Int → Int), mdS cA ad1 w1 th2 sc2 fn2 ∧ bkInv sc2 fn2 ∧ keepM ad ad1 w w1 ∧ ((th2 = 0 ∧ (sc2 = sc ∧ fn2 = fn ∧ 0 ≤ d ∧ d < 400 ∧ v9 = some (.int (iI (sftF (fn 0) (fn 1) (sc 1) d))))) ∨ (th2 = 1 ∧ v9 = some (.int (iI 0)) ∧ sc2 = sc ∧ fn2 = fn ∧ (¬ (0 ≤ d ∧ d < 400))))) (gA ad w sz)) 0 0 (gA ad w sz) := by
  refine Met.ofW (cc := cX6_shift) (maxL := 2) (ret := (some .int)) (by decide) rfl ?_
  intro p e s m args below meth c s₁ B hml hv
  obtain ⟨hav, hsz, hP, hD0, hK, hB, hZ⟩ := hv
  have hx := B.exec
  have hb := B.bytes
  have hret := B.returns
  have hts := atoms_spec (ws := wsX6_shift) B.pre
  have hown : s.vm.findClass RX6 = some m.cls := findClass_of_methodNamed B.named
  have hlocks := B.notSynchronized
  subst hsz
  have hD := hD0.self (sz := s.heap.size)
  generalize hAe : gA ad w s.heap.size = A at hD hZ ⊢
  have hA : ∀ q : Nat, s.heap.size ≤ q → A q := fun q h => by rw [← hAe]; exact Or.inr h
  have hS : va_S A s.heap s.heap [] := va_S.rf
  have hi6 := hiX6_shift_6
  have hf55 := hts (.fieldLink RX6 55 "GaugeBookModel" "thrown" "I") (by decide +kernel)
  have he9 : entryFrame m args 2 = F0 m 0 ((lg_sl ([.ref (ad 200), .int (iI d)] : List Value) ++ List.replicate (2 - (lg_sl ([.ref (ad 200), .int (iI d)] : List Value)).length) Slot.unset).toArray) [] := by rw [hav, lg_entry_eq]
  rw [he9]
  have hl := lv_entry ([.ref (ad 200), .int (iI d)] : List Value) (n := 2) (Nat.le_of_ble_eq_true rfl)
  generalize (lg_sl ([.ref (ad 200), .int (iI d)] : List Value) ++ List.replicate (2 - (lg_sl ([.ref (ad 200), .int (iI d)] : List Value)).length) Slot.unset).toArray = ls at hl ⊢
  have hl : lv_has ls 2 [(0, .ref (ad 200)), (1, .int (iI d))] := hl
  obtain ⟨Q9, hQ9⟩ : ∃ z, z = MQ below (gW D (fun v9 ad1 w1 => ∃ (th2 : Int) (sc2 : Nat → Int) (fn2 : Nat → Int → Int), mdS cA ad1 w1 th2 sc2 fn2 ∧ bkInv sc2 fn2 ∧ keepM ad ad1 w w1 ∧ ((th2 = 0 ∧ (sc2 = sc ∧ fn2 = fn ∧ 0 ≤ d ∧ d < 400 ∧ v9 = some (.int (iI (sftF (fn 0) (fn 1) (sc 1) d))))) ∨ (th2 = 1 ∧ v9 = some (.int (iI 0)) ∧ sc2 = sc ∧ fn2 = fn ∧ (¬ (0 ≤ d ∧ d < 400))))) A) args s 0 0 A := ⟨_, rfl⟩
  rw [← hQ9]
  show W p l e rmX6_shift s m args below meth c s.heap [] 0 0 Q9 (F0 m 0 ls [])
  obtain ⟨H, hHe⟩ : ∃ z, z = s.heap := ⟨_, rfl⟩
  obtain ⟨locs, hLe⟩ : ∃ z, z = ([] : List Loc) := ⟨_, rfl⟩
  have hP : gP D vwCl ad w H := by rw [hHe]; exact hP
  have hS : va_S A s.heap H locs := by rw [hHe, hLe]; exact va_S.rf
  rw [show W p l e rmX6_shift s m args below meth c s.heap [] 0 0 Q9 (F0 m 0 ls []) = W p l e rmX6_shift s m args below meth c H locs 0 0 Q9 (F0 m 0 ls []) by rw [hHe, hLe]]
  clear hHe hLe
  obtain ⟨fr, G1, G2, us, ut, ub, S, F, ⟨k0, k1, k2, k3, k4, k5, k6, k7, k8, k9, k10, k11, k12⟩, hG1, hG2, hus, hut, hub, hS9, hF, hmc, hmu, hmt, hrk⟩ := hmd
  have hI1 := hI.1
  refine lv_aload_n (pc := 0) hx hb dX6_shift_0 rfl (lv_at hl 0 rfl) ?_
  refine k_iconst (pc := 1) hx hb dX6_shift_1 ?_
  refine k_put (pc := 2) (ci := 6) (C := RX6) (T := TX6) (N := 19) (ty := .int) (v := .int (iI 0)) (w1 := (up w 200 (oB 6 [.int (iI 0), .int (iI (sc 0)), .ref (ad 201), .ref (ad 202), .ref (ad 203), .ref (ad 204), .int (iI (sc 1)), .ref (ad 205), .ref (ad 206), .ref (ad 207), .ref (ad 208), .ref (ad 209), .int (iI (sc 2)), .int (iI (sc 3)), .int (iI (sc 4)), .ref (ad 210), .int (iI fr), .ref (ad 211), .ref (ad 212)]))) hx hb hts hi6 tyX6 tyX6_ok nmX6 hown hK hP hD hS 200 k0 rfl 0 (by decide) hf55 (fun _ h9 => h9) rfl (by decide +kernel) rfl rfl (Nat.le_of_ble_eq_true rfl) rfl dX6_shift_2 (fun H locs hP hD hS => ?_)
  refine lv_iload_n (pc := 5) hx hb dX6_shift_5 rfl (lv_at hl 1 rfl) ?_
  refine k_call0 (pc := 6) (va_runS (As := [.int (iI d)]) (rest := []) ⟨hx, hb, hml, hown, hts⟩ (c_X6_isDay l D cA ad (up w 200 (oB 6 [.int (iI 0), .int (iI (sc 0)), .ref (ad 201), .ref (ad 202), .ref (ad 203), .ref (ad 204), .int (iI (sc 1)), .ref (ad 205), .ref (ad 206), .ref (ad 207), .ref (ad 208), .ref (ad 209), .int (iI (sc 2)), .int (iI (sc 3)), .int (iI (sc 4)), .ref (ad 210), .int (iI fr), .ref (ad 211), .ref (ad 212)])) d (by omega)) (va_cwS 1 hts gX6_shift_X6_isDay rfl rfl rfl (by decide +kernel) ⟨Nat.le_of_ble_eq_true rfl, Nat.le_of_ble_eq_true rfl⟩) (gR_S hP hK hB) rfl rfl hl.1 rfl (lv_room (Nat.le_of_ble_eq_true rfl)) dX6_shift_6 ⟨Nat.le_of_ble_eq_true rfl, Nat.le_of_ble_eq_true rfl⟩) (fun v_6 hv_6 => ?_)
  obtain ⟨z_6, rfl, hz_6⟩ := hv_6
  refine W.eq (g2 := F0 m 9 ls [.int (iI z_6)]) rfl ?_
  refine k_if_eq (pc := 9) (tgt := 20) hx hb ⟨by omega, by omega⟩ dX6_shift_9 (by decide) (fun hc_9 => ?_) (fun hc_9 => ?_)
  · skip
    refine lv_aload_n (pc := 20) hx hb dX6_shift_20 rfl (lv_at hl 0 rfl) ?_
    refine k_iconst (pc := 21) hx hb dX6_shift_21 ?_
    refine k_call1 (pc := 22) (va_runV (As := [.int (iI 1)]) (rest := []) ⟨hx, hb, hml, hown, hts⟩ (c_X6_fail l D cA ad (up w 200 (oB 6 [.int (iI 0), .int (iI (sc 0)), .ref (ad 201), .ref (ad 202), .ref (ad 203), .ref (ad 204), .int (iI (sc 1)), .ref (ad 205), .ref (ad 206), .ref (ad 207), .ref (ad 208), .ref (ad 209), .int (iI (sc 2)), .int (iI (sc 3)), .int (iI (sc 4)), .ref (ad 210), .int (iI fr), .ref (ad 211), .ref (ad 212)])) H.size 0 (sc 0) (sc 1) (sc 2) (sc 3) (sc 4) fr (up_s _ _ _) 1) (cwV 1 hts gX6_shift_X6_fail rfl rfl rfl (by decide +kernel) ⟨Nat.le_of_ble_eq_true rfl, Nat.le_of_ble_eq_true rfl⟩) (gV_V hP hD hK hB hS hA hZ 200 (ci := 6) rfl (up_s _ _ _)) rfl rfl hl.1 rfl (lv_room (Nat.le_of_ble_eq_true rfl)) dX6_shift_22 ⟨Nat.le_of_ble_eq_true rfl, Nat.le_of_ble_eq_true rfl⟩) hS (gA_sub hD hS hA) (fun v_22 ad_22 w_22 H locs hv_22 hP hD hS => ?_)
    obtain ⟨hv1, hv2, hv3⟩ := hv_22
    subst hv1
    rw [hv2, hv3] at hP hD
    rw [show up ((up w 200 (oB 6 [.int (iI 0), .int (iI (sc 0)), .ref (ad 201), .ref (ad 202), .ref (ad 203), .ref (ad 204), .int (iI (sc 1)), .ref (ad 205), .ref (ad 206), .ref (ad 207), .ref (ad 208), .ref (ad 209), .int (iI (sc 2)), .int (iI (sc 3)), .int (iI (sc 4)), .ref (ad 210), .int (iI fr), .ref (ad 211), .ref (ad 212)]))) 200 (oB 6 [.int (iI 1), .int (iI (sc 0)), .ref (ad 201), .ref (ad 202), .ref (ad 203), .ref (ad 204), .int (iI (sc 1)), .ref (ad 205), .ref (ad 206), .ref (ad 207), .ref (ad 208), .ref (ad 209), .int (iI (sc 2)), .int (iI (sc 3)), .int (iI (sc 4)), .ref (ad 210), .int (iI fr), .ref (ad 211), .ref (ad 212)]) = _ from (up_up _ _ _ _)] at hP hD
    refine W.eq (g2 := F0 m 25 ls [.int (iI 0)]) rfl ?_
    refine W.cs (cells' := 0) (slots' := 0) rfl rfl ?_
    rw [hQ9]
    exact W.iret (v := iI 0) hx hb hret (fun t ht hW => ⟨⟨some (.int (iI 0)), ad, (up w 200 (oB 6 [.int (iI 1), .int (iI (sc 0)), .ref (ad 201), .ref (ad 202), .ref (ad 203), .ref (ad 204), .int (iI (sc 1)), .ref (ad 205), .ref (ad 206), .ref (ad 207), .ref (ad 208), .ref (ad 209), .int (iI (sc 2)), .int (iI (sc 3)), .int (iI (sc 4)), .ref (ad 210), .int (iI fr), .ref (ad 211), .ref (ad 212)])), rfl, ⟨1, sc, fn, ⟨fr, G1, G2, us, ut, ub, S, F, ⟨(up_s _ _ _), (up_n (by decide) k1), (up_n (by decide) k2), (up_n (by decide) k3), (up_n (by decide) k4), (up_n (by decide) k5), (up_n (by decide) k6), (up_n (by decide) k7), (up_n (by decide) k8), (up_n (by decide) k9), (up_n (by decide) k10), (up_n (by decide) k11), (up_n (by decide) k12)⟩, hG1, hG2, hus, hut, hub, hS9, hF, hmc, hmu, hmt, hrk⟩, hI, ⟨rfl, fun r hr => ⟨(up_n (by omega) rfl), rfl⟩⟩, Or.inr (⟨rfl, rfl, rfl, rfl, by omega⟩)⟩, by rw [ht]; exact hP, hD⟩, hS.F ht⟩) hS.2.2 dX6_shift_25
  · skip
    refine lv_aload_n (pc := 12) hx hb dX6_shift_12 rfl (lv_at hl 0 rfl) ?_
    refine lv_iload_n (pc := 13) hx hb dX6_shift_13 rfl (lv_at hl 1 rfl) ?_
    refine k_call0 (pc := 14) (va_runV (As := [.int (iI d)]) (rest := []) ⟨hx, hb, hml, hown, hts⟩ (c_X6_shiftAt l D cA ad (up w 200 (oB 6 [.int (iI 0), .int (iI (sc 0)), .ref (ad 201), .ref (ad 202), .ref (ad 203), .ref (ad 204), .int (iI (sc 1)), .ref (ad 205), .ref (ad 206), .ref (ad 207), .ref (ad 208), .ref (ad 209), .int (iI (sc 2)), .int (iI (sc 3)), .int (iI (sc 4)), .ref (ad 210), .int (iI fr), .ref (ad 211), .ref (ad 212)])) sc fn 0 fr us ut hI (up_s _ _ _) (up_n (by decide) k5) (up_n (by decide) k6) hus hut hmu d (by omega)) (cwV 1 hts gX6_shift_X6_shiftAt rfl rfl rfl (by decide +kernel) ⟨Nat.le_of_ble_eq_true rfl, Nat.le_of_ble_eq_true rfl⟩) (gR_V hP hK hB 200 (ci := 6) rfl (up_s _ _ _)) rfl rfl hl.1 rfl (lv_room (Nat.le_of_ble_eq_true rfl)) dX6_shift_14 ⟨Nat.le_of_ble_eq_true rfl, Nat.le_of_ble_eq_true rfl⟩) (fun v_14 hv_14 => ?_)
    obtain ⟨z_14, rfl, hz_14⟩ := hv_14
    refine W.eq (g2 := F0 m 17 ls [.int (iI z_14)]) rfl ?_
    have he_17 : z_14 = sftF (fn 0) (fn 1) (sc 1) d := by omega
    rw [he_17]
    refine lv_goto (pc := 17) (tgt := 25) hx hb dX6_shift_17 (by decide) ?_
    rw [hQ9]
    exact W.iret (v := iI (sftF (fn 0) (fn 1) (sc 1) d)) hx hb hret (fun t ht hW => ⟨⟨some (.int (iI (sftF (fn 0) (fn 1) (sc 1) d))), ad, (up w 200 (oB 6 [.int (iI 0), .int (iI (sc 0)), .ref (ad 201), .ref (ad 202), .ref (ad 203), .ref (ad 204), .int (iI (sc 1)), .ref (ad 205), .ref (ad 206), .ref (ad 207), .ref (ad 208), .ref (ad 209), .int (iI (sc 2)), .int (iI (sc 3)), .int (iI (sc 4)), .ref (ad 210), .int (iI fr), .ref (ad 211), .ref (ad 212)])), rfl, ⟨0, sc, fn, ⟨fr, G1, G2, us, ut, ub, S, F, ⟨(up_s _ _ _), (up_n (by decide) k1), (up_n (by decide) k2), (up_n (by decide) k3), (up_n (by decide) k4), (up_n (by decide) k5), (up_n (by decide) k6), (up_n (by decide) k7), (up_n (by decide) k8), (up_n (by decide) k9), (up_n (by decide) k10), (up_n (by decide) k11), (up_n (by decide) k12)⟩, hG1, hG2, hus, hut, hub, hS9, hF, hmc, hmu, hmt, hrk⟩, hI, ⟨rfl, fun r hr => ⟨(up_n (by omega) rfl), rfl⟩⟩, Or.inl (⟨rfl, ⟨rfl, rfl, by omega, by omega, rfl⟩⟩)⟩, by rw [ht]; exact hP, hD⟩, hS.F ht⟩) hS.2.2 dX6_shift_25

abbrev rmX6_setRules : Room := { frames := 1, cells := 0, slots := 0, locals := 25 }
theorem hiX6_setRules_6 : ∀ w ∈ wsX60, w ∈ wsX6_setRules := by decide +kernel
set_option maxHeartbeats 4000000 in
set_option maxRecDepth 100000 in
theorem c_X6_setRules (l : Launch) (D : va_G) (cA : Nat → ClassId) (ad : Nat → Nat) (w : Nat → Option va_E) (sz : Nat) (th : Int) (sc : Nat → Int) (fn : Nat → Int → Int) (hI : bkInv sc fn) (hmd : mdS cA ad w th sc fn) (fa li : Int) (hfa : (-2147483648 ≤ fa ∧ fa < 2147483648)) (hli : (-2147483648 ≤ li ∧ li < 2147483648)) : Met l yX6_setRules wsX6_setRules rmX6_setRules (gV D cA ad w sz [.ref (ad 200), .int (iI fa), .int (iI li)]) (gW D (fun v9 ad1 w1 => ∃ (th2 : Int) (sc2 : Nat → Int) (fn2 : Nat → Int → Int), mdS cA ad1 w1 th2 sc2 fn2 ∧ bkInv sc2 fn2 ∧ keepM ad ad1 w w1 ∧ ((th2 = 0 ∧ (sc2 = (upS (upS sc 2 fa) 3 li) ∧ fn2 = fn ∧ ((0 ≤ fa ∧ fa ≤ 100) ∧ (0 ≤ li ∧ li ≤ 60)) ∧ v9 = some (.int (iI (sc 2))))) ∨ (th2 = 1 ∧ v9 = some (.int (iI 0)) ∧ sc2 = sc ∧ fn2 = fn ∧ (¬ ((0 ≤ fa ∧ fa ≤ 100) ∧ (0 ≤ li ∧ li ≤ 60)))))) (gA ad w sz)) 0 0 (gA ad w sz) := by
  refine Met.ofW (cc := cX6_setRules) (maxL := 4) (ret := (some .int)) (by decide) rfl ?_
  intro p e s m args below meth c s₁ B hml hv
  obtain ⟨hav, hsz, hP, hD0, hK, hB, hZ⟩ := hv
  have hx := B.exec
  have hb := B.bytes
  have hret := B.returns
  have hts := atoms_spec (ws := wsX6_setRules) B.pre
  have hown : s.vm.findClass RX6 = some m.cls := findClass_of_methodNamed B.named
  have hlocks := B.notSynchronized
  subst hsz
  have hD := hD0.self (sz := s.heap.size)
  generalize hAe : gA ad w s.heap.size = A at hD hZ ⊢
  have hA : ∀ q : Nat, s.heap.size ≤ q → A q := fun q h => by rw [← hAe]; exact Or.inr h
  have hS : va_S A s.heap s.heap [] := va_S.rf
  have hi6 := hiX6_setRules_6
  have hf38 := hts (.fieldLink RX6 38 "GaugeBookModel" "factor" "I") (by decide +kernel)
  have hf42 := hts (.fieldLink RX6 42 "GaugeBookModel" "limit" "I") (by decide +kernel)
  have hf55 := hts (.fieldLink RX6 55 "GaugeBookModel" "thrown" "I") (by decide +kernel)
  have hf77 := hts (.fieldLink RX6 77 "GaugeBookModel" "isFresh" "Z") (by decide +kernel)
  have he9 : entryFrame m args 4 = F0 m 0 ((lg_sl ([.ref (ad 200), .int (iI fa), .int (iI li)] : List Value) ++ List.replicate (4 - (lg_sl ([.ref (ad 200), .int (iI fa), .int (iI li)] : List Value)).length) Slot.unset).toArray) [] := by rw [hav, lg_entry_eq]
  rw [he9]
  have hl := lv_entry ([.ref (ad 200), .int (iI fa), .int (iI li)] : List Value) (n := 4) (Nat.le_of_ble_eq_true rfl)
  generalize (lg_sl ([.ref (ad 200), .int (iI fa), .int (iI li)] : List Value) ++ List.replicate (4 - (lg_sl ([.ref (ad 200), .int (iI fa), .int (iI li)] : List Value)).length) Slot.unset).toArray = ls at hl ⊢
  have hl : lv_has ls 4 [(0, .ref (ad 200)), (1, .int (iI fa)), (2, .int (iI li))] := hl
  obtain ⟨Q9, hQ9⟩ : ∃ z, z = MQ below (gW D (fun v9 ad1 w1 => ∃ (th2 : Int) (sc2 : Nat → Int) (fn2 : Nat → Int → Int), mdS cA ad1 w1 th2 sc2 fn2 ∧ bkInv sc2 fn2 ∧ keepM ad ad1 w w1 ∧ ((th2 = 0 ∧ (sc2 = (upS (upS sc 2 fa) 3 li) ∧ fn2 = fn ∧ ((0 ≤ fa ∧ fa ≤ 100) ∧ (0 ≤ li ∧ li ≤ 60)) ∧ v9 = some (.int (iI (sc 2))))) ∨ (th2 = 1 ∧ v9 = some (.int (iI 0)) ∧ sc2 = sc ∧ fn2 = fn ∧ (¬ ((0 ≤ fa ∧ fa ≤ 100) ∧ (0 ≤ li ∧ li ≤ 60)))))) A) args s 0 0 A := ⟨_, rfl⟩
  rw [← hQ9]
  show W p l e rmX6_setRules s m args below meth c s.heap [] 0 0 Q9 (F0 m 0 ls [])
  obtain ⟨H, hHe⟩ : ∃ z, z = s.heap := ⟨_, rfl⟩
  obtain ⟨locs, hLe⟩ : ∃ z, z = ([] : List Loc) := ⟨_, rfl⟩
  have hP : gP D vwCl ad w H := by rw [hHe]; exact hP
  have hS : va_S A s.heap H locs := by rw [hHe, hLe]; exact va_S.rf
  rw [show W p l e rmX6_setRules s m args below meth c s.heap [] 0 0 Q9 (F0 m 0 ls []) = W p l e rmX6_setRules s m args below meth c H locs 0 0 Q9 (F0 m 0 ls []) by rw [hHe, hLe]]
  clear hHe hLe
  obtain ⟨fr, G1, G2, us, ut, ub, S, F, ⟨k0, k1, k2, k3, k4, k5, k6, k7, k8, k9, k10, k11, k12⟩, hG1, hG2, hus, hut, hub, hS9, hF, hmc, hmu, hmt, hrk⟩ := hmd
  have hI1 := hI.1
  refine lv_aload_n (pc := 0) hx hb dX6_setRules_0 rfl (lv_at hl 0 rfl) ?_
  refine k_iconst (pc := 1) hx hb dX6_setRules_1 ?_
  refine k_put (pc := 2) (ci := 6) (C := RX6) (T := TX6) (N := 19) (ty := .int) (v := .int (iI 0)) (w1 := (up w 200 (oB 6 [.int (iI 0), .int (iI (sc 0)), .ref (ad 201), .ref (ad 202), .ref (ad 203), .ref (ad 204), .int (iI (sc 1)), .ref (ad 205), .ref (ad 206), .ref (ad 207), .ref (ad 208), .ref (ad 209), .int (iI (sc 2)), .int (iI (sc 3)), .int (iI (sc 4)), .ref (ad 210), .int (iI fr), .ref (ad 211), .ref (ad 212)]))) hx hb hts hi6 tyX6 tyX6_ok nmX6 hown hK hP hD hS 200 k0 rfl 0 (by decide) hf55 (fun _ h9 => h9) rfl (by decide +kernel) rfl rfl (Nat.le_of_ble_eq_true rfl) rfl dX6_setRules_2 (fun H locs hP hD hS => ?_)
  refine lv_iload_n (pc := 5) hx hb dX6_setRules_5 rfl (lv_at hl 1 rfl) ?_
  refine k_i2l (pc := 6) hx hb ⟨by omega, by omega⟩ dX6_setRules_6 ?_
  refine k_lconst0 (pc := 7) hx hb dX6_setRules_7 ?_
  refine k_ldc2 (z := 100) (pc := 8) hx hb hown (hts (.constantLong RX6 126 (100)) (by decide +kernel)) (by decide +kernel) dX6_setRules_8 ?_
  refine k_call0 (pc := 11) (va_runS (As := [.long (lI fa), .long (lI 0), .long (lI 100)]) (rest := []) ⟨hx, hb, hml, hown, hts⟩ (c_X6_isIn l D cA ad (up w 200 (oB 6 [.int (iI 0), .int (iI (sc 0)), .ref (ad 201), .ref (ad 202), .ref (ad 203), .ref (ad 204), .int (iI (sc 1)), .ref (ad 205), .ref (ad 206), .ref (ad 207), .ref (ad 208), .ref (ad 209), .int (iI (sc 2)), .int (iI (sc 3)), .int (iI (sc 4)), .ref (ad 210), .int (iI fr), .ref (ad 211), .ref (ad 212)])) fa 0 100 (by omega) (by omega) (by omega)) (va_cwS 3 hts gX6_setRules_X6_isIn rfl rfl rfl (by decide +kernel) ⟨Nat.le_of_ble_eq_true rfl, Nat.le_of_ble_eq_true rfl⟩) (gR_S hP hK hB) rfl rfl hl.1 rfl (lv_room (Nat.le_of_ble_eq_true rfl)) dX6_setRules_11 ⟨Nat.le_of_ble_eq_true rfl, Nat.le_of_ble_eq_true rfl⟩) (fun v_11 hv_11 => ?_)
  obtain ⟨z_11, rfl, hz_11⟩ := hv_11
  refine W.eq (g2 := F0 m 14 ls [.int (iI z_11)]) rfl ?_
  refine k_if_eq (pc := 14) (tgt := 29) hx hb ⟨by omega, by omega⟩ dX6_setRules_14 (by decide) (fun hc_14 => ?_) (fun hc_14 => ?_)
  · skip
    refine lv_aload_n (pc := 29) hx hb dX6_setRules_29 rfl (lv_at hl 0 rfl) ?_
    refine k_iconst (pc := 30) hx hb dX6_setRules_30 ?_
    refine k_call1 (pc := 31) (va_runV (As := [.int (iI 1)]) (rest := []) ⟨hx, hb, hml, hown, hts⟩ (c_X6_fail l D cA ad (up w 200 (oB 6 [.int (iI 0), .int (iI (sc 0)), .ref (ad 201), .ref (ad 202), .ref (ad 203), .ref (ad 204), .int (iI (sc 1)), .ref (ad 205), .ref (ad 206), .ref (ad 207), .ref (ad 208), .ref (ad 209), .int (iI (sc 2)), .int (iI (sc 3)), .int (iI (sc 4)), .ref (ad 210), .int (iI fr), .ref (ad 211), .ref (ad 212)])) H.size 0 (sc 0) (sc 1) (sc 2) (sc 3) (sc 4) fr (up_s _ _ _) 1) (cwV 1 hts gX6_setRules_X6_fail rfl rfl rfl (by decide +kernel) ⟨Nat.le_of_ble_eq_true rfl, Nat.le_of_ble_eq_true rfl⟩) (gV_V hP hD hK hB hS hA hZ 200 (ci := 6) rfl (up_s _ _ _)) rfl rfl hl.1 rfl (lv_room (Nat.le_of_ble_eq_true rfl)) dX6_setRules_31 ⟨Nat.le_of_ble_eq_true rfl, Nat.le_of_ble_eq_true rfl⟩) hS (gA_sub hD hS hA) (fun v_31 ad_31 w_31 H locs hv_31 hP hD hS => ?_)
    obtain ⟨hv1, hv2, hv3⟩ := hv_31
    subst hv1
    rw [hv2, hv3] at hP hD
    rw [show up ((up w 200 (oB 6 [.int (iI 0), .int (iI (sc 0)), .ref (ad 201), .ref (ad 202), .ref (ad 203), .ref (ad 204), .int (iI (sc 1)), .ref (ad 205), .ref (ad 206), .ref (ad 207), .ref (ad 208), .ref (ad 209), .int (iI (sc 2)), .int (iI (sc 3)), .int (iI (sc 4)), .ref (ad 210), .int (iI fr), .ref (ad 211), .ref (ad 212)]))) 200 (oB 6 [.int (iI 1), .int (iI (sc 0)), .ref (ad 201), .ref (ad 202), .ref (ad 203), .ref (ad 204), .int (iI (sc 1)), .ref (ad 205), .ref (ad 206), .ref (ad 207), .ref (ad 208), .ref (ad 209), .int (iI (sc 2)), .int (iI (sc 3)), .int (iI (sc 4)), .ref (ad 210), .int (iI fr), .ref (ad 211), .ref (ad 212)]) = _ from (up_up _ _ _ _)] at hP hD
    refine W.eq (g2 := F0 m 34 ls [.int (iI 0)]) rfl ?_
    refine W.cs (cells' := 0) (slots' := 0) rfl rfl ?_
    rw [hQ9]
    exact W.iret (v := iI 0) hx hb hret (fun t ht hW => ⟨⟨some (.int (iI 0)), ad, (up w 200 (oB 6 [.int (iI 1), .int (iI (sc 0)), .ref (ad 201), .ref (ad 202), .ref (ad 203), .ref (ad 204), .int (iI (sc 1)), .ref (ad 205), .ref (ad 206), .ref (ad 207), .ref (ad 208), .ref (ad 209), .int (iI (sc 2)), .int (iI (sc 3)), .int (iI (sc 4)), .ref (ad 210), .int (iI fr), .ref (ad 211), .ref (ad 212)])), rfl, ⟨1, sc, fn, ⟨fr, G1, G2, us, ut, ub, S, F, ⟨(up_s _ _ _), (up_n (by decide) k1), (up_n (by decide) k2), (up_n (by decide) k3), (up_n (by decide) k4), (up_n (by decide) k5), (up_n (by decide) k6), (up_n (by decide) k7), (up_n (by decide) k8), (up_n (by decide) k9), (up_n (by decide) k10), (up_n (by decide) k11), (up_n (by decide) k12)⟩, hG1, hG2, hus, hut, hub, hS9, hF, hmc, hmu, hmt, hrk⟩, hI, ⟨rfl, fun r hr => ⟨(up_n (by omega) rfl), rfl⟩⟩, Or.inr (⟨rfl, rfl, rfl, rfl, by omega⟩)⟩, by rw [ht]; exact hP, hD⟩, hS.F ht⟩) hS.2.2 dX6_setRules_34
  · skip
    refine lv_iload_n (pc := 17) hx hb dX6_setRules_17 rfl (lv_at hl 2 rfl) ?_
    refine k_i2l (pc := 18) hx hb ⟨by omega, by omega⟩ dX6_setRules_18 ?_
    refine k_lconst0 (pc := 19) hx hb dX6_setRules_19 ?_
    refine k_ldc2 (z := 60) (pc := 20) hx hb hown (hts (.constantLong RX6 128 (60)) (by decide +kernel)) (by decide +kernel) dX6_setRules_20 ?_
    refine k_call0 (pc := 23) (va_runS (As := [.long (lI li), .long (lI 0), .long (lI 60)]) (rest := []) ⟨hx, hb, hml, hown, hts⟩ (c_X6_isIn l D cA ad (up w 200 (oB 6 [.int (iI 0), .int (iI (sc 0)), .ref (ad 201), .ref (ad 202), .ref (ad 203), .ref (ad 204), .int (iI (sc 1)), .ref (ad 205), .ref (ad 206), .ref (ad 207), .ref (ad 208), .ref (ad 209), .int (iI (sc 2)), .int (iI (sc 3)), .int (iI (sc 4)), .ref (ad 210), .int (iI fr), .ref (ad 211), .ref (ad 212)])) li 0 60 (by omega) (by omega) (by omega)) (va_cwS 3 hts gX6_setRules_X6_isIn rfl rfl rfl (by decide +kernel) ⟨Nat.le_of_ble_eq_true rfl, Nat.le_of_ble_eq_true rfl⟩) (gR_S hP hK hB) rfl rfl hl.1 rfl (lv_room (Nat.le_of_ble_eq_true rfl)) dX6_setRules_23 ⟨Nat.le_of_ble_eq_true rfl, Nat.le_of_ble_eq_true rfl⟩) (fun v_23 hv_23 => ?_)
    obtain ⟨z_23, rfl, hz_23⟩ := hv_23
    refine W.eq (g2 := F0 m 26 ls [.int (iI z_23)]) rfl ?_
    refine k_if_ne (pc := 26) (tgt := 35) hx hb ⟨by omega, by omega⟩ dX6_setRules_26 (by decide) (fun hc_26 => ?_) (fun hc_26 => ?_)
    · skip
      refine lv_aload_n (pc := 35) hx hb dX6_setRules_35 rfl (lv_at hl 0 rfl) ?_
      refine k_get (pc := 36) (ci := 6) (C := RX6) (T := TX6) (N := 19) hx hb hts hi6 hown hK hP 200 (up_s _ _ _) rfl 12 (by decide) hf38 (fun _ h9 => h9) rfl dX6_setRules_36 ?_
      refine lv_istore_n (pc := 39) (lv' := [(3, .int (iI (sc 2))), (0, .ref (ad 200)), (1, .int (iI fa)), (2, .int (iI li))]) hx hb dX6_setRules_39 rfl hl (by decide) rfl (fun ls hl => ?_)
      refine lv_aload_n (pc := 40) hx hb dX6_setRules_40 rfl (lv_at hl 1 rfl) ?_
      refine lv_iload_n (pc := 41) hx hb dX6_setRules_41 rfl (lv_at hl 2 rfl) ?_
      refine k_put (pc := 42) (ci := 6) (C := RX6) (T := TX6) (N := 19) (ty := .int) (v := .int (iI fa)) (w1 := (up w 200 (oB 6 [.int (iI 0), .int (iI (sc 0)), .ref (ad 201), .ref (ad 202), .ref (ad 203), .ref (ad 204), .int (iI (sc 1)), .ref (ad 205), .ref (ad 206), .ref (ad 207), .ref (ad 208), .ref (ad 209), .int (iI fa), .int (iI (sc 3)), .int (iI (sc 4)), .ref (ad 210), .int (iI fr), .ref (ad 211), .ref (ad 212)]))) hx hb hts hi6 tyX6 tyX6_ok nmX6 hown hK hP hD hS 200 (up_s _ _ _) rfl 12 (by decide) hf38 (fun _ h9 => h9) rfl (by decide +kernel) rfl rfl (Nat.le_of_ble_eq_true rfl) (up_up _ _ _ _) dX6_setRules_42 (fun H locs hP hD hS => ?_)
      refine lv_aload_n (pc := 45) hx hb dX6_setRules_45 rfl (lv_at hl 1 rfl) ?_
      refine lv_iload_n (pc := 46) hx hb dX6_setRules_46 rfl (lv_at hl 3 rfl) ?_
      refine k_put (pc := 47) (ci := 6) (C := RX6) (T := TX6) (N := 19) (ty := .int) (v := .int (iI li)) (w1 := (up w 200 (oB 6 [.int (iI 0), .int (iI (sc 0)), .ref (ad 201), .ref (ad 202), .ref (ad 203), .ref (ad 204), .int (iI (sc 1)), .ref (ad 205), .ref (ad 206), .ref (ad 207), .ref (ad 208), .ref (ad 209), .int (iI fa), .int (iI li), .int (iI (sc 4)), .ref (ad 210), .int (iI fr), .ref (ad 211), .ref (ad 212)]))) hx hb hts hi6 tyX6 tyX6_ok nmX6 hown hK hP hD hS 200 (up_s _ _ _) rfl 13 (by decide) hf42 (fun _ h9 => h9) rfl (by decide +kernel) rfl rfl (Nat.le_of_ble_eq_true rfl) (up_up _ _ _ _) dX6_setRules_47 (fun H locs hP hD hS => ?_)
      refine lv_aload_n (pc := 50) hx hb dX6_setRules_50 rfl (lv_at hl 1 rfl) ?_
      refine k_iconst (pc := 51) hx hb dX6_setRules_51 ?_
      refine k_put (pc := 52) (ci := 6) (C := RX6) (T := TX6) (N := 19) (ty := .boolean) (v := .int (iI 0)) (w1 := (up w 200 (oB 6 [.int (iI 0), .int (iI (sc 0)), .ref (ad 201), .ref (ad 202), .ref (ad 203), .ref (ad 204), .int (iI (sc 1)), .ref (ad 205), .ref (ad 206), .ref (ad 207), .ref (ad 208), .ref (ad 209), .int (iI fa), .int (iI li), .int (iI (sc 4)), .ref (ad 210), .int (iI 0), .ref (ad 211), .ref (ad 212)]))) hx hb hts hi6 tyX6 tyX6_ok nmX6 hown hK hP hD hS 200 (up_s _ _ _) rfl 16 (by decide) hf77 (fun _ h9 => h9) rfl (by decide +kernel) (by decide +kernel) rfl (Nat.le_of_ble_eq_true rfl) (up_up _ _ _ _) dX6_setRules_52 (fun H locs hP hD hS => ?_)
      refine lv_iload_n (pc := 55) hx hb dX6_setRules_55 rfl (lv_at hl 0 rfl) ?_
      rw [hQ9]
      exact W.iret (v := iI (sc 2)) hx hb hret (fun t ht hW => ⟨⟨some (.int (iI (sc 2))), ad, (up w 200 (oB 6 [.int (iI 0), .int (iI (sc 0)), .ref (ad 201), .ref (ad 202), .ref (ad 203), .ref (ad 204), .int (iI (sc 1)), .ref (ad 205), .ref (ad 206), .ref (ad 207), .ref (ad 208), .ref (ad 209), .int (iI fa), .int (iI li), .int (iI (sc 4)), .ref (ad 210), .int (iI 0), .ref (ad 211), .ref (ad 212)])), rfl, ⟨0, (upS (upS sc 2 fa) 3 li), fn, ⟨0, G1, G2, us, ut, ub, S, F, ⟨(up_s _ _ _), (up_n (by decide) k1), (up_n (by decide) k2), (up_n (by decide) k3), (up_n (by decide) k4), (up_n (by decide) k5), (up_n (by decide) k6), (up_n (by decide) k7), (up_n (by decide) k8), (up_n (by decide) k9), (up_n (by decide) k10), (up_n (by decide) k11), (up_n (by decide) k12)⟩, hG1, hG2, hus, hut, hub, hS9, hF, hmc, hmu, hmt, (Or.inl rfl)⟩, (inv_ru hI (by omega) (by omega)), ⟨rfl, fun r hr => ⟨(up_n (by omega) rfl), rfl⟩⟩, Or.inl (⟨rfl, ⟨rfl, rfl, by omega, rfl⟩⟩)⟩, by rw [ht]; exact hP, hD⟩, hS.F ht⟩) hS.2.2 dX6_setRules_56
    · skip
      refine lv_aload_n (pc := 29) hx hb dX6_setRules_29 rfl (lv_at hl 0 rfl) ?_
      refine k_iconst (pc := 30) hx hb dX6_setRules_30 ?_
      refine k_call1 (pc := 31) (va_runV (As := [.int (iI 1)]) (rest := []) ⟨hx, hb, hml, hown, hts⟩ (c_X6_fail l D cA ad (up w 200 (oB 6 [.int (iI 0), .int (iI (sc 0)), .ref (ad 201), .ref (ad 202), .ref (ad 203), .ref (ad 204), .int (iI (sc 1)), .ref (ad 205), .ref (ad 206), .ref (ad 207), .ref (ad 208), .ref (ad 209), .int (iI (sc 2)), .int (iI (sc 3)), .int (iI (sc 4)), .ref (ad 210), .int (iI fr), .ref (ad 211), .ref (ad 212)])) H.size 0 (sc 0) (sc 1) (sc 2) (sc 3) (sc 4) fr (up_s _ _ _) 1) (cwV 1 hts gX6_setRules_X6_fail rfl rfl rfl (by decide +kernel) ⟨Nat.le_of_ble_eq_true rfl, Nat.le_of_ble_eq_true rfl⟩) (gV_V hP hD hK hB hS hA hZ 200 (ci := 6) rfl (up_s _ _ _)) rfl rfl hl.1 rfl (lv_room (Nat.le_of_ble_eq_true rfl)) dX6_setRules_31 ⟨Nat.le_of_ble_eq_true rfl, Nat.le_of_ble_eq_true rfl⟩) hS (gA_sub hD hS hA) (fun v_31 ad_31 w_31 H locs hv_31 hP hD hS => ?_)
      obtain ⟨hv1, hv2, hv3⟩ := hv_31
      subst hv1
      rw [hv2, hv3] at hP hD
      rw [show up ((up w 200 (oB 6 [.int (iI 0), .int (iI (sc 0)), .ref (ad 201), .ref (ad 202), .ref (ad 203), .ref (ad 204), .int (iI (sc 1)), .ref (ad 205), .ref (ad 206), .ref (ad 207), .ref (ad 208), .ref (ad 209), .int (iI (sc 2)), .int (iI (sc 3)), .int (iI (sc 4)), .ref (ad 210), .int (iI fr), .ref (ad 211), .ref (ad 212)]))) 200 (oB 6 [.int (iI 1), .int (iI (sc 0)), .ref (ad 201), .ref (ad 202), .ref (ad 203), .ref (ad 204), .int (iI (sc 1)), .ref (ad 205), .ref (ad 206), .ref (ad 207), .ref (ad 208), .ref (ad 209), .int (iI (sc 2)), .int (iI (sc 3)), .int (iI (sc 4)), .ref (ad 210), .int (iI fr), .ref (ad 211), .ref (ad 212)]) = _ from (up_up _ _ _ _)] at hP hD
      refine W.eq (g2 := F0 m 34 ls [.int (iI 0)]) rfl ?_
      refine W.cs (cells' := 0) (slots' := 0) rfl rfl ?_
      rw [hQ9]
      exact W.iret (v := iI 0) hx hb hret (fun t ht hW => ⟨⟨some (.int (iI 0)), ad, (up w 200 (oB 6 [.int (iI 1), .int (iI (sc 0)), .ref (ad 201), .ref (ad 202), .ref (ad 203), .ref (ad 204), .int (iI (sc 1)), .ref (ad 205), .ref (ad 206), .ref (ad 207), .ref (ad 208), .ref (ad 209), .int (iI (sc 2)), .int (iI (sc 3)), .int (iI (sc 4)), .ref (ad 210), .int (iI fr), .ref (ad 211), .ref (ad 212)])), rfl, ⟨1, sc, fn, ⟨fr, G1, G2, us, ut, ub, S, F, ⟨(up_s _ _ _), (up_n (by decide) k1), (up_n (by decide) k2), (up_n (by decide) k3), (up_n (by decide) k4), (up_n (by decide) k5), (up_n (by decide) k6), (up_n (by decide) k7), (up_n (by decide) k8), (up_n (by decide) k9), (up_n (by decide) k10), (up_n (by decide) k11), (up_n (by decide) k12)⟩, hG1, hG2, hus, hut, hub, hS9, hF, hmc, hmu, hmt, hrk⟩, hI, ⟨rfl, fun r hr => ⟨(up_n (by omega) rfl), rfl⟩⟩, Or.inr (⟨rfl, rfl, rfl, rfl, by omega⟩)⟩, by rw [ht]; exact hP, hD⟩, hS.F ht⟩) hS.2.2 dX6_setRules_34

abbrev rmX6_erase : Room := { frames := 3, cells := 0, slots := 0, locals := 66 }
theorem hiX6_erase_6 : ∀ w ∈ wsX60, w ∈ wsX6_erase := by decide +kernel
set_option maxHeartbeats 4000000 in
set_option maxRecDepth 100000 in
theorem c_X6_erase (l : Launch) (D : va_G) (cA : Nat → ClassId) (ad : Nat → Nat) (w : Nat → Option va_E) (sz : Nat) (th : Int) (sc : Nat → Int) (fn : Nat → Int → Int) (hI : bkInv sc fn) (hmd : mdS cA ad w th sc fn) (d n : Int) (hd : (-2147483648 ≤ d ∧ d < 2147483648)) (hn : (-2147483648 ≤ n ∧ n < 2147483648)) : Met l yX6_erase wsX6_erase rmX6_erase (gV D cA ad w sz [.ref (ad 200), .int (iI d), .int (iI n)]) (gW D (fun v9 ad1 w1 => ∃ (th2 : Int) (sc2 : Nat → Int) (fn2 : Nat → Int → Int), mdS cA ad1 w1 th2 sc2 fn2 ∧ bkInv sc2 fn2 ∧ keepM ad ad1 w w1 ∧ ((th2 = 0 ∧ (sc2 = sc ∧ fn2 = (upF fn 3 (spanF (fn 3) d n (fun _ => 0))) ∧ (0 ≤ d ∧ d < 400 ∧ 1 ≤ n ∧ d + n ≤ 400) ∧ v9 = some (.int (iI (cntT (fn 3) d n.toNat))))) ∨ (th2 = 1 ∧ v9 = some (.int (iI 0)) ∧ sc2 = sc ∧ fn2 = fn ∧ (¬ (0 ≤ d ∧ d < 400 ∧ 1 ≤ n ∧ d + n ≤ 400))))) (gA ad w sz)) 0 0 (gA ad w sz) := by
  refine Met.ofW (cc := cX6_erase) (maxL := 5) (ret := (some .int)) (by decide) rfl ?_
  intro p e s m args below meth c s₁ B hml hv
  obtain ⟨hav, hsz, hP, hD0, hK, hB, hZ⟩ := hv
  have hx := B.exec
  have hb := B.bytes
  have hret := B.returns
  have hts := atoms_spec (ws := wsX6_erase) B.pre
  have hown : s.vm.findClass RX6 = some m.cls := findClass_of_methodNamed B.named
  have hlocks := B.notSynchronized
  subst hsz
  have hD := hD0.self (sz := s.heap.size)
  generalize hAe : gA ad w s.heap.size = A at hD hZ ⊢
  have hA : ∀ q : Nat, s.heap.size ≤ q → A q := fun q h => by rw [← hAe]; exact Or.inr h
  have hS : va_S A s.heap s.heap [] := va_S.rf
  have hi6 := hiX6_erase_6
  have hf29 := hts (.fieldLink RX6 29 "GaugeBookModel" "hasStage" "[Z") (by decide +kernel)
  have hf55 := hts (.fieldLink RX6 55 "GaugeBookModel" "thrown" "I") (by decide +kernel)
  have hf77 := hts (.fieldLink RX6 77 "GaugeBookModel" "isFresh" "Z") (by decide +kernel)
  have he9 : entryFrame m args 5 = F0 m 0 ((lg_sl ([.ref (ad 200), .int (iI d), .int (iI n)] : List Value) ++ List.replicate (5 - (lg_sl ([.ref (ad 200), .int (iI d), .int (iI n)] : List Value)).length) Slot.unset).toArray) [] := by rw [hav, lg_entry_eq]
  rw [he9]
  have hl := lv_entry ([.ref (ad 200), .int (iI d), .int (iI n)] : List Value) (n := 5) (Nat.le_of_ble_eq_true rfl)
  generalize (lg_sl ([.ref (ad 200), .int (iI d), .int (iI n)] : List Value) ++ List.replicate (5 - (lg_sl ([.ref (ad 200), .int (iI d), .int (iI n)] : List Value)).length) Slot.unset).toArray = ls at hl ⊢
  have hl : lv_has ls 5 [(0, .ref (ad 200)), (1, .int (iI d)), (2, .int (iI n))] := hl
  obtain ⟨Q9, hQ9⟩ : ∃ z, z = MQ below (gW D (fun v9 ad1 w1 => ∃ (th2 : Int) (sc2 : Nat → Int) (fn2 : Nat → Int → Int), mdS cA ad1 w1 th2 sc2 fn2 ∧ bkInv sc2 fn2 ∧ keepM ad ad1 w w1 ∧ ((th2 = 0 ∧ (sc2 = sc ∧ fn2 = (upF fn 3 (spanF (fn 3) d n (fun _ => 0))) ∧ (0 ≤ d ∧ d < 400 ∧ 1 ≤ n ∧ d + n ≤ 400) ∧ v9 = some (.int (iI (cntT (fn 3) d n.toNat))))) ∨ (th2 = 1 ∧ v9 = some (.int (iI 0)) ∧ sc2 = sc ∧ fn2 = fn ∧ (¬ (0 ≤ d ∧ d < 400 ∧ 1 ≤ n ∧ d + n ≤ 400))))) A) args s 0 0 A := ⟨_, rfl⟩
  rw [← hQ9]
  show W p l e rmX6_erase s m args below meth c s.heap [] 0 0 Q9 (F0 m 0 ls [])
  obtain ⟨H, hHe⟩ : ∃ z, z = s.heap := ⟨_, rfl⟩
  obtain ⟨locs, hLe⟩ : ∃ z, z = ([] : List Loc) := ⟨_, rfl⟩
  have hP : gP D vwCl ad w H := by rw [hHe]; exact hP
  have hS : va_S A s.heap H locs := by rw [hHe, hLe]; exact va_S.rf
  rw [show W p l e rmX6_erase s m args below meth c s.heap [] 0 0 Q9 (F0 m 0 ls []) = W p l e rmX6_erase s m args below meth c H locs 0 0 Q9 (F0 m 0 ls []) by rw [hHe, hLe]]
  clear hHe hLe
  obtain ⟨fr, G1, G2, us, ut, ub, S, F, ⟨k0, k1, k2, k3, k4, k5, k6, k7, k8, k9, k10, k11, k12⟩, hG1, hG2, hus, hut, hub, hS9, hF, hmc, hmu, hmt, hrk⟩ := hmd
  have hI1 := hI.1
  refine lv_aload_n (pc := 0) hx hb dX6_erase_0 rfl (lv_at hl 0 rfl) ?_
  refine k_iconst (pc := 1) hx hb dX6_erase_1 ?_
  refine k_put (pc := 2) (ci := 6) (C := RX6) (T := TX6) (N := 19) (ty := .int) (v := .int (iI 0)) (w1 := (up w 200 (oB 6 [.int (iI 0), .int (iI (sc 0)), .ref (ad 201), .ref (ad 202), .ref (ad 203), .ref (ad 204), .int (iI (sc 1)), .ref (ad 205), .ref (ad 206), .ref (ad 207), .ref (ad 208), .ref (ad 209), .int (iI (sc 2)), .int (iI (sc 3)), .int (iI (sc 4)), .ref (ad 210), .int (iI fr), .ref (ad 211), .ref (ad 212)]))) hx hb hts hi6 tyX6 tyX6_ok nmX6 hown hK hP hD hS 200 k0 rfl 0 (by decide) hf55 (fun _ h9 => h9) rfl (by decide +kernel) rfl rfl (Nat.le_of_ble_eq_true rfl) rfl dX6_erase_2 (fun H locs hP hD hS => ?_)
  refine lv_iload_n (pc := 5) hx hb dX6_erase_5 rfl (lv_at hl 1 rfl) ?_
  refine lv_iload_n (pc := 6) hx hb dX6_erase_6 rfl (lv_at hl 2 rfl) ?_
  refine k_call0 (pc := 7) (va_runS (As := [.int (iI d), .int (iI n)]) (rest := []) ⟨hx, hb, hml, hown, hts⟩ (c_X6_areDays l D cA ad (up w 200 (oB 6 [.int (iI 0), .int (iI (sc 0)), .ref (ad 201), .ref (ad 202), .ref (ad 203), .ref (ad 204), .int (iI (sc 1)), .ref (ad 205), .ref (ad 206), .ref (ad 207), .ref (ad 208), .ref (ad 209), .int (iI (sc 2)), .int (iI (sc 3)), .int (iI (sc 4)), .ref (ad 210), .int (iI fr), .ref (ad 211), .ref (ad 212)])) d n (by omega) (by omega)) (va_cwS 2 hts gX6_erase_X6_areDays rfl rfl rfl (by decide +kernel) ⟨Nat.le_of_ble_eq_true rfl, Nat.le_of_ble_eq_true rfl⟩) (gR_S hP hK hB) rfl rfl hl.1 rfl (lv_room (Nat.le_of_ble_eq_true rfl)) dX6_erase_7 ⟨Nat.le_of_ble_eq_true rfl, Nat.le_of_ble_eq_true rfl⟩) (fun v_7 hv_7 => ?_)
  obtain ⟨z_7, rfl, hz_7⟩ := hv_7
  refine W.eq (g2 := F0 m 10 ls [.int (iI z_7)]) rfl ?_
  refine k_if_ne (pc := 10) (tgt := 19) hx hb ⟨by omega, by omega⟩ dX6_erase_10 (by decide) (fun hc_10 => ?_) (fun hc_10 => ?_)
  · skip
    refine k_iconst (pc := 19) hx hb dX6_erase_19 ?_
    refine lv_istore_n (pc := 20) (lv' := [(3, .int (iI 0)), (0, .ref (ad 200)), (1, .int (iI d)), (2, .int (iI n))]) hx hb dX6_erase_20 rfl hl (by decide) rfl (fun ls hl => ?_)
    refine lv_iload_n (pc := 21) hx hb dX6_erase_21 rfl (lv_at hl 2 rfl) ?_
    refine lv_istore (pc := 22) (lv' := [(4, .int (iI d)), (3, .int (iI 0)), (0, .ref (ad 200)), (1, .int (iI d)), (2, .int (iI n))]) hx hb dX6_erase_22 hl (by decide) rfl (fun ls hl => ?_)
    have lp_24 : ∀ (N9 : Nat) (i : Int) (x : Int), (d ≤ i ∧ i ≤ d + n) → (x = cntT (fn 3) d (i - d).toNat) → (d + n - i).toNat < N9 → ∀ (H : Heap) (locs : List Loc), gP D vwCl ad (up (up w 200 (oB 6 [.int (iI 0), .int (iI (sc 0)), .ref (ad 201), .ref (ad 202), .ref (ad 203), .ref (ad 204), .int (iI (sc 1)), .ref (ad 205), .ref (ad 206), .ref (ad 207), .ref (ad 208), .ref (ad 209), .int (iI (sc 2)), .int (iI (sc 3)), .int (iI (sc 4)), .ref (ad 210), .int (iI fr), .ref (ad 211), .ref (ad 212)])) 207 (eI (cA 1) 400 (spanF (fn 3) d (i - d) (fun _ => 0)))) H → gD A ad (up (up w 200 (oB 6 [.int (iI 0), .int (iI (sc 0)), .ref (ad 201), .ref (ad 202), .ref (ad 203), .ref (ad 204), .int (iI (sc 1)), .ref (ad 205), .ref (ad 206), .ref (ad 207), .ref (ad 208), .ref (ad 209), .int (iI (sc 2)), .int (iI (sc 3)), .int (iI (sc 4)), .ref (ad 210), .int (iI fr), .ref (ad 211), .ref (ad 212)])) 207 (eI (cA 1) 400 (spanF (fn 3) d (i - d) (fun _ => 0)))) → va_S A s.heap H locs → ∀ (ls : Array Slot), lv_has ls 5 [(4, .int (iI i)), (3, .int (iI x)), (0, .ref (ad 200)), (1, .int (iI d)), (2, .int (iI n))] → W p l e rmX6_erase s m args below meth c H locs 0 0 Q9 (F0 m 24 ls []) := by
      intro N9
      induction N9 with
      | zero => intro i x i0 iC hmu; exact absurd hmu (Nat.not_lt_zero _)
      | succ N9 ih_24 =>
        intro i x i0 iC hmu_24 H locs hP hD hS ls hl
        have q9_ : (spanF (fn 3) d (i - d) (fun _ => 0)) i = fn 3 i := by unfold spanF; rw [if_neg (by omega)]
        have q8_ := hI.2.2.2.1 i
        refine lv_iload (pc := 24) hx hb dX6_erase_24 (lv_at hl 0 rfl) ?_
        refine lv_iload_n (pc := 26) hx hb dX6_erase_26 rfl (lv_at hl 3 rfl) ?_
        refine lv_iload_n (pc := 27) hx hb dX6_erase_27 rfl (lv_at hl 4 rfl) ?_
        refine k_iadd (pc := 28) hx hb dX6_erase_28 ?_
        refine k_icmp_ge (pc := 29) (tgt := 64) hx hb ⟨by omega, by omega⟩ ⟨by omega, by omega⟩ dX6_erase_29 (by decide) (fun hc_29 => ?_) (fun hc_29 => ?_)
        · skip
          have hin_ : i - d = n := by omega
          rw [hin_] at hP hD
          refine lv_aload_n (pc := 64) hx hb dX6_erase_64 rfl (lv_at hl 2 rfl) ?_
          refine k_iconst (pc := 65) hx hb dX6_erase_65 ?_
          refine k_put (pc := 66) (ci := 6) (C := RX6) (T := TX6) (N := 19) (ty := .boolean) (v := .int (iI 0)) (w1 := (up (up w 200 (oB 6 [.int (iI 0), .int (iI (sc 0)), .ref (ad 201), .ref (ad 202), .ref (ad 203), .ref (ad 204), .int (iI (sc 1)), .ref (ad 205), .ref (ad 206), .ref (ad 207), .ref (ad 208), .ref (ad 209), .int (iI (sc 2)), .int (iI (sc 3)), .int (iI (sc 4)), .ref (ad 210), .int (iI 0), .ref (ad 211), .ref (ad 212)])) 207 (eI (cA 1) 400 (spanF (fn 3) d n (fun _ => 0))))) hx hb hts hi6 tyX6 tyX6_ok nmX6 hown hK hP hD hS 200 (up_n (by decide) (up_s _ _ _)) rfl 16 (by decide) hf77 (fun _ h9 => h9) rfl (by decide +kernel) (by decide +kernel) rfl (Nat.le_of_ble_eq_true rfl) ((up_co _ _ _ (by decide)).trans (congrArg (fun u => up u 207 _) (up_up _ _ _ _))) dX6_erase_66 (fun H locs hP hD hS => ?_)
          refine lv_iload_n (pc := 69) hx hb dX6_erase_69 rfl (lv_at hl 1 rfl) ?_
          rw [hQ9]
          exact W.iret (v := iI x) hx hb hret (fun t ht hW => ⟨⟨some (.int (iI x)), ad, (up (up w 200 (oB 6 [.int (iI 0), .int (iI (sc 0)), .ref (ad 201), .ref (ad 202), .ref (ad 203), .ref (ad 204), .int (iI (sc 1)), .ref (ad 205), .ref (ad 206), .ref (ad 207), .ref (ad 208), .ref (ad 209), .int (iI (sc 2)), .int (iI (sc 3)), .int (iI (sc 4)), .ref (ad 210), .int (iI 0), .ref (ad 211), .ref (ad 212)])) 207 (eI (cA 1) 400 (spanF (fn 3) d n (fun _ => 0)))), rfl, ⟨0, sc, (upF fn 3 (spanF (fn 3) d n (fun _ => 0))), ⟨0, G1, G2, us, ut, ub, S, F, ⟨(up_n (by decide) (up_s _ _ _)), (up_n (by decide) (up_n (by decide) k1)), (up_n (by decide) (up_n (by decide) k2)), (up_n (by decide) (up_n (by decide) k3)), (up_n (by decide) (up_n (by decide) k4)), (up_n (by decide) (up_n (by decide) k5)), (up_n (by decide) (up_n (by decide) k6)), (up_s _ _ _), (up_n (by decide) (up_n (by decide) k8)), (up_n (by decide) (up_n (by decide) k9)), (up_n (by decide) (up_n (by decide) k10)), (up_n (by decide) (up_n (by decide) k11)), (up_n (by decide) (up_n (by decide) k12))⟩, hG1, hG2, hus, hut, hub, hS9, hF, (mdC_k hmc rfl (fun k => ⟨(upF_n (by omega)), (upF_n (by omega))⟩)), hmu, hmt, (Or.inl rfl)⟩, (inv_3 hI (spanF_b hI.2.2.2.1 (fun j g1 g2 => by omega))), ⟨rfl, fun r hr => ⟨(up_n (by omega) (up_n (by omega) rfl)), rfl⟩⟩, Or.inl (⟨rfl, ⟨rfl, rfl, by omega, by rw [iC, show (i - d).toNat = n.toNat by omega]⟩⟩)⟩, by rw [ht]; exact hP, hD⟩, hS.F ht⟩) hS.2.2 dX6_erase_70
        · skip
          refine lv_iload_n (pc := 32) hx hb dX6_erase_32 rfl (lv_at hl 1 rfl) ?_
          refine lv_aload_n (pc := 33) hx hb dX6_erase_33 rfl (lv_at hl 2 rfl) ?_
          refine k_get (pc := 34) (ci := 6) (C := RX6) (T := TX6) (N := 19) hx hb hts hi6 hown hK hP 200 (up_n (by decide) (up_s _ _ _)) rfl 9 (by decide) hf29 (fun _ h9 => h9) rfl dX6_erase_34 ?_
          refine lv_iload (pc := 37) hx hb dX6_erase_37 (lv_at hl 0 rfl) ?_
          refine k_zald (pc := 39) hx hb hK hP 207 1 (up_s _ _ _) rfl (by omega) (by omega) (by omega) dX6_erase_39 ?_
          have hq_39 := (spanF_b (d := d) (m := i - d) (v := fun _ => 0) hI.2.2.2.1 (fun j g1 g2 => (show (0 : Int) ≤ 0 ∧ (0 : Int) ≤ 1 by omega))) i
          refine k_if_eq (pc := 40) (tgt := 47) hx hb ⟨by omega, by omega⟩ dX6_erase_40 (by decide) (fun hc_40 => ?_) (fun hc_40 => ?_)
          · skip
            refine k_iconst (pc := 47) hx hb dX6_erase_47 ?_
            refine k_iadd (pc := 48) hx hb dX6_erase_48 ?_
            refine lv_istore_n (pc := 49) (lv' := [(3, .int (iI (x + 0))), (4, .int (iI i)), (0, .ref (ad 200)), (1, .int (iI d)), (2, .int (iI n))]) hx hb dX6_erase_49 rfl hl (by decide) rfl (fun ls hl => ?_)
            refine lv_aload_n (pc := 50) hx hb dX6_erase_50 rfl (lv_at hl 2 rfl) ?_
            refine k_get (pc := 51) (ci := 6) (C := RX6) (T := TX6) (N := 19) hx hb hts hi6 hown hK hP 200 (up_n (by decide) (up_s _ _ _)) rfl 9 (by decide) hf29 (fun _ h9 => h9) rfl dX6_erase_51 ?_
            refine lv_iload (pc := 54) hx hb dX6_erase_54 (lv_at hl 1 rfl) ?_
            refine k_iconst (pc := 56) hx hb dX6_erase_56 ?_
            refine k_zast (pc := 57) (w1 := (up (up w 200 (oB 6 [.int (iI 0), .int (iI (sc 0)), .ref (ad 201), .ref (ad 202), .ref (ad 203), .ref (ad 204), .int (iI (sc 1)), .ref (ad 205), .ref (ad 206), .ref (ad 207), .ref (ad 208), .ref (ad 209), .int (iI (sc 2)), .int (iI (sc 3)), .int (iI (sc 4)), .ref (ad 210), .int (iI fr), .ref (ad 211), .ref (ad 212)])) 207 (eI (cA 1) 400 (updI (spanF (fn 3) d (i - d) (fun _ => 0)) i 0)))) hx hb hK hP hD hS 207 1 (up_s _ _ _) rfl (by omega) (by omega) (by omega) (Or.inl rfl) (up_up _ _ _ _) dX6_erase_57 (fun H locs hP hD hS => ?_)
            refine lv_iinc (pc := 58) (v := iI (i + 1)) (lv' := [(4, .int (iI (i + 1))), (3, .int (iI (x + 0))), (0, .ref (ad 200)), (1, .int (iI d)), (2, .int (iI n))]) hx hb dX6_erase_58 hl (k := 1) rfl (iI_add _ _) (by decide) rfl (fun ls hl => ?_)
            refine lv_goto (pc := 61) (tgt := 24) hx hb dX6_erase_61 (by decide) ?_
            have c9_ := cntT_s (fn 3) (fr := d) (d := i) (by omega)
            rw [show i + 1 - d = i + 1 - d from rfl] at c9_
            have hW9 : ((up (up w 200 (oB 6 [.int (iI 0), .int (iI (sc 0)), .ref (ad 201), .ref (ad 202), .ref (ad 203), .ref (ad 204), .int (iI (sc 1)), .ref (ad 205), .ref (ad 206), .ref (ad 207), .ref (ad 208), .ref (ad 209), .int (iI (sc 2)), .int (iI (sc 3)), .int (iI (sc 4)), .ref (ad 210), .int (iI fr), .ref (ad 211), .ref (ad 212)])) 207 (eI (cA 1) 400 (updI (spanF (fn 3) d (i - d) (fun _ => 0)) i 0)))) = (up (up w 200 (oB 6 [.int (iI 0), .int (iI (sc 0)), .ref (ad 201), .ref (ad 202), .ref (ad 203), .ref (ad 204), .int (iI (sc 1)), .ref (ad 205), .ref (ad 206), .ref (ad 207), .ref (ad 208), .ref (ad 209), .int (iI (sc 2)), .int (iI (sc 3)), .int (iI (sc 4)), .ref (ad 210), .int (iI fr), .ref (ad 211), .ref (ad 212)])) 207 (eI (cA 1) 400 (spanF (fn 3) d ((i + 1) - d) (fun _ => 0)))) := by rw [show updI (spanF (fn 3) d (i - d) (fun _ => 0)) i 0 = spanF (fn 3) d (i + 1 - d) (fun _ => 0) by have h9_ := spanF_s (fn 3) (d := d) (m := i - d) (fun _ => 0) (by omega) (x := 0) rfl; rw [show d + (i - d) = i by omega, show i - d + 1 = i + 1 - d by omega] at h9_; exact h9_]
            rw [hW9] at hP hD
            exact ih_24 (i + 1) (x + 0) (by omega) (by rw [c9_]; first | (rw [if_pos (by rw [← q9_]; omega)]; omega) | (rw [if_neg (by rw [← q9_]; omega)]; omega)) (by omega) H locs hP hD hS ls (lv_sub hl [0, 1, 2, 3, 4] rfl)
          · skip
            refine k_iconst (pc := 43) hx hb dX6_erase_43 ?_
            refine lv_goto (pc := 44) (tgt := 48) hx hb dX6_erase_44 (by decide) ?_
            refine k_iadd (pc := 48) hx hb dX6_erase_48 ?_
            refine lv_istore_n (pc := 49) (lv' := [(3, .int (iI (x + 1))), (4, .int (iI i)), (0, .ref (ad 200)), (1, .int (iI d)), (2, .int (iI n))]) hx hb dX6_erase_49 rfl hl (by decide) rfl (fun ls hl => ?_)
            refine lv_aload_n (pc := 50) hx hb dX6_erase_50 rfl (lv_at hl 2 rfl) ?_
            refine k_get (pc := 51) (ci := 6) (C := RX6) (T := TX6) (N := 19) hx hb hts hi6 hown hK hP 200 (up_n (by decide) (up_s _ _ _)) rfl 9 (by decide) hf29 (fun _ h9 => h9) rfl dX6_erase_51 ?_
            refine lv_iload (pc := 54) hx hb dX6_erase_54 (lv_at hl 1 rfl) ?_
            refine k_iconst (pc := 56) hx hb dX6_erase_56 ?_
            refine k_zast (pc := 57) (w1 := (up (up w 200 (oB 6 [.int (iI 0), .int (iI (sc 0)), .ref (ad 201), .ref (ad 202), .ref (ad 203), .ref (ad 204), .int (iI (sc 1)), .ref (ad 205), .ref (ad 206), .ref (ad 207), .ref (ad 208), .ref (ad 209), .int (iI (sc 2)), .int (iI (sc 3)), .int (iI (sc 4)), .ref (ad 210), .int (iI fr), .ref (ad 211), .ref (ad 212)])) 207 (eI (cA 1) 400 (updI (spanF (fn 3) d (i - d) (fun _ => 0)) i 0)))) hx hb hK hP hD hS 207 1 (up_s _ _ _) rfl (by omega) (by omega) (by omega) (Or.inl rfl) (up_up _ _ _ _) dX6_erase_57 (fun H locs hP hD hS => ?_)
            refine lv_iinc (pc := 58) (v := iI (i + 1)) (lv' := [(4, .int (iI (i + 1))), (3, .int (iI (x + 1))), (0, .ref (ad 200)), (1, .int (iI d)), (2, .int (iI n))]) hx hb dX6_erase_58 hl (k := 1) rfl (iI_add _ _) (by decide) rfl (fun ls hl => ?_)
            refine lv_goto (pc := 61) (tgt := 24) hx hb dX6_erase_61 (by decide) ?_
            have c9_ := cntT_s (fn 3) (fr := d) (d := i) (by omega)
            rw [show i + 1 - d = i + 1 - d from rfl] at c9_
            have hW9 : ((up (up w 200 (oB 6 [.int (iI 0), .int (iI (sc 0)), .ref (ad 201), .ref (ad 202), .ref (ad 203), .ref (ad 204), .int (iI (sc 1)), .ref (ad 205), .ref (ad 206), .ref (ad 207), .ref (ad 208), .ref (ad 209), .int (iI (sc 2)), .int (iI (sc 3)), .int (iI (sc 4)), .ref (ad 210), .int (iI fr), .ref (ad 211), .ref (ad 212)])) 207 (eI (cA 1) 400 (updI (spanF (fn 3) d (i - d) (fun _ => 0)) i 0)))) = (up (up w 200 (oB 6 [.int (iI 0), .int (iI (sc 0)), .ref (ad 201), .ref (ad 202), .ref (ad 203), .ref (ad 204), .int (iI (sc 1)), .ref (ad 205), .ref (ad 206), .ref (ad 207), .ref (ad 208), .ref (ad 209), .int (iI (sc 2)), .int (iI (sc 3)), .int (iI (sc 4)), .ref (ad 210), .int (iI fr), .ref (ad 211), .ref (ad 212)])) 207 (eI (cA 1) 400 (spanF (fn 3) d ((i + 1) - d) (fun _ => 0)))) := by rw [show updI (spanF (fn 3) d (i - d) (fun _ => 0)) i 0 = spanF (fn 3) d (i + 1 - d) (fun _ => 0) by have h9_ := spanF_s (fn 3) (d := d) (m := i - d) (fun _ => 0) (by omega) (x := 0) rfl; rw [show d + (i - d) = i by omega, show i - d + 1 = i + 1 - d by omega] at h9_; exact h9_]
            rw [hW9] at hP hD
            exact ih_24 (i + 1) (x + 1) (by omega) (by rw [c9_]; first | (rw [if_pos (by rw [← q9_]; omega)]; omega) | (rw [if_neg (by rw [← q9_]; omega)]; omega)) (by omega) H locs hP hD hS ls (lv_sub hl [0, 1, 2, 3, 4] rfl)
    have hW9 : ((up w 200 (oB 6 [.int (iI 0), .int (iI (sc 0)), .ref (ad 201), .ref (ad 202), .ref (ad 203), .ref (ad 204), .int (iI (sc 1)), .ref (ad 205), .ref (ad 206), .ref (ad 207), .ref (ad 208), .ref (ad 209), .int (iI (sc 2)), .int (iI (sc 3)), .int (iI (sc 4)), .ref (ad 210), .int (iI fr), .ref (ad 211), .ref (ad 212)]))) = (up (up w 200 (oB 6 [.int (iI 0), .int (iI (sc 0)), .ref (ad 201), .ref (ad 202), .ref (ad 203), .ref (ad 204), .int (iI (sc 1)), .ref (ad 205), .ref (ad 206), .ref (ad 207), .ref (ad 208), .ref (ad 209), .int (iI (sc 2)), .int (iI (sc 3)), .int (iI (sc 4)), .ref (ad 210), .int (iI fr), .ref (ad 211), .ref (ad 212)])) 207 (eI (cA 1) 400 (spanF (fn 3) d (d - d) (fun _ => 0)))) := by rw [Int.sub_self, spanF_0, up_self (up_n (by omega) k7)]
    rw [hW9] at hP hD
    exact lp_24 _ d 0 (by omega) (by rw [Int.sub_self]; rfl) (Nat.lt_succ_self _) H locs hP hD hS ls (lv_sub hl [0, 1, 2, 3, 4] rfl)
  · skip
    refine lv_aload_n (pc := 13) hx hb dX6_erase_13 rfl (lv_at hl 0 rfl) ?_
    refine k_iconst (pc := 14) hx hb dX6_erase_14 ?_
    refine k_call1 (pc := 15) (va_runV (As := [.int (iI 1)]) (rest := []) ⟨hx, hb, hml, hown, hts⟩ (c_X6_fail l D cA ad (up w 200 (oB 6 [.int (iI 0), .int (iI (sc 0)), .ref (ad 201), .ref (ad 202), .ref (ad 203), .ref (ad 204), .int (iI (sc 1)), .ref (ad 205), .ref (ad 206), .ref (ad 207), .ref (ad 208), .ref (ad 209), .int (iI (sc 2)), .int (iI (sc 3)), .int (iI (sc 4)), .ref (ad 210), .int (iI fr), .ref (ad 211), .ref (ad 212)])) H.size 0 (sc 0) (sc 1) (sc 2) (sc 3) (sc 4) fr (up_s _ _ _) 1) (cwV 1 hts gX6_erase_X6_fail rfl rfl rfl (by decide +kernel) ⟨Nat.le_of_ble_eq_true rfl, Nat.le_of_ble_eq_true rfl⟩) (gV_V hP hD hK hB hS hA hZ 200 (ci := 6) rfl (up_s _ _ _)) rfl rfl hl.1 rfl (lv_room (Nat.le_of_ble_eq_true rfl)) dX6_erase_15 ⟨Nat.le_of_ble_eq_true rfl, Nat.le_of_ble_eq_true rfl⟩) hS (gA_sub hD hS hA) (fun v_15 ad_15 w_15 H locs hv_15 hP hD hS => ?_)
    obtain ⟨hv1, hv2, hv3⟩ := hv_15
    subst hv1
    rw [hv2, hv3] at hP hD
    rw [show up ((up w 200 (oB 6 [.int (iI 0), .int (iI (sc 0)), .ref (ad 201), .ref (ad 202), .ref (ad 203), .ref (ad 204), .int (iI (sc 1)), .ref (ad 205), .ref (ad 206), .ref (ad 207), .ref (ad 208), .ref (ad 209), .int (iI (sc 2)), .int (iI (sc 3)), .int (iI (sc 4)), .ref (ad 210), .int (iI fr), .ref (ad 211), .ref (ad 212)]))) 200 (oB 6 [.int (iI 1), .int (iI (sc 0)), .ref (ad 201), .ref (ad 202), .ref (ad 203), .ref (ad 204), .int (iI (sc 1)), .ref (ad 205), .ref (ad 206), .ref (ad 207), .ref (ad 208), .ref (ad 209), .int (iI (sc 2)), .int (iI (sc 3)), .int (iI (sc 4)), .ref (ad 210), .int (iI fr), .ref (ad 211), .ref (ad 212)]) = _ from (up_up _ _ _ _)] at hP hD
    refine W.eq (g2 := F0 m 18 ls [.int (iI 0)]) rfl ?_
    refine W.cs (cells' := 0) (slots' := 0) rfl rfl ?_
    rw [hQ9]
    exact W.iret (v := iI 0) hx hb hret (fun t ht hW => ⟨⟨some (.int (iI 0)), ad, (up w 200 (oB 6 [.int (iI 1), .int (iI (sc 0)), .ref (ad 201), .ref (ad 202), .ref (ad 203), .ref (ad 204), .int (iI (sc 1)), .ref (ad 205), .ref (ad 206), .ref (ad 207), .ref (ad 208), .ref (ad 209), .int (iI (sc 2)), .int (iI (sc 3)), .int (iI (sc 4)), .ref (ad 210), .int (iI fr), .ref (ad 211), .ref (ad 212)])), rfl, ⟨1, sc, fn, ⟨fr, G1, G2, us, ut, ub, S, F, ⟨(up_s _ _ _), (up_n (by decide) k1), (up_n (by decide) k2), (up_n (by decide) k3), (up_n (by decide) k4), (up_n (by decide) k5), (up_n (by decide) k6), (up_n (by decide) k7), (up_n (by decide) k8), (up_n (by decide) k9), (up_n (by decide) k10), (up_n (by decide) k11), (up_n (by decide) k12)⟩, hG1, hG2, hus, hut, hub, hS9, hF, hmc, hmu, hmt, hrk⟩, hI, ⟨rfl, fun r hr => ⟨(up_n (by omega) rfl), rfl⟩⟩, Or.inr (⟨rfl, rfl, rfl, rfl, by omega⟩)⟩, by rw [ht]; exact hP, hD⟩, hS.F ht⟩) hS.2.2 dX6_erase_18

abbrev rmX6_freeze : Room := { frames := 3, cells := 0, slots := 0, locals := 66 }
theorem hiX6_freeze_6 : ∀ w ∈ wsX60, w ∈ wsX6_freeze := by decide +kernel
set_option maxHeartbeats 4000000 in
set_option maxRecDepth 100000 in
theorem c_X6_freeze (l : Launch) (D : va_G) (cA : Nat → ClassId) (ad : Nat → Nat) (w : Nat → Option va_E) (sz : Nat) (th : Int) (sc : Nat → Int) (fn : Nat → Int → Int) (hI : bkInv sc fn) (hmd : mdS cA ad w th sc fn) (d n : Int) (hd : (-2147483648 ≤ d ∧ d < 2147483648)) (hn : (-2147483648 ≤ n ∧ n < 2147483648)) (ib : Int) (hib : ib = 0 ∨ ib = 1) : Met l yX6_freeze wsX6_freeze rmX6_freeze (gV D cA ad w sz [.ref (ad 200), .int (iI d), .int (iI n), .int (iI ib)]) (gW D (fun v9 ad1 w1 => ∃ (th2 : Int) (sc2 : Nat → Int) (fn2 : Nat → Int → Int), mdS cA ad1 w1 th2 sc2 fn2 ∧ bkInv sc2 fn2 ∧ keepM ad ad1 w w1 ∧ ((th2 = 0 ∧ (sc2 = sc ∧ fn2 = (upF fn 4 (spanF (fn 4) d n (fun _ => ib))) ∧ (0 ≤ d ∧ d < 400 ∧ 1 ≤ n ∧ d + n ≤ 400) ∧ v9 = some (.int (iI (if ib = 0 then cntT (fn 4) d n.toNat else n - cntT (fn 4) d n.toNat))))) ∨ (th2 = 1 ∧ v9 = some (.int (iI 0)) ∧ sc2 = sc ∧ fn2 = fn ∧ (¬ (0 ≤ d ∧ d < 400 ∧ 1 ≤ n ∧ d + n ≤ 400))))) (gA ad w sz)) 0 0 (gA ad w sz) := by
  refine Met.ofW (cc := cX6_freeze) (maxL := 6) (ret := (some .int)) (by decide) rfl ?_
  intro p e s m args below meth c s₁ B hml hv
  obtain ⟨hav, hsz, hP, hD0, hK, hB, hZ⟩ := hv
  have hx := B.exec
  have hb := B.bytes
  have hret := B.returns
  have hts := atoms_spec (ws := wsX6_freeze) B.pre
  have hown : s.vm.findClass RX6 = some m.cls := findClass_of_methodNamed B.named
  have hlocks := B.notSynchronized
  subst hsz
  have hD := hD0.self (sz := s.heap.size)
  generalize hAe : gA ad w s.heap.size = A at hD hZ ⊢
  have hA : ∀ q : Nat, s.heap.size ≤ q → A q := fun q h => by rw [← hAe]; exact Or.inr h
  have hS : va_S A s.heap s.heap [] := va_S.rf
  have hi6 := hiX6_freeze_6
  have hf35 := hts (.fieldLink RX6 35 "GaugeBookModel" "isIce" "[Z") (by decide +kernel)
  have hf55 := hts (.fieldLink RX6 55 "GaugeBookModel" "thrown" "I") (by decide +kernel)
  have hf77 := hts (.fieldLink RX6 77 "GaugeBookModel" "isFresh" "Z") (by decide +kernel)
  have he9 : entryFrame m args 6 = F0 m 0 ((lg_sl ([.ref (ad 200), .int (iI d), .int (iI n), .int (iI ib)] : List Value) ++ List.replicate (6 - (lg_sl ([.ref (ad 200), .int (iI d), .int (iI n), .int (iI ib)] : List Value)).length) Slot.unset).toArray) [] := by rw [hav, lg_entry_eq]
  rw [he9]
  have hl := lv_entry ([.ref (ad 200), .int (iI d), .int (iI n), .int (iI ib)] : List Value) (n := 6) (Nat.le_of_ble_eq_true rfl)
  generalize (lg_sl ([.ref (ad 200), .int (iI d), .int (iI n), .int (iI ib)] : List Value) ++ List.replicate (6 - (lg_sl ([.ref (ad 200), .int (iI d), .int (iI n), .int (iI ib)] : List Value)).length) Slot.unset).toArray = ls at hl ⊢
  have hl : lv_has ls 6 [(0, .ref (ad 200)), (1, .int (iI d)), (2, .int (iI n)), (3, .int (iI ib))] := hl
  obtain ⟨Q9, hQ9⟩ : ∃ z, z = MQ below (gW D (fun v9 ad1 w1 => ∃ (th2 : Int) (sc2 : Nat → Int) (fn2 : Nat → Int → Int), mdS cA ad1 w1 th2 sc2 fn2 ∧ bkInv sc2 fn2 ∧ keepM ad ad1 w w1 ∧ ((th2 = 0 ∧ (sc2 = sc ∧ fn2 = (upF fn 4 (spanF (fn 4) d n (fun _ => ib))) ∧ (0 ≤ d ∧ d < 400 ∧ 1 ≤ n ∧ d + n ≤ 400) ∧ v9 = some (.int (iI (if ib = 0 then cntT (fn 4) d n.toNat else n - cntT (fn 4) d n.toNat))))) ∨ (th2 = 1 ∧ v9 = some (.int (iI 0)) ∧ sc2 = sc ∧ fn2 = fn ∧ (¬ (0 ≤ d ∧ d < 400 ∧ 1 ≤ n ∧ d + n ≤ 400))))) A) args s 0 0 A := ⟨_, rfl⟩
  rw [← hQ9]
  show W p l e rmX6_freeze s m args below meth c s.heap [] 0 0 Q9 (F0 m 0 ls [])
  obtain ⟨H, hHe⟩ : ∃ z, z = s.heap := ⟨_, rfl⟩
  obtain ⟨locs, hLe⟩ : ∃ z, z = ([] : List Loc) := ⟨_, rfl⟩
  have hP : gP D vwCl ad w H := by rw [hHe]; exact hP
  have hS : va_S A s.heap H locs := by rw [hHe, hLe]; exact va_S.rf
  rw [show W p l e rmX6_freeze s m args below meth c s.heap [] 0 0 Q9 (F0 m 0 ls []) = W p l e rmX6_freeze s m args below meth c H locs 0 0 Q9 (F0 m 0 ls []) by rw [hHe, hLe]]
  clear hHe hLe
  obtain ⟨fr, G1, G2, us, ut, ub, S, F, ⟨k0, k1, k2, k3, k4, k5, k6, k7, k8, k9, k10, k11, k12⟩, hG1, hG2, hus, hut, hub, hS9, hF, hmc, hmu, hmt, hrk⟩ := hmd
  have hI1 := hI.1
  refine lv_aload_n (pc := 0) hx hb dX6_freeze_0 rfl (lv_at hl 0 rfl) ?_
  refine k_iconst (pc := 1) hx hb dX6_freeze_1 ?_
  refine k_put (pc := 2) (ci := 6) (C := RX6) (T := TX6) (N := 19) (ty := .int) (v := .int (iI 0)) (w1 := (up w 200 (oB 6 [.int (iI 0), .int (iI (sc 0)), .ref (ad 201), .ref (ad 202), .ref (ad 203), .ref (ad 204), .int (iI (sc 1)), .ref (ad 205), .ref (ad 206), .ref (ad 207), .ref (ad 208), .ref (ad 209), .int (iI (sc 2)), .int (iI (sc 3)), .int (iI (sc 4)), .ref (ad 210), .int (iI fr), .ref (ad 211), .ref (ad 212)]))) hx hb hts hi6 tyX6 tyX6_ok nmX6 hown hK hP hD hS 200 k0 rfl 0 (by decide) hf55 (fun _ h9 => h9) rfl (by decide +kernel) rfl rfl (Nat.le_of_ble_eq_true rfl) rfl dX6_freeze_2 (fun H locs hP hD hS => ?_)
  refine lv_iload_n (pc := 5) hx hb dX6_freeze_5 rfl (lv_at hl 1 rfl) ?_
  refine lv_iload_n (pc := 6) hx hb dX6_freeze_6 rfl (lv_at hl 2 rfl) ?_
  refine k_call0 (pc := 7) (va_runS (As := [.int (iI d), .int (iI n)]) (rest := []) ⟨hx, hb, hml, hown, hts⟩ (c_X6_areDays l D cA ad (up w 200 (oB 6 [.int (iI 0), .int (iI (sc 0)), .ref (ad 201), .ref (ad 202), .ref (ad 203), .ref (ad 204), .int (iI (sc 1)), .ref (ad 205), .ref (ad 206), .ref (ad 207), .ref (ad 208), .ref (ad 209), .int (iI (sc 2)), .int (iI (sc 3)), .int (iI (sc 4)), .ref (ad 210), .int (iI fr), .ref (ad 211), .ref (ad 212)])) d n (by omega) (by omega)) (va_cwS 2 hts gX6_freeze_X6_areDays rfl rfl rfl (by decide +kernel) ⟨Nat.le_of_ble_eq_true rfl, Nat.le_of_ble_eq_true rfl⟩) (gR_S hP hK hB) rfl rfl hl.1 rfl (lv_room (Nat.le_of_ble_eq_true rfl)) dX6_freeze_7 ⟨Nat.le_of_ble_eq_true rfl, Nat.le_of_ble_eq_true rfl⟩) (fun v_7 hv_7 => ?_)
  obtain ⟨z_7, rfl, hz_7⟩ := hv_7
  refine W.eq (g2 := F0 m 10 ls [.int (iI z_7)]) rfl ?_
  refine k_if_ne (pc := 10) (tgt := 19) hx hb ⟨by omega, by omega⟩ dX6_freeze_10 (by decide) (fun hc_10 => ?_) (fun hc_10 => ?_)
  · skip
    refine k_iconst (pc := 19) hx hb dX6_freeze_19 ?_
    refine lv_istore (pc := 20) (lv' := [(4, .int (iI 0)), (0, .ref (ad 200)), (1, .int (iI d)), (2, .int (iI n)), (3, .int (iI ib))]) hx hb dX6_freeze_20 hl (by decide) rfl (fun ls hl => ?_)
    refine lv_iload_n (pc := 22) hx hb dX6_freeze_22 rfl (lv_at hl 2 rfl) ?_
    refine lv_istore (pc := 23) (lv' := [(5, .int (iI d)), (4, .int (iI 0)), (0, .ref (ad 200)), (1, .int (iI d)), (2, .int (iI n)), (3, .int (iI ib))]) hx hb dX6_freeze_23 hl (by decide) rfl (fun ls hl => ?_)
    have lp_25 : ∀ (N9 : Nat) (i : Int) (x : Int), (d ≤ i ∧ i ≤ d + n) → (x = (if ib = 0 then cntT (fn 4) d (i - d).toNat else (i - d) - cntT (fn 4) d (i - d).toNat)) → (d + n - i).toNat < N9 → ∀ (H : Heap) (locs : List Loc), gP D vwCl ad (up (up w 200 (oB 6 [.int (iI 0), .int (iI (sc 0)), .ref (ad 201), .ref (ad 202), .ref (ad 203), .ref (ad 204), .int (iI (sc 1)), .ref (ad 205), .ref (ad 206), .ref (ad 207), .ref (ad 208), .ref (ad 209), .int (iI (sc 2)), .int (iI (sc 3)), .int (iI (sc 4)), .ref (ad 210), .int (iI fr), .ref (ad 211), .ref (ad 212)])) 209 (eI (cA 1) 400 (spanF (fn 4) d (i - d) (fun _ => ib)))) H → gD A ad (up (up w 200 (oB 6 [.int (iI 0), .int (iI (sc 0)), .ref (ad 201), .ref (ad 202), .ref (ad 203), .ref (ad 204), .int (iI (sc 1)), .ref (ad 205), .ref (ad 206), .ref (ad 207), .ref (ad 208), .ref (ad 209), .int (iI (sc 2)), .int (iI (sc 3)), .int (iI (sc 4)), .ref (ad 210), .int (iI fr), .ref (ad 211), .ref (ad 212)])) 209 (eI (cA 1) 400 (spanF (fn 4) d (i - d) (fun _ => ib)))) → va_S A s.heap H locs → ∀ (ls : Array Slot), lv_has ls 6 [(5, .int (iI i)), (4, .int (iI x)), (0, .ref (ad 200)), (1, .int (iI d)), (2, .int (iI n)), (3, .int (iI ib))] → W p l e rmX6_freeze s m args below meth c H locs 0 0 Q9 (F0 m 25 ls []) := by
      intro N9
      induction N9 with
      | zero => intro i x i0 iC hmu; exact absurd hmu (Nat.not_lt_zero _)
      | succ N9 ih_25 =>
        intro i x i0 iC hmu_25 H locs hP hD hS ls hl
        have q9_ : (spanF (fn 4) d (i - d) (fun _ => ib)) i = fn 4 i := by unfold spanF; rw [if_neg (by omega)]
        have q8_ := hI.2.2.2.2.1 i
        refine lv_iload (pc := 25) hx hb dX6_freeze_25 (lv_at hl 0 rfl) ?_
        refine lv_iload_n (pc := 27) hx hb dX6_freeze_27 rfl (lv_at hl 3 rfl) ?_
        refine lv_iload_n (pc := 28) hx hb dX6_freeze_28 rfl (lv_at hl 4 rfl) ?_
        refine k_iadd (pc := 29) hx hb dX6_freeze_29 ?_
        refine k_icmp_ge (pc := 30) (tgt := 68) hx hb ⟨by omega, by omega⟩ ⟨by omega, by omega⟩ dX6_freeze_30 (by decide) (fun hc_30 => ?_) (fun hc_30 => ?_)
        · skip
          have hin_ : i - d = n := by omega
          rw [hin_] at hP hD
          refine lv_aload_n (pc := 68) hx hb dX6_freeze_68 rfl (lv_at hl 2 rfl) ?_
          refine k_iconst (pc := 69) hx hb dX6_freeze_69 ?_
          refine k_put (pc := 70) (ci := 6) (C := RX6) (T := TX6) (N := 19) (ty := .boolean) (v := .int (iI 0)) (w1 := (up (up w 200 (oB 6 [.int (iI 0), .int (iI (sc 0)), .ref (ad 201), .ref (ad 202), .ref (ad 203), .ref (ad 204), .int (iI (sc 1)), .ref (ad 205), .ref (ad 206), .ref (ad 207), .ref (ad 208), .ref (ad 209), .int (iI (sc 2)), .int (iI (sc 3)), .int (iI (sc 4)), .ref (ad 210), .int (iI 0), .ref (ad 211), .ref (ad 212)])) 209 (eI (cA 1) 400 (spanF (fn 4) d n (fun _ => ib))))) hx hb hts hi6 tyX6 tyX6_ok nmX6 hown hK hP hD hS 200 (up_n (by decide) (up_s _ _ _)) rfl 16 (by decide) hf77 (fun _ h9 => h9) rfl (by decide +kernel) (by decide +kernel) rfl (Nat.le_of_ble_eq_true rfl) ((up_co _ _ _ (by decide)).trans (congrArg (fun u => up u 209 _) (up_up _ _ _ _))) dX6_freeze_70 (fun H locs hP hD hS => ?_)
          refine lv_iload (pc := 73) hx hb dX6_freeze_73 (lv_at hl 1 rfl) ?_
          rw [hQ9]
          exact W.iret (v := iI x) hx hb hret (fun t ht hW => ⟨⟨some (.int (iI x)), ad, (up (up w 200 (oB 6 [.int (iI 0), .int (iI (sc 0)), .ref (ad 201), .ref (ad 202), .ref (ad 203), .ref (ad 204), .int (iI (sc 1)), .ref (ad 205), .ref (ad 206), .ref (ad 207), .ref (ad 208), .ref (ad 209), .int (iI (sc 2)), .int (iI (sc 3)), .int (iI (sc 4)), .ref (ad 210), .int (iI 0), .ref (ad 211), .ref (ad 212)])) 209 (eI (cA 1) 400 (spanF (fn 4) d n (fun _ => ib)))), rfl, ⟨0, sc, (upF fn 4 (spanF (fn 4) d n (fun _ => ib))), ⟨0, G1, G2, us, ut, ub, S, F, ⟨(up_n (by decide) (up_s _ _ _)), (up_n (by decide) (up_n (by decide) k1)), (up_n (by decide) (up_n (by decide) k2)), (up_n (by decide) (up_n (by decide) k3)), (up_n (by decide) (up_n (by decide) k4)), (up_n (by decide) (up_n (by decide) k5)), (up_n (by decide) (up_n (by decide) k6)), (up_n (by decide) (up_n (by decide) k7)), (up_n (by decide) (up_n (by decide) k8)), (up_s _ _ _), (up_n (by decide) (up_n (by decide) k10)), (up_n (by decide) (up_n (by decide) k11)), (up_n (by decide) (up_n (by decide) k12))⟩, hG1, hG2, hus, hut, hub, hS9, hF, (mdC_k hmc rfl (fun k => ⟨(upF_n (by omega)), (upF_n (by omega))⟩)), hmu, hmt, (Or.inl rfl)⟩, (inv_4 hI (spanF_b hI.2.2.2.2.1 (fun j g1 g2 => by omega))), ⟨rfl, fun r hr => ⟨(up_n (by omega) (up_n (by omega) rfl)), rfl⟩⟩, Or.inl (⟨rfl, ⟨rfl, rfl, by omega, by rw [iC, hin_]⟩⟩)⟩, by rw [ht]; exact hP, hD⟩, hS.F ht⟩) hS.2.2 dX6_freeze_75
        · skip
          refine lv_iload (pc := 33) hx hb dX6_freeze_33 (lv_at hl 1 rfl) ?_
          refine lv_aload_n (pc := 35) hx hb dX6_freeze_35 rfl (lv_at hl 2 rfl) ?_
          refine k_get (pc := 36) (ci := 6) (C := RX6) (T := TX6) (N := 19) hx hb hts hi6 hown hK hP 200 (up_n (by decide) (up_s _ _ _)) rfl 11 (by decide) hf35 (fun _ h9 => h9) rfl dX6_freeze_36 ?_
          refine lv_iload (pc := 39) hx hb dX6_freeze_39 (lv_at hl 0 rfl) ?_
          refine k_zald (pc := 41) hx hb hK hP 209 1 (up_s _ _ _) rfl (by omega) (by omega) (by omega) dX6_freeze_41 ?_
          have hq_41 := (spanF_b (d := d) (m := i - d) (v := fun _ => ib) hI.2.2.2.2.1 (fun j g1 g2 => (show 0 ≤ ib ∧ ib ≤ 1 by omega))) i
          refine lv_iload_n (pc := 42) hx hb dX6_freeze_42 rfl (lv_at hl 5 rfl) ?_
          refine k_icmp_ne (pc := 43) (tgt := 50) hx hb ⟨by omega, by omega⟩ ⟨by omega, by omega⟩ dX6_freeze_43 (by decide) (fun hc_43 => ?_) (fun hc_43 => ?_)
          · skip
            refine k_iconst (pc := 50) hx hb dX6_freeze_50 ?_
            refine k_iadd (pc := 51) hx hb dX6_freeze_51 ?_
            refine lv_istore (pc := 52) (lv' := [(4, .int (iI (x + 1))), (5, .int (iI i)), (0, .ref (ad 200)), (1, .int (iI d)), (2, .int (iI n)), (3, .int (iI ib))]) hx hb dX6_freeze_52 hl (by decide) rfl (fun ls hl => ?_)
            refine lv_aload_n (pc := 54) hx hb dX6_freeze_54 rfl (lv_at hl 2 rfl) ?_
            refine k_get (pc := 55) (ci := 6) (C := RX6) (T := TX6) (N := 19) hx hb hts hi6 hown hK hP 200 (up_n (by decide) (up_s _ _ _)) rfl 11 (by decide) hf35 (fun _ h9 => h9) rfl dX6_freeze_55 ?_
            refine lv_iload (pc := 58) hx hb dX6_freeze_58 (lv_at hl 1 rfl) ?_
            refine lv_iload_n (pc := 60) hx hb dX6_freeze_60 rfl (lv_at hl 5 rfl) ?_
            refine k_zast (pc := 61) (w1 := (up (up w 200 (oB 6 [.int (iI 0), .int (iI (sc 0)), .ref (ad 201), .ref (ad 202), .ref (ad 203), .ref (ad 204), .int (iI (sc 1)), .ref (ad 205), .ref (ad 206), .ref (ad 207), .ref (ad 208), .ref (ad 209), .int (iI (sc 2)), .int (iI (sc 3)), .int (iI (sc 4)), .ref (ad 210), .int (iI fr), .ref (ad 211), .ref (ad 212)])) 209 (eI (cA 1) 400 (updI (spanF (fn 4) d (i - d) (fun _ => ib)) i ib)))) hx hb hK hP hD hS 209 1 (up_s _ _ _) rfl (by omega) (by omega) (by omega) hib (up_up _ _ _ _) dX6_freeze_61 (fun H locs hP hD hS => ?_)
            refine lv_iinc (pc := 62) (v := iI (i + 1)) (lv' := [(5, .int (iI (i + 1))), (4, .int (iI (x + 1))), (0, .ref (ad 200)), (1, .int (iI d)), (2, .int (iI n)), (3, .int (iI ib))]) hx hb dX6_freeze_62 hl (k := 1) rfl (iI_add _ _) (by decide) rfl (fun ls hl => ?_)
            refine lv_goto (pc := 65) (tgt := 25) hx hb dX6_freeze_65 (by decide) ?_
            have c9_ := cntT_s (fn 4) (fr := d) (d := i) (by omega)
            have hW9 : ((up (up w 200 (oB 6 [.int (iI 0), .int (iI (sc 0)), .ref (ad 201), .ref (ad 202), .ref (ad 203), .ref (ad 204), .int (iI (sc 1)), .ref (ad 205), .ref (ad 206), .ref (ad 207), .ref (ad 208), .ref (ad 209), .int (iI (sc 2)), .int (iI (sc 3)), .int (iI (sc 4)), .ref (ad 210), .int (iI fr), .ref (ad 211), .ref (ad 212)])) 209 (eI (cA 1) 400 (updI (spanF (fn 4) d (i - d) (fun _ => ib)) i ib)))) = (up (up w 200 (oB 6 [.int (iI 0), .int (iI (sc 0)), .ref (ad 201), .ref (ad 202), .ref (ad 203), .ref (ad 204), .int (iI (sc 1)), .ref (ad 205), .ref (ad 206), .ref (ad 207), .ref (ad 208), .ref (ad 209), .int (iI (sc 2)), .int (iI (sc 3)), .int (iI (sc 4)), .ref (ad 210), .int (iI fr), .ref (ad 211), .ref (ad 212)])) 209 (eI (cA 1) 400 (spanF (fn 4) d ((i + 1) - d) (fun _ => ib)))) := by rw [show updI (spanF (fn 4) d (i - d) (fun _ => ib)) i ib = spanF (fn 4) d (i + 1 - d) (fun _ => ib) by have h9_ := spanF_s (fn 4) (d := d) (m := i - d) (fun _ => ib) (by omega) (x := ib) (rfl); rw [show d + (i - d) = i by omega, show i - d + 1 = i + 1 - d by omega] at h9_; exact h9_]
            rw [hW9] at hP hD
            exact ih_25 (i + 1) (x + 1) (by omega) (by rw [c9_]; by_cases e9 : fn 4 i ≠ 0; rw [if_pos e9]; rw [q9_] at hc_43; split <;> rename_i g9 <;> (first | rw [if_pos g9] at iC | rw [if_neg g9] at iC) <;> omega; rw [if_neg e9]; rw [q9_] at hc_43; split <;> rename_i g9 <;> (first | rw [if_pos g9] at iC | rw [if_neg g9] at iC) <;> omega) (by omega) H locs hP hD hS ls (lv_sub hl [0, 1, 2, 3, 4, 5] rfl)
          · skip
            refine k_iconst (pc := 46) hx hb dX6_freeze_46 ?_
            refine lv_goto (pc := 47) (tgt := 51) hx hb dX6_freeze_47 (by decide) ?_
            refine k_iadd (pc := 51) hx hb dX6_freeze_51 ?_
            refine lv_istore (pc := 52) (lv' := [(4, .int (iI (x + 0))), (5, .int (iI i)), (0, .ref (ad 200)), (1, .int (iI d)), (2, .int (iI n)), (3, .int (iI ib))]) hx hb dX6_freeze_52 hl (by decide) rfl (fun ls hl => ?_)
            refine lv_aload_n (pc := 54) hx hb dX6_freeze_54 rfl (lv_at hl 2 rfl) ?_
            refine k_get (pc := 55) (ci := 6) (C := RX6) (T := TX6) (N := 19) hx hb hts hi6 hown hK hP 200 (up_n (by decide) (up_s _ _ _)) rfl 11 (by decide) hf35 (fun _ h9 => h9) rfl dX6_freeze_55 ?_
            refine lv_iload (pc := 58) hx hb dX6_freeze_58 (lv_at hl 1 rfl) ?_
            refine lv_iload_n (pc := 60) hx hb dX6_freeze_60 rfl (lv_at hl 5 rfl) ?_
            refine k_zast (pc := 61) (w1 := (up (up w 200 (oB 6 [.int (iI 0), .int (iI (sc 0)), .ref (ad 201), .ref (ad 202), .ref (ad 203), .ref (ad 204), .int (iI (sc 1)), .ref (ad 205), .ref (ad 206), .ref (ad 207), .ref (ad 208), .ref (ad 209), .int (iI (sc 2)), .int (iI (sc 3)), .int (iI (sc 4)), .ref (ad 210), .int (iI fr), .ref (ad 211), .ref (ad 212)])) 209 (eI (cA 1) 400 (updI (spanF (fn 4) d (i - d) (fun _ => ib)) i ib)))) hx hb hK hP hD hS 209 1 (up_s _ _ _) rfl (by omega) (by omega) (by omega) hib (up_up _ _ _ _) dX6_freeze_61 (fun H locs hP hD hS => ?_)
            refine lv_iinc (pc := 62) (v := iI (i + 1)) (lv' := [(5, .int (iI (i + 1))), (4, .int (iI (x + 0))), (0, .ref (ad 200)), (1, .int (iI d)), (2, .int (iI n)), (3, .int (iI ib))]) hx hb dX6_freeze_62 hl (k := 1) rfl (iI_add _ _) (by decide) rfl (fun ls hl => ?_)
            refine lv_goto (pc := 65) (tgt := 25) hx hb dX6_freeze_65 (by decide) ?_
            have c9_ := cntT_s (fn 4) (fr := d) (d := i) (by omega)
            have hW9 : ((up (up w 200 (oB 6 [.int (iI 0), .int (iI (sc 0)), .ref (ad 201), .ref (ad 202), .ref (ad 203), .ref (ad 204), .int (iI (sc 1)), .ref (ad 205), .ref (ad 206), .ref (ad 207), .ref (ad 208), .ref (ad 209), .int (iI (sc 2)), .int (iI (sc 3)), .int (iI (sc 4)), .ref (ad 210), .int (iI fr), .ref (ad 211), .ref (ad 212)])) 209 (eI (cA 1) 400 (updI (spanF (fn 4) d (i - d) (fun _ => ib)) i ib)))) = (up (up w 200 (oB 6 [.int (iI 0), .int (iI (sc 0)), .ref (ad 201), .ref (ad 202), .ref (ad 203), .ref (ad 204), .int (iI (sc 1)), .ref (ad 205), .ref (ad 206), .ref (ad 207), .ref (ad 208), .ref (ad 209), .int (iI (sc 2)), .int (iI (sc 3)), .int (iI (sc 4)), .ref (ad 210), .int (iI fr), .ref (ad 211), .ref (ad 212)])) 209 (eI (cA 1) 400 (spanF (fn 4) d ((i + 1) - d) (fun _ => ib)))) := by rw [show updI (spanF (fn 4) d (i - d) (fun _ => ib)) i ib = spanF (fn 4) d (i + 1 - d) (fun _ => ib) by have h9_ := spanF_s (fn 4) (d := d) (m := i - d) (fun _ => ib) (by omega) (x := ib) (rfl); rw [show d + (i - d) = i by omega, show i - d + 1 = i + 1 - d by omega] at h9_; exact h9_]
            rw [hW9] at hP hD
            exact ih_25 (i + 1) (x + 0) (by omega) (by rw [c9_]; by_cases e9 : fn 4 i ≠ 0; rw [if_pos e9]; rw [q9_] at hc_43; split <;> rename_i g9 <;> (first | rw [if_pos g9] at iC | rw [if_neg g9] at iC) <;> omega; rw [if_neg e9]; rw [q9_] at hc_43; split <;> rename_i g9 <;> (first | rw [if_pos g9] at iC | rw [if_neg g9] at iC) <;> omega) (by omega) H locs hP hD hS ls (lv_sub hl [0, 1, 2, 3, 4, 5] rfl)
    have hW9 : ((up w 200 (oB 6 [.int (iI 0), .int (iI (sc 0)), .ref (ad 201), .ref (ad 202), .ref (ad 203), .ref (ad 204), .int (iI (sc 1)), .ref (ad 205), .ref (ad 206), .ref (ad 207), .ref (ad 208), .ref (ad 209), .int (iI (sc 2)), .int (iI (sc 3)), .int (iI (sc 4)), .ref (ad 210), .int (iI fr), .ref (ad 211), .ref (ad 212)]))) = (up (up w 200 (oB 6 [.int (iI 0), .int (iI (sc 0)), .ref (ad 201), .ref (ad 202), .ref (ad 203), .ref (ad 204), .int (iI (sc 1)), .ref (ad 205), .ref (ad 206), .ref (ad 207), .ref (ad 208), .ref (ad 209), .int (iI (sc 2)), .int (iI (sc 3)), .int (iI (sc 4)), .ref (ad 210), .int (iI fr), .ref (ad 211), .ref (ad 212)])) 209 (eI (cA 1) 400 (spanF (fn 4) d (d - d) (fun _ => ib)))) := by rw [Int.sub_self, spanF_0, up_self (up_n (by omega) k9)]
    rw [hW9] at hP hD
    exact lp_25 _ d 0 (by omega) (by rw [Int.sub_self]; show (0 : Int) = if ib = 0 then 0 else 0 - 0; split <;> rfl) (Nat.lt_succ_self _) H locs hP hD hS ls (lv_sub hl [0, 1, 2, 3, 4, 5] rfl)
  · skip
    refine lv_aload_n (pc := 13) hx hb dX6_freeze_13 rfl (lv_at hl 0 rfl) ?_
    refine k_iconst (pc := 14) hx hb dX6_freeze_14 ?_
    refine k_call1 (pc := 15) (va_runV (As := [.int (iI 1)]) (rest := []) ⟨hx, hb, hml, hown, hts⟩ (c_X6_fail l D cA ad (up w 200 (oB 6 [.int (iI 0), .int (iI (sc 0)), .ref (ad 201), .ref (ad 202), .ref (ad 203), .ref (ad 204), .int (iI (sc 1)), .ref (ad 205), .ref (ad 206), .ref (ad 207), .ref (ad 208), .ref (ad 209), .int (iI (sc 2)), .int (iI (sc 3)), .int (iI (sc 4)), .ref (ad 210), .int (iI fr), .ref (ad 211), .ref (ad 212)])) H.size 0 (sc 0) (sc 1) (sc 2) (sc 3) (sc 4) fr (up_s _ _ _) 1) (cwV 1 hts gX6_freeze_X6_fail rfl rfl rfl (by decide +kernel) ⟨Nat.le_of_ble_eq_true rfl, Nat.le_of_ble_eq_true rfl⟩) (gV_V hP hD hK hB hS hA hZ 200 (ci := 6) rfl (up_s _ _ _)) rfl rfl hl.1 rfl (lv_room (Nat.le_of_ble_eq_true rfl)) dX6_freeze_15 ⟨Nat.le_of_ble_eq_true rfl, Nat.le_of_ble_eq_true rfl⟩) hS (gA_sub hD hS hA) (fun v_15 ad_15 w_15 H locs hv_15 hP hD hS => ?_)
    obtain ⟨hv1, hv2, hv3⟩ := hv_15
    subst hv1
    rw [hv2, hv3] at hP hD
    rw [show up ((up w 200 (oB 6 [.int (iI 0), .int (iI (sc 0)), .ref (ad 201), .ref (ad 202), .ref (ad 203), .ref (ad 204), .int (iI (sc 1)), .ref (ad 205), .ref (ad 206), .ref (ad 207), .ref (ad 208), .ref (ad 209), .int (iI (sc 2)), .int (iI (sc 3)), .int (iI (sc 4)), .ref (ad 210), .int (iI fr), .ref (ad 211), .ref (ad 212)]))) 200 (oB 6 [.int (iI 1), .int (iI (sc 0)), .ref (ad 201), .ref (ad 202), .ref (ad 203), .ref (ad 204), .int (iI (sc 1)), .ref (ad 205), .ref (ad 206), .ref (ad 207), .ref (ad 208), .ref (ad 209), .int (iI (sc 2)), .int (iI (sc 3)), .int (iI (sc 4)), .ref (ad 210), .int (iI fr), .ref (ad 211), .ref (ad 212)]) = _ from (up_up _ _ _ _)] at hP hD
    refine W.eq (g2 := F0 m 18 ls [.int (iI 0)]) rfl ?_
    refine W.cs (cells' := 0) (slots' := 0) rfl rfl ?_
    rw [hQ9]
    exact W.iret (v := iI 0) hx hb hret (fun t ht hW => ⟨⟨some (.int (iI 0)), ad, (up w 200 (oB 6 [.int (iI 1), .int (iI (sc 0)), .ref (ad 201), .ref (ad 202), .ref (ad 203), .ref (ad 204), .int (iI (sc 1)), .ref (ad 205), .ref (ad 206), .ref (ad 207), .ref (ad 208), .ref (ad 209), .int (iI (sc 2)), .int (iI (sc 3)), .int (iI (sc 4)), .ref (ad 210), .int (iI fr), .ref (ad 211), .ref (ad 212)])), rfl, ⟨1, sc, fn, ⟨fr, G1, G2, us, ut, ub, S, F, ⟨(up_s _ _ _), (up_n (by decide) k1), (up_n (by decide) k2), (up_n (by decide) k3), (up_n (by decide) k4), (up_n (by decide) k5), (up_n (by decide) k6), (up_n (by decide) k7), (up_n (by decide) k8), (up_n (by decide) k9), (up_n (by decide) k10), (up_n (by decide) k11), (up_n (by decide) k12)⟩, hG1, hG2, hus, hut, hub, hS9, hF, hmc, hmu, hmt, hrk⟩, hI, ⟨rfl, fun r hr => ⟨(up_n (by omega) rfl), rfl⟩⟩, Or.inr (⟨rfl, rfl, rfl, rfl, by omega⟩)⟩, by rw [ht]; exact hP, hD⟩, hS.F ht⟩) hS.2.2 dX6_freeze_18

abbrev rmX6_read : Room := { frames := 3, cells := 0, slots := 0, locals := 66 }
theorem hiX6_read_6 : ∀ w ∈ wsX60, w ∈ wsX6_read := by decide +kernel
set_option maxHeartbeats 4000000 in
set_option maxRecDepth 100000 in
theorem c_X6_read (l : Launch) (D : va_G) (cA : Nat → ClassId) (ad : Nat → Nat) (w : Nat → Option va_E) (sz : Nat) (th : Int) (sc : Nat → Int) (fn : Nat → Int → Int) (hI : bkInv sc fn) (hmd : mdS cA ad w th sc fn) (d n : Int) (hd : (-2147483648 ≤ d ∧ d < 2147483648)) (hn : (-2147483648 ≤ n ∧ n < 2147483648)) (sg ri : Int) (hsg : (-2147483648 ≤ sg ∧ sg < 2147483648)) (hri : (-2147483648 ≤ ri ∧ ri < 2147483648)) : Met l yX6_read wsX6_read rmX6_read (gV D cA ad w sz [.ref (ad 200), .int (iI d), .int (iI n), .int (iI sg), .int (iI ri)]) (gW D (fun v9 ad1 w1 => ∃ (th2 : Int) (sc2 : Nat → Int) (fn2 : Nat → Int → Int), mdS cA ad1 w1 th2 sc2 fn2 ∧ bkInv sc2 fn2 ∧ keepM ad ad1 w w1 ∧ ((th2 = 0 ∧ (sc2 = sc ∧ fn2 = (upF (upF fn 2 (spanF (fn 2) d n (fun j => sg + ri * (j - d)))) 3 (spanF (fn 3) d n (fun _ => 1))) ∧ ((0 ≤ d ∧ d < 400 ∧ 1 ≤ n ∧ d + n ≤ 400) ∧ (-500 ≤ sg ∧ sg ≤ 2000) ∧ (-500 ≤ sg + ri * (n - 1) ∧ sg + ri * (n - 1) ≤ 2000)) ∧ v9 = some (.int (iI (cntT (fn 3) d n.toNat))))) ∨ (th2 = 1 ∧ v9 = some (.int (iI 0)) ∧ sc2 = sc ∧ fn2 = fn ∧ (¬ ((0 ≤ d ∧ d < 400 ∧ 1 ≤ n ∧ d + n ≤ 400) ∧ (-500 ≤ sg ∧ sg ≤ 2000) ∧ (-500 ≤ sg + ri * (n - 1) ∧ sg + ri * (n - 1) ≤ 2000)))))) (gA ad w sz)) 0 0 (gA ad w sz) := by
  refine Met.ofW (cc := cX6_read) (maxL := 7) (ret := (some .int)) (by decide) rfl ?_
  intro p e s m args below meth c s₁ B hml hv
  obtain ⟨hav, hsz, hP, hD0, hK, hB, hZ⟩ := hv
  have hx := B.exec
  have hb := B.bytes
  have hret := B.returns
  have hts := atoms_spec (ws := wsX6_read) B.pre
  have hown : s.vm.findClass RX6 = some m.cls := findClass_of_methodNamed B.named
  have hlocks := B.notSynchronized
  subst hsz
  have hD := hD0.self (sz := s.heap.size)
  generalize hAe : gA ad w s.heap.size = A at hD hZ ⊢
  have hA : ∀ q : Nat, s.heap.size ≤ q → A q := fun q h => by rw [← hAe]; exact Or.inr h
  have hS : va_S A s.heap s.heap [] := va_S.rf
  have hi6 := hiX6_read_6
  have hf29 := hts (.fieldLink RX6 29 "GaugeBookModel" "hasStage" "[Z") (by decide +kernel)
  have hf32 := hts (.fieldLink RX6 32 "GaugeBookModel" "stageRead" "[I") (by decide +kernel)
  have hf55 := hts (.fieldLink RX6 55 "GaugeBookModel" "thrown" "I") (by decide +kernel)
  have hf77 := hts (.fieldLink RX6 77 "GaugeBookModel" "isFresh" "Z") (by decide +kernel)
  have he9 : entryFrame m args 7 = F0 m 0 ((lg_sl ([.ref (ad 200), .int (iI d), .int (iI n), .int (iI sg), .int (iI ri)] : List Value) ++ List.replicate (7 - (lg_sl ([.ref (ad 200), .int (iI d), .int (iI n), .int (iI sg), .int (iI ri)] : List Value)).length) Slot.unset).toArray) [] := by rw [hav, lg_entry_eq]
  rw [he9]
  have hl := lv_entry ([.ref (ad 200), .int (iI d), .int (iI n), .int (iI sg), .int (iI ri)] : List Value) (n := 7) (Nat.le_of_ble_eq_true rfl)
  generalize (lg_sl ([.ref (ad 200), .int (iI d), .int (iI n), .int (iI sg), .int (iI ri)] : List Value) ++ List.replicate (7 - (lg_sl ([.ref (ad 200), .int (iI d), .int (iI n), .int (iI sg), .int (iI ri)] : List Value)).length) Slot.unset).toArray = ls at hl ⊢
  have hl : lv_has ls 7 [(0, .ref (ad 200)), (1, .int (iI d)), (2, .int (iI n)), (3, .int (iI sg)), (4, .int (iI ri))] := hl
  obtain ⟨Q9, hQ9⟩ : ∃ z, z = MQ below (gW D (fun v9 ad1 w1 => ∃ (th2 : Int) (sc2 : Nat → Int) (fn2 : Nat → Int → Int), mdS cA ad1 w1 th2 sc2 fn2 ∧ bkInv sc2 fn2 ∧ keepM ad ad1 w w1 ∧ ((th2 = 0 ∧ (sc2 = sc ∧ fn2 = (upF (upF fn 2 (spanF (fn 2) d n (fun j => sg + ri * (j - d)))) 3 (spanF (fn 3) d n (fun _ => 1))) ∧ ((0 ≤ d ∧ d < 400 ∧ 1 ≤ n ∧ d + n ≤ 400) ∧ (-500 ≤ sg ∧ sg ≤ 2000) ∧ (-500 ≤ sg + ri * (n - 1) ∧ sg + ri * (n - 1) ≤ 2000)) ∧ v9 = some (.int (iI (cntT (fn 3) d n.toNat))))) ∨ (th2 = 1 ∧ v9 = some (.int (iI 0)) ∧ sc2 = sc ∧ fn2 = fn ∧ (¬ ((0 ≤ d ∧ d < 400 ∧ 1 ≤ n ∧ d + n ≤ 400) ∧ (-500 ≤ sg ∧ sg ≤ 2000) ∧ (-500 ≤ sg + ri * (n - 1) ∧ sg + ri * (n - 1) ≤ 2000)))))) A) args s 0 0 A := ⟨_, rfl⟩
  rw [← hQ9]
  show W p l e rmX6_read s m args below meth c s.heap [] 0 0 Q9 (F0 m 0 ls [])
  obtain ⟨H, hHe⟩ : ∃ z, z = s.heap := ⟨_, rfl⟩
  obtain ⟨locs, hLe⟩ : ∃ z, z = ([] : List Loc) := ⟨_, rfl⟩
  have hP : gP D vwCl ad w H := by rw [hHe]; exact hP
  have hS : va_S A s.heap H locs := by rw [hHe, hLe]; exact va_S.rf
  rw [show W p l e rmX6_read s m args below meth c s.heap [] 0 0 Q9 (F0 m 0 ls []) = W p l e rmX6_read s m args below meth c H locs 0 0 Q9 (F0 m 0 ls []) by rw [hHe, hLe]]
  clear hHe hLe
  obtain ⟨fr, G1, G2, us, ut, ub, S, F, ⟨k0, k1, k2, k3, k4, k5, k6, k7, k8, k9, k10, k11, k12⟩, hG1, hG2, hus, hut, hub, hS9, hF, hmc, hmu, hmt, hrk⟩ := hmd
  have hI1 := hI.1
  refine lv_aload_n (pc := 0) hx hb dX6_read_0 rfl (lv_at hl 0 rfl) ?_
  refine k_iconst (pc := 1) hx hb dX6_read_1 ?_
  refine k_put (pc := 2) (ci := 6) (C := RX6) (T := TX6) (N := 19) (ty := .int) (v := .int (iI 0)) (w1 := (up w 200 (oB 6 [.int (iI 0), .int (iI (sc 0)), .ref (ad 201), .ref (ad 202), .ref (ad 203), .ref (ad 204), .int (iI (sc 1)), .ref (ad 205), .ref (ad 206), .ref (ad 207), .ref (ad 208), .ref (ad 209), .int (iI (sc 2)), .int (iI (sc 3)), .int (iI (sc 4)), .ref (ad 210), .int (iI fr), .ref (ad 211), .ref (ad 212)]))) hx hb hts hi6 tyX6 tyX6_ok nmX6 hown hK hP hD hS 200 k0 rfl 0 (by decide) hf55 (fun _ h9 => h9) rfl (by decide +kernel) rfl rfl (Nat.le_of_ble_eq_true rfl) rfl dX6_read_2 (fun H locs hP hD hS => ?_)
  refine lv_iload_n (pc := 5) hx hb dX6_read_5 rfl (lv_at hl 1 rfl) ?_
  refine lv_iload_n (pc := 6) hx hb dX6_read_6 rfl (lv_at hl 2 rfl) ?_
  refine k_call0 (pc := 7) (va_runS (As := [.int (iI d), .int (iI n)]) (rest := []) ⟨hx, hb, hml, hown, hts⟩ (c_X6_areDays l D cA ad (up w 200 (oB 6 [.int (iI 0), .int (iI (sc 0)), .ref (ad 201), .ref (ad 202), .ref (ad 203), .ref (ad 204), .int (iI (sc 1)), .ref (ad 205), .ref (ad 206), .ref (ad 207), .ref (ad 208), .ref (ad 209), .int (iI (sc 2)), .int (iI (sc 3)), .int (iI (sc 4)), .ref (ad 210), .int (iI fr), .ref (ad 211), .ref (ad 212)])) d n (by omega) (by omega)) (va_cwS 2 hts gX6_read_X6_areDays rfl rfl rfl (by decide +kernel) ⟨Nat.le_of_ble_eq_true rfl, Nat.le_of_ble_eq_true rfl⟩) (gR_S hP hK hB) rfl rfl hl.1 rfl (lv_room (Nat.le_of_ble_eq_true rfl)) dX6_read_7 ⟨Nat.le_of_ble_eq_true rfl, Nat.le_of_ble_eq_true rfl⟩) (fun v_7 hv_7 => ?_)
  obtain ⟨z_7, rfl, hz_7⟩ := hv_7
  refine W.eq (g2 := F0 m 10 ls [.int (iI z_7)]) rfl ?_
  refine k_if_eq (pc := 10) (tgt := 50) hx hb ⟨by omega, by omega⟩ dX6_read_10 (by decide) (fun hc_10 => ?_) (fun hc_10 => ?_)
  · skip
    refine lv_aload_n (pc := 50) hx hb dX6_read_50 rfl (lv_at hl 0 rfl) ?_
    refine k_iconst (pc := 51) hx hb dX6_read_51 ?_
    refine k_call1 (pc := 52) (va_runV (As := [.int (iI 1)]) (rest := []) ⟨hx, hb, hml, hown, hts⟩ (c_X6_fail l D cA ad (up w 200 (oB 6 [.int (iI 0), .int (iI (sc 0)), .ref (ad 201), .ref (ad 202), .ref (ad 203), .ref (ad 204), .int (iI (sc 1)), .ref (ad 205), .ref (ad 206), .ref (ad 207), .ref (ad 208), .ref (ad 209), .int (iI (sc 2)), .int (iI (sc 3)), .int (iI (sc 4)), .ref (ad 210), .int (iI fr), .ref (ad 211), .ref (ad 212)])) H.size 0 (sc 0) (sc 1) (sc 2) (sc 3) (sc 4) fr (up_s _ _ _) 1) (cwV 1 hts gX6_read_X6_fail rfl rfl rfl (by decide +kernel) ⟨Nat.le_of_ble_eq_true rfl, Nat.le_of_ble_eq_true rfl⟩) (gV_V hP hD hK hB hS hA hZ 200 (ci := 6) rfl (up_s _ _ _)) rfl rfl hl.1 rfl (lv_room (Nat.le_of_ble_eq_true rfl)) dX6_read_52 ⟨Nat.le_of_ble_eq_true rfl, Nat.le_of_ble_eq_true rfl⟩) hS (gA_sub hD hS hA) (fun v_52 ad_52 w_52 H locs hv_52 hP hD hS => ?_)
    obtain ⟨hv1, hv2, hv3⟩ := hv_52
    subst hv1
    rw [hv2, hv3] at hP hD
    rw [show up ((up w 200 (oB 6 [.int (iI 0), .int (iI (sc 0)), .ref (ad 201), .ref (ad 202), .ref (ad 203), .ref (ad 204), .int (iI (sc 1)), .ref (ad 205), .ref (ad 206), .ref (ad 207), .ref (ad 208), .ref (ad 209), .int (iI (sc 2)), .int (iI (sc 3)), .int (iI (sc 4)), .ref (ad 210), .int (iI fr), .ref (ad 211), .ref (ad 212)]))) 200 (oB 6 [.int (iI 1), .int (iI (sc 0)), .ref (ad 201), .ref (ad 202), .ref (ad 203), .ref (ad 204), .int (iI (sc 1)), .ref (ad 205), .ref (ad 206), .ref (ad 207), .ref (ad 208), .ref (ad 209), .int (iI (sc 2)), .int (iI (sc 3)), .int (iI (sc 4)), .ref (ad 210), .int (iI fr), .ref (ad 211), .ref (ad 212)]) = _ from (up_up _ _ _ _)] at hP hD
    refine W.eq (g2 := F0 m 55 ls [.int (iI 0)]) rfl ?_
    refine W.cs (cells' := 0) (slots' := 0) rfl rfl ?_
    rw [hQ9]
    exact W.iret (v := iI 0) hx hb hret (fun t ht hW => ⟨⟨some (.int (iI 0)), ad, (up w 200 (oB 6 [.int (iI 1), .int (iI (sc 0)), .ref (ad 201), .ref (ad 202), .ref (ad 203), .ref (ad 204), .int (iI (sc 1)), .ref (ad 205), .ref (ad 206), .ref (ad 207), .ref (ad 208), .ref (ad 209), .int (iI (sc 2)), .int (iI (sc 3)), .int (iI (sc 4)), .ref (ad 210), .int (iI fr), .ref (ad 211), .ref (ad 212)])), rfl, ⟨1, sc, fn, ⟨fr, G1, G2, us, ut, ub, S, F, ⟨(up_s _ _ _), (up_n (by decide) k1), (up_n (by decide) k2), (up_n (by decide) k3), (up_n (by decide) k4), (up_n (by decide) k5), (up_n (by decide) k6), (up_n (by decide) k7), (up_n (by decide) k8), (up_n (by decide) k9), (up_n (by decide) k10), (up_n (by decide) k11), (up_n (by decide) k12)⟩, hG1, hG2, hus, hut, hub, hS9, hF, hmc, hmu, hmt, hrk⟩, hI, ⟨rfl, fun r hr => ⟨(up_n (by omega) rfl), rfl⟩⟩, Or.inr (⟨rfl, rfl, rfl, rfl, by omega⟩)⟩, by rw [ht]; exact hP, hD⟩, hS.F ht⟩) hS.2.2 dX6_read_55
  · skip
    refine lv_iload_n (pc := 13) hx hb dX6_read_13 rfl (lv_at hl 3 rfl) ?_
    refine k_i2l (pc := 14) hx hb ⟨by omega, by omega⟩ dX6_read_14 ?_
    refine k_ldc2 (z := (-500)) (pc := 15) hx hb hown (hts (.constantLong RX6 84 (-500)) (by decide +kernel)) (by decide +kernel) dX6_read_15 ?_
    refine k_ldc2 (z := 2000) (pc := 18) hx hb hown (hts (.constantLong RX6 86 (2000)) (by decide +kernel)) (by decide +kernel) dX6_read_18 ?_
    refine k_call0 (pc := 21) (va_runS (As := [.long (lI sg), .long (lI (-500)), .long (lI 2000)]) (rest := []) ⟨hx, hb, hml, hown, hts⟩ (c_X6_isIn l D cA ad (up w 200 (oB 6 [.int (iI 0), .int (iI (sc 0)), .ref (ad 201), .ref (ad 202), .ref (ad 203), .ref (ad 204), .int (iI (sc 1)), .ref (ad 205), .ref (ad 206), .ref (ad 207), .ref (ad 208), .ref (ad 209), .int (iI (sc 2)), .int (iI (sc 3)), .int (iI (sc 4)), .ref (ad 210), .int (iI fr), .ref (ad 211), .ref (ad 212)])) sg (-500) 2000 (by omega) (by omega) (by omega)) (va_cwS 3 hts gX6_read_X6_isIn rfl rfl rfl (by decide +kernel) ⟨Nat.le_of_ble_eq_true rfl, Nat.le_of_ble_eq_true rfl⟩) (gR_S hP hK hB) rfl rfl hl.1 rfl (lv_room (Nat.le_of_ble_eq_true rfl)) dX6_read_21 ⟨Nat.le_of_ble_eq_true rfl, Nat.le_of_ble_eq_true rfl⟩) (fun v_21 hv_21 => ?_)
    obtain ⟨z_21, rfl, hz_21⟩ := hv_21
    refine W.eq (g2 := F0 m 24 ls [.int (iI z_21)]) rfl ?_
    refine k_if_eq (pc := 24) (tgt := 50) hx hb ⟨by omega, by omega⟩ dX6_read_24 (by decide) (fun hc_24 => ?_) (fun hc_24 => ?_)
    · skip
      refine lv_aload_n (pc := 50) hx hb dX6_read_50 rfl (lv_at hl 0 rfl) ?_
      refine k_iconst (pc := 51) hx hb dX6_read_51 ?_
      refine k_call1 (pc := 52) (va_runV (As := [.int (iI 1)]) (rest := []) ⟨hx, hb, hml, hown, hts⟩ (c_X6_fail l D cA ad (up w 200 (oB 6 [.int (iI 0), .int (iI (sc 0)), .ref (ad 201), .ref (ad 202), .ref (ad 203), .ref (ad 204), .int (iI (sc 1)), .ref (ad 205), .ref (ad 206), .ref (ad 207), .ref (ad 208), .ref (ad 209), .int (iI (sc 2)), .int (iI (sc 3)), .int (iI (sc 4)), .ref (ad 210), .int (iI fr), .ref (ad 211), .ref (ad 212)])) H.size 0 (sc 0) (sc 1) (sc 2) (sc 3) (sc 4) fr (up_s _ _ _) 1) (cwV 1 hts gX6_read_X6_fail rfl rfl rfl (by decide +kernel) ⟨Nat.le_of_ble_eq_true rfl, Nat.le_of_ble_eq_true rfl⟩) (gV_V hP hD hK hB hS hA hZ 200 (ci := 6) rfl (up_s _ _ _)) rfl rfl hl.1 rfl (lv_room (Nat.le_of_ble_eq_true rfl)) dX6_read_52 ⟨Nat.le_of_ble_eq_true rfl, Nat.le_of_ble_eq_true rfl⟩) hS (gA_sub hD hS hA) (fun v_52 ad_52 w_52 H locs hv_52 hP hD hS => ?_)
      obtain ⟨hv1, hv2, hv3⟩ := hv_52
      subst hv1
      rw [hv2, hv3] at hP hD
      rw [show up ((up w 200 (oB 6 [.int (iI 0), .int (iI (sc 0)), .ref (ad 201), .ref (ad 202), .ref (ad 203), .ref (ad 204), .int (iI (sc 1)), .ref (ad 205), .ref (ad 206), .ref (ad 207), .ref (ad 208), .ref (ad 209), .int (iI (sc 2)), .int (iI (sc 3)), .int (iI (sc 4)), .ref (ad 210), .int (iI fr), .ref (ad 211), .ref (ad 212)]))) 200 (oB 6 [.int (iI 1), .int (iI (sc 0)), .ref (ad 201), .ref (ad 202), .ref (ad 203), .ref (ad 204), .int (iI (sc 1)), .ref (ad 205), .ref (ad 206), .ref (ad 207), .ref (ad 208), .ref (ad 209), .int (iI (sc 2)), .int (iI (sc 3)), .int (iI (sc 4)), .ref (ad 210), .int (iI fr), .ref (ad 211), .ref (ad 212)]) = _ from (up_up _ _ _ _)] at hP hD
      refine W.eq (g2 := F0 m 55 ls [.int (iI 0)]) rfl ?_
      refine W.cs (cells' := 0) (slots' := 0) rfl rfl ?_
      rw [hQ9]
      exact W.iret (v := iI 0) hx hb hret (fun t ht hW => ⟨⟨some (.int (iI 0)), ad, (up w 200 (oB 6 [.int (iI 1), .int (iI (sc 0)), .ref (ad 201), .ref (ad 202), .ref (ad 203), .ref (ad 204), .int (iI (sc 1)), .ref (ad 205), .ref (ad 206), .ref (ad 207), .ref (ad 208), .ref (ad 209), .int (iI (sc 2)), .int (iI (sc 3)), .int (iI (sc 4)), .ref (ad 210), .int (iI fr), .ref (ad 211), .ref (ad 212)])), rfl, ⟨1, sc, fn, ⟨fr, G1, G2, us, ut, ub, S, F, ⟨(up_s _ _ _), (up_n (by decide) k1), (up_n (by decide) k2), (up_n (by decide) k3), (up_n (by decide) k4), (up_n (by decide) k5), (up_n (by decide) k6), (up_n (by decide) k7), (up_n (by decide) k8), (up_n (by decide) k9), (up_n (by decide) k10), (up_n (by decide) k11), (up_n (by decide) k12)⟩, hG1, hG2, hus, hut, hub, hS9, hF, hmc, hmu, hmt, hrk⟩, hI, ⟨rfl, fun r hr => ⟨(up_n (by omega) rfl), rfl⟩⟩, Or.inr (⟨rfl, rfl, rfl, rfl, by omega⟩)⟩, by rw [ht]; exact hP, hD⟩, hS.F ht⟩) hS.2.2 dX6_read_55
    · skip
      refine lv_iload_n (pc := 27) hx hb dX6_read_27 rfl (lv_at hl 3 rfl) ?_
      refine k_i2l (pc := 28) hx hb ⟨by omega, by omega⟩ dX6_read_28 ?_
      refine lv_iload (pc := 29) hx hb dX6_read_29 (lv_at hl 4 rfl) ?_
      refine k_i2l (pc := 31) hx hb ⟨by omega, by omega⟩ dX6_read_31 ?_
      refine lv_iload_n (pc := 32) hx hb dX6_read_32 rfl (lv_at hl 2 rfl) ?_
      refine k_iconst (pc := 33) hx hb dX6_read_33 ?_
      refine k_isub (pc := 34) hx hb dX6_read_34 ?_
      refine k_i2l (pc := 35) hx hb ⟨by omega, by omega⟩ dX6_read_35 ?_
      refine k_lmul (pc := 36) hx hb dX6_read_36 ?_
      refine k_ladd (pc := 37) hx hb dX6_read_37 ?_
      refine k_ldc2 (z := (-500)) (pc := 38) hx hb hown (hts (.constantLong RX6 84 (-500)) (by decide +kernel)) (by decide +kernel) dX6_read_38 ?_
      refine k_ldc2 (z := 2000) (pc := 41) hx hb hown (hts (.constantLong RX6 86 (2000)) (by decide +kernel)) (by decide +kernel) dX6_read_41 ?_
      refine k_call0 (pc := 44) (va_runS (As := [.long (lI (sg + (ri * (n - 1)))), .long (lI (-500)), .long (lI 2000)]) (rest := []) ⟨hx, hb, hml, hown, hts⟩ (c_X6_isIn l D cA ad (up w 200 (oB 6 [.int (iI 0), .int (iI (sc 0)), .ref (ad 201), .ref (ad 202), .ref (ad 203), .ref (ad 204), .int (iI (sc 1)), .ref (ad 205), .ref (ad 206), .ref (ad 207), .ref (ad 208), .ref (ad 209), .int (iI (sc 2)), .int (iI (sc 3)), .int (iI (sc 4)), .ref (ad 210), .int (iI fr), .ref (ad 211), .ref (ad 212)])) (sg + (ri * (n - 1))) (-500) 2000 (by have h9 := mulB (a := ri) (b := n - 1) (M := 2147483648) (N := 400) ⟨by omega, by omega⟩ ⟨by omega, by omega⟩; constructor <;> omega) (by omega) (by omega)) (va_cwS 3 hts gX6_read_X6_isIn rfl rfl rfl (by decide +kernel) ⟨Nat.le_of_ble_eq_true rfl, Nat.le_of_ble_eq_true rfl⟩) (gR_S hP hK hB) rfl rfl hl.1 rfl (lv_room (Nat.le_of_ble_eq_true rfl)) dX6_read_44 ⟨Nat.le_of_ble_eq_true rfl, Nat.le_of_ble_eq_true rfl⟩) (fun v_44 hv_44 => ?_)
      obtain ⟨z_44, rfl, hz_44⟩ := hv_44
      refine W.eq (g2 := F0 m 47 ls [.int (iI z_44)]) rfl ?_
      refine k_if_ne (pc := 47) (tgt := 56) hx hb ⟨by omega, by omega⟩ dX6_read_47 (by decide) (fun hc_47 => ?_) (fun hc_47 => ?_)
      · skip
        refine k_iconst (pc := 56) hx hb dX6_read_56 ?_
        refine lv_istore (pc := 57) (lv' := [(5, .int (iI 0)), (0, .ref (ad 200)), (1, .int (iI d)), (2, .int (iI n)), (3, .int (iI sg)), (4, .int (iI ri))]) hx hb dX6_read_57 hl (by decide) rfl (fun ls hl => ?_)
        refine k_iconst (pc := 59) hx hb dX6_read_59 ?_
        refine lv_istore (pc := 60) (lv' := [(6, .int (iI 0)), (5, .int (iI 0)), (0, .ref (ad 200)), (1, .int (iI d)), (2, .int (iI n)), (3, .int (iI sg)), (4, .int (iI ri))]) hx hb dX6_read_60 hl (by decide) rfl (fun ls hl => ?_)
        have lp_62 : ∀ (N9 : Nat) (k : Int) (x : Int), (0 ≤ k ∧ k ≤ n) → (x = cntT (fn 3) d k.toNat) → (n - k).toNat < N9 → ∀ (H : Heap) (locs : List Loc), gP D vwCl ad (up (up (up w 200 (oB 6 [.int (iI 0), .int (iI (sc 0)), .ref (ad 201), .ref (ad 202), .ref (ad 203), .ref (ad 204), .int (iI (sc 1)), .ref (ad 205), .ref (ad 206), .ref (ad 207), .ref (ad 208), .ref (ad 209), .int (iI (sc 2)), .int (iI (sc 3)), .int (iI (sc 4)), .ref (ad 210), .int (iI fr), .ref (ad 211), .ref (ad 212)])) 207 (eI (cA 1) 400 (spanF (fn 3) d k (fun _ => 1)))) 208 (eI (cA 0) 400 (spanF (fn 2) d k (fun j => sg + ri * (j - d))))) H → gD A ad (up (up (up w 200 (oB 6 [.int (iI 0), .int (iI (sc 0)), .ref (ad 201), .ref (ad 202), .ref (ad 203), .ref (ad 204), .int (iI (sc 1)), .ref (ad 205), .ref (ad 206), .ref (ad 207), .ref (ad 208), .ref (ad 209), .int (iI (sc 2)), .int (iI (sc 3)), .int (iI (sc 4)), .ref (ad 210), .int (iI fr), .ref (ad 211), .ref (ad 212)])) 207 (eI (cA 1) 400 (spanF (fn 3) d k (fun _ => 1)))) 208 (eI (cA 0) 400 (spanF (fn 2) d k (fun j => sg + ri * (j - d))))) → va_S A s.heap H locs → ∀ (ls : Array Slot), lv_has ls 7 [(6, .int (iI k)), (5, .int (iI x)), (0, .ref (ad 200)), (1, .int (iI d)), (2, .int (iI n)), (3, .int (iI sg)), (4, .int (iI ri))] → W p l e rmX6_read s m args below meth c H locs 0 0 Q9 (F0 m 62 ls []) := by
          intro N9
          induction N9 with
          | zero => intro k x i0 iC hmu; exact absurd hmu (Nat.not_lt_zero _)
          | succ N9 ih_62 =>
            intro k x i0 iC hmu_62 H locs hP hD hS ls hl
            have q9_ : (spanF (fn 3) d k (fun _ => 1)) (d + k) = fn 3 (d + k) := by unfold spanF; rw [if_neg (by omega)]
            have q8_ := hI.2.2.2.1 (d + k)
            refine lv_iload (pc := 62) hx hb dX6_read_62 (lv_at hl 0 rfl) ?_
            refine lv_iload_n (pc := 64) hx hb dX6_read_64 rfl (lv_at hl 4 rfl) ?_
            refine k_icmp_ge (pc := 65) (tgt := 122) hx hb ⟨by omega, by omega⟩ ⟨by omega, by omega⟩ dX6_read_65 (by decide) (fun hc_65 => ?_) (fun hc_65 => ?_)
            · skip
              have hin_ : k = n := by omega
              rw [hin_] at hP hD
              refine lv_aload_n (pc := 122) hx hb dX6_read_122 rfl (lv_at hl 2 rfl) ?_
              refine k_iconst (pc := 123) hx hb dX6_read_123 ?_
              refine k_put (pc := 124) (ci := 6) (C := RX6) (T := TX6) (N := 19) (ty := .boolean) (v := .int (iI 0)) (w1 := (up (up (up w 200 (oB 6 [.int (iI 0), .int (iI (sc 0)), .ref (ad 201), .ref (ad 202), .ref (ad 203), .ref (ad 204), .int (iI (sc 1)), .ref (ad 205), .ref (ad 206), .ref (ad 207), .ref (ad 208), .ref (ad 209), .int (iI (sc 2)), .int (iI (sc 3)), .int (iI (sc 4)), .ref (ad 210), .int (iI 0), .ref (ad 211), .ref (ad 212)])) 207 (eI (cA 1) 400 (spanF (fn 3) d n (fun _ => 1)))) 208 (eI (cA 0) 400 (spanF (fn 2) d n (fun j => sg + ri * (j - d)))))) hx hb hts hi6 tyX6 tyX6_ok nmX6 hown hK hP hD hS 200 (up_n (by decide) (up_n (by decide) (up_s _ _ _))) rfl 16 (by decide) hf77 (fun _ h9 => h9) rfl (by decide +kernel) (by decide +kernel) rfl (Nat.le_of_ble_eq_true rfl) ((up_co _ _ _ (by decide)).trans (congrArg (fun u => up u 208 _) ((up_co _ _ _ (by decide)).trans (congrArg (fun u => up u 207 _) (up_up _ _ _ _))))) dX6_read_124 (fun H locs hP hD hS => ?_)
              refine lv_iload (pc := 127) hx hb dX6_read_127 (lv_at hl 1 rfl) ?_
              rw [hQ9]
              exact W.iret (v := iI x) hx hb hret (fun t ht hW => ⟨⟨some (.int (iI x)), ad, (up (up (up w 200 (oB 6 [.int (iI 0), .int (iI (sc 0)), .ref (ad 201), .ref (ad 202), .ref (ad 203), .ref (ad 204), .int (iI (sc 1)), .ref (ad 205), .ref (ad 206), .ref (ad 207), .ref (ad 208), .ref (ad 209), .int (iI (sc 2)), .int (iI (sc 3)), .int (iI (sc 4)), .ref (ad 210), .int (iI 0), .ref (ad 211), .ref (ad 212)])) 207 (eI (cA 1) 400 (spanF (fn 3) d n (fun _ => 1)))) 208 (eI (cA 0) 400 (spanF (fn 2) d n (fun j => sg + ri * (j - d))))), rfl, ⟨0, sc, (upF (upF fn 2 (spanF (fn 2) d n (fun j => sg + ri * (j - d)))) 3 (spanF (fn 3) d n (fun _ => 1))), ⟨0, G1, G2, us, ut, ub, S, F, ⟨(up_n (by decide) (up_n (by decide) (up_s _ _ _))), (up_n (by decide) (up_n (by decide) (up_n (by decide) k1))), (up_n (by decide) (up_n (by decide) (up_n (by decide) k2))), (up_n (by decide) (up_n (by decide) (up_n (by decide) k3))), (up_n (by decide) (up_n (by decide) (up_n (by decide) k4))), (up_n (by decide) (up_n (by decide) (up_n (by decide) k5))), (up_n (by decide) (up_n (by decide) (up_n (by decide) k6))), (up_n (by decide) (up_s _ _ _)), (up_s _ _ _), (up_n (by decide) (up_n (by decide) (up_n (by decide) k9))), (up_n (by decide) (up_n (by decide) (up_n (by decide) k10))), (up_n (by decide) (up_n (by decide) (up_n (by decide) k11))), (up_n (by decide) (up_n (by decide) (up_n (by decide) k12)))⟩, hG1, hG2, hus, hut, hub, hS9, hF, (mdC_k hmc rfl (fun k => ⟨((upF_n (by omega)).trans (upF_n (by omega))), ((upF_n (by omega)).trans (upF_n (by omega)))⟩)), hmu, hmt, (Or.inl rfl)⟩, (inv_3 (inv_2 hI (spanF_b hI.2.2.1 (fun j g1 g2 => lin_bd (n := n) (i := j - d) (by omega) (by omega) (by omega)))) (spanF_b hI.2.2.2.1 (fun j g1 g2 => by omega))), ⟨rfl, fun r hr => ⟨(up_n (by omega) (up_n (by omega) (up_n (by omega) rfl))), rfl⟩⟩, Or.inl (⟨rfl, ⟨rfl, rfl, ⟨by omega, by omega, by omega⟩, by rw [iC, hin_]⟩⟩)⟩, by rw [ht]; exact hP, hD⟩, hS.F ht⟩) hS.2.2 dX6_read_129
            · skip
              refine lv_iload (pc := 68) hx hb dX6_read_68 (lv_at hl 1 rfl) ?_
              refine lv_aload_n (pc := 70) hx hb dX6_read_70 rfl (lv_at hl 2 rfl) ?_
              refine k_get (pc := 71) (ci := 6) (C := RX6) (T := TX6) (N := 19) hx hb hts hi6 hown hK hP 200 (up_n (by decide) (up_n (by decide) (up_s _ _ _))) rfl 9 (by decide) hf29 (fun _ h9 => h9) rfl dX6_read_71 ?_
              refine lv_iload_n (pc := 74) hx hb dX6_read_74 rfl (lv_at hl 3 rfl) ?_
              refine lv_iload (pc := 75) hx hb dX6_read_75 (lv_at hl 0 rfl) ?_
              refine k_iadd (pc := 77) hx hb dX6_read_77 ?_
              refine k_zald (pc := 78) hx hb hK hP 207 1 (up_n (by decide) (up_s _ _ _)) rfl (by omega) (by omega) (by omega) dX6_read_78 ?_
              have hq_78 := (spanF_b (d := d) (m := k) (v := fun _ => 1) hI.2.2.2.1 (fun j g1 g2 => (show (0 : Int) ≤ 1 ∧ (1 : Int) ≤ 1 by omega))) (d + k)
              refine k_if_eq (pc := 79) (tgt := 86) hx hb ⟨by omega, by omega⟩ dX6_read_79 (by decide) (fun hc_79 => ?_) (fun hc_79 => ?_)
              · skip
                refine k_iconst (pc := 86) hx hb dX6_read_86 ?_
                refine k_iadd (pc := 87) hx hb dX6_read_87 ?_
                refine lv_istore (pc := 88) (lv' := [(5, .int (iI (x + 0))), (6, .int (iI k)), (0, .ref (ad 200)), (1, .int (iI d)), (2, .int (iI n)), (3, .int (iI sg)), (4, .int (iI ri))]) hx hb dX6_read_88 hl (by decide) rfl (fun ls hl => ?_)
                refine lv_aload_n (pc := 90) hx hb dX6_read_90 rfl (lv_at hl 2 rfl) ?_
                refine k_get (pc := 91) (ci := 6) (C := RX6) (T := TX6) (N := 19) hx hb hts hi6 hown hK hP 200 (up_n (by decide) (up_n (by decide) (up_s _ _ _))) rfl 9 (by decide) hf29 (fun _ h9 => h9) rfl dX6_read_91 ?_
                refine lv_iload_n (pc := 94) hx hb dX6_read_94 rfl (lv_at hl 3 rfl) ?_
                refine lv_iload (pc := 95) hx hb dX6_read_95 (lv_at hl 1 rfl) ?_
                refine k_iadd (pc := 97) hx hb dX6_read_97 ?_
                refine k_iconst (pc := 98) hx hb dX6_read_98 ?_
                refine k_zast (pc := 99) (w1 := (up (up (up w 200 (oB 6 [.int (iI 0), .int (iI (sc 0)), .ref (ad 201), .ref (ad 202), .ref (ad 203), .ref (ad 204), .int (iI (sc 1)), .ref (ad 205), .ref (ad 206), .ref (ad 207), .ref (ad 208), .ref (ad 209), .int (iI (sc 2)), .int (iI (sc 3)), .int (iI (sc 4)), .ref (ad 210), .int (iI fr), .ref (ad 211), .ref (ad 212)])) 207 (eI (cA 1) 400 (updI (spanF (fn 3) d k (fun _ => 1)) (d + k) 1))) 208 (eI (cA 0) 400 (spanF (fn 2) d k (fun j => sg + ri * (j - d)))))) hx hb hK hP hD hS 207 1 (up_n (by decide) (up_s _ _ _)) rfl (by omega) (by omega) (by omega) (Or.inr rfl) ((up_co _ _ _ (by decide)).trans (congrArg (fun u => up u 208 _) (up_up _ _ _ _))) dX6_read_99 (fun H locs hP hD hS => ?_)
                refine lv_aload_n (pc := 100) hx hb dX6_read_100 rfl (lv_at hl 2 rfl) ?_
                refine k_get (pc := 101) (ci := 6) (C := RX6) (T := TX6) (N := 19) hx hb hts hi6 hown hK hP 200 (up_n (by decide) (up_n (by decide) (up_s _ _ _))) rfl 10 (by decide) hf32 (fun _ h9 => h9) rfl dX6_read_101 ?_
                refine lv_iload_n (pc := 104) hx hb dX6_read_104 rfl (lv_at hl 3 rfl) ?_
                refine lv_iload (pc := 105) hx hb dX6_read_105 (lv_at hl 1 rfl) ?_
                refine k_iadd (pc := 107) hx hb dX6_read_107 ?_
                refine lv_iload_n (pc := 108) hx hb dX6_read_108 rfl (lv_at hl 5 rfl) ?_
                refine lv_iload (pc := 109) hx hb dX6_read_109 (lv_at hl 6 rfl) ?_
                refine lv_iload (pc := 111) hx hb dX6_read_111 (lv_at hl 1 rfl) ?_
                refine k_imul (pc := 113) hx hb dX6_read_113 ?_
                refine k_iadd (pc := 114) hx hb dX6_read_114 ?_
                refine k_iast (pc := 115) (w1 := (up (up (up w 200 (oB 6 [.int (iI 0), .int (iI (sc 0)), .ref (ad 201), .ref (ad 202), .ref (ad 203), .ref (ad 204), .int (iI (sc 1)), .ref (ad 205), .ref (ad 206), .ref (ad 207), .ref (ad 208), .ref (ad 209), .int (iI (sc 2)), .int (iI (sc 3)), .int (iI (sc 4)), .ref (ad 210), .int (iI fr), .ref (ad 211), .ref (ad 212)])) 207 (eI (cA 1) 400 (updI (spanF (fn 3) d k (fun _ => 1)) (d + k) 1))) 208 (eI (cA 0) 400 (updI (spanF (fn 2) d k (fun j => sg + ri * (j - d))) (d + k) (sg + (ri * k)))))) hx hb hK hP hD hS 208 0 (up_s _ _ _) rfl (by omega) (by omega) (by omega) (up_up _ _ _ _) dX6_read_115 (fun H locs hP hD hS => ?_)
                refine lv_iinc (pc := 116) (v := iI (k + 1)) (lv' := [(6, .int (iI (k + 1))), (5, .int (iI (x + 0))), (0, .ref (ad 200)), (1, .int (iI d)), (2, .int (iI n)), (3, .int (iI sg)), (4, .int (iI ri))]) hx hb dX6_read_116 hl (k := 1) rfl (iI_add _ _) (by decide) rfl (fun ls hl => ?_)
                refine lv_goto (pc := 119) (tgt := 62) hx hb dX6_read_119 (by decide) ?_
                have c9_ := cntT_s (fn 3) (fr := d) (d := d + k) (by omega)
                rw [show d + k + 1 - d = k + 1 by omega, show d + k - d = k by omega] at c9_
                have hW9 : ((up (up (up w 200 (oB 6 [.int (iI 0), .int (iI (sc 0)), .ref (ad 201), .ref (ad 202), .ref (ad 203), .ref (ad 204), .int (iI (sc 1)), .ref (ad 205), .ref (ad 206), .ref (ad 207), .ref (ad 208), .ref (ad 209), .int (iI (sc 2)), .int (iI (sc 3)), .int (iI (sc 4)), .ref (ad 210), .int (iI fr), .ref (ad 211), .ref (ad 212)])) 207 (eI (cA 1) 400 (updI (spanF (fn 3) d k (fun _ => 1)) (d + k) 1))) 208 (eI (cA 0) 400 (updI (spanF (fn 2) d k (fun j => sg + ri * (j - d))) (d + k) (sg + (ri * k)))))) = (up (up (up w 200 (oB 6 [.int (iI 0), .int (iI (sc 0)), .ref (ad 201), .ref (ad 202), .ref (ad 203), .ref (ad 204), .int (iI (sc 1)), .ref (ad 205), .ref (ad 206), .ref (ad 207), .ref (ad 208), .ref (ad 209), .int (iI (sc 2)), .int (iI (sc 3)), .int (iI (sc 4)), .ref (ad 210), .int (iI fr), .ref (ad 211), .ref (ad 212)])) 207 (eI (cA 1) 400 (spanF (fn 3) d (k + 1) (fun _ => 1)))) 208 (eI (cA 0) 400 (spanF (fn 2) d (k + 1) (fun j => sg + ri * (j - d))))) := by rw [spanF_s (fn 3) (fun _ => 1) (by omega) rfl, spanF_s (fn 2) (fun j => sg + ri * (j - d)) (by omega) (show sg + ri * k = sg + ri * (d + k - d) by rw [show d + k - d = k by omega])]
                rw [hW9] at hP hD
                exact ih_62 (k + 1) (x + 0) (by omega) (by rw [c9_]; first | (rw [if_pos (by rw [← q9_]; omega)]; omega) | (rw [if_neg (by rw [← q9_]; omega)]; omega)) (by omega) H locs hP hD hS ls (lv_sub hl [0, 1, 2, 3, 4, 5, 6] rfl)
              · skip
                refine k_iconst (pc := 82) hx hb dX6_read_82 ?_
                refine lv_goto (pc := 83) (tgt := 87) hx hb dX6_read_83 (by decide) ?_
                refine k_iadd (pc := 87) hx hb dX6_read_87 ?_
                refine lv_istore (pc := 88) (lv' := [(5, .int (iI (x + 1))), (6, .int (iI k)), (0, .ref (ad 200)), (1, .int (iI d)), (2, .int (iI n)), (3, .int (iI sg)), (4, .int (iI ri))]) hx hb dX6_read_88 hl (by decide) rfl (fun ls hl => ?_)
                refine lv_aload_n (pc := 90) hx hb dX6_read_90 rfl (lv_at hl 2 rfl) ?_
                refine k_get (pc := 91) (ci := 6) (C := RX6) (T := TX6) (N := 19) hx hb hts hi6 hown hK hP 200 (up_n (by decide) (up_n (by decide) (up_s _ _ _))) rfl 9 (by decide) hf29 (fun _ h9 => h9) rfl dX6_read_91 ?_
                refine lv_iload_n (pc := 94) hx hb dX6_read_94 rfl (lv_at hl 3 rfl) ?_
                refine lv_iload (pc := 95) hx hb dX6_read_95 (lv_at hl 1 rfl) ?_
                refine k_iadd (pc := 97) hx hb dX6_read_97 ?_
                refine k_iconst (pc := 98) hx hb dX6_read_98 ?_
                refine k_zast (pc := 99) (w1 := (up (up (up w 200 (oB 6 [.int (iI 0), .int (iI (sc 0)), .ref (ad 201), .ref (ad 202), .ref (ad 203), .ref (ad 204), .int (iI (sc 1)), .ref (ad 205), .ref (ad 206), .ref (ad 207), .ref (ad 208), .ref (ad 209), .int (iI (sc 2)), .int (iI (sc 3)), .int (iI (sc 4)), .ref (ad 210), .int (iI fr), .ref (ad 211), .ref (ad 212)])) 207 (eI (cA 1) 400 (updI (spanF (fn 3) d k (fun _ => 1)) (d + k) 1))) 208 (eI (cA 0) 400 (spanF (fn 2) d k (fun j => sg + ri * (j - d)))))) hx hb hK hP hD hS 207 1 (up_n (by decide) (up_s _ _ _)) rfl (by omega) (by omega) (by omega) (Or.inr rfl) ((up_co _ _ _ (by decide)).trans (congrArg (fun u => up u 208 _) (up_up _ _ _ _))) dX6_read_99 (fun H locs hP hD hS => ?_)
                refine lv_aload_n (pc := 100) hx hb dX6_read_100 rfl (lv_at hl 2 rfl) ?_
                refine k_get (pc := 101) (ci := 6) (C := RX6) (T := TX6) (N := 19) hx hb hts hi6 hown hK hP 200 (up_n (by decide) (up_n (by decide) (up_s _ _ _))) rfl 10 (by decide) hf32 (fun _ h9 => h9) rfl dX6_read_101 ?_
                refine lv_iload_n (pc := 104) hx hb dX6_read_104 rfl (lv_at hl 3 rfl) ?_
                refine lv_iload (pc := 105) hx hb dX6_read_105 (lv_at hl 1 rfl) ?_
                refine k_iadd (pc := 107) hx hb dX6_read_107 ?_
                refine lv_iload_n (pc := 108) hx hb dX6_read_108 rfl (lv_at hl 5 rfl) ?_
                refine lv_iload (pc := 109) hx hb dX6_read_109 (lv_at hl 6 rfl) ?_
                refine lv_iload (pc := 111) hx hb dX6_read_111 (lv_at hl 1 rfl) ?_
                refine k_imul (pc := 113) hx hb dX6_read_113 ?_
                refine k_iadd (pc := 114) hx hb dX6_read_114 ?_
                refine k_iast (pc := 115) (w1 := (up (up (up w 200 (oB 6 [.int (iI 0), .int (iI (sc 0)), .ref (ad 201), .ref (ad 202), .ref (ad 203), .ref (ad 204), .int (iI (sc 1)), .ref (ad 205), .ref (ad 206), .ref (ad 207), .ref (ad 208), .ref (ad 209), .int (iI (sc 2)), .int (iI (sc 3)), .int (iI (sc 4)), .ref (ad 210), .int (iI fr), .ref (ad 211), .ref (ad 212)])) 207 (eI (cA 1) 400 (updI (spanF (fn 3) d k (fun _ => 1)) (d + k) 1))) 208 (eI (cA 0) 400 (updI (spanF (fn 2) d k (fun j => sg + ri * (j - d))) (d + k) (sg + (ri * k)))))) hx hb hK hP hD hS 208 0 (up_s _ _ _) rfl (by omega) (by omega) (by omega) (up_up _ _ _ _) dX6_read_115 (fun H locs hP hD hS => ?_)
                refine lv_iinc (pc := 116) (v := iI (k + 1)) (lv' := [(6, .int (iI (k + 1))), (5, .int (iI (x + 1))), (0, .ref (ad 200)), (1, .int (iI d)), (2, .int (iI n)), (3, .int (iI sg)), (4, .int (iI ri))]) hx hb dX6_read_116 hl (k := 1) rfl (iI_add _ _) (by decide) rfl (fun ls hl => ?_)
                refine lv_goto (pc := 119) (tgt := 62) hx hb dX6_read_119 (by decide) ?_
                have c9_ := cntT_s (fn 3) (fr := d) (d := d + k) (by omega)
                rw [show d + k + 1 - d = k + 1 by omega, show d + k - d = k by omega] at c9_
                have hW9 : ((up (up (up w 200 (oB 6 [.int (iI 0), .int (iI (sc 0)), .ref (ad 201), .ref (ad 202), .ref (ad 203), .ref (ad 204), .int (iI (sc 1)), .ref (ad 205), .ref (ad 206), .ref (ad 207), .ref (ad 208), .ref (ad 209), .int (iI (sc 2)), .int (iI (sc 3)), .int (iI (sc 4)), .ref (ad 210), .int (iI fr), .ref (ad 211), .ref (ad 212)])) 207 (eI (cA 1) 400 (updI (spanF (fn 3) d k (fun _ => 1)) (d + k) 1))) 208 (eI (cA 0) 400 (updI (spanF (fn 2) d k (fun j => sg + ri * (j - d))) (d + k) (sg + (ri * k)))))) = (up (up (up w 200 (oB 6 [.int (iI 0), .int (iI (sc 0)), .ref (ad 201), .ref (ad 202), .ref (ad 203), .ref (ad 204), .int (iI (sc 1)), .ref (ad 205), .ref (ad 206), .ref (ad 207), .ref (ad 208), .ref (ad 209), .int (iI (sc 2)), .int (iI (sc 3)), .int (iI (sc 4)), .ref (ad 210), .int (iI fr), .ref (ad 211), .ref (ad 212)])) 207 (eI (cA 1) 400 (spanF (fn 3) d (k + 1) (fun _ => 1)))) 208 (eI (cA 0) 400 (spanF (fn 2) d (k + 1) (fun j => sg + ri * (j - d))))) := by rw [spanF_s (fn 3) (fun _ => 1) (by omega) rfl, spanF_s (fn 2) (fun j => sg + ri * (j - d)) (by omega) (show sg + ri * k = sg + ri * (d + k - d) by rw [show d + k - d = k by omega])]
                rw [hW9] at hP hD
                exact ih_62 (k + 1) (x + 1) (by omega) (by rw [c9_]; first | (rw [if_pos (by rw [← q9_]; omega)]; omega) | (rw [if_neg (by rw [← q9_]; omega)]; omega)) (by omega) H locs hP hD hS ls (lv_sub hl [0, 1, 2, 3, 4, 5, 6] rfl)
        have hW9 : ((up w 200 (oB 6 [.int (iI 0), .int (iI (sc 0)), .ref (ad 201), .ref (ad 202), .ref (ad 203), .ref (ad 204), .int (iI (sc 1)), .ref (ad 205), .ref (ad 206), .ref (ad 207), .ref (ad 208), .ref (ad 209), .int (iI (sc 2)), .int (iI (sc 3)), .int (iI (sc 4)), .ref (ad 210), .int (iI fr), .ref (ad 211), .ref (ad 212)]))) = (up (up (up w 200 (oB 6 [.int (iI 0), .int (iI (sc 0)), .ref (ad 201), .ref (ad 202), .ref (ad 203), .ref (ad 204), .int (iI (sc 1)), .ref (ad 205), .ref (ad 206), .ref (ad 207), .ref (ad 208), .ref (ad 209), .int (iI (sc 2)), .int (iI (sc 3)), .int (iI (sc 4)), .ref (ad 210), .int (iI fr), .ref (ad 211), .ref (ad 212)])) 207 (eI (cA 1) 400 (spanF (fn 3) d 0 (fun _ => 1)))) 208 (eI (cA 0) 400 (spanF (fn 2) d 0 (fun j => sg + ri * (j - d))))) := by rw [spanF_0, spanF_0, up_self (up_n (by omega) k7), up_self (up_n (by omega) k8)]
        rw [hW9] at hP hD
        exact lp_62 _ 0 0 (by omega) rfl (Nat.lt_succ_self _) H locs hP hD hS ls (lv_sub hl [0, 1, 2, 3, 4, 5, 6] rfl)
      · skip
        refine lv_aload_n (pc := 50) hx hb dX6_read_50 rfl (lv_at hl 0 rfl) ?_
        refine k_iconst (pc := 51) hx hb dX6_read_51 ?_
        refine k_call1 (pc := 52) (va_runV (As := [.int (iI 1)]) (rest := []) ⟨hx, hb, hml, hown, hts⟩ (c_X6_fail l D cA ad (up w 200 (oB 6 [.int (iI 0), .int (iI (sc 0)), .ref (ad 201), .ref (ad 202), .ref (ad 203), .ref (ad 204), .int (iI (sc 1)), .ref (ad 205), .ref (ad 206), .ref (ad 207), .ref (ad 208), .ref (ad 209), .int (iI (sc 2)), .int (iI (sc 3)), .int (iI (sc 4)), .ref (ad 210), .int (iI fr), .ref (ad 211), .ref (ad 212)])) H.size 0 (sc 0) (sc 1) (sc 2) (sc 3) (sc 4) fr (up_s _ _ _) 1) (cwV 1 hts gX6_read_X6_fail rfl rfl rfl (by decide +kernel) ⟨Nat.le_of_ble_eq_true rfl, Nat.le_of_ble_eq_true rfl⟩) (gV_V hP hD hK hB hS hA hZ 200 (ci := 6) rfl (up_s _ _ _)) rfl rfl hl.1 rfl (lv_room (Nat.le_of_ble_eq_true rfl)) dX6_read_52 ⟨Nat.le_of_ble_eq_true rfl, Nat.le_of_ble_eq_true rfl⟩) hS (gA_sub hD hS hA) (fun v_52 ad_52 w_52 H locs hv_52 hP hD hS => ?_)
        obtain ⟨hv1, hv2, hv3⟩ := hv_52
        subst hv1
        rw [hv2, hv3] at hP hD
        rw [show up ((up w 200 (oB 6 [.int (iI 0), .int (iI (sc 0)), .ref (ad 201), .ref (ad 202), .ref (ad 203), .ref (ad 204), .int (iI (sc 1)), .ref (ad 205), .ref (ad 206), .ref (ad 207), .ref (ad 208), .ref (ad 209), .int (iI (sc 2)), .int (iI (sc 3)), .int (iI (sc 4)), .ref (ad 210), .int (iI fr), .ref (ad 211), .ref (ad 212)]))) 200 (oB 6 [.int (iI 1), .int (iI (sc 0)), .ref (ad 201), .ref (ad 202), .ref (ad 203), .ref (ad 204), .int (iI (sc 1)), .ref (ad 205), .ref (ad 206), .ref (ad 207), .ref (ad 208), .ref (ad 209), .int (iI (sc 2)), .int (iI (sc 3)), .int (iI (sc 4)), .ref (ad 210), .int (iI fr), .ref (ad 211), .ref (ad 212)]) = _ from (up_up _ _ _ _)] at hP hD
        refine W.eq (g2 := F0 m 55 ls [.int (iI 0)]) rfl ?_
        refine W.cs (cells' := 0) (slots' := 0) rfl rfl ?_
        rw [hQ9]
        exact W.iret (v := iI 0) hx hb hret (fun t ht hW => ⟨⟨some (.int (iI 0)), ad, (up w 200 (oB 6 [.int (iI 1), .int (iI (sc 0)), .ref (ad 201), .ref (ad 202), .ref (ad 203), .ref (ad 204), .int (iI (sc 1)), .ref (ad 205), .ref (ad 206), .ref (ad 207), .ref (ad 208), .ref (ad 209), .int (iI (sc 2)), .int (iI (sc 3)), .int (iI (sc 4)), .ref (ad 210), .int (iI fr), .ref (ad 211), .ref (ad 212)])), rfl, ⟨1, sc, fn, ⟨fr, G1, G2, us, ut, ub, S, F, ⟨(up_s _ _ _), (up_n (by decide) k1), (up_n (by decide) k2), (up_n (by decide) k3), (up_n (by decide) k4), (up_n (by decide) k5), (up_n (by decide) k6), (up_n (by decide) k7), (up_n (by decide) k8), (up_n (by decide) k9), (up_n (by decide) k10), (up_n (by decide) k11), (up_n (by decide) k12)⟩, hG1, hG2, hus, hut, hub, hS9, hF, hmc, hmu, hmt, hrk⟩, hI, ⟨rfl, fun r hr => ⟨(up_n (by omega) rfl), rfl⟩⟩, Or.inr (⟨rfl, rfl, rfl, rfl, by omega⟩)⟩, by rw [ht]; exact hP, hD⟩, hS.F ht⟩) hS.2.2 dX6_read_55
