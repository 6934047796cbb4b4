theorem md_msT {sc : Nat → Int} {fn : Nat → Int → Int} {ub : Int → Int} {d sg q : Int} (h : mdT sc fn ub) : mdT (upS sc 4 (sc 4 + 1)) (msF fn (sc 4) d sg q) (fun j => if 3 * sc 4 ≤ j ∧ j < 3 * sc 4 + 3 then (updI (updI (updI (fun _ => 0) 0 d) 1 sg) 2 q) (0 + (j - 3 * sc 4)) else ub j) := by
  intro j a1 a2
  have a2 : j < sc 4 + 1 := a2
  by_cases e : j = sc 4
  · rw [e]
    refine ⟨?_, ?_, ?_⟩
    · show (if 3 * sc 4 ≤ 3 * sc 4 ∧ 3 * sc 4 < 3 * sc 4 + 3 then _ else _) = updI (fn 5) (sc 4) d (sc 4)
      rw [if_pos (by omega), updI_s, show 0 + (3 * sc 4 - 3 * sc 4) = 0 by omega]
      rfl
    · show (if 3 * sc 4 ≤ 3 * sc 4 + 1 ∧ 3 * sc 4 + 1 < 3 * sc 4 + 3 then _ else _) = updI (fn 6) (sc 4) sg (sc 4)
      rw [if_pos (by omega), updI_s, show 0 + (3 * sc 4 + 1 - 3 * sc 4) = 1 by omega]
      rfl
    · show (if 3 * sc 4 ≤ 3 * sc 4 + 2 ∧ 3 * sc 4 + 2 < 3 * sc 4 + 3 then _ else _) = updI (fn 7) (sc 4) q (sc 4)
      rw [if_pos (by omega), updI_s, show 0 + (3 * sc 4 + 2 - 3 * sc 4) = 2 by omega]
      rfl
  · have g := h j a1 (by omega)
    refine ⟨?_, ?_, ?_⟩
    · show (if 3 * sc 4 ≤ 3 * j ∧ 3 * j < 3 * sc 4 + 3 then _ else _) = updI (fn 5) (sc 4) d j
      rw [if_neg (by omega), updI_n _ _ e]
      exact g.1
    · show (if 3 * sc 4 ≤ 3 * j + 1 ∧ 3 * j + 1 < 3 * sc 4 + 3 then _ else _) = updI (fn 6) (sc 4) sg j
      rw [if_neg (by omega), updI_n _ _ e]
      exact g.2.1
    · show (if 3 * sc 4 ≤ 3 * j + 2 ∧ 3 * j + 2 < 3 * sc 4 + 3 then _ else _) = updI (fn 7) (sc 4) q j
      rw [if_neg (by omega), updI_n _ _ e]
      exact g.2.2
theorem md_msB {sc : Nat → Int} {ub : Int → Int} {d sg q : Int} (h : ∀ j : Int, -500 ≤ ub j ∧ ub j ≤ 1000000) (hd : 0 ≤ d ∧ d < 400) (hs : -500 ≤ sg ∧ sg ≤ 2000) (hq : 0 ≤ q ∧ q ≤ 1000000) (f : Int → Int) (hf : f = fun j => if 3 * sc 4 ≤ j ∧ j < 3 * sc 4 + 3 then (updI (updI (updI (fun _ => 0) 0 d) 1 sg) 2 q) (0 + (j - 3 * sc 4)) else ub j) : ∀ j : Int, -500 ≤ f j ∧ f j ≤ 1000000 := by
  intro j
  rw [hf]
  show -500 ≤ (if 3 * sc 4 ≤ j ∧ j < 3 * sc 4 + 3 then _ else _) ∧ (if 3 * sc 4 ≤ j ∧ j < 3 * sc 4 + 3 then _ else _) ≤ 1000000
  split
  · exact upd_b (upd_b (upd_b (f := fun _ => 0) (fun _ => (show (-500 : Int) ≤ 0 ∧ (0 : Int) ≤ 1000000 by omega)) (by omega)) (by omega)) (by omega) _
  · exact h j
theorem md_msC {sc : Nat → Int} {fn : Nat → Int → Int} {G1 G2 : Int → Int} {m d s q x : Int} (h : mdC sc fn G1 G2) : mdC (upS sc 4 x) (msF fn m d s q) G1 G2 := mdC_k h rfl (fun k => ⟨msF_n (by omega), msF_n (by omega)⟩)

abbrev rmX6_measure : Room := { frames := 2, cells := 1, slots := 3, locals := 60 }
theorem hiX6_measure_6 : ∀ w ∈ wsX60, w ∈ wsX6_measure := by decide +kernel
set_option maxHeartbeats 4000000 in
set_option maxRecDepth 100000 in
theorem c_X6_measure (l : Launch) (D : va_G) (cA : Nat → ClassId) (ad : Nat → Nat) (w : Nat → Option va_E) (sz : Nat) (th : Int) (sc : Nat → Int) (fn : Nat → Int → Int) (hI : bkInv sc fn) (hmd : mdS cA ad w th sc fn) (d sg q : Int) (hd_ : (-2147483648 ≤ d ∧ d < 2147483648)) (hs_ : (-2147483648 ≤ sg ∧ sg < 2147483648)) (hq_ : (-2147483648 ≤ q ∧ q < 2147483648)) : Met l yX6_measure wsX6_measure rmX6_measure (gV D cA ad w sz [.ref (ad 200), .int (iI d), .int (iI sg), .int (iI q)]) (gW D (fun v9 ad1 w1 => ∃ (th2 : Int) (sc2 : Nat → Int) (fn2 : Nat → Int → Int), mdS cA ad1 w1 th2 sc2 fn2 ∧ bkInv sc2 fn2 ∧ keepM ad ad1 w w1 ∧ ((th2 = 0 ∧ (sc2 = upS sc 4 (sc 4 + 1) ∧ fn2 = msF fn (sc 4) d sg q ∧ ((0 ≤ d ∧ d < 400) ∧ (-500 ≤ sg ∧ sg ≤ 2000) ∧ (0 ≤ q ∧ q ≤ 1000000)) ∧ sc 4 < 40 ∧ v9 = some (.int (iI (sc 4 + 1))))) ∨ (th2 = 1 ∧ v9 = some (.int (iI 0)) ∧ sc2 = sc ∧ fn2 = fn ∧ (¬ ((0 ≤ d ∧ d < 400) ∧ (-500 ≤ sg ∧ sg ≤ 2000) ∧ (0 ≤ q ∧ q ≤ 1000000)))) ∨ (th2 = 2 ∧ v9 = some (.int (iI 0)) ∧ sc2 = sc ∧ fn2 = fn ∧ (((0 ≤ d ∧ d < 400) ∧ (-500 ≤ sg ∧ sg ≤ 2000) ∧ (0 ≤ q ∧ q ≤ 1000000)) ∧ ¬ sc 4 < 40)))) (gA ad w sz)) 1 3 (gA ad w sz) := by
  refine Met.ofW (cc := cX6_measure) (maxL := 5) (ret := (some .int)) (by decide) rfl ?_
  intro p e s m args below meth c s₁ B hml hv
  obtain ⟨hav, hsz, hP, hD0, hK, hB, hZ⟩ := hv
  have hx := B.exec
  have hb := B.bytes
  have hret := B.returns
  have hts := atoms_spec (ws := wsX6_measure) B.pre
  have hown : s.vm.findClass RX6 = some m.cls := findClass_of_methodNamed B.named
  have hlocks := B.notSynchronized
  subst hsz
  have hD := hD0.self (sz := s.heap.size)
  generalize hAe : gA ad w s.heap.size = A at hD hZ ⊢
  have hA : ∀ q : Nat, s.heap.size ≤ q → A q := fun q h => by rw [← hAe]; exact Or.inr h
  have hS : va_S A s.heap s.heap [] := va_S.rf
  have hi6 := hiX6_measure_6
  have hf45 := hts (.fieldLink RX6 45 "GaugeBookModel" "table" "[I") (by decide +kernel)
  have hf55 := hts (.fieldLink RX6 55 "GaugeBookModel" "thrown" "I") (by decide +kernel)
  have hf156 := hts (.fieldLink RX6 156 "GaugeBookModel" "measured" "I") (by decide +kernel)
  have he9 : entryFrame m args 5 = F0 m 0 ((lg_sl ([.ref (ad 200), .int (iI d), .int (iI sg), .int (iI q)] : List Value) ++ List.replicate (5 - (lg_sl ([.ref (ad 200), .int (iI d), .int (iI sg), .int (iI q)] : List Value)).length) Slot.unset).toArray) [] := by rw [hav, lg_entry_eq]
  rw [he9]
  have hl := lv_entry ([.ref (ad 200), .int (iI d), .int (iI sg), .int (iI q)] : List Value) (n := 5) (Nat.le_of_ble_eq_true rfl)
  generalize (lg_sl ([.ref (ad 200), .int (iI d), .int (iI sg), .int (iI q)] : List Value) ++ List.replicate (5 - (lg_sl ([.ref (ad 200), .int (iI d), .int (iI sg), .int (iI q)] : List Value)).length) Slot.unset).toArray = ls at hl ⊢
  have hl : lv_has ls 5 [(0, .ref (ad 200)), (1, .int (iI d)), (2, .int (iI sg)), (3, .int (iI q))] := hl
  obtain ⟨Q9, hQ9⟩ : ∃ z, z = MQ below (gW D (fun v9 ad1 w1 => ∃ (th2 : Int) (sc2 : Nat → Int) (fn2 : Nat → Int → Int), mdS cA ad1 w1 th2 sc2 fn2 ∧ bkInv sc2 fn2 ∧ keepM ad ad1 w w1 ∧ ((th2 = 0 ∧ (sc2 = upS sc 4 (sc 4 + 1) ∧ fn2 = msF fn (sc 4) d sg q ∧ ((0 ≤ d ∧ d < 400) ∧ (-500 ≤ sg ∧ sg ≤ 2000) ∧ (0 ≤ q ∧ q ≤ 1000000)) ∧ sc 4 < 40 ∧ v9 = some (.int (iI (sc 4 + 1))))) ∨ (th2 = 1 ∧ v9 = some (.int (iI 0)) ∧ sc2 = sc ∧ fn2 = fn ∧ (¬ ((0 ≤ d ∧ d < 400) ∧ (-500 ≤ sg ∧ sg ≤ 2000) ∧ (0 ≤ q ∧ q ≤ 1000000)))) ∨ (th2 = 2 ∧ v9 = some (.int (iI 0)) ∧ sc2 = sc ∧ fn2 = fn ∧ (((0 ≤ d ∧ d < 400) ∧ (-500 ≤ sg ∧ sg ≤ 2000) ∧ (0 ≤ q ∧ q ≤ 1000000)) ∧ ¬ sc 4 < 40)))) A) args s 1 3 A := ⟨_, rfl⟩
  rw [← hQ9]
  show W p l e rmX6_measure s m args below meth c s.heap [] 0 0 Q9 (F0 m 0 ls [])
  obtain ⟨H, hHe⟩ : ∃ z, z = s.heap := ⟨_, rfl⟩
  obtain ⟨locs, hLe⟩ : ∃ z, z = ([] : List Loc) := ⟨_, rfl⟩
  have hP : gP D vwCl ad w H := by rw [hHe]; exact hP
  have hS : va_S A s.heap H locs := by rw [hHe, hLe]; exact va_S.rf
  rw [show W p l e rmX6_measure s m args below meth c s.heap [] 0 0 Q9 (F0 m 0 ls []) = W p l e rmX6_measure s m args below meth c H locs 0 0 Q9 (F0 m 0 ls []) by rw [hHe, hLe]]
  clear hHe hLe
  obtain ⟨fr, G1, G2, us, ut, ub, S, F, ⟨k0, k1, k2, k3, k4, k5, k6, k7, k8, k9, k10, k11, k12⟩, hG1, hG2, hus, hut, hub, hS9, hF, hmc, hmu, hmt, hrk⟩ := hmd
  have hI1 := hI.1
  refine lv_aload_n (pc := 0) hx hb dX6_measure_0 rfl (lv_at hl 0 rfl) ?_
  refine k_iconst (pc := 1) hx hb dX6_measure_1 ?_
  refine k_put (pc := 2) (ci := 6) (C := RX6) (T := TX6) (N := 19) (ty := .int) (v := .int (iI 0)) (w1 := (up w 200 (oB 6 [.int (iI 0), .int (iI (sc 0)), .ref (ad 201), .ref (ad 202), .ref (ad 203), .ref (ad 204), .int (iI (sc 1)), .ref (ad 205), .ref (ad 206), .ref (ad 207), .ref (ad 208), .ref (ad 209), .int (iI (sc 2)), .int (iI (sc 3)), .int (iI (sc 4)), .ref (ad 210), .int (iI fr), .ref (ad 211), .ref (ad 212)]))) hx hb hts hi6 tyX6 tyX6_ok nmX6 hown hK hP hD hS 200 k0 rfl 0 (by decide) hf55 (fun _ h9 => h9) rfl (by decide +kernel) rfl rfl (Nat.le_of_ble_eq_true rfl) rfl dX6_measure_2 (fun H locs hP hD hS => ?_)
  refine lv_iload_n (pc := 5) hx hb dX6_measure_5 rfl (lv_at hl 1 rfl) ?_
  refine k_call0 (pc := 6) (va_runS (As := [.int (iI d)]) (rest := []) ⟨hx, hb, hml, hown, hts⟩ (c_X6_isDay l D cA ad (up w 200 (oB 6 [.int (iI 0), .int (iI (sc 0)), .ref (ad 201), .ref (ad 202), .ref (ad 203), .ref (ad 204), .int (iI (sc 1)), .ref (ad 205), .ref (ad 206), .ref (ad 207), .ref (ad 208), .ref (ad 209), .int (iI (sc 2)), .int (iI (sc 3)), .int (iI (sc 4)), .ref (ad 210), .int (iI fr), .ref (ad 211), .ref (ad 212)])) d (by omega)) (va_cwS 1 hts gX6_measure_X6_isDay rfl rfl rfl (by decide +kernel) ⟨Nat.le_of_ble_eq_true rfl, Nat.le_of_ble_eq_true rfl⟩) (gR_S hP hK hB) rfl rfl hl.1 rfl (lv_room (Nat.le_of_ble_eq_true rfl)) dX6_measure_6 ⟨Nat.le_of_ble_eq_true rfl, Nat.le_of_ble_eq_true rfl⟩) (fun v_6 hv_6 => ?_)
  obtain ⟨z_6, rfl, hz_6⟩ := hv_6
  refine W.eq (g2 := F0 m 9 ls [.int (iI z_6)]) rfl ?_
  refine k_if_eq (pc := 9) (tgt := 38) hx hb ⟨by omega, by omega⟩ dX6_measure_9 (by decide) (fun hc_9 => ?_) (fun hc_9 => ?_)
  · skip
    refine lv_aload_n (pc := 38) hx hb dX6_measure_38 rfl (lv_at hl 0 rfl) ?_
    refine k_iconst (pc := 39) hx hb dX6_measure_39 ?_
    refine k_call1 (pc := 40) (va_runV (As := [.int (iI 1)]) (rest := []) ⟨hx, hb, hml, hown, hts⟩ (c_X6_fail l D cA ad (up w 200 (oB 6 [.int (iI 0), .int (iI (sc 0)), .ref (ad 201), .ref (ad 202), .ref (ad 203), .ref (ad 204), .int (iI (sc 1)), .ref (ad 205), .ref (ad 206), .ref (ad 207), .ref (ad 208), .ref (ad 209), .int (iI (sc 2)), .int (iI (sc 3)), .int (iI (sc 4)), .ref (ad 210), .int (iI fr), .ref (ad 211), .ref (ad 212)])) H.size 0 (sc 0) (sc 1) (sc 2) (sc 3) (sc 4) fr (up_s _ _ _) 1) (cwV 1 hts gX6_measure_X6_fail rfl rfl rfl (by decide +kernel) ⟨Nat.le_of_ble_eq_true rfl, Nat.le_of_ble_eq_true rfl⟩) (gV_V hP hD hK hB hS hA hZ 200 (ci := 6) rfl (up_s _ _ _)) rfl rfl hl.1 rfl (lv_room (Nat.le_of_ble_eq_true rfl)) dX6_measure_40 ⟨Nat.le_of_ble_eq_true rfl, Nat.le_of_ble_eq_true rfl⟩) hS (gA_sub hD hS hA) (fun v_40 ad_40 w_40 H locs hv_40 hP hD hS => ?_)
    obtain ⟨hv1, hv2, hv3⟩ := hv_40
    subst hv1
    rw [hv2, hv3] at hP hD
    rw [show up ((up w 200 (oB 6 [.int (iI 0), .int (iI (sc 0)), .ref (ad 201), .ref (ad 202), .ref (ad 203), .ref (ad 204), .int (iI (sc 1)), .ref (ad 205), .ref (ad 206), .ref (ad 207), .ref (ad 208), .ref (ad 209), .int (iI (sc 2)), .int (iI (sc 3)), .int (iI (sc 4)), .ref (ad 210), .int (iI fr), .ref (ad 211), .ref (ad 212)]))) 200 (oB 6 [.int (iI 1), .int (iI (sc 0)), .ref (ad 201), .ref (ad 202), .ref (ad 203), .ref (ad 204), .int (iI (sc 1)), .ref (ad 205), .ref (ad 206), .ref (ad 207), .ref (ad 208), .ref (ad 209), .int (iI (sc 2)), .int (iI (sc 3)), .int (iI (sc 4)), .ref (ad 210), .int (iI fr), .ref (ad 211), .ref (ad 212)]) = _ from (up_up _ _ _ _)] at hP hD
    refine W.eq (g2 := F0 m 43 ls [.int (iI 0)]) rfl ?_
    refine W.cs (cells' := 0) (slots' := 0) rfl rfl ?_
    rw [hQ9]
    refine W.widen (k := 1) (n := 3) (by decide) (by decide) ?_
    exact W.iret (v := iI 0) hx hb hret (fun t ht hW => ⟨⟨some (.int (iI 0)), ad, (up w 200 (oB 6 [.int (iI 1), .int (iI (sc 0)), .ref (ad 201), .ref (ad 202), .ref (ad 203), .ref (ad 204), .int (iI (sc 1)), .ref (ad 205), .ref (ad 206), .ref (ad 207), .ref (ad 208), .ref (ad 209), .int (iI (sc 2)), .int (iI (sc 3)), .int (iI (sc 4)), .ref (ad 210), .int (iI fr), .ref (ad 211), .ref (ad 212)])), rfl, ⟨1, sc, fn, ⟨fr, G1, G2, us, ut, ub, S, F, ⟨(up_s _ _ _), (up_n (by decide) k1), (up_n (by decide) k2), (up_n (by decide) k3), (up_n (by decide) k4), (up_n (by decide) k5), (up_n (by decide) k6), (up_n (by decide) k7), (up_n (by decide) k8), (up_n (by decide) k9), (up_n (by decide) k10), (up_n (by decide) k11), (up_n (by decide) k12)⟩, hG1, hG2, hus, hut, hub, hS9, hF, hmc, hmu, hmt, hrk⟩, hI, ⟨rfl, fun r hr => ⟨(up_n (by omega) rfl), rfl⟩⟩, Or.inr (Or.inl (⟨rfl, rfl, rfl, rfl, by omega⟩))⟩, by rw [ht]; exact hP, hD⟩, hS.F ht⟩) hS.2.2 dX6_measure_43
  · skip
    refine lv_iload_n (pc := 12) hx hb dX6_measure_12 rfl (lv_at hl 2 rfl) ?_
    refine k_i2l (pc := 13) hx hb ⟨by omega, by omega⟩ dX6_measure_13 ?_
    refine k_ldc2 (z := (-500)) (pc := 14) hx hb hown (hts (.constantLong RX6 84 (-500)) (by decide +kernel)) (by decide +kernel) dX6_measure_14 ?_
    refine k_ldc2 (z := 2000) (pc := 17) hx hb hown (hts (.constantLong RX6 86 (2000)) (by decide +kernel)) (by decide +kernel) dX6_measure_17 ?_
    refine k_call0 (pc := 20) (va_runS (As := [.long (lI sg), .long (lI (-500)), .long (lI 2000)]) (rest := []) ⟨hx, hb, hml, hown, hts⟩ (c_X6_isIn l D cA ad (up w 200 (oB 6 [.int (iI 0), .int (iI (sc 0)), .ref (ad 201), .ref (ad 202), .ref (ad 203), .ref (ad 204), .int (iI (sc 1)), .ref (ad 205), .ref (ad 206), .ref (ad 207), .ref (ad 208), .ref (ad 209), .int (iI (sc 2)), .int (iI (sc 3)), .int (iI (sc 4)), .ref (ad 210), .int (iI fr), .ref (ad 211), .ref (ad 212)])) sg (-500) 2000 (by omega) (by omega) (by omega)) (va_cwS 3 hts gX6_measure_X6_isIn rfl rfl rfl (by decide +kernel) ⟨Nat.le_of_ble_eq_true rfl, Nat.le_of_ble_eq_true rfl⟩) (gR_S hP hK hB) rfl rfl hl.1 rfl (lv_room (Nat.le_of_ble_eq_true rfl)) dX6_measure_20 ⟨Nat.le_of_ble_eq_true rfl, Nat.le_of_ble_eq_true rfl⟩) (fun v_20 hv_20 => ?_)
    obtain ⟨z_20, rfl, hz_20⟩ := hv_20
    refine W.eq (g2 := F0 m 23 ls [.int (iI z_20)]) rfl ?_
    refine k_if_eq (pc := 23) (tgt := 38) hx hb ⟨by omega, by omega⟩ dX6_measure_23 (by decide) (fun hc_23 => ?_) (fun hc_23 => ?_)
    · skip
      refine lv_aload_n (pc := 38) hx hb dX6_measure_38 rfl (lv_at hl 0 rfl) ?_
      refine k_iconst (pc := 39) hx hb dX6_measure_39 ?_
      refine k_call1 (pc := 40) (va_runV (As := [.int (iI 1)]) (rest := []) ⟨hx, hb, hml, hown, hts⟩ (c_X6_fail l D cA ad (up w 200 (oB 6 [.int (iI 0), .int (iI (sc 0)), .ref (ad 201), .ref (ad 202), .ref (ad 203), .ref (ad 204), .int (iI (sc 1)), .ref (ad 205), .ref (ad 206), .ref (ad 207), .ref (ad 208), .ref (ad 209), .int (iI (sc 2)), .int (iI (sc 3)), .int (iI (sc 4)), .ref (ad 210), .int (iI fr), .ref (ad 211), .ref (ad 212)])) H.size 0 (sc 0) (sc 1) (sc 2) (sc 3) (sc 4) fr (up_s _ _ _) 1) (cwV 1 hts gX6_measure_X6_fail rfl rfl rfl (by decide +kernel) ⟨Nat.le_of_ble_eq_true rfl, Nat.le_of_ble_eq_true rfl⟩) (gV_V hP hD hK hB hS hA hZ 200 (ci := 6) rfl (up_s _ _ _)) rfl rfl hl.1 rfl (lv_room (Nat.le_of_ble_eq_true rfl)) dX6_measure_40 ⟨Nat.le_of_ble_eq_true rfl, Nat.le_of_ble_eq_true rfl⟩) hS (gA_sub hD hS hA) (fun v_40 ad_40 w_40 H locs hv_40 hP hD hS => ?_)
      obtain ⟨hv1, hv2, hv3⟩ := hv_40
      subst hv1
      rw [hv2, hv3] at hP hD
      rw [show up ((up w 200 (oB 6 [.int (iI 0), .int (iI (sc 0)), .ref (ad 201), .ref (ad 202), .ref (ad 203), .ref (ad 204), .int (iI (sc 1)), .ref (ad 205), .ref (ad 206), .ref (ad 207), .ref (ad 208), .ref (ad 209), .int (iI (sc 2)), .int (iI (sc 3)), .int (iI (sc 4)), .ref (ad 210), .int (iI fr), .ref (ad 211), .ref (ad 212)]))) 200 (oB 6 [.int (iI 1), .int (iI (sc 0)), .ref (ad 201), .ref (ad 202), .ref (ad 203), .ref (ad 204), .int (iI (sc 1)), .ref (ad 205), .ref (ad 206), .ref (ad 207), .ref (ad 208), .ref (ad 209), .int (iI (sc 2)), .int (iI (sc 3)), .int (iI (sc 4)), .ref (ad 210), .int (iI fr), .ref (ad 211), .ref (ad 212)]) = _ from (up_up _ _ _ _)] at hP hD
      refine W.eq (g2 := F0 m 43 ls [.int (iI 0)]) rfl ?_
      refine W.cs (cells' := 0) (slots' := 0) rfl rfl ?_
      rw [hQ9]
      refine W.widen (k := 1) (n := 3) (by decide) (by decide) ?_
      exact W.iret (v := iI 0) hx hb hret (fun t ht hW => ⟨⟨some (.int (iI 0)), ad, (up w 200 (oB 6 [.int (iI 1), .int (iI (sc 0)), .ref (ad 201), .ref (ad 202), .ref (ad 203), .ref (ad 204), .int (iI (sc 1)), .ref (ad 205), .ref (ad 206), .ref (ad 207), .ref (ad 208), .ref (ad 209), .int (iI (sc 2)), .int (iI (sc 3)), .int (iI (sc 4)), .ref (ad 210), .int (iI fr), .ref (ad 211), .ref (ad 212)])), rfl, ⟨1, sc, fn, ⟨fr, G1, G2, us, ut, ub, S, F, ⟨(up_s _ _ _), (up_n (by decide) k1), (up_n (by decide) k2), (up_n (by decide) k3), (up_n (by decide) k4), (up_n (by decide) k5), (up_n (by decide) k6), (up_n (by decide) k7), (up_n (by decide) k8), (up_n (by decide) k9), (up_n (by decide) k10), (up_n (by decide) k11), (up_n (by decide) k12)⟩, hG1, hG2, hus, hut, hub, hS9, hF, hmc, hmu, hmt, hrk⟩, hI, ⟨rfl, fun r hr => ⟨(up_n (by omega) rfl), rfl⟩⟩, Or.inr (Or.inl (⟨rfl, rfl, rfl, rfl, by omega⟩))⟩, by rw [ht]; exact hP, hD⟩, hS.F ht⟩) hS.2.2 dX6_measure_43
    · skip
      refine lv_iload_n (pc := 26) hx hb dX6_measure_26 rfl (lv_at hl 3 rfl) ?_
      refine k_i2l (pc := 27) hx hb ⟨by omega, by omega⟩ dX6_measure_27 ?_
      refine k_lconst0 (pc := 28) hx hb dX6_measure_28 ?_
      refine k_ldc2 (z := 1000000) (pc := 29) hx hb hown (hts (.constantLong RX6 88 (1000000)) (by decide +kernel)) (by decide +kernel) dX6_measure_29 ?_
      refine k_call0 (pc := 32) (va_runS (As := [.long (lI q), .long (lI 0), .long (lI 1000000)]) (rest := []) ⟨hx, hb, hml, hown, hts⟩ (c_X6_isIn l D cA ad (up w 200 (oB 6 [.int (iI 0), .int (iI (sc 0)), .ref (ad 201), .ref (ad 202), .ref (ad 203), .ref (ad 204), .int (iI (sc 1)), .ref (ad 205), .ref (ad 206), .ref (ad 207), .ref (ad 208), .ref (ad 209), .int (iI (sc 2)), .int (iI (sc 3)), .int (iI (sc 4)), .ref (ad 210), .int (iI fr), .ref (ad 211), .ref (ad 212)])) q 0 1000000 (by omega) (by omega) (by omega)) (va_cwS 3 hts gX6_measure_X6_isIn rfl rfl rfl (by decide +kernel) ⟨Nat.le_of_ble_eq_true rfl, Nat.le_of_ble_eq_true rfl⟩) (gR_S hP hK hB) rfl rfl hl.1 rfl (lv_room (Nat.le_of_ble_eq_true rfl)) dX6_measure_32 ⟨Nat.le_of_ble_eq_true rfl, Nat.le_of_ble_eq_true rfl⟩) (fun v_32 hv_32 => ?_)
      obtain ⟨z_32, rfl, hz_32⟩ := hv_32
      refine W.eq (g2 := F0 m 35 ls [.int (iI z_32)]) rfl ?_
      refine k_if_ne (pc := 35) (tgt := 44) hx hb ⟨by omega, by omega⟩ dX6_measure_35 (by decide) (fun hc_35 => ?_) (fun hc_35 => ?_)
      · skip
        refine lv_aload_n (pc := 44) hx hb dX6_measure_44 rfl (lv_at hl 0 rfl) ?_
        refine k_get (pc := 45) (ci := 6) (C := RX6) (T := TX6) (N := 19) hx hb hts hi6 hown hK hP 200 (up_s _ _ _) rfl 14 (by decide) hf156 (fun _ h9 => h9) rfl dX6_measure_45 ?_
        refine k_bipush (pc := 48) hx hb dX6_measure_48 (by decide +kernel) ?_
        refine k_icmp_ne (pc := 50) (tgt := 59) hx hb ⟨by omega, by omega⟩ ⟨by omega, by omega⟩ dX6_measure_50 (by decide) (fun hc_50 => ?_) (fun hc_50 => ?_)
        · skip
          refine k_iconst (pc := 59) hx hb dX6_measure_59 ?_
          refine k_newI (pc := 60) hx hb (hts (.arrayClass .int) (by decide +kernel)) hK hP hD hS hA 213 0 rfl 3 rfl (by decide) (Nat.le_of_ble_eq_true rfl) (Nat.le_of_ble_eq_true rfl) dX6_measure_60 (fun q_60 H hP hD hS => ?_)
          obtain ⟨ad_60, hga_60⟩ : ∃ z9 : Nat → Nat, adN ad 213 q_60 = z9 := ⟨_, rfl⟩
          rw [hga_60] at hP hD
          have hnn_60 : ∀ j9 : Nat, j9 ≠ 213 → ad j9 = ad_60 j9 := fun j9 h9_ => by rw [← hga_60, adN_n _ _ h9_]
          rw [show q_60 = ad_60 213 by rw [← hga_60, adN_s]]
          rw [hnn_60 201 (by omega)] at hP hD
          rw [hnn_60 202 (by omega)] at hP hD
          rw [hnn_60 203 (by omega)] at hP hD
          rw [hnn_60 204 (by omega)] at hP hD
          rw [hnn_60 205 (by omega)] at hP hD
          rw [hnn_60 206 (by omega)] at hP hD
          rw [hnn_60 207 (by omega)] at hP hD
          rw [hnn_60 208 (by omega)] at hP hD
          rw [hnn_60 209 (by omega)] at hP hD
          rw [hnn_60 210 (by omega)] at hP hD
          rw [hnn_60 211 (by omega)] at hP hD
          rw [hnn_60 212 (by omega)] at hP hD
          rw [hnn_60 200 (by omega)] at hl
          have hm_60_200 : w 200 = some (oB 6 [.int (iI th), .int (iI (sc 0)), .ref (ad_60 201), .ref (ad_60 202), .ref (ad_60 203), .ref (ad_60 204), .int (iI (sc 1)), .ref (ad_60 205), .ref (ad_60 206), .ref (ad_60 207), .ref (ad_60 208), .ref (ad_60 209), .int (iI (sc 2)), .int (iI (sc 3)), .int (iI (sc 4)), .ref (ad_60 210), .int (iI fr), .ref (ad_60 211), .ref (ad_60 212)]) := by rw [← hnn_60 201 (by omega), ← hnn_60 202 (by omega), ← hnn_60 203 (by omega), ← hnn_60 204 (by omega), ← hnn_60 205 (by omega), ← hnn_60 206 (by omega), ← hnn_60 207 (by omega), ← hnn_60 208 (by omega), ← hnn_60 209 (by omega), ← hnn_60 210 (by omega), ← hnn_60 211 (by omega), ← hnn_60 212 (by omega)]; exact k0
          refine W.eq (g2 := F0 m 62 ls [.ref (ad_60 213)]) rfl ?_
          refine W.cs (cells' := 1) (slots' := 3) rfl rfl ?_
          refine lv_dup (pc := 62) hx hb dX6_measure_62 rfl ?_
          refine k_iconst (pc := 63) hx hb dX6_measure_63 ?_
          refine lv_iload_n (pc := 64) hx hb dX6_measure_64 rfl (lv_at hl 1 rfl) ?_
          refine k_iast (pc := 65) (w1 := (up (up w 200 (oB 6 [.int (iI 0), .int (iI (sc 0)), .ref (ad_60 201), .ref (ad_60 202), .ref (ad_60 203), .ref (ad_60 204), .int (iI (sc 1)), .ref (ad_60 205), .ref (ad_60 206), .ref (ad_60 207), .ref (ad_60 208), .ref (ad_60 209), .int (iI (sc 2)), .int (iI (sc 3)), .int (iI (sc 4)), .ref (ad_60 210), .int (iI fr), .ref (ad_60 211), .ref (ad_60 212)])) 213 (eI (cA 0) 3 (updI (fun _ => 0) 0 d)))) hx hb hK hP hD hS 213 0 (up_s _ _ _) rfl (by omega) (by omega) (by omega) (up_up _ _ _ _) dX6_measure_65 (fun H locs hP hD hS => ?_)
          refine lv_dup (pc := 66) hx hb dX6_measure_66 rfl ?_
          refine k_iconst (pc := 67) hx hb dX6_measure_67 ?_
          refine lv_iload_n (pc := 68) hx hb dX6_measure_68 rfl (lv_at hl 2 rfl) ?_
          refine k_iast (pc := 69) (w1 := (up (up w 200 (oB 6 [.int (iI 0), .int (iI (sc 0)), .ref (ad_60 201), .ref (ad_60 202), .ref (ad_60 203), .ref (ad_60 204), .int (iI (sc 1)), .ref (ad_60 205), .ref (ad_60 206), .ref (ad_60 207), .ref (ad_60 208), .ref (ad_60 209), .int (iI (sc 2)), .int (iI (sc 3)), .int (iI (sc 4)), .ref (ad_60 210), .int (iI fr), .ref (ad_60 211), .ref (ad_60 212)])) 213 (eI (cA 0) 3 (updI (updI (fun _ => 0) 0 d) 1 sg)))) hx hb hK hP hD hS 213 0 (up_s _ _ _) rfl (by omega) (by omega) (by omega) (up_up _ _ _ _) dX6_measure_69 (fun H locs hP hD hS => ?_)
          refine lv_dup (pc := 70) hx hb dX6_measure_70 rfl ?_
          refine k_iconst (pc := 71) hx hb dX6_measure_71 ?_
          refine lv_iload_n (pc := 72) hx hb dX6_measure_72 rfl (lv_at hl 3 rfl) ?_
          refine k_iast (pc := 73) (w1 := (up (up w 200 (oB 6 [.int (iI 0), .int (iI (sc 0)), .ref (ad_60 201), .ref (ad_60 202), .ref (ad_60 203), .ref (ad_60 204), .int (iI (sc 1)), .ref (ad_60 205), .ref (ad_60 206), .ref (ad_60 207), .ref (ad_60 208), .ref (ad_60 209), .int (iI (sc 2)), .int (iI (sc 3)), .int (iI (sc 4)), .ref (ad_60 210), .int (iI fr), .ref (ad_60 211), .ref (ad_60 212)])) 213 (eI (cA 0) 3 (updI (updI (updI (fun _ => 0) 0 d) 1 sg) 2 q)))) hx hb hK hP hD hS 213 0 (up_s _ _ _) rfl (by omega) (by omega) (by omega) (up_up _ _ _ _) dX6_measure_73 (fun H locs hP hD hS => ?_)
          refine lv_astore (pc := 74) (lv' := [(4, .ref (ad_60 213)), (0, .ref (ad_60 200)), (1, .int (iI d)), (2, .int (iI sg)), (3, .int (iI q))]) hx hb dX6_measure_74 hl (by decide) rfl (fun ls hl => ?_)
          refine lv_aload (pc := 76) hx hb dX6_measure_76 (lv_at hl 0 rfl) ?_
          refine k_iconst (pc := 78) hx hb dX6_measure_78 ?_
          refine lv_aload_n (pc := 79) hx hb dX6_measure_79 rfl (lv_at hl 1 rfl) ?_
          refine k_get (pc := 80) (ci := 6) (C := RX6) (T := TX6) (N := 19) hx hb hts hi6 hown hK hP 200 (up_n (by decide) (up_s _ _ _)) rfl 15 (by decide) hf45 (fun _ h9 => h9) rfl dX6_measure_80 ?_
          refine k_iconst (pc := 83) hx hb dX6_measure_83 ?_
          refine lv_aload_n (pc := 84) hx hb dX6_measure_84 rfl (lv_at hl 1 rfl) ?_
          refine k_get (pc := 85) (ci := 6) (C := RX6) (T := TX6) (N := 19) hx hb hts hi6 hown hK hP 200 (up_n (by decide) (up_s _ _ _)) rfl 14 (by decide) hf156 (fun _ h9 => h9) rfl dX6_measure_85 ?_
          refine k_imul (pc := 88) hx hb dX6_measure_88 ?_
          refine k_iconst (pc := 89) hx hb dX6_measure_89 ?_
          refine k_copy (pc := 90) (w1 := (up (up (up w 200 (oB 6 [.int (iI 0), .int (iI (sc 0)), .ref (ad_60 201), .ref (ad_60 202), .ref (ad_60 203), .ref (ad_60 204), .int (iI (sc 1)), .ref (ad_60 205), .ref (ad_60 206), .ref (ad_60 207), .ref (ad_60 208), .ref (ad_60 209), .int (iI (sc 2)), .int (iI (sc 3)), .int (iI (sc 4)), .ref (ad_60 210), .int (iI fr), .ref (ad_60 211), .ref (ad_60 212)])) 213 (eI (cA 0) 3 (updI (updI (updI (fun _ => 0) 0 d) 1 sg) 2 q))) 210 (eI (cA 0) 120 (fun j => if 3 * (sc 4) ≤ j ∧ j < 3 * (sc 4) + 3 then (updI (updI (updI (fun _ => 0) 0 d) 1 sg) 2 q) (0 + (j - 3 * (sc 4))) else ub j)))) hx hb (hml.trans hl.1.symm) hown (hts (.methodLink RX6 159 arraycopyName) (by decide +kernel)) (hts (.native arraycopyName) (by decide +kernel)) (hts (.static arraycopyName) (by decide +kernel)) (hts (.initialized "java/lang/System") (by decide +kernel)) hK hP hD hS 213 210 0 0 (up_s _ _ _) (up_n (by decide) (up_n (by decide) k10)) rfl rfl (by omega) (by omega) (by omega) (by omega) (by omega) (by omega) (by omega) (Nat.le_of_ble_eq_true rfl) (Nat.le_of_ble_eq_true rfl) rfl dX6_measure_90 (fun H locs hP hD hS => ?_)
          refine lv_aload_n (pc := 93) hx hb dX6_measure_93 rfl (lv_at hl 1 rfl) ?_
          refine lv_dup (pc := 94) hx hb dX6_measure_94 rfl ?_
          refine k_get (pc := 95) (ci := 6) (C := RX6) (T := TX6) (N := 19) hx hb hts hi6 hown hK hP 200 (up_n (by decide) (up_n (by decide) (up_s _ _ _))) rfl 14 (by decide) hf156 (fun _ h9 => h9) rfl dX6_measure_95 ?_
          refine k_iconst (pc := 98) hx hb dX6_measure_98 ?_
          refine k_iadd (pc := 99) hx hb dX6_measure_99 ?_
          refine k_put (pc := 100) (ci := 6) (C := RX6) (T := TX6) (N := 19) (ty := .int) (v := .int (iI ((sc 4) + 1))) (w1 := (up (up (up w 200 (oB 6 [.int (iI 0), .int (iI (sc 0)), .ref (ad_60 201), .ref (ad_60 202), .ref (ad_60 203), .ref (ad_60 204), .int (iI (sc 1)), .ref (ad_60 205), .ref (ad_60 206), .ref (ad_60 207), .ref (ad_60 208), .ref (ad_60 209), .int (iI (sc 2)), .int (iI (sc 3)), .int (iI ((sc 4) + 1)), .ref (ad_60 210), .int (iI fr), .ref (ad_60 211), .ref (ad_60 212)])) 213 (eI (cA 0) 3 (updI (updI (updI (fun _ => 0) 0 d) 1 sg) 2 q))) 210 (eI (cA 0) 120 (fun j => if 3 * (sc 4) ≤ j ∧ j < 3 * (sc 4) + 3 then (updI (updI (updI (fun _ => 0) 0 d) 1 sg) 2 q) (0 + (j - 3 * (sc 4))) else ub j)))) hx hb hts hi6 tyX6 tyX6_ok nmX6 hown hK hP hD hS 200 (up_n (by decide) (up_n (by decide) (up_s _ _ _))) rfl 14 (by decide) hf156 (fun _ h9 => h9) rfl (by decide +kernel) rfl rfl (Nat.le_of_ble_eq_true rfl) ((up_co _ _ _ (by decide)).trans (congrArg (fun u => up u 210 _) ((up_co _ _ _ (by decide)).trans (congrArg (fun u => up u 213 _) (up_up _ _ _ _))))) dX6_measure_100 (fun H locs hP hD hS => ?_)
          refine lv_aload_n (pc := 103) hx hb dX6_measure_103 rfl (lv_at hl 1 rfl) ?_
          refine k_get (pc := 104) (ci := 6) (C := RX6) (T := TX6) (N := 19) hx hb hts hi6 hown hK hP 200 (up_n (by decide) (up_n (by decide) (up_s _ _ _))) rfl 14 (by decide) hf156 (fun _ h9 => h9) rfl dX6_measure_104 ?_
          have hmd2 : mdS cA ad_60 (up (up (up w 200 (oB 6 [.int (iI 0), .int (iI (sc 0)), .ref (ad_60 201), .ref (ad_60 202), .ref (ad_60 203), .ref (ad_60 204), .int (iI (sc 1)), .ref (ad_60 205), .ref (ad_60 206), .ref (ad_60 207), .ref (ad_60 208), .ref (ad_60 209), .int (iI (sc 2)), .int (iI (sc 3)), .int (iI ((sc 4) + 1)), .ref (ad_60 210), .int (iI fr), .ref (ad_60 211), .ref (ad_60 212)])) 213 (eI (cA 0) 3 (updI (updI (updI (fun _ => 0) 0 d) 1 sg) 2 q))) 210 (eI (cA 0) 120 (fun j => if 3 * (sc 4) ≤ j ∧ j < 3 * (sc 4) + 3 then (updI (updI (updI (fun _ => 0) 0 d) 1 sg) 2 q) (0 + (j - 3 * (sc 4))) else ub j))) 0 (upS sc 4 (sc 4 + 1)) (msF fn (sc 4) d sg q) := ⟨fr, G1, G2, us, ut, (fun j => if 3 * (sc 4) ≤ j ∧ j < 3 * (sc 4) + 3 then (updI (updI (updI (fun _ => 0) 0 d) 1 sg) 2 q) (0 + (j - 3 * (sc 4))) else ub j), S, F, ⟨(up_n (by decide) (up_n (by decide) (up_s _ _ _))), (up_n (by decide) (up_n (by decide) (up_n (by decide) k1))), (up_n (by decide) (up_n (by decide) (up_n (by decide) k2))), (up_n (by decide) (up_n (by decide) (up_n (by decide) k3))), (up_n (by decide) (up_n (by decide) (up_n (by decide) k4))), (up_n (by decide) (up_n (by decide) (up_n (by decide) k5))), (up_n (by decide) (up_n (by decide) (up_n (by decide) k6))), (up_n (by decide) (up_n (by decide) (up_n (by decide) k7))), (up_n (by decide) (up_n (by decide) (up_n (by decide) k8))), (up_n (by decide) (up_n (by decide) (up_n (by decide) k9))), (up_s _ _ _), (up_n (by decide) (up_n (by decide) (up_n (by decide) k11))), (up_n (by decide) (up_n (by decide) (up_n (by decide) k12)))⟩, hG1, hG2, hus, hut, md_msB (sc := sc) (d := d) (sg := sg) (q := q) hub (by omega) (by omega) (by omega) _ rfl, hS9, hF, md_msC hmc, hmu, md_msT hmt, by rw [tb_msF, tb_msS]; exact hrk⟩
          rw [hQ9]
          exact W.iret (v := iI ((sc 4) + 1)) hx hb hret (fun t ht hW => ⟨⟨some (.int (iI ((sc 4) + 1))), ad_60, (up (up (up w 200 (oB 6 [.int (iI 0), .int (iI (sc 0)), .ref (ad_60 201), .ref (ad_60 202), .ref (ad_60 203), .ref (ad_60 204), .int (iI (sc 1)), .ref (ad_60 205), .ref (ad_60 206), .ref (ad_60 207), .ref (ad_60 208), .ref (ad_60 209), .int (iI (sc 2)), .int (iI (sc 3)), .int (iI ((sc 4) + 1)), .ref (ad_60 210), .int (iI fr), .ref (ad_60 211), .ref (ad_60 212)])) 213 (eI (cA 0) 3 (updI (updI (updI (fun _ => 0) 0 d) 1 sg) 2 q))) 210 (eI (cA 0) 120 (fun j => if 3 * (sc 4) ≤ j ∧ j < 3 * (sc 4) + 3 then (updI (updI (updI (fun _ => 0) 0 d) 1 sg) 2 q) (0 + (j - 3 * (sc 4))) else ub j))), rfl, ⟨0, _, _, hmd2, inv_ms hI (by omega) (by omega) (by omega) (by omega), ⟨(hnn_60 200 (by omega)).symm, fun r hr => ⟨(up_n (by omega) (up_n (by omega) (up_n (by omega) rfl))), (hnn_60 r (by omega)).symm⟩⟩, Or.inl ⟨rfl, rfl, rfl, by omega, by omega, rfl⟩⟩, by rw [ht]; exact hP, hD⟩, hS.F ht⟩) hS.2.2 dX6_measure_107
        · skip
          refine lv_aload_n (pc := 53) hx hb dX6_measure_53 rfl (lv_at hl 0 rfl) ?_
          refine k_iconst (pc := 54) hx hb dX6_measure_54 ?_
          refine k_call1 (pc := 55) (va_runV (As := [.int (iI 2)]) (rest := []) ⟨hx, hb, hml, hown, hts⟩ (c_X6_fail l D cA ad (up w 200 (oB 6 [.int (iI 0), .int (iI (sc 0)), .ref (ad 201), .ref (ad 202), .ref (ad 203), .ref (ad 204), .int (iI (sc 1)), .ref (ad 205), .ref (ad 206), .ref (ad 207), .ref (ad 208), .ref (ad 209), .int (iI (sc 2)), .int (iI (sc 3)), .int (iI (sc 4)), .ref (ad 210), .int (iI fr), .ref (ad 211), .ref (ad 212)])) H.size 0 (sc 0) (sc 1) (sc 2) (sc 3) (sc 4) fr (up_s _ _ _) 2) (cwV 1 hts gX6_measure_X6_fail rfl rfl rfl (by decide +kernel) ⟨Nat.le_of_ble_eq_true rfl, Nat.le_of_ble_eq_true rfl⟩) (gV_V hP hD hK hB hS hA hZ 200 (ci := 6) rfl (up_s _ _ _)) rfl rfl hl.1 rfl (lv_room (Nat.le_of_ble_eq_true rfl)) dX6_measure_55 ⟨Nat.le_of_ble_eq_true rfl, Nat.le_of_ble_eq_true rfl⟩) hS (gA_sub hD hS hA) (fun v_55 ad_55 w_55 H locs hv_55 hP hD hS => ?_)
          obtain ⟨hv1, hv2, hv3⟩ := hv_55
          subst hv1
          rw [hv2, hv3] at hP hD
          rw [show up ((up w 200 (oB 6 [.int (iI 0), .int (iI (sc 0)), .ref (ad 201), .ref (ad 202), .ref (ad 203), .ref (ad 204), .int (iI (sc 1)), .ref (ad 205), .ref (ad 206), .ref (ad 207), .ref (ad 208), .ref (ad 209), .int (iI (sc 2)), .int (iI (sc 3)), .int (iI (sc 4)), .ref (ad 210), .int (iI fr), .ref (ad 211), .ref (ad 212)]))) 200 (oB 6 [.int (iI 2), .int (iI (sc 0)), .ref (ad 201), .ref (ad 202), .ref (ad 203), .ref (ad 204), .int (iI (sc 1)), .ref (ad 205), .ref (ad 206), .ref (ad 207), .ref (ad 208), .ref (ad 209), .int (iI (sc 2)), .int (iI (sc 3)), .int (iI (sc 4)), .ref (ad 210), .int (iI fr), .ref (ad 211), .ref (ad 212)]) = _ from (up_up _ _ _ _)] at hP hD
          refine W.eq (g2 := F0 m 58 ls [.int (iI 0)]) rfl ?_
          refine W.cs (cells' := 0) (slots' := 0) rfl rfl ?_
          rw [hQ9]
          refine W.widen (k := 1) (n := 3) (by decide) (by decide) ?_
          exact W.iret (v := iI 0) hx hb hret (fun t ht hW => ⟨⟨some (.int (iI 0)), ad, (up w 200 (oB 6 [.int (iI 2), .int (iI (sc 0)), .ref (ad 201), .ref (ad 202), .ref (ad 203), .ref (ad 204), .int (iI (sc 1)), .ref (ad 205), .ref (ad 206), .ref (ad 207), .ref (ad 208), .ref (ad 209), .int (iI (sc 2)), .int (iI (sc 3)), .int (iI (sc 4)), .ref (ad 210), .int (iI fr), .ref (ad 211), .ref (ad 212)])), rfl, ⟨2, sc, fn, ⟨fr, G1, G2, us, ut, ub, S, F, ⟨(up_s _ _ _), (up_n (by decide) k1), (up_n (by decide) k2), (up_n (by decide) k3), (up_n (by decide) k4), (up_n (by decide) k5), (up_n (by decide) k6), (up_n (by decide) k7), (up_n (by decide) k8), (up_n (by decide) k9), (up_n (by decide) k10), (up_n (by decide) k11), (up_n (by decide) k12)⟩, hG1, hG2, hus, hut, hub, hS9, hF, hmc, hmu, hmt, hrk⟩, hI, ⟨rfl, fun r hr => ⟨(up_n (by omega) rfl), rfl⟩⟩, Or.inr (Or.inr (⟨rfl, rfl, rfl, rfl, ⟨by omega, by omega⟩⟩))⟩, by rw [ht]; exact hP, hD⟩, hS.F ht⟩) hS.2.2 dX6_measure_58
      · skip
        refine lv_aload_n (pc := 38) hx hb dX6_measure_38 rfl (lv_at hl 0 rfl) ?_
        refine k_iconst (pc := 39) hx hb dX6_measure_39 ?_
        refine k_call1 (pc := 40) (va_runV (As := [.int (iI 1)]) (rest := []) ⟨hx, hb, hml, hown, hts⟩ (c_X6_fail l D cA ad (up w 200 (oB 6 [.int (iI 0), .int (iI (sc 0)), .ref (ad 201), .ref (ad 202), .ref (ad 203), .ref (ad 204), .int (iI (sc 1)), .ref (ad 205), .ref (ad 206), .ref (ad 207), .ref (ad 208), .ref (ad 209), .int (iI (sc 2)), .int (iI (sc 3)), .int (iI (sc 4)), .ref (ad 210), .int (iI fr), .ref (ad 211), .ref (ad 212)])) H.size 0 (sc 0) (sc 1) (sc 2) (sc 3) (sc 4) fr (up_s _ _ _) 1) (cwV 1 hts gX6_measure_X6_fail rfl rfl rfl (by decide +kernel) ⟨Nat.le_of_ble_eq_true rfl, Nat.le_of_ble_eq_true rfl⟩) (gV_V hP hD hK hB hS hA hZ 200 (ci := 6) rfl (up_s _ _ _)) rfl rfl hl.1 rfl (lv_room (Nat.le_of_ble_eq_true rfl)) dX6_measure_40 ⟨Nat.le_of_ble_eq_true rfl, Nat.le_of_ble_eq_true rfl⟩) hS (gA_sub hD hS hA) (fun v_40 ad_40 w_40 H locs hv_40 hP hD hS => ?_)
        obtain ⟨hv1, hv2, hv3⟩ := hv_40
        subst hv1
        rw [hv2, hv3] at hP hD
        rw [show up ((up w 200 (oB 6 [.int (iI 0), .int (iI (sc 0)), .ref (ad 201), .ref (ad 202), .ref (ad 203), .ref (ad 204), .int (iI (sc 1)), .ref (ad 205), .ref (ad 206), .ref (ad 207), .ref (ad 208), .ref (ad 209), .int (iI (sc 2)), .int (iI (sc 3)), .int (iI (sc 4)), .ref (ad 210), .int (iI fr), .ref (ad 211), .ref (ad 212)]))) 200 (oB 6 [.int (iI 1), .int (iI (sc 0)), .ref (ad 201), .ref (ad 202), .ref (ad 203), .ref (ad 204), .int (iI (sc 1)), .ref (ad 205), .ref (ad 206), .ref (ad 207), .ref (ad 208), .ref (ad 209), .int (iI (sc 2)), .int (iI (sc 3)), .int (iI (sc 4)), .ref (ad 210), .int (iI fr), .ref (ad 211), .ref (ad 212)]) = _ from (up_up _ _ _ _)] at hP hD
        refine W.eq (g2 := F0 m 43 ls [.int (iI 0)]) rfl ?_
        refine W.cs (cells' := 0) (slots' := 0) rfl rfl ?_
        rw [hQ9]
        refine W.widen (k := 1) (n := 3) (by decide) (by decide) ?_
        exact W.iret (v := iI 0) hx hb hret (fun t ht hW => ⟨⟨some (.int (iI 0)), ad, (up w 200 (oB 6 [.int (iI 1), .int (iI (sc 0)), .ref (ad 201), .ref (ad 202), .ref (ad 203), .ref (ad 204), .int (iI (sc 1)), .ref (ad 205), .ref (ad 206), .ref (ad 207), .ref (ad 208), .ref (ad 209), .int (iI (sc 2)), .int (iI (sc 3)), .int (iI (sc 4)), .ref (ad 210), .int (iI fr), .ref (ad 211), .ref (ad 212)])), rfl, ⟨1, sc, fn, ⟨fr, G1, G2, us, ut, ub, S, F, ⟨(up_s _ _ _), (up_n (by decide) k1), (up_n (by decide) k2), (up_n (by decide) k3), (up_n (by decide) k4), (up_n (by decide) k5), (up_n (by decide) k6), (up_n (by decide) k7), (up_n (by decide) k8), (up_n (by decide) k9), (up_n (by decide) k10), (up_n (by decide) k11), (up_n (by decide) k12)⟩, hG1, hG2, hus, hut, hub, hS9, hF, hmc, hmu, hmt, hrk⟩, hI, ⟨rfl, fun r hr => ⟨(up_n (by omega) rfl), rfl⟩⟩, Or.inr (Or.inl (⟨rfl, rfl, rfl, rfl, by omega⟩))⟩, by rw [ht]; exact hP, hD⟩, hS.F ht⟩) hS.2.2 dX6_measure_43
