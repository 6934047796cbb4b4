theorem cgT_s {F S : Int → Int} {x d : Int} (h : 0 ≤ d) : cgT F S x (d + 1).toNat = cgT F S x d.toNat + (if S d ≠ 0 ∧ x ≤ F d then 1 else 0) := by
  rw [show (d + 1).toNat = d.toNat + 1 by omega]
  show cgT F S x d.toNat + (if S (d.toNat : Int) ≠ 0 ∧ x ≤ F (d.toNat : Int) then 1 else 0) = _
  rw [show ((d.toNat : Nat) : Int) = d by omega]
/-- the best flow that enough days reach, of the days before d -/
def rmP (F S : Int → Int) (r d b : Int) : Prop := (b = -1 ∧ ∀ e : Int, 0 ≤ e → e < d → S e ≠ 0 → cgT F S (F e) 400 < r) ∨ ∃ e : Int, 0 ≤ e ∧ e < d ∧ S e ≠ 0 ∧ b = F e ∧ r ≤ cgT F S b 400 ∧ ∀ o : Int, 0 ≤ o → o < d → S o ≠ 0 → b < F o → cgT F S (F o) 400 < r
theorem rm_0 {F S : Int → Int} {r : Int} : rmP F S r 0 (-1) := Or.inl ⟨rfl, fun e a b => by omega⟩
theorem rm_st {F S : Int → Int} {r d b : Int} (h : rmP F S r d b) (hx : S d = 0 ∨ (F d ≤ b ∧ 0 ≤ F d) ∨ cgT F S (F d) 400 < r) : rmP F S r (d + 1) b := by
  rcases h with ⟨h1, h2⟩ | ⟨e, e1, e2, e3, e4, e5, e6⟩
  · refine Or.inl ⟨h1, fun e a1 a2 a3 => ?_⟩
    by_cases c : e = d
    · rcases hx with x | x | x
      · rw [c] at a3
        exact absurd x a3
      · omega
      · rw [c]
        exact x
    · exact h2 e a1 (by omega) a3
  · refine Or.inr ⟨e, e1, by omega, e3, e4, e5, fun o a1 a2 a3 a4 => ?_⟩
    by_cases c : o = d
    · rcases hx with x | x | x
      · rw [c] at a3
        exact absurd x a3
      · rw [c] at a4
        omega
      · rw [c]
        exact x
    · exact e6 o a1 (by omega) a3 a4
theorem rm_up {F S : Int → Int} {r d b : Int} (h : rmP F S r d b) (h0 : 0 ≤ d) (hS : S d ≠ 0) (hb : b < F d) (hr : r ≤ cgT F S (F d) 400) : rmP F S r (d + 1) (F d) := by
  refine Or.inr ⟨d, h0, by omega, hS, rfl, hr, fun o a1 a2 a3 a4 => ?_⟩
  have c : o ≠ d := fun z => by rw [z] at a4; omega
  rcases h with ⟨h1, h2⟩ | ⟨e, e1, e2, e3, e4, e5, e6⟩
  · exact h2 o a1 (by omega) a3
  · exact e6 o a1 (by omega) a3 (by omega)

abbrev rmX6_reached : Room := { frames := 3, cells := 1, slots := 5, locals := 76 }
theorem hiX6_reached_6 : ∀ w ∈ wsX60, w ∈ wsX6_reached := by decide +kernel
set_option maxHeartbeats 4000000 in
set_option maxRecDepth 100000 in
theorem c_X6_reached (l : Launch) (D : va_G) (cA : Nat → ClassId) (ad : Nat → Nat) (w : Nat → Option va_E) (sz : Nat) (th : Int) (sc : Nat → Int) (fn : Nat → Int → Int) (hI : bkInv sc fn) (hmd : mdS cA ad w th sc fn) (pt : Int) (hpt : (-2147483648 ≤ pt ∧ pt < 2147483648)) : Met l yX6_reached wsX6_reached rmX6_reached (gV D cA ad w sz [.ref (ad 200), .int (iI pt)]) (gW D (fun v9 ad1 w1 => ∃ (th2 : Int) (sc2 : Nat → Int) (fn2 : Nat → Int → Int), mdS cA ad1 w1 th2 sc2 fn2 ∧ bkInv sc2 fn2 ∧ keepM ad ad1 w w1 ∧ ((th2 = 0 ∧ (sc2 = sc ∧ fn2 = fn ∧ 1 ≤ pt ∧ pt ≤ 100 ∧ ∃ v : Int, v9 = some (.long (lI v)) ∧ rcP (tbF sc fn) (tbS sc fn) (max 1 (Int.tdiv (cntT (tbS sc fn) 0 400 * pt) 100)) v)) ∨ (th2 = 1 ∧ v9 = some (.long (lI 0)) ∧ sc2 = sc ∧ fn2 = fn ∧ (¬ (1 ≤ pt ∧ pt ≤ 100))))) (gA ad w sz)) 1 5 (gA ad w sz) := by
  refine Met.ofW (cc := cX6_reached) (maxL := 9) (ret := (some .long)) (by decide) rfl ?_
  intro p e s m args below meth c s₁ B hml hv
  obtain ⟨hav, hsz, hP, hD0, hK, hB, hZ⟩ := hv
  have hx := B.exec
  have hb := B.bytes
  have hret := B.returns
  have hts := atoms_spec (ws := wsX6_reached) B.pre
  have hown : s.vm.findClass RX6 = some m.cls := findClass_of_methodNamed B.named
  have hlocks := B.notSynchronized
  subst hsz
  have hD := hD0.self (sz := s.heap.size)
  generalize hAe : gA ad w s.heap.size = A at hD hZ ⊢
  have hA : ∀ q : Nat, s.heap.size ≤ q → A q := fun q h => by rw [← hAe]; exact Or.inr h
  have hS : va_S A s.heap s.heap [] := va_S.rf
  have hi6 := hiX6_reached_6
  have hf48 := hts (.fieldLink RX6 48 "GaugeBookModel" "states" "[I") (by decide +kernel)
  have hf51 := hts (.fieldLink RX6 51 "GaugeBookModel" "worked" "[J") (by decide +kernel)
  have hf55 := hts (.fieldLink RX6 55 "GaugeBookModel" "thrown" "I") (by decide +kernel)
  have he9 : entryFrame m args 9 = F0 m 0 ((lg_sl ([.ref (ad 200), .int (iI pt)] : List Value) ++ List.replicate (9 - (lg_sl ([.ref (ad 200), .int (iI pt)] : List Value)).length) Slot.unset).toArray) [] := by rw [hav, lg_entry_eq]
  rw [he9]
  have hl := lv_entry ([.ref (ad 200), .int (iI pt)] : List Value) (n := 9) (Nat.le_of_ble_eq_true rfl)
  generalize (lg_sl ([.ref (ad 200), .int (iI pt)] : List Value) ++ List.replicate (9 - (lg_sl ([.ref (ad 200), .int (iI pt)] : List Value)).length) Slot.unset).toArray = ls at hl ⊢
  have hl : lv_has ls 9 [(0, .ref (ad 200)), (1, .int (iI pt))] := hl
  obtain ⟨Q9, hQ9⟩ : ∃ z, z = MQ below (gW D (fun v9 ad1 w1 => ∃ (th2 : Int) (sc2 : Nat → Int) (fn2 : Nat → Int → Int), mdS cA ad1 w1 th2 sc2 fn2 ∧ bkInv sc2 fn2 ∧ keepM ad ad1 w w1 ∧ ((th2 = 0 ∧ (sc2 = sc ∧ fn2 = fn ∧ 1 ≤ pt ∧ pt ≤ 100 ∧ ∃ v : Int, v9 = some (.long (lI v)) ∧ rcP (tbF sc fn) (tbS sc fn) (max 1 (Int.tdiv (cntT (tbS sc fn) 0 400 * pt) 100)) v)) ∨ (th2 = 1 ∧ v9 = some (.long (lI 0)) ∧ sc2 = sc ∧ fn2 = fn ∧ (¬ (1 ≤ pt ∧ pt ≤ 100))))) A) args s 1 5 A := ⟨_, rfl⟩
  rw [← hQ9]
  show W p l e rmX6_reached s m args below meth c s.heap [] 0 0 Q9 (F0 m 0 ls [])
  obtain ⟨H, hHe⟩ : ∃ z, z = s.heap := ⟨_, rfl⟩
  obtain ⟨locs, hLe⟩ : ∃ z, z = ([] : List Loc) := ⟨_, rfl⟩
  have hP : gP D vwCl ad w H := by rw [hHe]; exact hP
  have hS : va_S A s.heap H locs := by rw [hHe, hLe]; exact va_S.rf
  rw [show W p l e rmX6_reached s m args below meth c s.heap [] 0 0 Q9 (F0 m 0 ls []) = W p l e rmX6_reached s m args below meth c H locs 0 0 Q9 (F0 m 0 ls []) by rw [hHe, hLe]]
  clear hHe hLe
  obtain ⟨fr, G1, G2, us, ut, ub, S, F, ⟨k0, k1, k2, k3, k4, k5, k6, k7, k8, k9, k10, k11, k12⟩, hG1, hG2, hus, hut, hub, hS9, hF, hmc, hmu, hmt, hrk⟩ := hmd
  have hI1 := hI.1
  refine lv_aload_n (pc := 0) hx hb dX6_reached_0 rfl (lv_at hl 0 rfl) ?_
  refine lv_iload_n (pc := 1) hx hb dX6_reached_1 rfl (lv_at hl 1 rfl) ?_
  refine k_i2l (pc := 2) hx hb ⟨by omega, by omega⟩ dX6_reached_2 ?_
  refine k_lconst1 (pc := 3) hx hb dX6_reached_3 ?_
  refine k_ldc2 (z := 100) (pc := 4) hx hb hown (hts (.constantLong RX6 126 (100)) (by decide +kernel)) (by decide +kernel) dX6_reached_4 ?_
  refine k_call0 (pc := 7) (va_runS (As := [.long (lI pt), .long (lI 1), .long (lI 100)]) (rest := [.ref (ad 200)]) ⟨hx, hb, hml, hown, hts⟩ (c_X6_isIn l D cA ad w pt 1 100 (by omega) (by omega) (by omega)) (va_cwS 3 hts gX6_reached_X6_isIn rfl rfl rfl (by decide +kernel) ⟨Nat.le_of_ble_eq_true rfl, Nat.le_of_ble_eq_true rfl⟩) (gR_S hP hK hB) rfl rfl hl.1 rfl (lv_room (Nat.le_of_ble_eq_true rfl)) dX6_reached_7 ⟨Nat.le_of_ble_eq_true rfl, Nat.le_of_ble_eq_true rfl⟩) (fun v_7 hv_7 => ?_)
  obtain ⟨z_7, rfl, hz_7⟩ := hv_7
  refine W.eq (g2 := F0 m 10 ls [.int (iI z_7), .ref (ad 200)]) rfl ?_
  refine k_if_eq (pc := 10) (tgt := 17) hx hb ⟨by omega, by omega⟩ dX6_reached_10 (by decide) (fun hc_10 => ?_) (fun hc_10 => ?_)
  · skip
    refine k_iconst (pc := 17) hx hb dX6_reached_17 ?_
    refine k_put (pc := 18) (ci := 6) (C := RX6) (T := TX6) (N := 19) (ty := .int) (v := .int (iI 1)) (w1 := (up w 200 (oB 6 [.int (iI 1), .int (iI (sc 0)), .ref (ad 201), .ref (ad 202), .ref (ad 203), .ref (ad 204), .int (iI (sc 1)), .ref (ad 205), .ref (ad 206), .ref (ad 207), .ref (ad 208), .ref (ad 209), .int (iI (sc 2)), .int (iI (sc 3)), .int (iI (sc 4)), .ref (ad 210), .int (iI fr), .ref (ad 211), .ref (ad 212)]))) hx hb hts hi6 tyX6 tyX6_ok nmX6 hown hK hP hD hS 200 k0 rfl 0 (by decide) hf55 (fun _ h9 => h9) rfl (by decide +kernel) rfl rfl (Nat.le_of_ble_eq_true rfl) rfl dX6_reached_18 (fun H locs hP hD hS => ?_)
    refine lv_aload_n (pc := 21) hx hb dX6_reached_21 rfl (lv_at hl 0 rfl) ?_
    refine k_get (pc := 22) (ci := 6) (C := RX6) (T := TX6) (N := 19) hx hb hts hi6 hown hK hP 200 (up_s _ _ _) rfl 0 (by decide) hf55 (fun _ h9 => h9) rfl dX6_reached_22 ?_
    refine k_if_eq (pc := 25) (tgt := 30) hx hb ⟨by omega, by omega⟩ dX6_reached_25 (by decide) (fun hc_25 => ?_) (fun hc_25 => ?_)
    · skip
      exfalso
      omega
    · skip
      refine k_lconst0 (pc := 28) hx hb dX6_reached_28 ?_
      rw [hQ9]
      refine W.widen (k := 1) (n := 5) (by decide) (by decide) ?_
      exact W.lret (v := lI 0) hx hb hret (fun t ht hW => ⟨⟨some (.long (lI 0)), ad, (up w 200 (oB 6 [.int (iI 1), .int (iI (sc 0)), .ref (ad 201), .ref (ad 202), .ref (ad 203), .ref (ad 204), .int (iI (sc 1)), .ref (ad 205), .ref (ad 206), .ref (ad 207), .ref (ad 208), .ref (ad 209), .int (iI (sc 2)), .int (iI (sc 3)), .int (iI (sc 4)), .ref (ad 210), .int (iI fr), .ref (ad 211), .ref (ad 212)])), rfl, ⟨1, sc, fn, ⟨fr, G1, G2, us, ut, ub, S, F, ⟨(up_s _ _ _), (up_n (by decide) k1), (up_n (by decide) k2), (up_n (by decide) k3), (up_n (by decide) k4), (up_n (by decide) k5), (up_n (by decide) k6), (up_n (by decide) k7), (up_n (by decide) k8), (up_n (by decide) k9), (up_n (by decide) k10), (up_n (by decide) k11), (up_n (by decide) k12)⟩, hG1, hG2, hus, hut, hub, hS9, hF, hmc, hmu, hmt, hrk⟩, hI, ⟨rfl, fun r hr => ⟨(up_n (by omega) rfl), rfl⟩⟩, Or.inr (⟨rfl, rfl, rfl, rfl, by omega⟩)⟩, by rw [ht]; exact hP, hD⟩, hS.F ht⟩) hS.2.2 dX6_reached_29
  · skip
    refine k_iconst (pc := 13) hx hb dX6_reached_13 ?_
    refine lv_goto (pc := 14) (tgt := 18) hx hb dX6_reached_14 (by decide) ?_
    refine k_put (pc := 18) (ci := 6) (C := RX6) (T := TX6) (N := 19) (ty := .int) (v := .int (iI 0)) (w1 := (up w 200 (oB 6 [.int (iI 0), .int (iI (sc 0)), .ref (ad 201), .ref (ad 202), .ref (ad 203), .ref (ad 204), .int (iI (sc 1)), .ref (ad 205), .ref (ad 206), .ref (ad 207), .ref (ad 208), .ref (ad 209), .int (iI (sc 2)), .int (iI (sc 3)), .int (iI (sc 4)), .ref (ad 210), .int (iI fr), .ref (ad 211), .ref (ad 212)]))) hx hb hts hi6 tyX6 tyX6_ok nmX6 hown hK hP hD hS 200 k0 rfl 0 (by decide) hf55 (fun _ h9 => h9) rfl (by decide +kernel) rfl rfl (Nat.le_of_ble_eq_true rfl) rfl dX6_reached_18 (fun H locs hP hD hS => ?_)
    refine lv_aload_n (pc := 21) hx hb dX6_reached_21 rfl (lv_at hl 0 rfl) ?_
    refine k_get (pc := 22) (ci := 6) (C := RX6) (T := TX6) (N := 19) hx hb hts hi6 hown hK hP 200 (up_s _ _ _) rfl 0 (by decide) hf55 (fun _ h9 => h9) rfl dX6_reached_22 ?_
    refine k_if_eq (pc := 25) (tgt := 30) hx hb ⟨by omega, by omega⟩ dX6_reached_25 (by decide) (fun hc_25 => ?_) (fun hc_25 => ?_)
    · skip
      refine lv_aload_n (pc := 30) hx hb dX6_reached_30 rfl (lv_at hl 0 rfl) ?_
      refine k_iconst (pc := 31) hx hb dX6_reached_31 ?_
      refine k_sipush (pc := 32) hx hb dX6_reached_32 (by decide +kernel) ?_
      refine k_iconst (pc := 35) hx hb dX6_reached_35 ?_
      refine k_call1 (pc := 36) (va_runV (As := [.int (iI 0), .int (iI 399), .int (iI 0)]) (rest := []) ⟨hx, hb, hml, hown, hts⟩ (c_X6_summed l D cA ad (up w 200 (oB 6 [.int (iI 0), .int (iI (sc 0)), .ref (ad 201), .ref (ad 202), .ref (ad 203), .ref (ad 204), .int (iI (sc 1)), .ref (ad 205), .ref (ad 206), .ref (ad 207), .ref (ad 208), .ref (ad 209), .int (iI (sc 2)), .int (iI (sc 3)), .int (iI (sc 4)), .ref (ad 210), .int (iI fr), .ref (ad 211), .ref (ad 212)])) H.size 0 sc fn hI ⟨fr, G1, G2, us, ut, ub, S, F, ⟨(up_s _ _ _), (up_n (by decide) k1), (up_n (by decide) k2), (up_n (by decide) k3), (up_n (by decide) k4), (up_n (by decide) k5), (up_n (by decide) k6), (up_n (by decide) k7), (up_n (by decide) k8), (up_n (by decide) k9), (up_n (by decide) k10), (up_n (by decide) k11), (up_n (by decide) k12)⟩, hG1, hG2, hus, hut, hub, hS9, hF, hmc, hmu, hmt, hrk⟩ 0 399 0 (by omega) (by omega)) (cwV 3 hts gX6_reached_X6_summed rfl rfl rfl (by decide +kernel) ⟨Nat.le_of_ble_eq_true rfl, Nat.le_of_ble_eq_true rfl⟩) (gV_V hP hD hK hB hS hA hZ 200 (ci := 6) rfl (up_s _ _ _)) rfl rfl hl.1 rfl (lv_room (Nat.le_of_ble_eq_true rfl)) dX6_reached_36 ⟨Nat.le_of_ble_eq_true rfl, Nat.le_of_ble_eq_true rfl⟩) hS (gA_sub hD hS hA) (fun v_36 ad_36 w_36 H locs hv_36 hP hD hS => ?_)
      obtain ⟨hmd_36, hkp_36, z_36, rfl, hz_36⟩ := hv_36
      have hkt_36 : keepM ad ad_36 w w_36 := keepM_t (v := (up w 200 (oB 6 [.int (iI 0), .int (iI (sc 0)), .ref (ad 201), .ref (ad 202), .ref (ad 203), .ref (ad 204), .int (iI (sc 1)), .ref (ad 205), .ref (ad 206), .ref (ad 207), .ref (ad 208), .ref (ad 209), .int (iI (sc 2)), .int (iI (sc 3)), .int (iI (sc 4)), .ref (ad 210), .int (iI fr), .ref (ad 211), .ref (ad 212)]))) ⟨rfl, fun r hr => ⟨(up_n (by omega) rfl), rfl⟩⟩ hkp_36
      obtain ⟨G1, G2, us, ut, ub, ⟨k0, k1, k2, k3, k4, k5, k6, k7, k8, k9, k10, k11, k12⟩, hG1, hG2, hus, hut, hub, hmc, hmu, hmt⟩ := hmd_36
      rw [← hkp_36.1] at hl
      refine W.eq (g2 := F0 m 39 ls [.long (lI z_36)]) rfl ?_
      refine W.cs (cells' := 1) (slots' := 5) rfl rfl ?_
      have n9_ : z_36 = cntT (tbS sc fn) 0 (399 + 1 - 0 : Int).toNat := by rcases hz_36 with ⟨e9, h9⟩ | ⟨e9, h9⟩ | ⟨e9, h9⟩ | ⟨e9, h9⟩ | ⟨e9, h9⟩ <;> first | exact h9 | (exfalso; omega)
      rw [show (399 + 1 - 0 : Int).toNat = 400 by decide] at n9_
      have cb_ := cntT_b (tbS sc fn) 0 400
      refine k_l2i (pc := 39) hx hb dX6_reached_39 ?_
      refine lv_istore_n (pc := 40) (lv' := [(2, .int (iI z_36)), (0, .ref (ad_36 200)), (1, .int (iI pt))]) hx hb dX6_reached_40 rfl hl (by decide) rfl (fun ls hl => ?_)
      refine k_iconst (pc := 41) hx hb dX6_reached_41 ?_
      refine lv_iload_n (pc := 42) hx hb dX6_reached_42 rfl (lv_at hl 0 rfl) ?_
      refine lv_iload_n (pc := 43) hx hb dX6_reached_43 rfl (lv_at hl 2 rfl) ?_
      refine k_imul (pc := 44) hx hb dX6_reached_44 ?_
      have m9_ := mulB (a := z_36) (b := pt) (M := 400) (N := 100) ⟨by omega, by omega⟩ ⟨by omega, by omega⟩
      have m8_ := Int.mul_nonneg (show 0 ≤ z_36 by omega) (show 0 ≤ pt by omega)
      refine k_bipush (pc := 45) hx hb dX6_reached_45 (by decide +kernel) ?_
      refine k_idiv (pc := 47) hx hb ⟨by omega, by omega⟩ ⟨by omega, by omega⟩ (by omega) dX6_reached_47 ?_
      have t9_ : Int.tdiv (z_36 * pt) 100 = z_36 * pt / 100 := Int.tdiv_eq_ediv_of_nonneg (by omega)
      refine k_mmax (pc := 48) hx hb (hml.trans hl.1.symm) hown (hts (.methodLink RX6 148 Lib.Math.max.name) (by decide +kernel)) (hts (.static Lib.Math.max.name) (by decide +kernel)) (hts (.initialized "java/lang/Math") (by decide +kernel)) (hts (.code Lib.Math.max.name Lib.Math.max.code 2 (some .int)) (by decide +kernel)) (Nat.le_of_ble_eq_true rfl) (Nat.le_of_ble_eq_true rfl) (Nat.le_of_ble_eq_true rfl) (Nat.le_of_ble_eq_true rfl) ⟨by omega, by omega⟩ ⟨by omega, by omega⟩ dX6_reached_48 ?_
      obtain ⟨r9, hr9⟩ : ∃ x9 : Int, x9 = max 1 (Int.tdiv (z_36 * pt) 100) := ⟨_, rfl⟩
      rw [← hr9]
      refine lv_istore_n (pc := 51) (lv' := [(3, .int (iI r9)), (2, .int (iI z_36)), (0, .ref (ad_36 200)), (1, .int (iI pt))]) hx hb dX6_reached_51 rfl hl (by decide) rfl (fun ls hl => ?_)
      refine k_ldc2 (z := (-1)) (pc := 52) hx hb hown (hts (.constantLong RX6 130 (-1)) (by decide +kernel)) (by decide +kernel) dX6_reached_52 ?_
      refine lv_lstore (pc := 55) (lv' := [(4, .long (lI (-1))), (3, .int (iI r9)), (2, .int (iI z_36)), (0, .ref (ad_36 200)), (1, .int (iI pt))]) hx hb dX6_reached_55 hl (by decide) rfl (fun ls hl => ?_)
      refine k_iconst (pc := 57) hx hb dX6_reached_57 ?_
      refine lv_istore (pc := 58) (lv' := [(6, .int (iI 0)), (4, .long (lI (-1))), (3, .int (iI r9)), (2, .int (iI z_36)), (0, .ref (ad_36 200)), (1, .int (iI pt))]) hx hb dX6_reached_58 hl (by decide) rfl (fun ls hl => ?_)
      have lp_60 : ∀ (N9 : Nat) (d : Int) (b : Int), (0 ≤ d ∧ d ≤ 400) → (-1 ≤ b ∧ b ≤ 1000000000000) → (rmP (tbF sc fn) (tbS sc fn) r9 d b) → (400 - d).toNat < N9 → ∀ (H : Heap) (locs : List Loc), gP D vwCl ad_36 w_36 H → gD A ad_36 w_36 → va_S A s.heap H locs → ∀ (ls : Array Slot), lv_has ls 9 [(6, .int (iI d)), (4, .long (lI b)), (3, .int (iI r9)), (2, .int (iI z_36)), (0, .ref (ad_36 200)), (1, .int (iI pt))] → W p l e rmX6_reached s m args below meth c H locs 1 5 Q9 (F0 m 60 ls []) := by
        intro N9
        induction N9 with
        | zero => intro d b i0 iR iB hmu; exact absurd hmu (Nat.not_lt_zero _)
        | succ N9 ih_60 =>
          intro d b i0 iR iB hmu_60 H locs hP hD hS ls hl
          refine lv_iload (pc := 60) hx hb dX6_reached_60 (lv_at hl 0 rfl) ?_
          refine k_sipush (pc := 62) hx hb dX6_reached_62 (by decide +kernel) ?_
          refine k_icmp_ge (pc := 65) (tgt := 173) hx hb ⟨by omega, by omega⟩ ⟨by omega, by omega⟩ dX6_reached_65 (by decide) (fun hc_65 => ?_) (fun hc_65 => ?_)
          · skip
            have hrc : rcP (tbF sc fn) (tbS sc fn) r9 b := by have h9 := iB; rw [show d = 400 by omega] at h9; exact h9
            rw [hr9, n9_] at hrc
            refine lv_lload (pc := 173) hx hb dX6_reached_173 (lv_at hl 1 rfl) ?_
            rw [hQ9]
            exact W.lret (v := lI b) hx hb hret (fun t ht hW => ⟨⟨some (.long (lI b)), ad_36, w_36, rfl, ⟨0, sc, fn, ⟨1, G1, G2, us, ut, ub, (tbS sc fn), (tbF sc fn), ⟨k0, k1, k2, k3, k4, k5, k6, k7, k8, k9, k10, k11, k12⟩, hG1, hG2, hus, hut, hub, (tbOk_tb hI).2.1, (tbOk_tb hI).1, hmc, hmu, hmt, (Or.inr ⟨rfl, rfl, rfl⟩)⟩, hI, hkt_36, Or.inl (⟨rfl, ⟨rfl, rfl, by omega, by omega, b, rfl, hrc⟩⟩)⟩, by rw [ht]; exact hP, hD⟩, hS.F ht⟩) hS.2.2 dX6_reached_175
          · skip
            refine lv_aload_n (pc := 68) hx hb dX6_reached_68 rfl (lv_at hl 4 rfl) ?_
            refine k_get (pc := 69) (ci := 6) (C := RX6) (T := TX6) (N := 19) hx hb hts hi6 hown hK hP 200 k0 rfl 17 (by decide) hf48 (fun _ h9 => h9) rfl dX6_reached_69 ?_
            refine lv_iload (pc := 72) hx hb dX6_reached_72 (lv_at hl 0 rfl) ?_
            refine k_iald (pc := 74) hx hb hK hP 211 0 k11 rfl (by omega) (by omega) (by omega) dX6_reached_74 ?_
            have hq_74 := (tbOk_tb hI).2.1 d
            refine k_if_eq (pc := 75) (tgt := 167) hx hb ⟨by omega, by omega⟩ dX6_reached_75 (by decide) (fun hc_75 => ?_) (fun hc_75 => ?_)
            · skip
              refine lv_iinc (pc := 167) (v := iI (d + 1)) (lv' := [(6, .int (iI (d + 1))), (4, .long (lI b)), (3, .int (iI r9)), (2, .int (iI z_36)), (0, .ref (ad_36 200)), (1, .int (iI pt))]) hx hb dX6_reached_167 hl (k := 0) rfl (iI_add _ _) (by decide) rfl (fun ls hl => ?_)
              refine lv_goto (pc := 170) (tgt := 60) hx hb dX6_reached_170 (by decide) ?_
              exact ih_60 (d + 1) b (by omega) (by omega) (rm_st iB (by omega)) (by omega) H locs hP hD hS ls (lv_sub hl [0, 1, 2, 3, 4, 5] rfl)
            · skip
              have p9_ := (tbOk_tb hI).2.2.1 d (by omega)
              refine lv_aload_n (pc := 78) hx hb dX6_reached_78 rfl (lv_at hl 4 rfl) ?_
              refine k_get (pc := 79) (ci := 6) (C := RX6) (T := TX6) (N := 19) hx hb hts hi6 hown hK hP 200 k0 rfl 18 (by decide) hf51 (fun _ h9 => h9) rfl dX6_reached_79 ?_
              refine lv_iload (pc := 82) hx hb dX6_reached_82 (lv_at hl 0 rfl) ?_
              refine k_lald (pc := 84) hx hb hK hP 212 2 k12 rfl (by omega) (by omega) (by omega) dX6_reached_84 ?_
              have hq_84 := (tbOk_tb hI).1 d
              refine lv_lload (pc := 85) hx hb dX6_reached_85 (lv_at hl 1 rfl) ?_
              refine k_lcmp_gt (pc := 87) (tgt := 94) hx hb ⟨by omega, by omega⟩ ⟨by omega, by omega⟩ dX6_reached_87 dX6_reached_88 (by decide) (fun hc_87 => ?_) (fun hc_87 => ?_)
              · skip
                refine k_iconst (pc := 94) hx hb dX6_reached_94 ?_
                refine lv_istore (pc := 95) (lv' := [(7, .int (iI 0)), (6, .int (iI d)), (4, .long (lI b)), (3, .int (iI r9)), (2, .int (iI z_36)), (0, .ref (ad_36 200)), (1, .int (iI pt))]) hx hb dX6_reached_95 hl (by decide) rfl (fun ls hl => ?_)
                refine k_iconst (pc := 97) hx hb dX6_reached_97 ?_
                refine lv_istore (pc := 98) (lv' := [(8, .int (iI 0)), (7, .int (iI 0)), (6, .int (iI d)), (4, .long (lI b)), (3, .int (iI r9)), (2, .int (iI z_36)), (0, .ref (ad_36 200)), (1, .int (iI pt))]) hx hb dX6_reached_98 hl (by decide) rfl (fun ls hl => ?_)
                have lp_100 : ∀ (N9 : Nat) (o : Int) (x : Int), (0 ≤ o ∧ o ≤ 400) → (x = cgT (tbF sc fn) (tbS sc fn) (tbF sc fn d) o.toNat) → (0 ≤ x ∧ x ≤ o) → (400 - o).toNat < N9 → ∀ (H : Heap) (locs : List Loc), gP D vwCl ad_36 w_36 H → gD A ad_36 w_36 → va_S A s.heap H locs → ∀ (ls : Array Slot), lv_has ls 9 [(8, .int (iI o)), (7, .int (iI x)), (6, .int (iI d)), (4, .long (lI b)), (3, .int (iI r9)), (2, .int (iI z_36)), (0, .ref (ad_36 200)), (1, .int (iI pt))] → W p l e rmX6_reached s m args below meth c H locs 1 5 Q9 (F0 m 100 ls []) := by
                  intro N9
                  induction N9 with
                  | zero => intro o x j0 jX jB hmu; exact absurd hmu (Nat.not_lt_zero _)
                  | succ N9 ih_100 =>
                    intro o x j0 jX jB hmu_100 H locs hP hD hS ls hl
                    refine lv_iload (pc := 100) hx hb dX6_reached_100 (lv_at hl 0 rfl) ?_
                    refine k_sipush (pc := 102) hx hb dX6_reached_102 (by decide +kernel) ?_
                    refine k_icmp_ge (pc := 105) (tgt := 152) hx hb ⟨by omega, by omega⟩ ⟨by omega, by omega⟩ dX6_reached_105 (by decide) (fun hc_105 => ?_) (fun hc_105 => ?_)
                    · skip
                      have e9_ : x = cgT (tbF sc fn) (tbS sc fn) (tbF sc fn d) 400 := by rw [jX, show o.toNat = 400 by omega]
                      refine lv_iload (pc := 152) hx hb dX6_reached_152 (lv_at hl 1 rfl) ?_
                      refine lv_iload_n (pc := 154) hx hb dX6_reached_154 rfl (lv_at hl 4 rfl) ?_
                      refine k_icmp_lt (pc := 155) (tgt := 167) hx hb ⟨by omega, by omega⟩ ⟨by omega, by omega⟩ dX6_reached_155 (by decide) (fun hc_155 => ?_) (fun hc_155 => ?_)
                      · skip
                        refine lv_iinc (pc := 167) (v := iI (d + 1)) (lv' := [(6, .int (iI (d + 1))), (8, .int (iI o)), (7, .int (iI x)), (4, .long (lI b)), (3, .int (iI r9)), (2, .int (iI z_36)), (0, .ref (ad_36 200)), (1, .int (iI pt))]) hx hb dX6_reached_167 hl (k := 2) rfl (iI_add _ _) (by decide) rfl (fun ls hl => ?_)
                        refine lv_goto (pc := 170) (tgt := 60) hx hb dX6_reached_170 (by decide) ?_
                        exact ih_60 (d + 1) b (by omega) (by omega) (rm_st iB (by omega)) (by omega) H locs hP hD hS ls (lv_sub hl [0, 3, 4, 5, 6, 7] rfl)
                      · skip
                        refine lv_aload_n (pc := 158) hx hb dX6_reached_158 rfl (lv_at hl 6 rfl) ?_
                        refine k_get (pc := 159) (ci := 6) (C := RX6) (T := TX6) (N := 19) hx hb hts hi6 hown hK hP 200 k0 rfl 18 (by decide) hf51 (fun _ h9 => h9) rfl dX6_reached_159 ?_
                        refine lv_iload (pc := 162) hx hb dX6_reached_162 (lv_at hl 2 rfl) ?_
                        refine k_lald (pc := 164) hx hb hK hP 212 2 k12 rfl (by omega) (by omega) (by omega) dX6_reached_164 ?_
                        have hq_164 := (tbOk_tb hI).1 d
                        refine lv_lstore (pc := 165) (lv' := [(4, .long (lI ((tbF sc fn) d))), (8, .int (iI o)), (7, .int (iI x)), (6, .int (iI d)), (3, .int (iI r9)), (2, .int (iI z_36)), (0, .ref (ad_36 200)), (1, .int (iI pt))]) hx hb dX6_reached_165 hl (by decide) rfl (fun ls hl => ?_)
                        refine lv_iinc (pc := 167) (v := iI (d + 1)) (lv' := [(6, .int (iI (d + 1))), (4, .long (lI ((tbF sc fn) d))), (8, .int (iI o)), (7, .int (iI x)), (3, .int (iI r9)), (2, .int (iI z_36)), (0, .ref (ad_36 200)), (1, .int (iI pt))]) hx hb dX6_reached_167 hl (k := 3) rfl (iI_add _ _) (by decide) rfl (fun ls hl => ?_)
                        refine lv_goto (pc := 170) (tgt := 60) hx hb dX6_reached_170 (by decide) ?_
                        exact ih_60 (d + 1) ((tbF sc fn) d) (by omega) (by omega) (rm_up iB (by omega) (by omega) (by omega) (by omega)) (by omega) H locs hP hD hS ls (lv_sub hl [0, 1, 4, 5, 6, 7] rfl)
                    · skip
                      refine lv_iload (pc := 108) hx hb dX6_reached_108 (lv_at hl 1 rfl) ?_
                      refine lv_aload_n (pc := 110) hx hb dX6_reached_110 rfl (lv_at hl 6 rfl) ?_
                      refine k_get (pc := 111) (ci := 6) (C := RX6) (T := TX6) (N := 19) hx hb hts hi6 hown hK hP 200 k0 rfl 17 (by decide) hf48 (fun _ h9 => h9) rfl dX6_reached_111 ?_
                      refine lv_iload (pc := 114) hx hb dX6_reached_114 (lv_at hl 0 rfl) ?_
                      refine k_iald (pc := 116) hx hb hK hP 211 0 k11 rfl (by omega) (by omega) (by omega) dX6_reached_116 ?_
                      have hq_116 := (tbOk_tb hI).2.1 o
                      refine k_if_eq (pc := 117) (tgt := 142) hx hb ⟨by omega, by omega⟩ dX6_reached_117 (by decide) (fun hc_117 => ?_) (fun hc_117 => ?_)
                      · skip
                        refine k_iconst (pc := 142) hx hb dX6_reached_142 ?_
                        refine k_iadd (pc := 143) hx hb dX6_reached_143 ?_
                        refine lv_istore (pc := 144) (lv' := [(7, .int (iI (x + 0))), (8, .int (iI o)), (6, .int (iI d)), (4, .long (lI b)), (3, .int (iI r9)), (2, .int (iI z_36)), (0, .ref (ad_36 200)), (1, .int (iI pt))]) hx hb dX6_reached_144 hl (by decide) rfl (fun ls hl => ?_)
                        refine lv_iinc (pc := 146) (v := iI (o + 1)) (lv' := [(8, .int (iI (o + 1))), (7, .int (iI (x + 0))), (6, .int (iI d)), (4, .long (lI b)), (3, .int (iI r9)), (2, .int (iI z_36)), (0, .ref (ad_36 200)), (1, .int (iI pt))]) hx hb dX6_reached_146 hl (k := 1) rfl (iI_add _ _) (by decide) rfl (fun ls hl => ?_)
                        refine lv_goto (pc := 149) (tgt := 100) hx hb dX6_reached_149 (by decide) ?_
                        have c9_ := cgT_s (F := tbF sc fn) (S := tbS sc fn) (x := tbF sc fn d) (d := o) (by omega)
                        first | rw [if_pos (by omega)] at c9_ | rw [if_neg (by omega)] at c9_
                        exact ih_100 (o + 1) (x + 0) (by omega) (by rw [c9_]; omega) (by omega) (by omega) H locs hP hD hS ls (lv_sub hl [0, 1, 2, 3, 4, 5, 6, 7] rfl)
                      · skip
                        refine lv_aload_n (pc := 120) hx hb dX6_reached_120 rfl (lv_at hl 6 rfl) ?_
                        refine k_get (pc := 121) (ci := 6) (C := RX6) (T := TX6) (N := 19) hx hb hts hi6 hown hK hP 200 k0 rfl 18 (by decide) hf51 (fun _ h9 => h9) rfl dX6_reached_121 ?_
                        refine lv_iload (pc := 124) hx hb dX6_reached_124 (lv_at hl 0 rfl) ?_
                        refine k_lald (pc := 126) hx hb hK hP 212 2 k12 rfl (by omega) (by omega) (by omega) dX6_reached_126 ?_
                        have hq_126 := (tbOk_tb hI).1 o
                        refine lv_aload_n (pc := 127) hx hb dX6_reached_127 rfl (lv_at hl 6 rfl) ?_
                        refine k_get (pc := 128) (ci := 6) (C := RX6) (T := TX6) (N := 19) hx hb hts hi6 hown hK hP 200 k0 rfl 18 (by decide) hf51 (fun _ h9 => h9) rfl dX6_reached_128 ?_
                        refine lv_iload (pc := 131) hx hb dX6_reached_131 (lv_at hl 2 rfl) ?_
                        refine k_lald (pc := 133) hx hb hK hP 212 2 k12 rfl (by omega) (by omega) (by omega) dX6_reached_133 ?_
                        have hq_133 := (tbOk_tb hI).1 d
                        refine k_lcmp_lt (pc := 134) (tgt := 142) hx hb ⟨by omega, by omega⟩ ⟨by omega, by omega⟩ dX6_reached_134 dX6_reached_135 (by decide) (fun hc_134 => ?_) (fun hc_134 => ?_)
                        · skip
                          refine k_iconst (pc := 142) hx hb dX6_reached_142 ?_
                          refine k_iadd (pc := 143) hx hb dX6_reached_143 ?_
                          refine lv_istore (pc := 144) (lv' := [(7, .int (iI (x + 0))), (8, .int (iI o)), (6, .int (iI d)), (4, .long (lI b)), (3, .int (iI r9)), (2, .int (iI z_36)), (0, .ref (ad_36 200)), (1, .int (iI pt))]) hx hb dX6_reached_144 hl (by decide) rfl (fun ls hl => ?_)
                          refine lv_iinc (pc := 146) (v := iI (o + 1)) (lv' := [(8, .int (iI (o + 1))), (7, .int (iI (x + 0))), (6, .int (iI d)), (4, .long (lI b)), (3, .int (iI r9)), (2, .int (iI z_36)), (0, .ref (ad_36 200)), (1, .int (iI pt))]) hx hb dX6_reached_146 hl (k := 1) rfl (iI_add _ _) (by decide) rfl (fun ls hl => ?_)
                          refine lv_goto (pc := 149) (tgt := 100) hx hb dX6_reached_149 (by decide) ?_
                          have c9_ := cgT_s (F := tbF sc fn) (S := tbS sc fn) (x := tbF sc fn d) (d := o) (by omega)
                          first | rw [if_pos (by omega)] at c9_ | rw [if_neg (by omega)] at c9_
                          exact ih_100 (o + 1) (x + 0) (by omega) (by rw [c9_]; omega) (by omega) (by omega) H locs hP hD hS ls (lv_sub hl [0, 1, 2, 3, 4, 5, 6, 7] rfl)
                        · skip
                          refine k_iconst (pc := 138) hx hb dX6_reached_138 ?_
                          refine lv_goto (pc := 139) (tgt := 143) hx hb dX6_reached_139 (by decide) ?_
                          refine k_iadd (pc := 143) hx hb dX6_reached_143 ?_
                          refine lv_istore (pc := 144) (lv' := [(7, .int (iI (x + 1))), (8, .int (iI o)), (6, .int (iI d)), (4, .long (lI b)), (3, .int (iI r9)), (2, .int (iI z_36)), (0, .ref (ad_36 200)), (1, .int (iI pt))]) hx hb dX6_reached_144 hl (by decide) rfl (fun ls hl => ?_)
                          refine lv_iinc (pc := 146) (v := iI (o + 1)) (lv' := [(8, .int (iI (o + 1))), (7, .int (iI (x + 1))), (6, .int (iI d)), (4, .long (lI b)), (3, .int (iI r9)), (2, .int (iI z_36)), (0, .ref (ad_36 200)), (1, .int (iI pt))]) hx hb dX6_reached_146 hl (k := 1) rfl (iI_add _ _) (by decide) rfl (fun ls hl => ?_)
                          refine lv_goto (pc := 149) (tgt := 100) hx hb dX6_reached_149 (by decide) ?_
                          have c9_ := cgT_s (F := tbF sc fn) (S := tbS sc fn) (x := tbF sc fn d) (d := o) (by omega)
                          first | rw [if_pos (by omega)] at c9_ | rw [if_neg (by omega)] at c9_
                          exact ih_100 (o + 1) (x + 1) (by omega) (by rw [c9_]; omega) (by omega) (by omega) H locs hP hD hS ls (lv_sub hl [0, 1, 2, 3, 4, 5, 6, 7] rfl)
                exact lp_100 _ 0 0 (by omega) rfl (by omega) (Nat.lt_succ_self _) H locs hP hD hS ls (lv_sub hl [0, 1, 2, 3, 4, 5, 6, 7] rfl)
              · skip
                refine lv_goto (pc := 91) (tgt := 167) hx hb dX6_reached_91 (by decide) ?_
                refine lv_iinc (pc := 167) (v := iI (d + 1)) (lv' := [(6, .int (iI (d + 1))), (4, .long (lI b)), (3, .int (iI r9)), (2, .int (iI z_36)), (0, .ref (ad_36 200)), (1, .int (iI pt))]) hx hb dX6_reached_167 hl (k := 0) rfl (iI_add _ _) (by decide) rfl (fun ls hl => ?_)
                refine lv_goto (pc := 170) (tgt := 60) hx hb dX6_reached_170 (by decide) ?_
                exact ih_60 (d + 1) b (by omega) (by omega) (rm_st iB (by omega)) (by omega) H locs hP hD hS ls (lv_sub hl [0, 1, 2, 3, 4, 5] rfl)
      exact lp_60 _ 0 (-1) (by omega) (by omega) rm_0 (Nat.lt_succ_self _) H locs hP hD hS ls (lv_sub hl [0, 1, 2, 3, 4, 5] rfl)
    · skip
      exfalso
      omega
