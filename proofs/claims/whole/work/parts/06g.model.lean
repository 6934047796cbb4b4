theorem md_crC {sc : Nat → Int} {fn : Nat → Int → Int} {G1 G2 : Int → Int} {c : Nat} {d : Int} (h : mdC sc fn G1 G2) (hc : sc 0 = (c : Int)) (h6 : sc 0 < 6) : mdC (upS sc 0 (sc 0 + 1)) (crF fn c d) G1 G2 := by
  intro k j a1 a2 a3 a4
  have g := h k j a1 a2 a3 a4
  refine ⟨fun hk => ?_, fun hk => g.2 ?_⟩
  · have hk : k < sc 0 + 1 := hk
    rw [crF_st (by omega) (by omega), crF_fl (by omega) (by omega)]
    by_cases e : k.toNat = c
    · rw [if_pos e, if_pos e]
      exact g.2 (by omega)
    · rw [if_neg e, if_neg e]
      exact g.1 (by omega)
  · have hk : ¬ k < sc 0 + 1 := hk
    omega
theorem md_crU {sc : Nat → Int} {fn : Nat → Int → Int} {us ut : Int → Int} {c : Nat} {d x : Int} (h : mdU sc fn us ut) : mdU (upS sc 0 x) (crF fn c d) us ut := by
  unfold mdU
  rw [crF_low (i := 0) (by omega), crF_low (i := 1) (by omega)]
  exact h
theorem md_crT {sc : Nat → Int} {fn : Nat → Int → Int} {ub : Int → Int} {c : Nat} {d x : Int} (h : mdT sc fn ub) : mdT (upS sc 0 x) (crF fn c d) ub := by
  unfold mdT
  rw [crF_low (i := 5) (by omega), crF_low (i := 6) (by omega), crF_low (i := 7) (by omega)]
  exact h

abbrev rmX6_addCurve : Room := { frames := 2, cells := 0, slots := 0, locals := 45 }
theorem hiX6_addCurve_6 : ∀ w ∈ wsX60, w ∈ wsX6_addCurve := by decide +kernel
set_option maxHeartbeats 4000000 in
set_option maxRecDepth 100000 in
theorem c_X6_addCurve (l : Launch) (D : va_G) (cA : Nat → ClassId) (ad : Nat → Nat) (w : Nat → Option va_E) (sz : Nat) (th : Int) (sc : Nat → Int) (fn : Nat → Int → Int) (hI : bkInv sc fn) (hmd : mdS cA ad w th sc fn) (d : Int) (hd_ : (-2147483648 ≤ d ∧ d < 2147483648)) : Met l yX6_addCurve wsX6_addCurve rmX6_addCurve (gV D cA ad w sz [.ref (ad 200), .int (iI d)]) (gW D (fun v9 ad1 w1 => ∃ (th2 : Int) (sc2 : Nat → Int) (fn2 : Nat → Int → Int), mdS cA ad1 w1 th2 sc2 fn2 ∧ bkInv sc2 fn2 ∧ keepM ad ad1 w w1 ∧ ((th2 = 0 ∧ (∃ c : Nat, sc 0 = (c : Int) ∧ sc2 = upS sc 0 (sc 0 + 1) ∧ fn2 = crF fn c d ∧ (0 ≤ d ∧ d < 400) ∧ sc 0 < 6 ∧ (∀ j : Int, 0 ≤ j → j < sc 0 → fn 8 j ≠ d) ∧ v9 = some (.int (iI (sc 0))))) ∨ (th2 = 1 ∧ v9 = some (.int (iI 0)) ∧ sc2 = sc ∧ fn2 = fn ∧ (¬ (0 ≤ d ∧ d < 400))) ∨ (th2 = 2 ∧ v9 = some (.int (iI 0)) ∧ sc2 = sc ∧ fn2 = fn ∧ ((0 ≤ d ∧ d < 400) ∧ (¬ sc 0 < 6 ∨ ∃ j : Int, 0 ≤ j ∧ j < sc 0 ∧ fn 8 j = d))))) (gA ad w sz)) 0 0 (gA ad w sz) := by
  refine Met.ofW (cc := cX6_addCurve) (maxL := 4) (ret := (some .int)) (by decide) rfl ?_
  intro p e s m args below meth c s₁ B hml hv
  obtain ⟨hav, hsz, hP, hD0, hK, hB, hZ⟩ := hv
  have hx := B.exec
  have hb := B.bytes
  have hret := B.returns
  have hts := atoms_spec (ws := wsX6_addCurve) B.pre
  have hown : s.vm.findClass RX6 = some m.cls := findClass_of_methodNamed B.named
  have hlocks := B.notSynchronized
  subst hsz
  have hD := hD0.self (sz := s.heap.size)
  generalize hAe : gA ad w s.heap.size = A at hD hZ ⊢
  have hA : ∀ q : Nat, s.heap.size ≤ q → A q := fun q h => by rw [← hAe]; exact Or.inr h
  have hS : va_S A s.heap s.heap [] := va_S.rf
  have hi6 := hiX6_addCurve_6
  have hf9 := hts (.fieldLink RX6 9 "GaugeBookModel" "since" "[I") (by decide +kernel)
  have hf13 := hts (.fieldLink RX6 13 "GaugeBookModel" "many" "[I") (by decide +kernel)
  have hf55 := hts (.fieldLink RX6 55 "GaugeBookModel" "thrown" "I") (by decide +kernel)
  have hf64 := hts (.fieldLink RX6 64 "GaugeBookModel" "curves" "I") (by decide +kernel)
  have hf77 := hts (.fieldLink RX6 77 "GaugeBookModel" "isFresh" "Z") (by decide +kernel)
  have he9 : entryFrame m args 4 = F0 m 0 ((lg_sl ([.ref (ad 200), .int (iI d)] : List Value) ++ List.replicate (4 - (lg_sl ([.ref (ad 200), .int (iI d)] : List Value)).length) Slot.unset).toArray) [] := by rw [hav, lg_entry_eq]
  rw [he9]
  have hl := lv_entry ([.ref (ad 200), .int (iI d)] : List Value) (n := 4) (Nat.le_of_ble_eq_true rfl)
  generalize (lg_sl ([.ref (ad 200), .int (iI d)] : List Value) ++ List.replicate (4 - (lg_sl ([.ref (ad 200), .int (iI d)] : List Value)).length) Slot.unset).toArray = ls at hl ⊢
  have hl : lv_has ls 4 [(0, .ref (ad 200)), (1, .int (iI d))] := hl
  obtain ⟨Q9, hQ9⟩ : ∃ z, z = MQ below (gW D (fun v9 ad1 w1 => ∃ (th2 : Int) (sc2 : Nat → Int) (fn2 : Nat → Int → Int), mdS cA ad1 w1 th2 sc2 fn2 ∧ bkInv sc2 fn2 ∧ keepM ad ad1 w w1 ∧ ((th2 = 0 ∧ (∃ c : Nat, sc 0 = (c : Int) ∧ sc2 = upS sc 0 (sc 0 + 1) ∧ fn2 = crF fn c d ∧ (0 ≤ d ∧ d < 400) ∧ sc 0 < 6 ∧ (∀ j : Int, 0 ≤ j → j < sc 0 → fn 8 j ≠ d) ∧ v9 = some (.int (iI (sc 0))))) ∨ (th2 = 1 ∧ v9 = some (.int (iI 0)) ∧ sc2 = sc ∧ fn2 = fn ∧ (¬ (0 ≤ d ∧ d < 400))) ∨ (th2 = 2 ∧ v9 = some (.int (iI 0)) ∧ sc2 = sc ∧ fn2 = fn ∧ ((0 ≤ d ∧ d < 400) ∧ (¬ sc 0 < 6 ∨ ∃ j : Int, 0 ≤ j ∧ j < sc 0 ∧ fn 8 j = d))))) A) args s 0 0 A := ⟨_, rfl⟩
  rw [← hQ9]
  show W p l e rmX6_addCurve s m args below meth c s.heap [] 0 0 Q9 (F0 m 0 ls [])
  obtain ⟨H, hHe⟩ : ∃ z, z = s.heap := ⟨_, rfl⟩
  obtain ⟨locs, hLe⟩ : ∃ z, z = ([] : List Loc) := ⟨_, rfl⟩
  have hP : gP D vwCl ad w H := by rw [hHe]; exact hP
  have hS : va_S A s.heap H locs := by rw [hHe, hLe]; exact va_S.rf
  rw [show W p l e rmX6_addCurve s m args below meth c s.heap [] 0 0 Q9 (F0 m 0 ls []) = W p l e rmX6_addCurve s m args below meth c H locs 0 0 Q9 (F0 m 0 ls []) by rw [hHe, hLe]]
  clear hHe hLe
  obtain ⟨fr, G1, G2, us, ut, ub, S, F, ⟨k0, k1, k2, k3, k4, k5, k6, k7, k8, k9, k10, k11, k12⟩, hG1, hG2, hus, hut, hub, hS9, hF, hmc, hmu, hmt, hrk⟩ := hmd
  have hI1 := hI.1
  refine lv_aload_n (pc := 0) hx hb dX6_addCurve_0 rfl (lv_at hl 0 rfl) ?_
  refine k_iconst (pc := 1) hx hb dX6_addCurve_1 ?_
  refine k_put (pc := 2) (ci := 6) (C := RX6) (T := TX6) (N := 19) (ty := .int) (v := .int (iI 0)) (w1 := (up w 200 (oB 6 [.int (iI 0), .int (iI (sc 0)), .ref (ad 201), .ref (ad 202), .ref (ad 203), .ref (ad 204), .int (iI (sc 1)), .ref (ad 205), .ref (ad 206), .ref (ad 207), .ref (ad 208), .ref (ad 209), .int (iI (sc 2)), .int (iI (sc 3)), .int (iI (sc 4)), .ref (ad 210), .int (iI fr), .ref (ad 211), .ref (ad 212)]))) hx hb hts hi6 tyX6 tyX6_ok nmX6 hown hK hP hD hS 200 k0 rfl 0 (by decide) hf55 (fun _ h9 => h9) rfl (by decide +kernel) rfl rfl (Nat.le_of_ble_eq_true rfl) rfl dX6_addCurve_2 (fun H locs hP hD hS => ?_)
  refine lv_iload_n (pc := 5) hx hb dX6_addCurve_5 rfl (lv_at hl 1 rfl) ?_
  refine k_call0 (pc := 6) (va_runS (As := [.int (iI d)]) (rest := []) ⟨hx, hb, hml, hown, hts⟩ (c_X6_isDay l D cA ad (up w 200 (oB 6 [.int (iI 0), .int (iI (sc 0)), .ref (ad 201), .ref (ad 202), .ref (ad 203), .ref (ad 204), .int (iI (sc 1)), .ref (ad 205), .ref (ad 206), .ref (ad 207), .ref (ad 208), .ref (ad 209), .int (iI (sc 2)), .int (iI (sc 3)), .int (iI (sc 4)), .ref (ad 210), .int (iI fr), .ref (ad 211), .ref (ad 212)])) d (by omega)) (va_cwS 1 hts gX6_addCurve_X6_isDay rfl rfl rfl (by decide +kernel) ⟨Nat.le_of_ble_eq_true rfl, Nat.le_of_ble_eq_true rfl⟩) (gR_S hP hK hB) rfl rfl hl.1 rfl (lv_room (Nat.le_of_ble_eq_true rfl)) dX6_addCurve_6 ⟨Nat.le_of_ble_eq_true rfl, Nat.le_of_ble_eq_true rfl⟩) (fun v_6 hv_6 => ?_)
  obtain ⟨z_6, rfl, hz_6⟩ := hv_6
  refine W.eq (g2 := F0 m 9 ls [.int (iI z_6)]) rfl ?_
  refine k_if_ne (pc := 9) (tgt := 18) hx hb ⟨by omega, by omega⟩ dX6_addCurve_9 (by decide) (fun hc_9 => ?_) (fun hc_9 => ?_)
  · skip
    refine lv_aload_n (pc := 18) hx hb dX6_addCurve_18 rfl (lv_at hl 0 rfl) ?_
    refine k_get (pc := 19) (ci := 6) (C := RX6) (T := TX6) (N := 19) hx hb hts hi6 hown hK hP 200 (up_s _ _ _) rfl 1 (by decide) hf64 (fun _ h9 => h9) rfl dX6_addCurve_19 ?_
    refine k_bipush (pc := 22) hx hb dX6_addCurve_22 (by decide +kernel) ?_
    refine k_icmp_ne (pc := 24) (tgt := 31) hx hb ⟨by omega, by omega⟩ ⟨by omega, by omega⟩ dX6_addCurve_24 (by decide) (fun hc_24 => ?_) (fun hc_24 => ?_)
    · skip
      refine k_iconst (pc := 31) hx hb dX6_addCurve_31 ?_
      refine lv_istore_n (pc := 32) (lv' := [(2, .int (iI 0)), (0, .ref (ad 200)), (1, .int (iI d))]) hx hb dX6_addCurve_32 rfl hl (by decide) rfl (fun ls hl => ?_)
      refine k_iconst (pc := 33) hx hb dX6_addCurve_33 ?_
      refine lv_istore_n (pc := 34) (lv' := [(3, .int (iI 0)), (2, .int (iI 0)), (0, .ref (ad 200)), (1, .int (iI d))]) hx hb dX6_addCurve_34 rfl hl (by decide) rfl (fun ls hl => ?_)
      have lp_35 : ∀ (N9 : Nat) (i : Int) (b : Int), (0 ≤ i ∧ i ≤ sc 0 ∧ 0 ≤ b ∧ b ≤ 1) → ((b = 1 ∧ (¬ sc 0 < 6 ∨ ∃ j : Int, 0 ≤ j ∧ j < i ∧ fn 8 j = d)) ∨ (b = 0 ∧ sc 0 < 6 ∧ ∀ j : Int, 0 ≤ j → j < i → fn 8 j ≠ d)) → (sc 0 - i).toNat < N9 → ∀ (H : Heap) (locs : List Loc), gP D vwCl ad (up w 200 (oB 6 [.int (iI 0), .int (iI (sc 0)), .ref (ad 201), .ref (ad 202), .ref (ad 203), .ref (ad 204), .int (iI (sc 1)), .ref (ad 205), .ref (ad 206), .ref (ad 207), .ref (ad 208), .ref (ad 209), .int (iI (sc 2)), .int (iI (sc 3)), .int (iI (sc 4)), .ref (ad 210), .int (iI fr), .ref (ad 211), .ref (ad 212)])) H → gD A ad (up w 200 (oB 6 [.int (iI 0), .int (iI (sc 0)), .ref (ad 201), .ref (ad 202), .ref (ad 203), .ref (ad 204), .int (iI (sc 1)), .ref (ad 205), .ref (ad 206), .ref (ad 207), .ref (ad 208), .ref (ad 209), .int (iI (sc 2)), .int (iI (sc 3)), .int (iI (sc 4)), .ref (ad 210), .int (iI fr), .ref (ad 211), .ref (ad 212)])) → va_S A s.heap H locs → ∀ (ls : Array Slot), lv_has ls 4 [(3, .int (iI i)), (2, .int (iI b)), (0, .ref (ad 200)), (1, .int (iI d))] → W p l e rmX6_addCurve s m args below meth c H locs 0 0 Q9 (F0 m 35 ls []) := by
        intro N9
        induction N9 with
        | zero => intro i b i0 iB hmu; exact absurd hmu (Nat.not_lt_zero _)
        | succ N9 ih_35 =>
          intro i b i0 iB hmu_35 H locs hP hD hS ls hl
          refine lv_iload_n (pc := 35) hx hb dX6_addCurve_35 rfl (lv_at hl 0 rfl) ?_
          refine lv_aload_n (pc := 36) hx hb dX6_addCurve_36 rfl (lv_at hl 2 rfl) ?_
          refine k_get (pc := 37) (ci := 6) (C := RX6) (T := TX6) (N := 19) hx hb hts hi6 hown hK hP 200 (up_s _ _ _) rfl 1 (by decide) hf64 (fun _ h9 => h9) rfl dX6_addCurve_37 ?_
          refine k_icmp_ge (pc := 40) (tgt := 69) hx hb ⟨by omega, by omega⟩ ⟨by omega, by omega⟩ dX6_addCurve_40 (by decide) (fun hc_40 => ?_) (fun hc_40 => ?_)
          · skip
            refine lv_iload_n (pc := 69) hx hb dX6_addCurve_69 rfl (lv_at hl 1 rfl) ?_
            refine k_if_eq (pc := 70) (tgt := 79) hx hb ⟨by omega, by omega⟩ dX6_addCurve_70 (by decide) (fun hc_70 => ?_) (fun hc_70 => ?_)
            · skip
              obtain ⟨cc, hcc⟩ : ∃ cc : Nat, sc 0 = (cc : Int) := ⟨(sc 0).toNat, by omega⟩
              have hn6_ : sc 0 < 6 := by rcases iB with ⟨e1, e2⟩ | ⟨e1, e2, e3⟩; (exfalso; omega); exact e2
              have hnc : ∀ j : Int, 0 ≤ j → j < sc 0 → fn 8 j ≠ d := by rcases iB with ⟨e1, e2⟩ | ⟨e1, e2, e3⟩; (exfalso; omega); exact fun j a1 a2 => e3 j a1 (by omega)
              refine lv_aload_n (pc := 79) hx hb dX6_addCurve_79 rfl (lv_at hl 2 rfl) ?_
              refine k_get (pc := 80) (ci := 6) (C := RX6) (T := TX6) (N := 19) hx hb hts hi6 hown hK hP 200 (up_s _ _ _) rfl 2 (by decide) hf9 (fun _ h9 => h9) rfl dX6_addCurve_80 ?_
              refine lv_aload_n (pc := 83) hx hb dX6_addCurve_83 rfl (lv_at hl 2 rfl) ?_
              refine k_get (pc := 84) (ci := 6) (C := RX6) (T := TX6) (N := 19) hx hb hts hi6 hown hK hP 200 (up_s _ _ _) rfl 1 (by decide) hf64 (fun _ h9 => h9) rfl dX6_addCurve_84 ?_
              refine lv_iload_n (pc := 87) hx hb dX6_addCurve_87 rfl (lv_at hl 3 rfl) ?_
              refine k_iast (pc := 88) (w1 := (up (up w 200 (oB 6 [.int (iI 0), .int (iI (sc 0)), .ref (ad 201), .ref (ad 202), .ref (ad 203), .ref (ad 204), .int (iI (sc 1)), .ref (ad 205), .ref (ad 206), .ref (ad 207), .ref (ad 208), .ref (ad 209), .int (iI (sc 2)), .int (iI (sc 3)), .int (iI (sc 4)), .ref (ad 210), .int (iI fr), .ref (ad 211), .ref (ad 212)])) 201 (eI (cA 0) 6 (updI (fn 8) (sc 0) d)))) hx hb hK hP hD hS 201 0 (up_n (by decide) k1) rfl (by omega) (by omega) (by omega) rfl dX6_addCurve_88 (fun H locs hP hD hS => ?_)
              refine lv_aload_n (pc := 89) hx hb dX6_addCurve_89 rfl (lv_at hl 2 rfl) ?_
              refine k_get (pc := 90) (ci := 6) (C := RX6) (T := TX6) (N := 19) hx hb hts hi6 hown hK hP 200 (up_n (by decide) (up_s _ _ _)) rfl 3 (by decide) hf13 (fun _ h9 => h9) rfl dX6_addCurve_90 ?_
              refine lv_aload_n (pc := 93) hx hb dX6_addCurve_93 rfl (lv_at hl 2 rfl) ?_
              refine k_get (pc := 94) (ci := 6) (C := RX6) (T := TX6) (N := 19) hx hb hts hi6 hown hK hP 200 (up_n (by decide) (up_s _ _ _)) rfl 1 (by decide) hf64 (fun _ h9 => h9) rfl dX6_addCurve_94 ?_
              refine k_iconst (pc := 97) hx hb dX6_addCurve_97 ?_
              refine k_iast (pc := 98) (w1 := (up (up (up w 200 (oB 6 [.int (iI 0), .int (iI (sc 0)), .ref (ad 201), .ref (ad 202), .ref (ad 203), .ref (ad 204), .int (iI (sc 1)), .ref (ad 205), .ref (ad 206), .ref (ad 207), .ref (ad 208), .ref (ad 209), .int (iI (sc 2)), .int (iI (sc 3)), .int (iI (sc 4)), .ref (ad 210), .int (iI fr), .ref (ad 211), .ref (ad 212)])) 201 (eI (cA 0) 6 (updI (fn 8) (sc 0) d))) 202 (eI (cA 0) 6 (updI (fn 9) (sc 0) 0)))) hx hb hK hP hD hS 202 0 (up_n (by decide) (up_n (by decide) k2)) rfl (by omega) (by omega) (by omega) rfl dX6_addCurve_98 (fun H locs hP hD hS => ?_)
              refine lv_aload_n (pc := 99) hx hb dX6_addCurve_99 rfl (lv_at hl 2 rfl) ?_
              refine lv_dup (pc := 100) hx hb dX6_addCurve_100 rfl ?_
              refine k_get (pc := 101) (ci := 6) (C := RX6) (T := TX6) (N := 19) hx hb hts hi6 hown hK hP 200 (up_n (by decide) (up_n (by decide) (up_s _ _ _))) rfl 1 (by decide) hf64 (fun _ h9 => h9) rfl dX6_addCurve_101 ?_
              refine k_iconst (pc := 104) hx hb dX6_addCurve_104 ?_
              refine k_iadd (pc := 105) hx hb dX6_addCurve_105 ?_
              refine k_put (pc := 106) (ci := 6) (C := RX6) (T := TX6) (N := 19) (ty := .int) (v := .int (iI ((sc 0) + 1))) (w1 := (up (up (up w 200 (oB 6 [.int (iI 0), .int (iI ((sc 0) + 1)), .ref (ad 201), .ref (ad 202), .ref (ad 203), .ref (ad 204), .int (iI (sc 1)), .ref (ad 205), .ref (ad 206), .ref (ad 207), .ref (ad 208), .ref (ad 209), .int (iI (sc 2)), .int (iI (sc 3)), .int (iI (sc 4)), .ref (ad 210), .int (iI fr), .ref (ad 211), .ref (ad 212)])) 201 (eI (cA 0) 6 (updI (fn 8) (sc 0) d))) 202 (eI (cA 0) 6 (updI (fn 9) (sc 0) 0)))) hx hb hts hi6 tyX6 tyX6_ok nmX6 hown hK hP hD hS 200 (up_n (by decide) (up_n (by decide) (up_s _ _ _))) rfl 1 (by decide) hf64 (fun _ h9 => h9) rfl (by decide +kernel) rfl rfl (Nat.le_of_ble_eq_true rfl) ((up_co _ _ _ (by decide)).trans (congrArg (fun u => up u 202 _) ((up_co _ _ _ (by decide)).trans (congrArg (fun u => up u 201 _) (up_up _ _ _ _))))) dX6_addCurve_106 (fun H locs hP hD hS => ?_)
              refine lv_aload_n (pc := 109) hx hb dX6_addCurve_109 rfl (lv_at hl 2 rfl) ?_
              refine k_iconst (pc := 110) hx hb dX6_addCurve_110 ?_
              refine k_put (pc := 111) (ci := 6) (C := RX6) (T := TX6) (N := 19) (ty := .boolean) (v := .int (iI 0)) (w1 := (up (up (up w 200 (oB 6 [.int (iI 0), .int (iI ((sc 0) + 1)), .ref (ad 201), .ref (ad 202), .ref (ad 203), .ref (ad 204), .int (iI (sc 1)), .ref (ad 205), .ref (ad 206), .ref (ad 207), .ref (ad 208), .ref (ad 209), .int (iI (sc 2)), .int (iI (sc 3)), .int (iI (sc 4)), .ref (ad 210), .int (iI 0), .ref (ad 211), .ref (ad 212)])) 201 (eI (cA 0) 6 (updI (fn 8) (sc 0) d))) 202 (eI (cA 0) 6 (updI (fn 9) (sc 0) 0)))) hx hb hts hi6 tyX6 tyX6_ok nmX6 hown hK hP hD hS 200 (up_n (by decide) (up_n (by decide) (up_s _ _ _))) rfl 16 (by decide) hf77 (fun _ h9 => h9) rfl (by decide +kernel) (by decide +kernel) rfl (Nat.le_of_ble_eq_true rfl) ((up_co _ _ _ (by decide)).trans (congrArg (fun u => up u 202 _) ((up_co _ _ _ (by decide)).trans (congrArg (fun u => up u 201 _) (up_up _ _ _ _))))) dX6_addCurve_111 (fun H locs hP hD hS => ?_)
              refine lv_aload_n (pc := 114) hx hb dX6_addCurve_114 rfl (lv_at hl 2 rfl) ?_
              refine k_get (pc := 115) (ci := 6) (C := RX6) (T := TX6) (N := 19) hx hb hts hi6 hown hK hP 200 (up_n (by decide) (up_n (by decide) (up_s _ _ _))) rfl 1 (by decide) hf64 (fun _ h9 => h9) rfl dX6_addCurve_115 ?_
              refine k_iconst (pc := 118) hx hb dX6_addCurve_118 ?_
              refine k_isub (pc := 119) hx hb dX6_addCurve_119 ?_
              have he_120 : ((sc 0) + 1) - 1 = sc 0 := by omega
              rw [he_120]
              have hmd2 : mdS cA ad (up (up (up w 200 (oB 6 [.int (iI 0), .int (iI ((sc 0) + 1)), .ref (ad 201), .ref (ad 202), .ref (ad 203), .ref (ad 204), .int (iI (sc 1)), .ref (ad 205), .ref (ad 206), .ref (ad 207), .ref (ad 208), .ref (ad 209), .int (iI (sc 2)), .int (iI (sc 3)), .int (iI (sc 4)), .ref (ad 210), .int (iI 0), .ref (ad 211), .ref (ad 212)])) 201 (eI (cA 0) 6 (updI (fn 8) (sc 0) d))) 202 (eI (cA 0) 6 (updI (fn 9) (sc 0) 0))) 0 (upS sc 0 (sc 0 + 1)) (crF fn cc d) := by refine ⟨0, G1, G2, us, ut, ub, S, F, ?_, hG1, hG2, hus, hut, hub, hS9, hF, md_crC hmc hcc (by omega), md_crU hmu, md_crT hmt, Or.inl rfl⟩; unfold mdAt; rw [crF_8, crF_9, crF_low (i := 3) (by omega), crF_low (i := 2) (by omega), crF_low (i := 4) (by omega), ← hcc]; exact ⟨(up_n (by decide) (up_n (by decide) (up_s _ _ _))), (up_n (by decide) (up_s _ _ _)), (up_s _ _ _), (up_n (by decide) (up_n (by decide) (up_n (by decide) k3))), (up_n (by decide) (up_n (by decide) (up_n (by decide) k4))), (up_n (by decide) (up_n (by decide) (up_n (by decide) k5))), (up_n (by decide) (up_n (by decide) (up_n (by decide) k6))), (up_n (by decide) (up_n (by decide) (up_n (by decide) k7))), (up_n (by decide) (up_n (by decide) (up_n (by decide) k8))), (up_n (by decide) (up_n (by decide) (up_n (by decide) k9))), (up_n (by decide) (up_n (by decide) (up_n (by decide) k10))), (up_n (by decide) (up_n (by decide) (up_n (by decide) k11))), (up_n (by decide) (up_n (by decide) (up_n (by decide) k12)))⟩
              rw [hQ9]
              exact W.iret (v := iI (sc 0)) hx hb hret (fun t ht hW => ⟨⟨some (.int (iI (sc 0))), ad, (up (up (up w 200 (oB 6 [.int (iI 0), .int (iI ((sc 0) + 1)), .ref (ad 201), .ref (ad 202), .ref (ad 203), .ref (ad 204), .int (iI (sc 1)), .ref (ad 205), .ref (ad 206), .ref (ad 207), .ref (ad 208), .ref (ad 209), .int (iI (sc 2)), .int (iI (sc 3)), .int (iI (sc 4)), .ref (ad 210), .int (iI 0), .ref (ad 211), .ref (ad 212)])) 201 (eI (cA 0) 6 (updI (fn 8) (sc 0) d))) 202 (eI (cA 0) 6 (updI (fn 9) (sc 0) 0))), rfl, ⟨0, _, _, hmd2, inv_cr hI hcc (by omega) (by omega), ⟨rfl, fun r hr => ⟨(up_n (by omega) (up_n (by omega) (up_n (by omega) rfl))), rfl⟩⟩, Or.inl ⟨rfl, cc, hcc, rfl, rfl, by omega, by omega, hnc, rfl⟩⟩, by rw [ht]; exact hP, hD⟩, hS.F ht⟩) hS.2.2 dX6_addCurve_120
            · skip
              have hd9_ : 0 ≤ d ∧ d < 400 := by clear iB; omega
              have hq2_ : ¬ sc 0 < 6 ∨ ∃ j : Int, 0 ≤ j ∧ j < sc 0 ∧ fn 8 j = d := by rcases iB with ⟨e1, e2⟩ | ⟨e1, e2, e3⟩; (rcases e2 with e2 | ⟨j, j1, j2, j3⟩; exact Or.inl e2; exact Or.inr ⟨j, j1, by omega, j3⟩); (exfalso; omega)
              clear iB
              refine lv_aload_n (pc := 73) hx hb dX6_addCurve_73 rfl (lv_at hl 2 rfl) ?_
              refine k_iconst (pc := 74) hx hb dX6_addCurve_74 ?_
              refine k_call1 (pc := 75) (va_runV (As := [.int (iI 2)]) (rest := []) ⟨hx, hb, hml, hown, hts⟩ (c_X6_fail l D cA ad (up w 200 (oB 6 [.int (iI 0), .int (iI (sc 0)), .ref (ad 201), .ref (ad 202), .ref (ad 203), .ref (ad 204), .int (iI (sc 1)), .ref (ad 205), .ref (ad 206), .ref (ad 207), .ref (ad 208), .ref (ad 209), .int (iI (sc 2)), .int (iI (sc 3)), .int (iI (sc 4)), .ref (ad 210), .int (iI fr), .ref (ad 211), .ref (ad 212)])) H.size 0 (sc 0) (sc 1) (sc 2) (sc 3) (sc 4) fr (up_s _ _ _) 2) (cwV 1 hts gX6_addCurve_X6_fail rfl rfl rfl (by decide +kernel) ⟨Nat.le_of_ble_eq_true rfl, Nat.le_of_ble_eq_true rfl⟩) (gV_V hP hD hK hB hS hA hZ 200 (ci := 6) rfl (up_s _ _ _)) rfl rfl hl.1 rfl (lv_room (Nat.le_of_ble_eq_true rfl)) dX6_addCurve_75 ⟨Nat.le_of_ble_eq_true rfl, Nat.le_of_ble_eq_true rfl⟩) hS (gA_sub hD hS hA) (fun v_75 ad_75 w_75 H locs hv_75 hP hD hS => ?_)
              obtain ⟨hv1, hv2, hv3⟩ := hv_75
              subst hv1
              rw [hv2, hv3] at hP hD
              rw [show up ((up w 200 (oB 6 [.int (iI 0), .int (iI (sc 0)), .ref (ad 201), .ref (ad 202), .ref (ad 203), .ref (ad 204), .int (iI (sc 1)), .ref (ad 205), .ref (ad 206), .ref (ad 207), .ref (ad 208), .ref (ad 209), .int (iI (sc 2)), .int (iI (sc 3)), .int (iI (sc 4)), .ref (ad 210), .int (iI fr), .ref (ad 211), .ref (ad 212)]))) 200 (oB 6 [.int (iI 2), .int (iI (sc 0)), .ref (ad 201), .ref (ad 202), .ref (ad 203), .ref (ad 204), .int (iI (sc 1)), .ref (ad 205), .ref (ad 206), .ref (ad 207), .ref (ad 208), .ref (ad 209), .int (iI (sc 2)), .int (iI (sc 3)), .int (iI (sc 4)), .ref (ad 210), .int (iI fr), .ref (ad 211), .ref (ad 212)]) = _ from (up_up _ _ _ _)] at hP hD
              refine W.eq (g2 := F0 m 78 ls [.int (iI 0)]) rfl ?_
              refine W.cs (cells' := 0) (slots' := 0) rfl rfl ?_
              rw [hQ9]
              exact W.iret (v := iI 0) hx hb hret (fun t ht hW => ⟨⟨some (.int (iI 0)), ad, (up w 200 (oB 6 [.int (iI 2), .int (iI (sc 0)), .ref (ad 201), .ref (ad 202), .ref (ad 203), .ref (ad 204), .int (iI (sc 1)), .ref (ad 205), .ref (ad 206), .ref (ad 207), .ref (ad 208), .ref (ad 209), .int (iI (sc 2)), .int (iI (sc 3)), .int (iI (sc 4)), .ref (ad 210), .int (iI fr), .ref (ad 211), .ref (ad 212)])), rfl, ⟨2, sc, fn, ⟨fr, G1, G2, us, ut, ub, S, F, ⟨(up_s _ _ _), (up_n (by decide) k1), (up_n (by decide) k2), (up_n (by decide) k3), (up_n (by decide) k4), (up_n (by decide) k5), (up_n (by decide) k6), (up_n (by decide) k7), (up_n (by decide) k8), (up_n (by decide) k9), (up_n (by decide) k10), (up_n (by decide) k11), (up_n (by decide) k12)⟩, hG1, hG2, hus, hut, hub, hS9, hF, hmc, hmu, hmt, hrk⟩, hI, ⟨rfl, fun r hr => ⟨(up_n (by omega) rfl), rfl⟩⟩, Or.inr (Or.inr (⟨rfl, rfl, rfl, rfl, ⟨hd9_, hq2_⟩⟩))⟩, by rw [ht]; exact hP, hD⟩, hS.F ht⟩) hS.2.2 dX6_addCurve_78
          · skip
            refine lv_iload_n (pc := 43) hx hb dX6_addCurve_43 rfl (lv_at hl 1 rfl) ?_
            refine k_if_ne (pc := 44) (tgt := 57) hx hb ⟨by omega, by omega⟩ dX6_addCurve_44 (by decide) (fun hc_44 => ?_) (fun hc_44 => ?_)
            · skip
              refine k_iconst (pc := 57) hx hb dX6_addCurve_57 ?_
              refine lv_goto (pc := 58) (tgt := 62) hx hb dX6_addCurve_58 (by decide) ?_
              refine lv_istore_n (pc := 62) (lv' := [(2, .int (iI 1)), (3, .int (iI i)), (0, .ref (ad 200)), (1, .int (iI d))]) hx hb dX6_addCurve_62 rfl hl (by decide) rfl (fun ls hl => ?_)
              refine lv_iinc (pc := 63) (v := iI (i + 1)) (lv' := [(3, .int (iI (i + 1))), (2, .int (iI 1)), (0, .ref (ad 200)), (1, .int (iI d))]) hx hb dX6_addCurve_63 hl (k := 1) rfl (iI_add _ _) (by decide) rfl (fun ls hl => ?_)
              refine lv_goto (pc := 66) (tgt := 35) hx hb dX6_addCurve_66 (by decide) ?_
              exact ih_35 (i + 1) 1 (by omega) (Or.inl ⟨rfl, by rcases iB with ⟨e1, e2⟩ | ⟨e1, e2, e3⟩; (rcases e2 with e2 | ⟨j, j1, j2, j3⟩; exact Or.inl e2; exact Or.inr ⟨j, j1, by omega, j3⟩); first | (exfalso; omega) | exact Or.inr ⟨i, by omega, by omega, by omega⟩⟩) (by omega) H locs hP hD hS ls (lv_sub hl [0, 1, 2, 3] rfl)
            · skip
              refine lv_aload_n (pc := 47) hx hb dX6_addCurve_47 rfl (lv_at hl 2 rfl) ?_
              refine k_get (pc := 48) (ci := 6) (C := RX6) (T := TX6) (N := 19) hx hb hts hi6 hown hK hP 200 (up_s _ _ _) rfl 2 (by decide) hf9 (fun _ h9 => h9) rfl dX6_addCurve_48 ?_
              refine lv_iload_n (pc := 51) hx hb dX6_addCurve_51 rfl (lv_at hl 0 rfl) ?_
              refine k_iald (pc := 52) hx hb hK hP 201 0 (up_n (by decide) k1) rfl (by omega) (by omega) (by omega) dX6_addCurve_52 ?_
              have hq_52 := hI.2.2.2.2.2.2.2.2.1 i
              refine lv_iload_n (pc := 53) hx hb dX6_addCurve_53 rfl (lv_at hl 3 rfl) ?_
              refine k_icmp_ne (pc := 54) (tgt := 61) hx hb ⟨by omega, by omega⟩ ⟨by omega, by omega⟩ dX6_addCurve_54 (by decide) (fun hc_54 => ?_) (fun hc_54 => ?_)
              · skip
                refine k_iconst (pc := 61) hx hb dX6_addCurve_61 ?_
                refine lv_istore_n (pc := 62) (lv' := [(2, .int (iI 0)), (3, .int (iI i)), (0, .ref (ad 200)), (1, .int (iI d))]) hx hb dX6_addCurve_62 rfl hl (by decide) rfl (fun ls hl => ?_)
                refine lv_iinc (pc := 63) (v := iI (i + 1)) (lv' := [(3, .int (iI (i + 1))), (2, .int (iI 0)), (0, .ref (ad 200)), (1, .int (iI d))]) hx hb dX6_addCurve_63 hl (k := 1) rfl (iI_add _ _) (by decide) rfl (fun ls hl => ?_)
                refine lv_goto (pc := 66) (tgt := 35) hx hb dX6_addCurve_66 (by decide) ?_
                exact ih_35 (i + 1) 0 (by omega) (Or.inr ⟨rfl, by rcases iB with ⟨e1, e2⟩ | ⟨e1, e2, e3⟩; (exfalso; omega); exact e2, fun j a1 a2 => by by_cases c9 : j = i; rw [c9]; omega; rcases iB with ⟨e1, e2⟩ | ⟨e1, e2, e3⟩; (exfalso; omega); exact e3 j a1 (by omega)⟩) (by omega) H locs hP hD hS ls (lv_sub hl [0, 1, 2, 3] rfl)
              · skip
                refine k_iconst (pc := 57) hx hb dX6_addCurve_57 ?_
                refine lv_goto (pc := 58) (tgt := 62) hx hb dX6_addCurve_58 (by decide) ?_
                refine lv_istore_n (pc := 62) (lv' := [(2, .int (iI 1)), (3, .int (iI i)), (0, .ref (ad 200)), (1, .int (iI d))]) hx hb dX6_addCurve_62 rfl hl (by decide) rfl (fun ls hl => ?_)
                refine lv_iinc (pc := 63) (v := iI (i + 1)) (lv' := [(3, .int (iI (i + 1))), (2, .int (iI 1)), (0, .ref (ad 200)), (1, .int (iI d))]) hx hb dX6_addCurve_63 hl (k := 1) rfl (iI_add _ _) (by decide) rfl (fun ls hl => ?_)
                refine lv_goto (pc := 66) (tgt := 35) hx hb dX6_addCurve_66 (by decide) ?_
                exact ih_35 (i + 1) 1 (by omega) (Or.inl ⟨rfl, by rcases iB with ⟨e1, e2⟩ | ⟨e1, e2, e3⟩; (rcases e2 with e2 | ⟨j, j1, j2, j3⟩; exact Or.inl e2; exact Or.inr ⟨j, j1, by omega, j3⟩); first | (exfalso; omega) | exact Or.inr ⟨i, by omega, by omega, by omega⟩⟩) (by omega) H locs hP hD hS ls (lv_sub hl [0, 1, 2, 3] rfl)
      exact lp_35 _ 0 0 (by omega) (by first | exact Or.inl ⟨rfl, Or.inl (by omega)⟩ | exact Or.inr ⟨rfl, by omega, fun j a1 a2 => by omega⟩) (Nat.lt_succ_self _) H locs hP hD hS ls (lv_sub hl [0, 1, 2, 3] rfl)
    · skip
      refine k_iconst (pc := 27) hx hb dX6_addCurve_27 ?_
      refine lv_goto (pc := 28) (tgt := 32) hx hb dX6_addCurve_28 (by decide) ?_
      refine lv_istore_n (pc := 32) (lv' := [(2, .int (iI 1)), (0, .ref (ad 200)), (1, .int (iI d))]) hx hb dX6_addCurve_32 rfl hl (by decide) rfl (fun ls hl => ?_)
      refine k_iconst (pc := 33) hx hb dX6_addCurve_33 ?_
      refine lv_istore_n (pc := 34) (lv' := [(3, .int (iI 0)), (2, .int (iI 1)), (0, .ref (ad 200)), (1, .int (iI d))]) hx hb dX6_addCurve_34 rfl hl (by decide) rfl (fun ls hl => ?_)
      have lp_35_2 : ∀ (N9 : Nat) (i : Int) (b : Int), (0 ≤ i ∧ i ≤ sc 0 ∧ 0 ≤ b ∧ b ≤ 1) → ((b = 1 ∧ (¬ sc 0 < 6 ∨ ∃ j : Int, 0 ≤ j ∧ j < i ∧ fn 8 j = d)) ∨ (b = 0 ∧ sc 0 < 6 ∧ ∀ j : Int, 0 ≤ j → j < i → fn 8 j ≠ d)) → (sc 0 - i).toNat < N9 → ∀ (H : Heap) (locs : List Loc), gP D vwCl ad (up w 200 (oB 6 [.int (iI 0), .int (iI (sc 0)), .ref (ad 201), .ref (ad 202), .ref (ad 203), .ref (ad 204), .int (iI (sc 1)), .ref (ad 205), .ref (ad 206), .ref (ad 207), .ref (ad 208), .ref (ad 209), .int (iI (sc 2)), .int (iI (sc 3)), .int (iI (sc 4)), .ref (ad 210), .int (iI fr), .ref (ad 211), .ref (ad 212)])) H → gD A ad (up w 200 (oB 6 [.int (iI 0), .int (iI (sc 0)), .ref (ad 201), .ref (ad 202), .ref (ad 203), .ref (ad 204), .int (iI (sc 1)), .ref (ad 205), .ref (ad 206), .ref (ad 207), .ref (ad 208), .ref (ad 209), .int (iI (sc 2)), .int (iI (sc 3)), .int (iI (sc 4)), .ref (ad 210), .int (iI fr), .ref (ad 211), .ref (ad 212)])) → va_S A s.heap H locs → ∀ (ls : Array Slot), lv_has ls 4 [(3, .int (iI i)), (2, .int (iI b)), (0, .ref (ad 200)), (1, .int (iI d))] → W p l e rmX6_addCurve s m args below meth c H locs 0 0 Q9 (F0 m 35 ls []) := by
        intro N9
        induction N9 with
        | zero => intro i b i0 iB hmu; exact absurd hmu (Nat.not_lt_zero _)
        | succ N9 ih_35 =>
          intro i b i0 iB hmu_35 H locs hP hD hS ls hl
          refine lv_iload_n (pc := 35) hx hb dX6_addCurve_35 rfl (lv_at hl 0 rfl) ?_
          refine lv_aload_n (pc := 36) hx hb dX6_addCurve_36 rfl (lv_at hl 2 rfl) ?_
          refine k_get (pc := 37) (ci := 6) (C := RX6) (T := TX6) (N := 19) hx hb hts hi6 hown hK hP 200 (up_s _ _ _) rfl 1 (by decide) hf64 (fun _ h9 => h9) rfl dX6_addCurve_37 ?_
          refine k_icmp_ge (pc := 40) (tgt := 69) hx hb ⟨by omega, by omega⟩ ⟨by omega, by omega⟩ dX6_addCurve_40 (by decide) (fun hc_40 => ?_) (fun hc_40 => ?_)
          · skip
            refine lv_iload_n (pc := 69) hx hb dX6_addCurve_69 rfl (lv_at hl 1 rfl) ?_
            refine k_if_eq (pc := 70) (tgt := 79) hx hb ⟨by omega, by omega⟩ dX6_addCurve_70 (by decide) (fun hc_70 => ?_) (fun hc_70 => ?_)
            · skip
              obtain ⟨cc, hcc⟩ : ∃ cc : Nat, sc 0 = (cc : Int) := ⟨(sc 0).toNat, by omega⟩
              have hn6_ : sc 0 < 6 := by rcases iB with ⟨e1, e2⟩ | ⟨e1, e2, e3⟩; (exfalso; omega); exact e2
              have hnc : ∀ j : Int, 0 ≤ j → j < sc 0 → fn 8 j ≠ d := by rcases iB with ⟨e1, e2⟩ | ⟨e1, e2, e3⟩; (exfalso; omega); exact fun j a1 a2 => e3 j a1 (by omega)
              refine lv_aload_n (pc := 79) hx hb dX6_addCurve_79 rfl (lv_at hl 2 rfl) ?_
              refine k_get (pc := 80) (ci := 6) (C := RX6) (T := TX6) (N := 19) hx hb hts hi6 hown hK hP 200 (up_s _ _ _) rfl 2 (by decide) hf9 (fun _ h9 => h9) rfl dX6_addCurve_80 ?_
              refine lv_aload_n (pc := 83) hx hb dX6_addCurve_83 rfl (lv_at hl 2 rfl) ?_
              refine k_get (pc := 84) (ci := 6) (C := RX6) (T := TX6) (N := 19) hx hb hts hi6 hown hK hP 200 (up_s _ _ _) rfl 1 (by decide) hf64 (fun _ h9 => h9) rfl dX6_addCurve_84 ?_
              refine lv_iload_n (pc := 87) hx hb dX6_addCurve_87 rfl (lv_at hl 3 rfl) ?_
              refine k_iast (pc := 88) (w1 := (up (up w 200 (oB 6 [.int (iI 0), .int (iI (sc 0)), .ref (ad 201), .ref (ad 202), .ref (ad 203), .ref (ad 204), .int (iI (sc 1)), .ref (ad 205), .ref (ad 206), .ref (ad 207), .ref (ad 208), .ref (ad 209), .int (iI (sc 2)), .int (iI (sc 3)), .int (iI (sc 4)), .ref (ad 210), .int (iI fr), .ref (ad 211), .ref (ad 212)])) 201 (eI (cA 0) 6 (updI (fn 8) (sc 0) d)))) hx hb hK hP hD hS 201 0 (up_n (by decide) k1) rfl (by omega) (by omega) (by omega) rfl dX6_addCurve_88 (fun H locs hP hD hS => ?_)
              refine lv_aload_n (pc := 89) hx hb dX6_addCurve_89 rfl (lv_at hl 2 rfl) ?_
              refine k_get (pc := 90) (ci := 6) (C := RX6) (T := TX6) (N := 19) hx hb hts hi6 hown hK hP 200 (up_n (by decide) (up_s _ _ _)) rfl 3 (by decide) hf13 (fun _ h9 => h9) rfl dX6_addCurve_90 ?_
              refine lv_aload_n (pc := 93) hx hb dX6_addCurve_93 rfl (lv_at hl 2 rfl) ?_
              refine k_get (pc := 94) (ci := 6) (C := RX6) (T := TX6) (N := 19) hx hb hts hi6 hown hK hP 200 (up_n (by decide) (up_s _ _ _)) rfl 1 (by decide) hf64 (fun _ h9 => h9) rfl dX6_addCurve_94 ?_
              refine k_iconst (pc := 97) hx hb dX6_addCurve_97 ?_
              refine k_iast (pc := 98) (w1 := (up (up (up w 200 (oB 6 [.int (iI 0), .int (iI (sc 0)), .ref (ad 201), .ref (ad 202), .ref (ad 203), .ref (ad 204), .int (iI (sc 1)), .ref (ad 205), .ref (ad 206), .ref (ad 207), .ref (ad 208), .ref (ad 209), .int (iI (sc 2)), .int (iI (sc 3)), .int (iI (sc 4)), .ref (ad 210), .int (iI fr), .ref (ad 211), .ref (ad 212)])) 201 (eI (cA 0) 6 (updI (fn 8) (sc 0) d))) 202 (eI (cA 0) 6 (updI (fn 9) (sc 0) 0)))) hx hb hK hP hD hS 202 0 (up_n (by decide) (up_n (by decide) k2)) rfl (by omega) (by omega) (by omega) rfl dX6_addCurve_98 (fun H locs hP hD hS => ?_)
              refine lv_aload_n (pc := 99) hx hb dX6_addCurve_99 rfl (lv_at hl 2 rfl) ?_
              refine lv_dup (pc := 100) hx hb dX6_addCurve_100 rfl ?_
              refine k_get (pc := 101) (ci := 6) (C := RX6) (T := TX6) (N := 19) hx hb hts hi6 hown hK hP 200 (up_n (by decide) (up_n (by decide) (up_s _ _ _))) rfl 1 (by decide) hf64 (fun _ h9 => h9) rfl dX6_addCurve_101 ?_
              refine k_iconst (pc := 104) hx hb dX6_addCurve_104 ?_
              refine k_iadd (pc := 105) hx hb dX6_addCurve_105 ?_
              refine k_put (pc := 106) (ci := 6) (C := RX6) (T := TX6) (N := 19) (ty := .int) (v := .int (iI ((sc 0) + 1))) (w1 := (up (up (up w 200 (oB 6 [.int (iI 0), .int (iI ((sc 0) + 1)), .ref (ad 201), .ref (ad 202), .ref (ad 203), .ref (ad 204), .int (iI (sc 1)), .ref (ad 205), .ref (ad 206), .ref (ad 207), .ref (ad 208), .ref (ad 209), .int (iI (sc 2)), .int (iI (sc 3)), .int (iI (sc 4)), .ref (ad 210), .int (iI fr), .ref (ad 211), .ref (ad 212)])) 201 (eI (cA 0) 6 (updI (fn 8) (sc 0) d))) 202 (eI (cA 0) 6 (updI (fn 9) (sc 0) 0)))) hx hb hts hi6 tyX6 tyX6_ok nmX6 hown hK hP hD hS 200 (up_n (by decide) (up_n (by decide) (up_s _ _ _))) rfl 1 (by decide) hf64 (fun _ h9 => h9) rfl (by decide +kernel) rfl rfl (Nat.le_of_ble_eq_true rfl) ((up_co _ _ _ (by decide)).trans (congrArg (fun u => up u 202 _) ((up_co _ _ _ (by decide)).trans (congrArg (fun u => up u 201 _) (up_up _ _ _ _))))) dX6_addCurve_106 (fun H locs hP hD hS => ?_)
              refine lv_aload_n (pc := 109) hx hb dX6_addCurve_109 rfl (lv_at hl 2 rfl) ?_
              refine k_iconst (pc := 110) hx hb dX6_addCurve_110 ?_
              refine k_put (pc := 111) (ci := 6) (C := RX6) (T := TX6) (N := 19) (ty := .boolean) (v := .int (iI 0)) (w1 := (up (up (up w 200 (oB 6 [.int (iI 0), .int (iI ((sc 0) + 1)), .ref (ad 201), .ref (ad 202), .ref (ad 203), .ref (ad 204), .int (iI (sc 1)), .ref (ad 205), .ref (ad 206), .ref (ad 207), .ref (ad 208), .ref (ad 209), .int (iI (sc 2)), .int (iI (sc 3)), .int (iI (sc 4)), .ref (ad 210), .int (iI 0), .ref (ad 211), .ref (ad 212)])) 201 (eI (cA 0) 6 (updI (fn 8) (sc 0) d))) 202 (eI (cA 0) 6 (updI (fn 9) (sc 0) 0)))) hx hb hts hi6 tyX6 tyX6_ok nmX6 hown hK hP hD hS 200 (up_n (by decide) (up_n (by decide) (up_s _ _ _))) rfl 16 (by decide) hf77 (fun _ h9 => h9) rfl (by decide +kernel) (by decide +kernel) rfl (Nat.le_of_ble_eq_true rfl) ((up_co _ _ _ (by decide)).trans (congrArg (fun u => up u 202 _) ((up_co _ _ _ (by decide)).trans (congrArg (fun u => up u 201 _) (up_up _ _ _ _))))) dX6_addCurve_111 (fun H locs hP hD hS => ?_)
              refine lv_aload_n (pc := 114) hx hb dX6_addCurve_114 rfl (lv_at hl 2 rfl) ?_
              refine k_get (pc := 115) (ci := 6) (C := RX6) (T := TX6) (N := 19) hx hb hts hi6 hown hK hP 200 (up_n (by decide) (up_n (by decide) (up_s _ _ _))) rfl 1 (by decide) hf64 (fun _ h9 => h9) rfl dX6_addCurve_115 ?_
              refine k_iconst (pc := 118) hx hb dX6_addCurve_118 ?_
              refine k_isub (pc := 119) hx hb dX6_addCurve_119 ?_
              have he_120 : ((sc 0) + 1) - 1 = sc 0 := by omega
              rw [he_120]
              have hmd2 : mdS cA ad (up (up (up w 200 (oB 6 [.int (iI 0), .int (iI ((sc 0) + 1)), .ref (ad 201), .ref (ad 202), .ref (ad 203), .ref (ad 204), .int (iI (sc 1)), .ref (ad 205), .ref (ad 206), .ref (ad 207), .ref (ad 208), .ref (ad 209), .int (iI (sc 2)), .int (iI (sc 3)), .int (iI (sc 4)), .ref (ad 210), .int (iI 0), .ref (ad 211), .ref (ad 212)])) 201 (eI (cA 0) 6 (updI (fn 8) (sc 0) d))) 202 (eI (cA 0) 6 (updI (fn 9) (sc 0) 0))) 0 (upS sc 0 (sc 0 + 1)) (crF fn cc d) := by refine ⟨0, G1, G2, us, ut, ub, S, F, ?_, hG1, hG2, hus, hut, hub, hS9, hF, md_crC hmc hcc (by omega), md_crU hmu, md_crT hmt, Or.inl rfl⟩; unfold mdAt; rw [crF_8, crF_9, crF_low (i := 3) (by omega), crF_low (i := 2) (by omega), crF_low (i := 4) (by omega), ← hcc]; exact ⟨(up_n (by decide) (up_n (by decide) (up_s _ _ _))), (up_n (by decide) (up_s _ _ _)), (up_s _ _ _), (up_n (by decide) (up_n (by decide) (up_n (by decide) k3))), (up_n (by decide) (up_n (by decide) (up_n (by decide) k4))), (up_n (by decide) (up_n (by decide) (up_n (by decide) k5))), (up_n (by decide) (up_n (by decide) (up_n (by decide) k6))), (up_n (by decide) (up_n (by decide) (up_n (by decide) k7))), (up_n (by decide) (up_n (by decide) (up_n (by decide) k8))), (up_n (by decide) (up_n (by decide) (up_n (by decide) k9))), (up_n (by decide) (up_n (by decide) (up_n (by decide) k10))), (up_n (by decide) (up_n (by decide) (up_n (by decide) k11))), (up_n (by decide) (up_n (by decide) (up_n (by decide) k12)))⟩
              rw [hQ9]
              exact W.iret (v := iI (sc 0)) hx hb hret (fun t ht hW => ⟨⟨some (.int (iI (sc 0))), ad, (up (up (up w 200 (oB 6 [.int (iI 0), .int (iI ((sc 0) + 1)), .ref (ad 201), .ref (ad 202), .ref (ad 203), .ref (ad 204), .int (iI (sc 1)), .ref (ad 205), .ref (ad 206), .ref (ad 207), .ref (ad 208), .ref (ad 209), .int (iI (sc 2)), .int (iI (sc 3)), .int (iI (sc 4)), .ref (ad 210), .int (iI 0), .ref (ad 211), .ref (ad 212)])) 201 (eI (cA 0) 6 (updI (fn 8) (sc 0) d))) 202 (eI (cA 0) 6 (updI (fn 9) (sc 0) 0))), rfl, ⟨0, _, _, hmd2, inv_cr hI hcc (by omega) (by omega), ⟨rfl, fun r hr => ⟨(up_n (by omega) (up_n (by omega) (up_n (by omega) rfl))), rfl⟩⟩, Or.inl ⟨rfl, cc, hcc, rfl, rfl, by omega, by omega, hnc, rfl⟩⟩, by rw [ht]; exact hP, hD⟩, hS.F ht⟩) hS.2.2 dX6_addCurve_120
            · skip
              have hd9_ : 0 ≤ d ∧ d < 400 := by clear iB; omega
              have hq2_ : ¬ sc 0 < 6 ∨ ∃ j : Int, 0 ≤ j ∧ j < sc 0 ∧ fn 8 j = d := by rcases iB with ⟨e1, e2⟩ | ⟨e1, e2, e3⟩; (rcases e2 with e2 | ⟨j, j1, j2, j3⟩; exact Or.inl e2; exact Or.inr ⟨j, j1, by omega, j3⟩); (exfalso; omega)
              clear iB
              refine lv_aload_n (pc := 73) hx hb dX6_addCurve_73 rfl (lv_at hl 2 rfl) ?_
              refine k_iconst (pc := 74) hx hb dX6_addCurve_74 ?_
              refine k_call1 (pc := 75) (va_runV (As := [.int (iI 2)]) (rest := []) ⟨hx, hb, hml, hown, hts⟩ (c_X6_fail l D cA ad (up w 200 (oB 6 [.int (iI 0), .int (iI (sc 0)), .ref (ad 201), .ref (ad 202), .ref (ad 203), .ref (ad 204), .int (iI (sc 1)), .ref (ad 205), .ref (ad 206), .ref (ad 207), .ref (ad 208), .ref (ad 209), .int (iI (sc 2)), .int (iI (sc 3)), .int (iI (sc 4)), .ref (ad 210), .int (iI fr), .ref (ad 211), .ref (ad 212)])) H.size 0 (sc 0) (sc 1) (sc 2) (sc 3) (sc 4) fr (up_s _ _ _) 2) (cwV 1 hts gX6_addCurve_X6_fail rfl rfl rfl (by decide +kernel) ⟨Nat.le_of_ble_eq_true rfl, Nat.le_of_ble_eq_true rfl⟩) (gV_V hP hD hK hB hS hA hZ 200 (ci := 6) rfl (up_s _ _ _)) rfl rfl hl.1 rfl (lv_room (Nat.le_of_ble_eq_true rfl)) dX6_addCurve_75 ⟨Nat.le_of_ble_eq_true rfl, Nat.le_of_ble_eq_true rfl⟩) hS (gA_sub hD hS hA) (fun v_75 ad_75 w_75 H locs hv_75 hP hD hS => ?_)
              obtain ⟨hv1, hv2, hv3⟩ := hv_75
              subst hv1
              rw [hv2, hv3] at hP hD
              rw [show up ((up w 200 (oB 6 [.int (iI 0), .int (iI (sc 0)), .ref (ad 201), .ref (ad 202), .ref (ad 203), .ref (ad 204), .int (iI (sc 1)), .ref (ad 205), .ref (ad 206), .ref (ad 207), .ref (ad 208), .ref (ad 209), .int (iI (sc 2)), .int (iI (sc 3)), .int (iI (sc 4)), .ref (ad 210), .int (iI fr), .ref (ad 211), .ref (ad 212)]))) 200 (oB 6 [.int (iI 2), .int (iI (sc 0)), .ref (ad 201), .ref (ad 202), .ref (ad 203), .ref (ad 204), .int (iI (sc 1)), .ref (ad 205), .ref (ad 206), .ref (ad 207), .ref (ad 208), .ref (ad 209), .int (iI (sc 2)), .int (iI (sc 3)), .int (iI (sc 4)), .ref (ad 210), .int (iI fr), .ref (ad 211), .ref (ad 212)]) = _ from (up_up _ _ _ _)] at hP hD
              refine W.eq (g2 := F0 m 78 ls [.int (iI 0)]) rfl ?_
              refine W.cs (cells' := 0) (slots' := 0) rfl rfl ?_
              rw [hQ9]
              exact W.iret (v := iI 0) hx hb hret (fun t ht hW => ⟨⟨some (.int (iI 0)), ad, (up w 200 (oB 6 [.int (iI 2), .int (iI (sc 0)), .ref (ad 201), .ref (ad 202), .ref (ad 203), .ref (ad 204), .int (iI (sc 1)), .ref (ad 205), .ref (ad 206), .ref (ad 207), .ref (ad 208), .ref (ad 209), .int (iI (sc 2)), .int (iI (sc 3)), .int (iI (sc 4)), .ref (ad 210), .int (iI fr), .ref (ad 211), .ref (ad 212)])), rfl, ⟨2, sc, fn, ⟨fr, G1, G2, us, ut, ub, S, F, ⟨(up_s _ _ _), (up_n (by decide) k1), (up_n (by decide) k2), (up_n (by decide) k3), (up_n (by decide) k4), (up_n (by decide) k5), (up_n (by decide) k6), (up_n (by decide) k7), (up_n (by decide) k8), (up_n (by decide) k9), (up_n (by decide) k10), (up_n (by decide) k11), (up_n (by decide) k12)⟩, hG1, hG2, hus, hut, hub, hS9, hF, hmc, hmu, hmt, hrk⟩, hI, ⟨rfl, fun r hr => ⟨(up_n (by omega) rfl), rfl⟩⟩, Or.inr (Or.inr (⟨rfl, rfl, rfl, rfl, ⟨hd9_, hq2_⟩⟩))⟩, by rw [ht]; exact hP, hD⟩, hS.F ht⟩) hS.2.2 dX6_addCurve_78
          · skip
            refine lv_iload_n (pc := 43) hx hb dX6_addCurve_43 rfl (lv_at hl 1 rfl) ?_
            refine k_if_ne (pc := 44) (tgt := 57) hx hb ⟨by omega, by omega⟩ dX6_addCurve_44 (by decide) (fun hc_44 => ?_) (fun hc_44 => ?_)
            · skip
              refine k_iconst (pc := 57) hx hb dX6_addCurve_57 ?_
              refine lv_goto (pc := 58) (tgt := 62) hx hb dX6_addCurve_58 (by decide) ?_
              refine lv_istore_n (pc := 62) (lv' := [(2, .int (iI 1)), (3, .int (iI i)), (0, .ref (ad 200)), (1, .int (iI d))]) hx hb dX6_addCurve_62 rfl hl (by decide) rfl (fun ls hl => ?_)
              refine lv_iinc (pc := 63) (v := iI (i + 1)) (lv' := [(3, .int (iI (i + 1))), (2, .int (iI 1)), (0, .ref (ad 200)), (1, .int (iI d))]) hx hb dX6_addCurve_63 hl (k := 1) rfl (iI_add _ _) (by decide) rfl (fun ls hl => ?_)
              refine lv_goto (pc := 66) (tgt := 35) hx hb dX6_addCurve_66 (by decide) ?_
              exact ih_35 (i + 1) 1 (by omega) (Or.inl ⟨rfl, by rcases iB with ⟨e1, e2⟩ | ⟨e1, e2, e3⟩; (rcases e2 with e2 | ⟨j, j1, j2, j3⟩; exact Or.inl e2; exact Or.inr ⟨j, j1, by omega, j3⟩); first | (exfalso; omega) | exact Or.inr ⟨i, by omega, by omega, by omega⟩⟩) (by omega) H locs hP hD hS ls (lv_sub hl [0, 1, 2, 3] rfl)
            · skip
              refine lv_aload_n (pc := 47) hx hb dX6_addCurve_47 rfl (lv_at hl 2 rfl) ?_
              refine k_get (pc := 48) (ci := 6) (C := RX6) (T := TX6) (N := 19) hx hb hts hi6 hown hK hP 200 (up_s _ _ _) rfl 2 (by decide) hf9 (fun _ h9 => h9) rfl dX6_addCurve_48 ?_
              refine lv_iload_n (pc := 51) hx hb dX6_addCurve_51 rfl (lv_at hl 0 rfl) ?_
              refine k_iald (pc := 52) hx hb hK hP 201 0 (up_n (by decide) k1) rfl (by omega) (by omega) (by omega) dX6_addCurve_52 ?_
              have hq_52 := hI.2.2.2.2.2.2.2.2.1 i
              refine lv_iload_n (pc := 53) hx hb dX6_addCurve_53 rfl (lv_at hl 3 rfl) ?_
              refine k_icmp_ne (pc := 54) (tgt := 61) hx hb ⟨by omega, by omega⟩ ⟨by omega, by omega⟩ dX6_addCurve_54 (by decide) (fun hc_54 => ?_) (fun hc_54 => ?_)
              · skip
                refine k_iconst (pc := 61) hx hb dX6_addCurve_61 ?_
                refine lv_istore_n (pc := 62) (lv' := [(2, .int (iI 0)), (3, .int (iI i)), (0, .ref (ad 200)), (1, .int (iI d))]) hx hb dX6_addCurve_62 rfl hl (by decide) rfl (fun ls hl => ?_)
                refine lv_iinc (pc := 63) (v := iI (i + 1)) (lv' := [(3, .int (iI (i + 1))), (2, .int (iI 0)), (0, .ref (ad 200)), (1, .int (iI d))]) hx hb dX6_addCurve_63 hl (k := 1) rfl (iI_add _ _) (by decide) rfl (fun ls hl => ?_)
                refine lv_goto (pc := 66) (tgt := 35) hx hb dX6_addCurve_66 (by decide) ?_
                exact ih_35 (i + 1) 0 (by omega) (Or.inr ⟨rfl, by rcases iB with ⟨e1, e2⟩ | ⟨e1, e2, e3⟩; (exfalso; omega); exact e2, fun j a1 a2 => by by_cases c9 : j = i; rw [c9]; omega; rcases iB with ⟨e1, e2⟩ | ⟨e1, e2, e3⟩; (exfalso; omega); exact e3 j a1 (by omega)⟩) (by omega) H locs hP hD hS ls (lv_sub hl [0, 1, 2, 3] rfl)
              · skip
                refine k_iconst (pc := 57) hx hb dX6_addCurve_57 ?_
                refine lv_goto (pc := 58) (tgt := 62) hx hb dX6_addCurve_58 (by decide) ?_
                refine lv_istore_n (pc := 62) (lv' := [(2, .int (iI 1)), (3, .int (iI i)), (0, .ref (ad 200)), (1, .int (iI d))]) hx hb dX6_addCurve_62 rfl hl (by decide) rfl (fun ls hl => ?_)
                refine lv_iinc (pc := 63) (v := iI (i + 1)) (lv' := [(3, .int (iI (i + 1))), (2, .int (iI 1)), (0, .ref (ad 200)), (1, .int (iI d))]) hx hb dX6_addCurve_63 hl (k := 1) rfl (iI_add _ _) (by decide) rfl (fun ls hl => ?_)
                refine lv_goto (pc := 66) (tgt := 35) hx hb dX6_addCurve_66 (by decide) ?_
                exact ih_35 (i + 1) 1 (by omega) (Or.inl ⟨rfl, by rcases iB with ⟨e1, e2⟩ | ⟨e1, e2, e3⟩; (rcases e2 with e2 | ⟨j, j1, j2, j3⟩; exact Or.inl e2; exact Or.inr ⟨j, j1, by omega, j3⟩); first | (exfalso; omega) | exact Or.inr ⟨i, by omega, by omega, by omega⟩⟩) (by omega) H locs hP hD hS ls (lv_sub hl [0, 1, 2, 3] rfl)
      exact lp_35_2 _ 0 1 (by omega) (by first | exact Or.inl ⟨rfl, Or.inl (by omega)⟩ | exact Or.inr ⟨rfl, by omega, fun j a1 a2 => by omega⟩) (Nat.lt_succ_self _) H locs hP hD hS ls (lv_sub hl [0, 1, 2, 3] rfl)
  · skip
    refine lv_aload_n (pc := 12) hx hb dX6_addCurve_12 rfl (lv_at hl 0 rfl) ?_
    refine k_iconst (pc := 13) hx hb dX6_addCurve_13 ?_
    refine k_call1 (pc := 14) (va_runV (As := [.int (iI 1)]) (rest := []) ⟨hx, hb, hml, hown, hts⟩ (c_X6_fail l D cA ad (up w 200 (oB 6 [.int (iI 0), .int (iI (sc 0)), .ref (ad 201), .ref (ad 202), .ref (ad 203), .ref (ad 204), .int (iI (sc 1)), .ref (ad 205), .ref (ad 206), .ref (ad 207), .ref (ad 208), .ref (ad 209), .int (iI (sc 2)), .int (iI (sc 3)), .int (iI (sc 4)), .ref (ad 210), .int (iI fr), .ref (ad 211), .ref (ad 212)])) H.size 0 (sc 0) (sc 1) (sc 2) (sc 3) (sc 4) fr (up_s _ _ _) 1) (cwV 1 hts gX6_addCurve_X6_fail rfl rfl rfl (by decide +kernel) ⟨Nat.le_of_ble_eq_true rfl, Nat.le_of_ble_eq_true rfl⟩) (gV_V hP hD hK hB hS hA hZ 200 (ci := 6) rfl (up_s _ _ _)) rfl rfl hl.1 rfl (lv_room (Nat.le_of_ble_eq_true rfl)) dX6_addCurve_14 ⟨Nat.le_of_ble_eq_true rfl, Nat.le_of_ble_eq_true rfl⟩) hS (gA_sub hD hS hA) (fun v_14 ad_14 w_14 H locs hv_14 hP hD hS => ?_)
    obtain ⟨hv1, hv2, hv3⟩ := hv_14
    subst hv1
    rw [hv2, hv3] at hP hD
    rw [show up ((up w 200 (oB 6 [.int (iI 0), .int (iI (sc 0)), .ref (ad 201), .ref (ad 202), .ref (ad 203), .ref (ad 204), .int (iI (sc 1)), .ref (ad 205), .ref (ad 206), .ref (ad 207), .ref (ad 208), .ref (ad 209), .int (iI (sc 2)), .int (iI (sc 3)), .int (iI (sc 4)), .ref (ad 210), .int (iI fr), .ref (ad 211), .ref (ad 212)]))) 200 (oB 6 [.int (iI 1), .int (iI (sc 0)), .ref (ad 201), .ref (ad 202), .ref (ad 203), .ref (ad 204), .int (iI (sc 1)), .ref (ad 205), .ref (ad 206), .ref (ad 207), .ref (ad 208), .ref (ad 209), .int (iI (sc 2)), .int (iI (sc 3)), .int (iI (sc 4)), .ref (ad 210), .int (iI fr), .ref (ad 211), .ref (ad 212)]) = _ from (up_up _ _ _ _)] at hP hD
    refine W.eq (g2 := F0 m 17 ls [.int (iI 0)]) rfl ?_
    refine W.cs (cells' := 0) (slots' := 0) rfl rfl ?_
    rw [hQ9]
    exact W.iret (v := iI 0) hx hb hret (fun t ht hW => ⟨⟨some (.int (iI 0)), ad, (up w 200 (oB 6 [.int (iI 1), .int (iI (sc 0)), .ref (ad 201), .ref (ad 202), .ref (ad 203), .ref (ad 204), .int (iI (sc 1)), .ref (ad 205), .ref (ad 206), .ref (ad 207), .ref (ad 208), .ref (ad 209), .int (iI (sc 2)), .int (iI (sc 3)), .int (iI (sc 4)), .ref (ad 210), .int (iI fr), .ref (ad 211), .ref (ad 212)])), rfl, ⟨1, sc, fn, ⟨fr, G1, G2, us, ut, ub, S, F, ⟨(up_s _ _ _), (up_n (by decide) k1), (up_n (by decide) k2), (up_n (by decide) k3), (up_n (by decide) k4), (up_n (by decide) k5), (up_n (by decide) k6), (up_n (by decide) k7), (up_n (by decide) k8), (up_n (by decide) k9), (up_n (by decide) k10), (up_n (by decide) k11), (up_n (by decide) k12)⟩, hG1, hG2, hus, hut, hub, hS9, hF, hmc, hmu, hmt, hrk⟩, hI, ⟨rfl, fun r hr => ⟨(up_n (by omega) rfl), rfl⟩⟩, Or.inr (Or.inl (⟨rfl, rfl, rfl, rfl, by omega⟩))⟩, by rw [ht]; exact hP, hD⟩, hS.F ht⟩) hS.2.2 dX6_addCurve_17
