abbrev rmX5_flowBy : Room := { frames := 6, cells := 1, slots := 6, locals := 82 }
theorem hxwX5_flowBy_xIA_116 : ∀ w ∈ (vx_atS RX5 116 xIA ["java/lang/RuntimeException", "java/lang/Exception"]).filter goodWord, w ∈ wsX5_flowBy := by decide +kernel
theorem hxwX5_flowBy_xIS_71 : ∀ w ∈ (vx_atS RX5 71 xIS ["java/lang/RuntimeException", "java/lang/Exception"]).filter goodWord, w ∈ wsX5_flowBy := by decide +kernel
theorem hxwX5_flowBy_xIX_94 : ∀ w ∈ (vx_atS RX5 94 xIX ["java/lang/RuntimeException", "java/lang/Exception"]).filter goodWord, w ∈ wsX5_flowBy := by decide +kernel
set_option maxHeartbeats 4000000 in
set_option maxRecDepth 100000 in
theorem c_X5_flowBy (l : Launch) (hl0 : l.stackTraces = false) (D : va_G) (cA : Nat → ClassId) (ad : Nat → Nat) (w : Nat → Option va_E) (sz : Nat) (sc : Nat → Int) (fn : Nat → Int → Int) (hI : bkInv sc fn) (hbk : bookS cA ad w sc fn) (ci sg : Int) (hci : (-2147483648 ≤ ci ∧ ci < 2147483648)) (hsg : (-2147483648 ≤ sg ∧ sg < 2147483648)) : vx_Met l yX5_flowBy wsX5_flowBy rmX5_flowBy (gV D cA ad w sz [.ref (ad 0), .int (iI ci), .int (iI sg)]) (gW D (fun v9 ad1 w1 => ∃ (sc2 : Nat → Int) (fn2 : Nat → Int → Int), bookS cA ad1 w1 sc2 fn2 ∧ bkInv sc2 fn2 ∧ keepR ad ad1 w w1 ∧ (sc2 = sc ∧ fn2 = fn ∧ 0 ≤ ci ∧ ci < sc 0 ∧ -2000 ≤ sg ∧ sg ≤ 4000 ∧ 2 ≤ fn 9 ci ∧ v9 = some (.long (lI (flowF (fn (20 + ci.toNat)) (fn (30 + ci.toNat)) (fn 9 ci) sg))))) (gA ad w sz)) (gX D (fun E => (E = xIX ∧ ¬ (0 ≤ ci ∧ ci < sc 0)) ∨ (E = xIA ∧ (0 ≤ ci ∧ ci < sc 0) ∧ ¬ (-2000 ≤ sg ∧ sg ≤ 4000)) ∨ (E = xIS ∧ (0 ≤ ci ∧ ci < sc 0) ∧ (-2000 ≤ sg ∧ sg ≤ 4000) ∧ ¬ 2 ≤ fn 9 ci)) ad w (gA ad w sz)) 1 6 (gA ad w sz) := by
  refine vx_ofW (cc := cX5_flowBy) (maxL := 4) (ret := (some .long)) (by decide) rfl ?_
  intro p e s m args below meth c s₁ B hml hE hv
  obtain ⟨hav, hsz, hP, hD0, hK, hB, hZ⟩ := hv
  have hx := B.exec
  have hb := B.bytes
  have hret := B.returns
  have hts := atoms_spec (ws := wsX5_flowBy) B.pre
  have hown : s.vm.findClass RX5 = some m.cls := findClass_of_methodNamed B.named
  have hlocks := B.notSynchronized
  subst hsz
  have hD := hD0.self (sz := s.heap.size)
  generalize hAe : gA ad w s.heap.size = A at hD hZ ⊢
  have hA : ∀ q : Nat, s.heap.size ≤ q → A q := fun q h => by rw [← hAe]; exact Or.inr h
  have hS : va_S A s.heap s.heap [] := va_S.rf
  have hxw_xIA_116 := hxwX5_flowBy_xIA_116
  have hxw_xIS_71 := hxwX5_flowBy_xIS_71
  have hxw_xIX_94 := hxwX5_flowBy_xIX_94
  have he9 : entryFrame m args 4 = F0 m 0 ((lg_sl ([.ref (ad 0), .int (iI ci), .int (iI sg)] : List Value) ++ List.replicate (4 - (lg_sl ([.ref (ad 0), .int (iI ci), .int (iI sg)] : List Value)).length) Slot.unset).toArray) [] := by rw [hav, lg_entry_eq]
  rw [he9]
  have hl := lv_entry ([.ref (ad 0), .int (iI ci), .int (iI sg)] : List Value) (n := 4) (Nat.le_of_ble_eq_true rfl)
  generalize (lg_sl ([.ref (ad 0), .int (iI ci), .int (iI sg)] : List Value) ++ List.replicate (4 - (lg_sl ([.ref (ad 0), .int (iI ci), .int (iI sg)] : List Value)).length) Slot.unset).toArray = ls at hl ⊢
  have hl : lv_has ls 4 [(0, .ref (ad 0)), (1, .int (iI ci)), (2, .int (iI sg))] := hl
  obtain ⟨Q9, hQ9⟩ : ∃ z, z = vx_MQ below (gW D (fun v9 ad1 w1 => ∃ (sc2 : Nat → Int) (fn2 : Nat → Int → Int), bookS cA ad1 w1 sc2 fn2 ∧ bkInv sc2 fn2 ∧ keepR ad ad1 w w1 ∧ (sc2 = sc ∧ fn2 = fn ∧ 0 ≤ ci ∧ ci < sc 0 ∧ -2000 ≤ sg ∧ sg ≤ 4000 ∧ 2 ≤ fn 9 ci ∧ v9 = some (.long (lI (flowF (fn (20 + ci.toNat)) (fn (30 + ci.toNat)) (fn 9 ci) sg))))) A) (gX D (fun E => (E = xIX ∧ ¬ (0 ≤ ci ∧ ci < sc 0)) ∨ (E = xIA ∧ (0 ≤ ci ∧ ci < sc 0) ∧ ¬ (-2000 ≤ sg ∧ sg ≤ 4000)) ∨ (E = xIS ∧ (0 ≤ ci ∧ ci < sc 0) ∧ (-2000 ≤ sg ∧ sg ≤ 4000) ∧ ¬ 2 ≤ fn 9 ci)) ad w A) args s 1 6 A := ⟨_, rfl⟩
  rw [← hQ9]
  show W p l e rmX5_flowBy s m args below meth c s.heap [] 0 0 Q9 (F0 m 0 ls [])
  obtain ⟨H, hHe⟩ : ∃ z, z = s.heap := ⟨_, rfl⟩
  obtain ⟨locs, hLe⟩ : ∃ z, z = ([] : List Loc) := ⟨_, rfl⟩
  have hP : gP D vwCl ad w H := by rw [hHe]; exact hP
  have hS : va_S A s.heap H locs := by rw [hHe, hLe]; exact va_S.rf
  rw [show W p l e rmX5_flowBy s m args below meth c s.heap [] 0 0 Q9 (F0 m 0 ls []) = W p l e rmX5_flowBy s m args below meth c H locs 0 0 Q9 (F0 m 0 ls []) by rw [hHe, hLe]]
  clear hHe hLe
  obtain ⟨rk, F, S, rn, rd, rm_, rz, ⟨h0, h1, h2, h3, h4, h5, h6, h7, h8, h9, h10, h11, h12, h13, h14, h15, hcv, hms⟩, hrk, hF, hS9⟩ := hbk
  have hI1 := hI.1
  refine lv_aload_n (pc := 0) hx hb dX5_flowBy_0 rfl (lv_at hl 0 rfl) ?_
  refine lv_iload_n (pc := 1) hx hb dX5_flowBy_1 rfl (lv_at hl 1 rfl) ?_
  refine k_call0 (pc := 2) (va_runV (As := [.int (iI ci)]) (rest := []) ⟨hx, hb, hml, hown, hts⟩ (c_X5_curveAt l D cA ad w sc fn rk hI h0 h1 ci ⟨by omega, by omega⟩) (cwV 1 hts gX5_flowBy_X5_curveAt rfl rfl rfl (by decide +kernel) ⟨Nat.le_of_ble_eq_true rfl, Nat.le_of_ble_eq_true rfl⟩) (gR_V hP hK hB 0 (ci := 5) rfl h0) rfl rfl hl.1 rfl (lv_room (Nat.le_of_ble_eq_true rfl)) dX5_flowBy_2 ⟨Nat.le_of_ble_eq_true rfl, Nat.le_of_ble_eq_true rfl⟩) (fun v_2 hv_2 => ?_)
  rcases hv_2 with ⟨k_2, hk_2, he_2, hv_2⟩ | ⟨he_2, hv_2⟩
  · skip
    subst hv_2
    refine W.eq (g2 := F0 m 5 ls [.ref (ad (30 + 3 * k_2))]) rfl ?_
    refine lv_astore_n (pc := 5) (lv' := [(3, .ref (ad (30 + 3 * k_2))), (0, .ref (ad 0)), (1, .int (iI ci)), (2, .int (iI sg))]) hx hb dX5_flowBy_5 rfl hl (by decide) rfl (fun ls hl => ?_)
    refine lv_aload_n (pc := 6) hx hb dX5_flowBy_6 rfl (lv_at hl 0 rfl) ?_
    refine lv_ifnonnull (pc := 7) (tgt := 20) hx hb dX5_flowBy_7 (by decide) ?_
    refine lv_iload_n (pc := 20) hx hb dX5_flowBy_20 rfl (lv_at hl 3 rfl) ?_
    refine k_sipush (pc := 21) hx hb dX5_flowBy_21 (by decide +kernel) ?_
    refine k_icmp_lt (pc := 24) (tgt := 34) hx hb ⟨by omega, by omega⟩ ⟨by omega, by omega⟩ dX5_flowBy_24 (by decide) (fun hc_24 => ?_) (fun hc_24 => ?_)
    · skip
      obtain ⟨sa_34, hsa_34⟩ := ns_114 hB
      rw [hQ9]
      exact vx_throwS (pc := 34) (own := RX5) (cls := xIA) (names := ["java/lang/RuntimeException", "java/lang/Exception"]) (ik := 112) (is := 114) (ic := 116) (A := A) hx hb hl0 hown (by decide +kernel) (by decide +kernel) (hts (.classLink RX5 112 "java/lang/IllegalArgumentException") (by decide +kernel)) (hts (.initialized "java/lang/IllegalArgumentException") (by decide +kernel)) hsa_34 (gx_hat hB (E := xIA) (i := 0) rfl (fun w h => hts w (hxw_xIA_116 w h)) (by decide +kernel)) (by decide +kernel) hZ.1 hZ.2 hS (hl.1.trans hml.symm) dX5_flowBy_34 dX5_flowBy_37 dX5_flowBy_38 dX5_flowBy_40 dX5_flowBy_43 (fun x h => (hE x h).elim) (Nat.le_of_ble_eq_true rfl) (Nat.le_of_ble_eq_true rfl) (Nat.le_of_ble_eq_true rfl) (Nat.le_of_ble_eq_true rfl) hlocks (fun t hW hz hk => ⟨Or.inr (Or.inl ⟨rfl, by omega, by omega⟩), fun r x hr => (hP r x hr).kept (hk _ (hP r x hr).lt), hD, Nat.le_trans hS.1 hz, fun q h1 h2 => (hk q (Nat.lt_of_lt_of_le h1 hS.1)).trans (hS.2.1 q h1 h2)⟩) hS.2.2 (Nat.le_of_ble_eq_true rfl) (Nat.le_of_ble_eq_true rfl)
    · skip
      refine lv_iload_n (pc := 27) hx hb dX5_flowBy_27 rfl (lv_at hl 3 rfl) ?_
      refine k_sipush (pc := 28) hx hb dX5_flowBy_28 (by decide +kernel) ?_
      refine k_icmp_le (pc := 31) (tgt := 44) hx hb ⟨by omega, by omega⟩ ⟨by omega, by omega⟩ dX5_flowBy_31 (by decide) (fun hc_31 => ?_) (fun hc_31 => ?_)
      · skip
        refine lv_aload_n (pc := 44) hx hb dX5_flowBy_44 rfl (lv_at hl 0 rfl) ?_
        refine k_call0 (pc := 45) (va_runV (As := []) (rest := []) ⟨hx, hb, hml, hown, hts⟩ (c_X0_isComplete l D cA ad w (30 + 3 * k_2) (31 + 3 * k_2) (32 + 3 * k_2) (fn 8 (k_2 : Int)) (fn 9 (k_2 : Int)) (fn (20 + k_2)) (fn (30 + k_2)) (hcv k_2 hk_2).1 (hcv k_2 hk_2).2.1 (hcv k_2 hk_2).2.2 (by have h9_ := hI.2.2.2.2.2.2.2.2.2.1 (k_2 : Int); omega) (hI.2.2.2.2.2.2.2.2.2.2 k_2 hk_2)) (cwV 0 hts gX5_flowBy_X0_isComplete rfl rfl rfl (by decide +kernel) ⟨Nat.le_of_ble_eq_true rfl, Nat.le_of_ble_eq_true rfl⟩) (gR_V hP hK hB (30 + 3 * k_2) (ci := 0) rfl (hcv k_2 hk_2).1) rfl rfl hl.1 rfl (lv_room (Nat.le_of_ble_eq_true rfl)) dX5_flowBy_45 ⟨Nat.le_of_ble_eq_true rfl, Nat.le_of_ble_eq_true rfl⟩) (fun v_45 hv_45 => ?_)
        obtain ⟨z_45, rfl, hz_45⟩ := hv_45
        refine W.eq (g2 := F0 m 48 ls [.int (iI z_45)]) rfl ?_
        refine k_if_ne (pc := 48) (tgt := 61) hx hb ⟨by omega, by omega⟩ dX5_flowBy_48 (by decide) (fun hc_48 => ?_) (fun hc_48 => ?_)
        · skip
          refine lv_aload_n (pc := 61) hx hb dX5_flowBy_61 rfl (lv_at hl 0 rfl) ?_
          refine lv_iload_n (pc := 62) hx hb dX5_flowBy_62 rfl (lv_at hl 3 rfl) ?_
          refine k_call0 (pc := 63) (va_runV (As := [.int (iI sg)]) (rest := []) ⟨hx, hb, hml, hown, hts⟩ (c_X0_flowAt l D cA ad w (30 + 3 * k_2) (31 + 3 * k_2) (32 + 3 * k_2) (fn 8 (k_2 : Int)) (fn 9 (k_2 : Int)) (fn (20 + k_2)) (fn (30 + k_2)) (hcv k_2 hk_2).1 (hcv k_2 hk_2).2.1 (hcv k_2 hk_2).2.2 (by have h9_ := hI.2.2.2.2.2.2.2.2.2.1 (k_2 : Int); omega) (hI.2.2.2.2.2.2.2.2.2.2 k_2 hk_2) sg (by omega) ⟨by omega, by omega⟩) (cwV 1 hts gX5_flowBy_X0_flowAt rfl rfl rfl (by decide +kernel) ⟨Nat.le_of_ble_eq_true rfl, Nat.le_of_ble_eq_true rfl⟩) (gR_V hP hK hB (30 + 3 * k_2) (ci := 0) rfl (hcv k_2 hk_2).1) rfl rfl hl.1 rfl (lv_room (Nat.le_of_ble_eq_true rfl)) dX5_flowBy_63 ⟨Nat.le_of_ble_eq_true rfl, Nat.le_of_ble_eq_true rfl⟩) (fun v_63 hv_63 => ?_)
          obtain ⟨z_63, rfl, rfl⟩ := hv_63
          refine W.eq (g2 := F0 m 66 ls [.long (lI (flowF (fn (20 + k_2)) (fn (30 + k_2)) (fn 9 (k_2 : Int)) sg))]) rfl ?_
          have he_66 : flowF (fn (20 + k_2)) (fn (30 + k_2)) (fn 9 (k_2 : Int)) sg = flowF (fn (20 + ci.toNat)) (fn (30 + ci.toNat)) (fn 9 ci) sg := by rw [he_2, Int.toNat_natCast]
          rw [he_66]
          rw [hQ9]
          refine vx_ret ?_
          refine W.widen (k := 1) (n := 6) (by decide) (by decide) ?_
          exact W.lret (v := lI (flowF (fn (20 + ci.toNat)) (fn (30 + ci.toNat)) (fn 9 ci) sg)) hx hb hret (fun t ht hW => ⟨⟨some (.long (lI (flowF (fn (20 + ci.toNat)) (fn (30 + ci.toNat)) (fn 9 ci) sg))), ad, w, rfl, ⟨sc, fn, ⟨rk, F, S, rn, rd, rm_, rz, ⟨h0, h1, h2, h3, h4, h5, h6, h7, h8, h9, h10, h11, h12, h13, h14, h15, hcv, hms⟩, hrk, hF, hS9⟩, hI, ⟨rfl, fun r hr => ⟨rfl, rfl⟩⟩, ⟨rfl, rfl, by omega, by omega, by omega, by omega, by rw [he_2]; omega, rfl⟩⟩, by rw [ht]; exact hP, hD⟩, hS.F ht⟩) hS.2.2 dX5_flowBy_66
        · skip
          obtain ⟨sa_51, hsa_51⟩ := ns_121 hB
          rw [hQ9]
          exact vx_throwS (pc := 51) (own := RX5) (cls := xIS) (names := ["java/lang/RuntimeException", "java/lang/Exception"]) (ik := 67) (is := 121) (ic := 71) (A := A) hx hb hl0 hown (by decide +kernel) (by decide +kernel) (hts (.classLink RX5 67 "java/lang/IllegalStateException") (by decide +kernel)) (hts (.initialized "java/lang/IllegalStateException") (by decide +kernel)) hsa_51 (gx_hat hB (E := xIS) (i := 1) rfl (fun w h => hts w (hxw_xIS_71 w h)) (by decide +kernel)) (by decide +kernel) hZ.1 hZ.2 hS (hl.1.trans hml.symm) dX5_flowBy_51 dX5_flowBy_54 dX5_flowBy_55 dX5_flowBy_57 dX5_flowBy_60 (fun x h => (hE x h).elim) (Nat.le_of_ble_eq_true rfl) (Nat.le_of_ble_eq_true rfl) (Nat.le_of_ble_eq_true rfl) (Nat.le_of_ble_eq_true rfl) hlocks (fun t hW hz hk => ⟨Or.inr (Or.inr ⟨rfl, by omega, by omega, by rw [he_2]; omega⟩), fun r x hr => (hP r x hr).kept (hk _ (hP r x hr).lt), hD, Nat.le_trans hS.1 hz, fun q h1 h2 => (hk q (Nat.lt_of_lt_of_le h1 hS.1)).trans (hS.2.1 q h1 h2)⟩) hS.2.2 (Nat.le_of_ble_eq_true rfl) (Nat.le_of_ble_eq_true rfl)
      · skip
        obtain ⟨sa_34, hsa_34⟩ := ns_114 hB
        rw [hQ9]
        exact vx_throwS (pc := 34) (own := RX5) (cls := xIA) (names := ["java/lang/RuntimeException", "java/lang/Exception"]) (ik := 112) (is := 114) (ic := 116) (A := A) hx hb hl0 hown (by decide +kernel) (by decide +kernel) (hts (.classLink RX5 112 "java/lang/IllegalArgumentException") (by decide +kernel)) (hts (.initialized "java/lang/IllegalArgumentException") (by decide +kernel)) hsa_34 (gx_hat hB (E := xIA) (i := 0) rfl (fun w h => hts w (hxw_xIA_116 w h)) (by decide +kernel)) (by decide +kernel) hZ.1 hZ.2 hS (hl.1.trans hml.symm) dX5_flowBy_34 dX5_flowBy_37 dX5_flowBy_38 dX5_flowBy_40 dX5_flowBy_43 (fun x h => (hE x h).elim) (Nat.le_of_ble_eq_true rfl) (Nat.le_of_ble_eq_true rfl) (Nat.le_of_ble_eq_true rfl) (Nat.le_of_ble_eq_true rfl) hlocks (fun t hW hz hk => ⟨Or.inr (Or.inl ⟨rfl, by omega, by omega⟩), fun r x hr => (hP r x hr).kept (hk _ (hP r x hr).lt), hD, Nat.le_trans hS.1 hz, fun q h1 h2 => (hk q (Nat.lt_of_lt_of_le h1 hS.1)).trans (hS.2.1 q h1 h2)⟩) hS.2.2 (Nat.le_of_ble_eq_true rfl) (Nat.le_of_ble_eq_true rfl)
  · skip
    subst hv_2
    refine W.eq (g2 := F0 m 5 ls [.null]) rfl ?_
    refine lv_astore_nN (pc := 5) (lv' := [(3, .null), (0, .ref (ad 0)), (1, .int (iI ci)), (2, .int (iI sg))]) hx hb dX5_flowBy_5 rfl hl (by decide) rfl (fun ls hl => ?_)
    refine lv_aload_nN (pc := 6) hx hb dX5_flowBy_6 rfl (lv_at hl 0 rfl) ?_
    refine lv_ifnonnullN (pc := 7) hx hb dX5_flowBy_7 ?_
    obtain ⟨sa_10, hsa_10⟩ := ns_92 hB
    rw [hQ9]
    exact vx_throwS (pc := 10) (own := RX5) (cls := xIX) (names := ["java/lang/RuntimeException", "java/lang/Exception"]) (ik := 90) (is := 92) (ic := 94) (A := A) hx hb hl0 hown (by decide +kernel) (by decide +kernel) (hts (.classLink RX5 90 "java/lang/IndexOutOfBoundsException") (by decide +kernel)) (hts (.initialized "java/lang/IndexOutOfBoundsException") (by decide +kernel)) hsa_10 (gx_hat hB (E := xIX) (i := 2) rfl (fun w h => hts w (hxw_xIX_94 w h)) (by decide +kernel)) (by decide +kernel) hZ.1 hZ.2 hS (hl.1.trans hml.symm) dX5_flowBy_10 dX5_flowBy_13 dX5_flowBy_14 dX5_flowBy_16 dX5_flowBy_19 (fun x h => (hE x h).elim) (Nat.le_of_ble_eq_true rfl) (Nat.le_of_ble_eq_true rfl) (Nat.le_of_ble_eq_true rfl) (Nat.le_of_ble_eq_true rfl) hlocks (fun t hW hz hk => ⟨Or.inl ⟨rfl, by omega⟩, fun r x hr => (hP r x hr).kept (hk _ (hP r x hr).lt), hD, Nat.le_trans hS.1 hz, fun q h1 h2 => (hk q (Nat.lt_of_lt_of_le h1 hS.1)).trans (hS.2.1 q h1 h2)⟩) hS.2.2 (Nat.le_of_ble_eq_true rfl) (Nat.le_of_ble_eq_true rfl)


/-- what sum() tells -/
def sumV (F S : Int → Int) (fr to_ what v : Int) : Prop := (what = 0 ∧ v = cntT S fr (to_ + 1 - fr).toNat) ∨ (what = 1 ∧ v = sumT F S fr (to_ + 1 - fr).toNat) ∨ (what = 2 ∧ ∃ g : Int, gdP F S fr (to_ + 1) g ∧ ((g = -1 ∧ v = -1) ∨ (g ≠ -1 ∧ v = F g))) ∨ (what = 3 ∧ lfP F S fr (to_ + 1) v) ∨ (what = 4 ∧ gdP F S fr (to_ + 1) v)

abbrev rmX5_sum : Room := { frames := 7, cells := 2, slots := 12, locals := 113 }
theorem hxwX5_sum_xIX_94 : ∀ w ∈ (vx_atS RX5 94 xIX ["java/lang/RuntimeException", "java/lang/Exception"]).filter goodWord, w ∈ wsX5_sum := by decide +kernel
theorem hiX5_sum_5 : ∀ w ∈ wsX50, w ∈ wsX5_sum := by decide +kernel
set_option maxHeartbeats 4000000 in
set_option maxRecDepth 100000 in
theorem c_X5_sum (l : Launch) (hl0 : l.stackTraces = false) (D : va_G) (cA : Nat → ClassId) (ad : Nat → Nat) (w : Nat → Option va_E) (sz : Nat) (sc : Nat → Int) (fn : Nat → Int → Int) (hI : bkInv sc fn) (hbk : bookS cA ad w sc fn) (fr to_ wh : Int) (h1_ : (-2147483648 ≤ fr ∧ fr < 2147483648)) (h2_ : (-2147483648 ≤ to_ ∧ to_ < 2147483648)) (h3_ : (-2147483648 ≤ wh ∧ wh < 2147483648)) : vx_Met l yX5_sum wsX5_sum rmX5_sum (gV D cA ad w sz [.ref (ad 0), .int (iI fr), .int (iI to_), .int (iI wh)]) (gW D (fun v9 ad1 w1 => ∃ (sc2 : Nat → Int) (fn2 : Nat → Int → Int), bookS cA ad1 w1 sc2 fn2 ∧ bkInv sc2 fn2 ∧ keepR ad ad1 w w1 ∧ (sc2 = sc ∧ fn2 = fn ∧ 0 ≤ wh ∧ wh ≤ 4 ∧ 0 ≤ fr ∧ fr ≤ to_ ∧ to_ < 400 ∧ ∃ z : Int, v9 = some (.long (lI z)) ∧ sumV (tbF sc fn) (tbS sc fn) fr to_ wh z)) (gA ad w sz)) (gX D (fun E => (E = xIX ∧ ¬ (0 ≤ wh ∧ wh ≤ 4)) ∨ (E = xIA ∧ (0 ≤ wh ∧ wh ≤ 4) ∧ ¬ (0 ≤ fr ∧ fr ≤ to_ ∧ to_ < 400))) ad w (gA ad w sz)) 2 12 (gA ad w sz) := by
  refine vx_ofW (cc := cX5_sum) (maxL := 4) (ret := (some .long)) (by decide) rfl ?_
  intro p e s m args below meth c s₁ B hml hE hv
  obtain ⟨hav, hsz, hP, hD0, hK, hB, hZ⟩ := hv
  have hx := B.exec
  have hb := B.bytes
  have hret := B.returns
  have hts := atoms_spec (ws := wsX5_sum) B.pre
  have hown : s.vm.findClass RX5 = some m.cls := findClass_of_methodNamed B.named
  have hlocks := B.notSynchronized
  subst hsz
  have hD := hD0.self (sz := s.heap.size)
  generalize hAe : gA ad w s.heap.size = A at hD hZ ⊢
  have hA : ∀ q : Nat, s.heap.size ≤ q → A q := fun q h => by rw [← hAe]; exact Or.inr h
  have hS : va_S A s.heap s.heap [] := va_S.rf
  have hi5 := hiX5_sum_5
  have hxw_xIX_94 := hxwX5_sum_xIX_94
  have hf42 := hts (.fieldLink RX5 42 "GaugeBook" "table" "LGaugeBook$FlowTable;") (by decide +kernel)
  have he9 : entryFrame m args 4 = F0 m 0 ((lg_sl ([.ref (ad 0), .int (iI fr), .int (iI to_), .int (iI wh)] : List Value) ++ List.replicate (4 - (lg_sl ([.ref (ad 0), .int (iI fr), .int (iI to_), .int (iI wh)] : List Value)).length) Slot.unset).toArray) [] := by rw [hav, lg_entry_eq]
  rw [he9]
  have hl := lv_entry ([.ref (ad 0), .int (iI fr), .int (iI to_), .int (iI wh)] : List Value) (n := 4) (Nat.le_of_ble_eq_true rfl)
  generalize (lg_sl ([.ref (ad 0), .int (iI fr), .int (iI to_), .int (iI wh)] : List Value) ++ List.replicate (4 - (lg_sl ([.ref (ad 0), .int (iI fr), .int (iI to_), .int (iI wh)] : List Value)).length) Slot.unset).toArray = ls at hl ⊢
  have hl : lv_has ls 4 [(0, .ref (ad 0)), (1, .int (iI fr)), (2, .int (iI to_)), (3, .int (iI wh))] := hl
  obtain ⟨Q9, hQ9⟩ : ∃ z, z = vx_MQ below (gW D (fun v9 ad1 w1 => ∃ (sc2 : Nat → Int) (fn2 : Nat → Int → Int), bookS cA ad1 w1 sc2 fn2 ∧ bkInv sc2 fn2 ∧ keepR ad ad1 w w1 ∧ (sc2 = sc ∧ fn2 = fn ∧ 0 ≤ wh ∧ wh ≤ 4 ∧ 0 ≤ fr ∧ fr ≤ to_ ∧ to_ < 400 ∧ ∃ z : Int, v9 = some (.long (lI z)) ∧ sumV (tbF sc fn) (tbS sc fn) fr to_ wh z)) A) (gX D (fun E => (E = xIX ∧ ¬ (0 ≤ wh ∧ wh ≤ 4)) ∨ (E = xIA ∧ (0 ≤ wh ∧ wh ≤ 4) ∧ ¬ (0 ≤ fr ∧ fr ≤ to_ ∧ to_ < 400))) ad w A) args s 2 12 A := ⟨_, rfl⟩
  rw [← hQ9]
  show W p l e rmX5_sum s m args below meth c s.heap [] 0 0 Q9 (F0 m 0 ls [])
  obtain ⟨H, hHe⟩ : ∃ z, z = s.heap := ⟨_, rfl⟩
  obtain ⟨locs, hLe⟩ : ∃ z, z = ([] : List Loc) := ⟨_, rfl⟩
  have hP : gP D vwCl ad w H := by rw [hHe]; exact hP
  have hS : va_S A s.heap H locs := by rw [hHe, hLe]; exact va_S.rf
  rw [show W p l e rmX5_sum s m args below meth c s.heap [] 0 0 Q9 (F0 m 0 ls []) = W p l e rmX5_sum s m args below meth c H locs 0 0 Q9 (F0 m 0 ls []) by rw [hHe, hLe]]
  clear hHe hLe
  obtain ⟨rk, F, S, rn, rd, rm_, rz, ⟨h0, h1, h2, h3, h4, h5, h6, h7, h8, h9, h10, h11, h12, h13, h14, h15, hcv, hms⟩, hrk, hF, hS9⟩ := hbk
  have hI1 := hI.1
  refine lv_iload_n (pc := 0) hx hb dX5_sum_0 rfl (lv_at hl 3 rfl) ?_
  refine k_if_lt (pc := 1) (tgt := 9) hx hb ⟨by omega, by omega⟩ dX5_sum_1 (by decide) (fun hc_1 => ?_) (fun hc_1 => ?_)
  · skip
    obtain ⟨sa_9, hsa_9⟩ := ns_165 hB
    rw [hQ9]
    exact vx_throwS (pc := 9) (own := RX5) (cls := xIX) (names := ["java/lang/RuntimeException", "java/lang/Exception"]) (ik := 90) (is := 165) (ic := 94) (A := A) hx hb hl0 hown (by decide +kernel) (by decide +kernel) (hts (.classLink RX5 90 "java/lang/IndexOutOfBoundsException") (by decide +kernel)) (hts (.initialized "java/lang/IndexOutOfBoundsException") (by decide +kernel)) hsa_9 (gx_hat hB (E := xIX) (i := 2) rfl (fun w h => hts w (hxw_xIX_94 w h)) (by decide +kernel)) (by decide +kernel) hZ.1 hZ.2 hS (hl.1.trans hml.symm) dX5_sum_9 dX5_sum_12 dX5_sum_13 dX5_sum_15 dX5_sum_18 (fun x h => (hE x h).elim) (Nat.le_of_ble_eq_true rfl) (Nat.le_of_ble_eq_true rfl) (Nat.le_of_ble_eq_true rfl) (Nat.le_of_ble_eq_true rfl) hlocks (fun t hW hz hk => ⟨Or.inl ⟨rfl, by omega⟩, fun r x hr => (hP r x hr).kept (hk _ (hP r x hr).lt), hD, Nat.le_trans hS.1 hz, fun q h1 h2 => (hk q (Nat.lt_of_lt_of_le h1 hS.1)).trans (hS.2.1 q h1 h2)⟩) hS.2.2 (Nat.le_of_ble_eq_true rfl) (Nat.le_of_ble_eq_true rfl)
  · skip
    refine lv_iload_n (pc := 4) hx hb dX5_sum_4 rfl (lv_at hl 3 rfl) ?_
    refine k_iconst (pc := 5) hx hb dX5_sum_5 ?_
    refine k_icmp_le (pc := 6) (tgt := 19) hx hb ⟨by omega, by omega⟩ ⟨by omega, by omega⟩ dX5_sum_6 (by decide) (fun hc_6 => ?_) (fun hc_6 => ?_)
    · skip
      refine lv_iload_n (pc := 19) hx hb dX5_sum_19 rfl (lv_at hl 1 rfl) ?_
      refine lv_iload_n (pc := 20) hx hb dX5_sum_20 rfl (lv_at hl 2 rfl) ?_
      refine k_callx (pc := 21) (vx_runS (As := [.int (iI fr), .int (iI to_)]) (rest := []) ⟨hx, hb, hml, hown, hts⟩ (c_X5_requireRange l hl0 D cA ad w H.size fr to_ ⟨by omega, by omega⟩ ⟨by omega, by omega⟩) (va_cwS 2 hts gX5_sum_X5_requireRange rfl rfl rfl (by decide +kernel) ⟨Nat.le_of_ble_eq_true rfl, Nat.le_of_ble_eq_true rfl⟩) (gV_S hP hD hK hB hS hA hZ) rfl rfl hl.1 rfl (lv_room (Nat.le_of_ble_eq_true rfl)) dX5_sum_21 ⟨Nat.le_of_ble_eq_true rfl, Nat.le_of_ble_eq_true rfl⟩) hS (gA_sub hD hS hA) (fun E_21 ce_21 q_21 H locs hpx_21 hP hD hS hce_21 hcv_21 hcl_21 => ?_) (fun v_21 ad_21 w_21 H locs hv_21 hP hD hS => ?_)
      · skip
        rw [hQ9]
        exact vx_out (fun x h => (hE x h).elim) hlocks hce_21 hcv_21 hcl_21 (fun t ht hW => ⟨Or.inr ⟨hpx_21.1, by omega, hpx_21.2⟩, by rw [ht]; exact hP, hD, hS.F ht⟩) hS.2.2 (by decide) (by decide)
      · skip
        obtain ⟨hv1, hv2, hv3, hq_21⟩ := hv_21
        subst hv1
        rw [hv2, hv3] at hP hD
        refine W.eq (g2 := F0 m 24 ls []) rfl ?_
        refine W.cs (cells' := 1) (slots' := 6) rfl rfl ?_
        refine lv_aload_n (pc := 24) hx hb dX5_sum_24 rfl (lv_at hl 0 rfl) ?_
        refine k_call1 (pc := 25) (va_runV (As := []) (rest := []) ⟨hx, hb, hml, hown, hts⟩ (c_X5_reckon l D cA ad w H.size sc fn rk F S hI h0 h1 h2 h3 h4 h5 h6 h7 h9 h10 h11 hcv hF hS9 hrk) (cwV 0 hts gX5_sum_X5_reckon rfl rfl rfl (by decide +kernel) ⟨Nat.le_of_ble_eq_true rfl, Nat.le_of_ble_eq_true rfl⟩) (gV_V hP hD hK hB hS hA hZ 0 (ci := 5) rfl h0) rfl rfl hl.1 rfl (lv_room (Nat.le_of_ble_eq_true rfl)) dX5_sum_25 ⟨Nat.le_of_ble_eq_true rfl, Nat.le_of_ble_eq_true rfl⟩) hS (gA_sub hD hS hA) (fun v_25 ad_25 w_25 H locs hv_25 hP hD hS => ?_)
        obtain ⟨hv1, hv2, hv3⟩ := hv_25
        subst hv1
        rw [hv2, hv3] at hP hD
        refine W.eq (g2 := F0 m 28 ls []) rfl ?_
        refine W.cs (cells' := 1) (slots' := 6) rfl rfl ?_
        refine lv_iload_n (pc := 28) hx hb dX5_sum_28 rfl (lv_at hl 3 rfl) ?_
        rcases (show wh = 0 ∨ wh = 1 ∨ wh = 2 ∨ wh = 3 ∨ (wh < 0 ∨ 3 < wh) by omega) with hs_29 | hs_29 | hs_29 | hs_29 | hs_29
        · skip
          refine k_tab (pc := 29) (v := 0) (tgt := 60) hx hb hs_29 (by decide) (by decide) (by decide) rfl dX5_sum_29 (by decide) ?_
          refine lv_aload_n (pc := 60) hx hb dX5_sum_60 rfl (lv_at hl 0 rfl) ?_
          refine k_get (pc := 61) (ci := 5) (C := RX5) (T := TX5) (N := 13) hx hb hts hi5 hown hK hP 0 (up_s _ _ _) rfl 6 (by decide) hf42 (fun _ h9 => h9) rfl dX5_sum_61 ?_
          refine lv_iload_n (pc := 64) hx hb dX5_sum_64 rfl (lv_at hl 1 rfl) ?_
          refine lv_iload_n (pc := 65) hx hb dX5_sum_65 rfl (lv_at hl 2 rfl) ?_
          refine k_call0 (pc := 66) (va_runV (As := [.int (iI fr), .int (iI to_)]) (rest := []) ⟨hx, hb, hml, hown, hts⟩ (c_X1_daysWithFlow l D cA ad (up (up (up w 10 (eJ (cA 2) 400 (tbF sc fn))) 11 (eI (cA 0) 400 (tbS sc fn))) 0 (oB 5 [.ref (ad 1), .ref (ad 2), .ref (ad 5), .ref (ad 6), .ref (ad 7), .ref (ad 8), .ref (ad 9), .ref (ad 12), .int (iI (sc 0)), .int (iI (sc 4)), .int (iI (sc 2)), .int (iI (sc 3)), .int (iI 1)])) 9 10 11 (tbF sc fn) (tbS sc fn) (up_n (by decide) (up_n (by decide) (up_n (by decide) h9))) (up_n (by decide) (up_n (by decide) (up_s _ _ _))) (up_n (by decide) (up_s _ _ _)) (tbOk_tb hI).1 (tbOk_tb hI).2.1 fr to_ (by omega)) (cwV 2 hts gX5_sum_X1_daysWithFlow rfl rfl rfl (by decide +kernel) ⟨Nat.le_of_ble_eq_true rfl, Nat.le_of_ble_eq_true rfl⟩) (gR_V hP hK hB 9 (ci := 1) rfl (up_n (by decide) (up_n (by decide) (up_n (by decide) h9)))) rfl rfl hl.1 rfl (lv_room (Nat.le_of_ble_eq_true rfl)) dX5_sum_66 ⟨Nat.le_of_ble_eq_true rfl, Nat.le_of_ble_eq_true rfl⟩) (fun v_66 hv_66 => ?_)
          obtain ⟨z_66, rfl, hz_66⟩ := hv_66
          refine W.eq (g2 := F0 m 69 ls [.int (iI z_66)]) rfl ?_
          have cb_ := cntT_b (tbS sc fn) fr (to_ + 1 - fr).toNat
          refine k_i2l (pc := 69) hx hb ⟨by omega, by omega⟩ dX5_sum_69 ?_
          rw [hQ9]
          refine vx_ret ?_
          refine W.widen (k := 2) (n := 12) (by decide) (by decide) ?_
          exact W.lret (v := lI z_66) hx hb hret (fun t ht hW => ⟨⟨some (.long (lI z_66)), ad, (up (up (up w 10 (eJ (cA 2) 400 (tbF sc fn))) 11 (eI (cA 0) 400 (tbS sc fn))) 0 (oB 5 [.ref (ad 1), .ref (ad 2), .ref (ad 5), .ref (ad 6), .ref (ad 7), .ref (ad 8), .ref (ad 9), .ref (ad 12), .int (iI (sc 0)), .int (iI (sc 4)), .int (iI (sc 2)), .int (iI (sc 3)), .int (iI 1)])), rfl, ⟨sc, fn, ⟨1, (tbF sc fn), (tbS sc fn), rn, rd, rm_, rz, ⟨(up_s _ _ _), (up_n (by decide) (up_n (by decide) (up_n (by decide) h1))), (up_n (by decide) (up_n (by decide) (up_n (by decide) h2))), (up_n (by decide) (up_n (by decide) (up_n (by decide) h3))), (up_n (by decide) (up_n (by decide) (up_n (by decide) h4))), (up_n (by decide) (up_n (by decide) (up_n (by decide) h5))), (up_n (by decide) (up_n (by decide) (up_n (by decide) h6))), (up_n (by decide) (up_n (by decide) (up_n (by decide) h7))), (up_n (by decide) (up_n (by decide) (up_n (by decide) h8))), (up_n (by decide) (up_n (by decide) (up_n (by decide) h9))), (up_n (by decide) (up_n (by decide) (up_s _ _ _))), (up_n (by decide) (up_s _ _ _)), (up_n (by decide) (up_n (by decide) (up_n (by decide) h12))), (up_n (by decide) (up_n (by decide) (up_n (by decide) h13))), (up_n (by decide) (up_n (by decide) (up_n (by decide) h14))), (up_n (by decide) (up_n (by decide) (up_n (by decide) h15))), (fun k9 hk9 => by have h9_ := hcv k9 hk9; have i9_ := hI.1.1; exact ⟨(up_n (by omega) (up_n (by omega) (up_n (by omega) h9_.1))), (up_n (by omega) (up_n (by omega) (up_n (by omega) h9_.2.1))), (up_n (by omega) (up_n (by omega) (up_n (by omega) h9_.2.2)))⟩), (fun k9 hk9 => by have h9_ := hms k9 hk9; have i9_ := hI.1.2.2.2.2; exact (up_n (by omega) (up_n (by omega) (up_n (by omega) h9_))))⟩, (Or.inr ⟨rfl, rfl, rfl⟩), (tbOk_tb hI).1, (tbOk_tb hI).2.1⟩, hI, ⟨rfl, fun r hr => ⟨(up_n (by omega) (up_n (by omega) (up_n (by omega) rfl))), rfl⟩⟩, ⟨rfl, rfl, by omega, by omega, by omega, by omega, by omega, z_66, rfl, Or.inl ⟨hs_29, by omega⟩⟩⟩, by rw [ht]; exact hP, hD⟩, hS.F ht⟩) hS.2.2 dX5_sum_70
        · skip
          refine k_tab (pc := 29) (v := 1) (tgt := 71) hx hb hs_29 (by decide) (by decide) (by decide) rfl dX5_sum_29 (by decide) ?_
          refine lv_aload_n (pc := 71) hx hb dX5_sum_71 rfl (lv_at hl 0 rfl) ?_
          refine k_get (pc := 72) (ci := 5) (C := RX5) (T := TX5) (N := 13) hx hb hts hi5 hown hK hP 0 (up_s _ _ _) rfl 6 (by decide) hf42 (fun _ h9 => h9) rfl dX5_sum_72 ?_
          refine lv_iload_n (pc := 75) hx hb dX5_sum_75 rfl (lv_at hl 1 rfl) ?_
          refine lv_iload_n (pc := 76) hx hb dX5_sum_76 rfl (lv_at hl 2 rfl) ?_
          refine k_call0 (pc := 77) (va_runV (As := [.int (iI fr), .int (iI to_)]) (rest := []) ⟨hx, hb, hml, hown, hts⟩ (c_X1_total l D cA ad (up (up (up w 10 (eJ (cA 2) 400 (tbF sc fn))) 11 (eI (cA 0) 400 (tbS sc fn))) 0 (oB 5 [.ref (ad 1), .ref (ad 2), .ref (ad 5), .ref (ad 6), .ref (ad 7), .ref (ad 8), .ref (ad 9), .ref (ad 12), .int (iI (sc 0)), .int (iI (sc 4)), .int (iI (sc 2)), .int (iI (sc 3)), .int (iI 1)])) 9 10 11 (tbF sc fn) (tbS sc fn) (up_n (by decide) (up_n (by decide) (up_n (by decide) h9))) (up_n (by decide) (up_n (by decide) (up_s _ _ _))) (up_n (by decide) (up_s _ _ _)) (tbOk_tb hI).1 (tbOk_tb hI).2.1 fr to_ (by omega)) (cwV 2 hts gX5_sum_X1_total rfl rfl rfl (by decide +kernel) ⟨Nat.le_of_ble_eq_true rfl, Nat.le_of_ble_eq_true rfl⟩) (gR_V hP hK hB 9 (ci := 1) rfl (up_n (by decide) (up_n (by decide) (up_n (by decide) h9)))) rfl rfl hl.1 rfl (lv_room (Nat.le_of_ble_eq_true rfl)) dX5_sum_77 ⟨Nat.le_of_ble_eq_true rfl, Nat.le_of_ble_eq_true rfl⟩) (fun v_77 hv_77 => ?_)
          obtain ⟨z_77, rfl, hz_77⟩ := hv_77
          refine W.eq (g2 := F0 m 80 ls [.long (lI z_77)]) rfl ?_
          rw [hQ9]
          refine vx_ret ?_
          refine W.widen (k := 2) (n := 12) (by decide) (by decide) ?_
          exact W.lret (v := lI z_77) hx hb hret (fun t ht hW => ⟨⟨some (.long (lI z_77)), ad, (up (up (up w 10 (eJ (cA 2) 400 (tbF sc fn))) 11 (eI (cA 0) 400 (tbS sc fn))) 0 (oB 5 [.ref (ad 1), .ref (ad 2), .ref (ad 5), .ref (ad 6), .ref (ad 7), .ref (ad 8), .ref (ad 9), .ref (ad 12), .int (iI (sc 0)), .int (iI (sc 4)), .int (iI (sc 2)), .int (iI (sc 3)), .int (iI 1)])), rfl, ⟨sc, fn, ⟨1, (tbF sc fn), (tbS sc fn), rn, rd, rm_, rz, ⟨(up_s _ _ _), (up_n (by decide) (up_n (by decide) (up_n (by decide) h1))), (up_n (by decide) (up_n (by decide) (up_n (by decide) h2))), (up_n (by decide) (up_n (by decide) (up_n (by decide) h3))), (up_n (by decide) (up_n (by decide) (up_n (by decide) h4))), (up_n (by decide) (up_n (by decide) (up_n (by decide) h5))), (up_n (by decide) (up_n (by decide) (up_n (by decide) h6))), (up_n (by decide) (up_n (by decide) (up_n (by decide) h7))), (up_n (by decide) (up_n (by decide) (up_n (by decide) h8))), (up_n (by decide) (up_n (by decide) (up_n (by decide) h9))), (up_n (by decide) (up_n (by decide) (up_s _ _ _))), (up_n (by decide) (up_s _ _ _)), (up_n (by decide) (up_n (by decide) (up_n (by decide) h12))), (up_n (by decide) (up_n (by decide) (up_n (by decide) h13))), (up_n (by decide) (up_n (by decide) (up_n (by decide) h14))), (up_n (by decide) (up_n (by decide) (up_n (by decide) h15))), (fun k9 hk9 => by have h9_ := hcv k9 hk9; have i9_ := hI.1.1; exact ⟨(up_n (by omega) (up_n (by omega) (up_n (by omega) h9_.1))), (up_n (by omega) (up_n (by omega) (up_n (by omega) h9_.2.1))), (up_n (by omega) (up_n (by omega) (up_n (by omega) h9_.2.2)))⟩), (fun k9 hk9 => by have h9_ := hms k9 hk9; have i9_ := hI.1.2.2.2.2; exact (up_n (by omega) (up_n (by omega) (up_n (by omega) h9_))))⟩, (Or.inr ⟨rfl, rfl, rfl⟩), (tbOk_tb hI).1, (tbOk_tb hI).2.1⟩, hI, ⟨rfl, fun r hr => ⟨(up_n (by omega) (up_n (by omega) (up_n (by omega) rfl))), rfl⟩⟩, ⟨rfl, rfl, by omega, by omega, by omega, by omega, by omega, z_77, rfl, Or.inr (Or.inl ⟨hs_29, by omega⟩)⟩⟩, by rw [ht]; exact hP, hD⟩, hS.F ht⟩) hS.2.2 dX5_sum_80
        · skip
          refine k_tab (pc := 29) (v := 2) (tgt := 81) hx hb hs_29 (by decide) (by decide) (by decide) rfl dX5_sum_29 (by decide) ?_
          refine lv_aload_n (pc := 81) hx hb dX5_sum_81 rfl (lv_at hl 0 rfl) ?_
          refine k_get (pc := 82) (ci := 5) (C := RX5) (T := TX5) (N := 13) hx hb hts hi5 hown hK hP 0 (up_s _ _ _) rfl 6 (by decide) hf42 (fun _ h9 => h9) rfl dX5_sum_82 ?_
          refine lv_aload_n (pc := 85) hx hb dX5_sum_85 rfl (lv_at hl 0 rfl) ?_
          refine k_get (pc := 86) (ci := 5) (C := RX5) (T := TX5) (N := 13) hx hb hts hi5 hown hK hP 0 (up_s _ _ _) rfl 6 (by decide) hf42 (fun _ h9 => h9) rfl dX5_sum_86 ?_
          refine lv_iload_n (pc := 89) hx hb dX5_sum_89 rfl (lv_at hl 1 rfl) ?_
          refine lv_iload_n (pc := 90) hx hb dX5_sum_90 rfl (lv_at hl 2 rfl) ?_
          refine k_call0 (pc := 91) (va_runV (As := [.int (iI fr), .int (iI to_)]) (rest := [.ref (ad 9)]) ⟨hx, hb, hml, hown, hts⟩ (c_X1_greatestDay l D cA ad (up (up (up w 10 (eJ (cA 2) 400 (tbF sc fn))) 11 (eI (cA 0) 400 (tbS sc fn))) 0 (oB 5 [.ref (ad 1), .ref (ad 2), .ref (ad 5), .ref (ad 6), .ref (ad 7), .ref (ad 8), .ref (ad 9), .ref (ad 12), .int (iI (sc 0)), .int (iI (sc 4)), .int (iI (sc 2)), .int (iI (sc 3)), .int (iI 1)])) 9 10 11 (tbF sc fn) (tbS sc fn) (up_n (by decide) (up_n (by decide) (up_n (by decide) h9))) (up_n (by decide) (up_n (by decide) (up_s _ _ _))) (up_n (by decide) (up_s _ _ _)) (tbOk_tb hI).1 (tbOk_tb hI).2.1 (tbOk_tb hI).2.2.1 fr to_ (by omega)) (cwV 2 hts gX5_sum_X1_greatestDay rfl rfl rfl (by decide +kernel) ⟨Nat.le_of_ble_eq_true rfl, Nat.le_of_ble_eq_true rfl⟩) (gR_V hP hK hB 9 (ci := 1) rfl (up_n (by decide) (up_n (by decide) (up_n (by decide) h9)))) rfl rfl hl.1 rfl (lv_room (Nat.le_of_ble_eq_true rfl)) dX5_sum_91 ⟨Nat.le_of_ble_eq_true rfl, Nat.le_of_ble_eq_true rfl⟩) (fun v_91 hv_91 => ?_)
          obtain ⟨z_91, rfl, hz_91, hy_91, hw_91⟩ := hv_91
          refine W.eq (g2 := F0 m 94 ls [.int (iI z_91), .ref (ad 9)]) rfl ?_
          refine k_call0 (pc := 94) (va_runV (As := [.int (iI z_91)]) (rest := []) ⟨hx, hb, hml, hown, hts⟩ (c_X1_flowOn l D cA ad (up (up (up w 10 (eJ (cA 2) 400 (tbF sc fn))) 11 (eI (cA 0) 400 (tbS sc fn))) 0 (oB 5 [.ref (ad 1), .ref (ad 2), .ref (ad 5), .ref (ad 6), .ref (ad 7), .ref (ad 8), .ref (ad 9), .ref (ad 12), .int (iI (sc 0)), .int (iI (sc 4)), .int (iI (sc 2)), .int (iI (sc 3)), .int (iI 1)])) 9 10 11 (tbF sc fn) (tbS sc fn) (up_n (by decide) (up_n (by decide) (up_n (by decide) h9))) (up_n (by decide) (up_n (by decide) (up_s _ _ _))) (up_n (by decide) (up_s _ _ _)) (tbOk_tb hI).1 (tbOk_tb hI).2.1 z_91 ⟨by omega, by omega⟩) (cwV 1 hts gX5_sum_X1_flowOn rfl rfl rfl (by decide +kernel) ⟨Nat.le_of_ble_eq_true rfl, Nat.le_of_ble_eq_true rfl⟩) (gR_V hP hK hB 9 (ci := 1) rfl (up_n (by decide) (up_n (by decide) (up_n (by decide) h9)))) rfl rfl hl.1 rfl (lv_room (Nat.le_of_ble_eq_true rfl)) dX5_sum_94 ⟨Nat.le_of_ble_eq_true rfl, Nat.le_of_ble_eq_true rfl⟩) (fun v_94 hv_94 => ?_)
          obtain ⟨z_94, rfl, hz_94⟩ := hv_94
          have hb_94 := (tbOk_tb hI).1 z_91
          refine W.eq (g2 := F0 m 97 ls [.long (lI z_94)]) rfl ?_
          rw [hQ9]
          refine vx_ret ?_
          refine W.widen (k := 2) (n := 12) (by decide) (by decide) ?_
          exact W.lret (v := lI z_94) hx hb hret (fun t ht hW => ⟨⟨some (.long (lI z_94)), ad, (up (up (up w 10 (eJ (cA 2) 400 (tbF sc fn))) 11 (eI (cA 0) 400 (tbS sc fn))) 0 (oB 5 [.ref (ad 1), .ref (ad 2), .ref (ad 5), .ref (ad 6), .ref (ad 7), .ref (ad 8), .ref (ad 9), .ref (ad 12), .int (iI (sc 0)), .int (iI (sc 4)), .int (iI (sc 2)), .int (iI (sc 3)), .int (iI 1)])), rfl, ⟨sc, fn, ⟨1, (tbF sc fn), (tbS sc fn), rn, rd, rm_, rz, ⟨(up_s _ _ _), (up_n (by decide) (up_n (by decide) (up_n (by decide) h1))), (up_n (by decide) (up_n (by decide) (up_n (by decide) h2))), (up_n (by decide) (up_n (by decide) (up_n (by decide) h3))), (up_n (by decide) (up_n (by decide) (up_n (by decide) h4))), (up_n (by decide) (up_n (by decide) (up_n (by decide) h5))), (up_n (by decide) (up_n (by decide) (up_n (by decide) h6))), (up_n (by decide) (up_n (by decide) (up_n (by decide) h7))), (up_n (by decide) (up_n (by decide) (up_n (by decide) h8))), (up_n (by decide) (up_n (by decide) (up_n (by decide) h9))), (up_n (by decide) (up_n (by decide) (up_s _ _ _))), (up_n (by decide) (up_s _ _ _)), (up_n (by decide) (up_n (by decide) (up_n (by decide) h12))), (up_n (by decide) (up_n (by decide) (up_n (by decide) h13))), (up_n (by decide) (up_n (by decide) (up_n (by decide) h14))), (up_n (by decide) (up_n (by decide) (up_n (by decide) h15))), (fun k9 hk9 => by have h9_ := hcv k9 hk9; have i9_ := hI.1.1; exact ⟨(up_n (by omega) (up_n (by omega) (up_n (by omega) h9_.1))), (up_n (by omega) (up_n (by omega) (up_n (by omega) h9_.2.1))), (up_n (by omega) (up_n (by omega) (up_n (by omega) h9_.2.2)))⟩), (fun k9 hk9 => by have h9_ := hms k9 hk9; have i9_ := hI.1.2.2.2.2; exact (up_n (by omega) (up_n (by omega) (up_n (by omega) h9_))))⟩, (Or.inr ⟨rfl, rfl, rfl⟩), (tbOk_tb hI).1, (tbOk_tb hI).2.1⟩, hI, ⟨rfl, fun r hr => ⟨(up_n (by omega) (up_n (by omega) (up_n (by omega) rfl))), rfl⟩⟩, ⟨rfl, rfl, by omega, by omega, by omega, by omega, by omega, z_94, rfl, Or.inr (Or.inr (Or.inl ⟨hs_29, z_91, hz_91, by rcases hz_91 with ⟨g1, g2⟩ | ⟨g1, g2, g3⟩; exact Or.inl ⟨g1, by omega⟩; exact Or.inr ⟨by omega, by omega⟩⟩))⟩⟩, by rw [ht]; exact hP, hD⟩, hS.F ht⟩) hS.2.2 dX5_sum_97
        · skip
          refine k_tab (pc := 29) (v := 3) (tgt := 98) hx hb hs_29 (by decide) (by decide) (by decide) rfl dX5_sum_29 (by decide) ?_
          refine lv_aload_n (pc := 98) hx hb dX5_sum_98 rfl (lv_at hl 0 rfl) ?_
          refine k_get (pc := 99) (ci := 5) (C := RX5) (T := TX5) (N := 13) hx hb hts hi5 hown hK hP 0 (up_s _ _ _) rfl 6 (by decide) hf42 (fun _ h9 => h9) rfl dX5_sum_99 ?_
          refine lv_iload_n (pc := 102) hx hb dX5_sum_102 rfl (lv_at hl 1 rfl) ?_
          refine lv_iload_n (pc := 103) hx hb dX5_sum_103 rfl (lv_at hl 2 rfl) ?_
          refine k_call0 (pc := 104) (va_runV (As := [.int (iI fr), .int (iI to_)]) (rest := []) ⟨hx, hb, hml, hown, hts⟩ (c_X1_leastFlow l D cA ad (up (up (up w 10 (eJ (cA 2) 400 (tbF sc fn))) 11 (eI (cA 0) 400 (tbS sc fn))) 0 (oB 5 [.ref (ad 1), .ref (ad 2), .ref (ad 5), .ref (ad 6), .ref (ad 7), .ref (ad 8), .ref (ad 9), .ref (ad 12), .int (iI (sc 0)), .int (iI (sc 4)), .int (iI (sc 2)), .int (iI (sc 3)), .int (iI 1)])) 9 10 11 (tbF sc fn) (tbS sc fn) (up_n (by decide) (up_n (by decide) (up_n (by decide) h9))) (up_n (by decide) (up_n (by decide) (up_s _ _ _))) (up_n (by decide) (up_s _ _ _)) (tbOk_tb hI).1 (tbOk_tb hI).2.1 (tbOk_tb hI).2.2.1 fr to_ (by omega)) (cwV 2 hts gX5_sum_X1_leastFlow rfl rfl rfl (by decide +kernel) ⟨Nat.le_of_ble_eq_true rfl, Nat.le_of_ble_eq_true rfl⟩) (gR_V hP hK hB 9 (ci := 1) rfl (up_n (by decide) (up_n (by decide) (up_n (by decide) h9)))) rfl rfl hl.1 rfl (lv_room (Nat.le_of_ble_eq_true rfl)) dX5_sum_104 ⟨Nat.le_of_ble_eq_true rfl, Nat.le_of_ble_eq_true rfl⟩) (fun v_104 hv_104 => ?_)
          obtain ⟨z_104, rfl, hz_104⟩ := hv_104
          refine W.eq (g2 := F0 m 107 ls [.long (lI z_104)]) rfl ?_
          rw [hQ9]
          refine vx_ret ?_
          refine W.widen (k := 2) (n := 12) (by decide) (by decide) ?_
          exact W.lret (v := lI z_104) hx hb hret (fun t ht hW => ⟨⟨some (.long (lI z_104)), ad, (up (up (up w 10 (eJ (cA 2) 400 (tbF sc fn))) 11 (eI (cA 0) 400 (tbS sc fn))) 0 (oB 5 [.ref (ad 1), .ref (ad 2), .ref (ad 5), .ref (ad 6), .ref (ad 7), .ref (ad 8), .ref (ad 9), .ref (ad 12), .int (iI (sc 0)), .int (iI (sc 4)), .int (iI (sc 2)), .int (iI (sc 3)), .int (iI 1)])), rfl, ⟨sc, fn, ⟨1, (tbF sc fn), (tbS sc fn), rn, rd, rm_, rz, ⟨(up_s _ _ _), (up_n (by decide) (up_n (by decide) (up_n (by decide) h1))), (up_n (by decide) (up_n (by decide) (up_n (by decide) h2))), (up_n (by decide) (up_n (by decide) (up_n (by decide) h3))), (up_n (by decide) (up_n (by decide) (up_n (by decide) h4))), (up_n (by decide) (up_n (by decide) (up_n (by decide) h5))), (up_n (by decide) (up_n (by decide) (up_n (by decide) h6))), (up_n (by decide) (up_n (by decide) (up_n (by decide) h7))), (up_n (by decide) (up_n (by decide) (up_n (by decide) h8))), (up_n (by decide) (up_n (by decide) (up_n (by decide) h9))), (up_n (by decide) (up_n (by decide) (up_s _ _ _))), (up_n (by decide) (up_s _ _ _)), (up_n (by decide) (up_n (by decide) (up_n (by decide) h12))), (up_n (by decide) (up_n (by decide) (up_n (by decide) h13))), (up_n (by decide) (up_n (by decide) (up_n (by decide) h14))), (up_n (by decide) (up_n (by decide) (up_n (by decide) h15))), (fun k9 hk9 => by have h9_ := hcv k9 hk9; have i9_ := hI.1.1; exact ⟨(up_n (by omega) (up_n (by omega) (up_n (by omega) h9_.1))), (up_n (by omega) (up_n (by omega) (up_n (by omega) h9_.2.1))), (up_n (by omega) (up_n (by omega) (up_n (by omega) h9_.2.2)))⟩), (fun k9 hk9 => by have h9_ := hms k9 hk9; have i9_ := hI.1.2.2.2.2; exact (up_n (by omega) (up_n (by omega) (up_n (by omega) h9_))))⟩, (Or.inr ⟨rfl, rfl, rfl⟩), (tbOk_tb hI).1, (tbOk_tb hI).2.1⟩, hI, ⟨rfl, fun r hr => ⟨(up_n (by omega) (up_n (by omega) (up_n (by omega) rfl))), rfl⟩⟩, ⟨rfl, rfl, by omega, by omega, by omega, by omega, by omega, z_104, rfl, Or.inr (Or.inr (Or.inr (Or.inl ⟨hs_29, hz_104⟩)))⟩⟩, by rw [ht]; exact hP, hD⟩, hS.F ht⟩) hS.2.2 dX5_sum_107
        · skip
          refine k_tabOut (pc := 29) (tgt := 108) hx hb ⟨by omega, by omega⟩ hs_29 dX5_sum_29 (by decide) ?_
          refine lv_aload_n (pc := 108) hx hb dX5_sum_108 rfl (lv_at hl 0 rfl) ?_
          refine k_get (pc := 109) (ci := 5) (C := RX5) (T := TX5) (N := 13) hx hb hts hi5 hown hK hP 0 (up_s _ _ _) rfl 6 (by decide) hf42 (fun _ h9 => h9) rfl dX5_sum_109 ?_
          refine lv_iload_n (pc := 112) hx hb dX5_sum_112 rfl (lv_at hl 1 rfl) ?_
          refine lv_iload_n (pc := 113) hx hb dX5_sum_113 rfl (lv_at hl 2 rfl) ?_
          refine k_call0 (pc := 114) (va_runV (As := [.int (iI fr), .int (iI to_)]) (rest := []) ⟨hx, hb, hml, hown, hts⟩ (c_X1_greatestDay l D cA ad (up (up (up w 10 (eJ (cA 2) 400 (tbF sc fn))) 11 (eI (cA 0) 400 (tbS sc fn))) 0 (oB 5 [.ref (ad 1), .ref (ad 2), .ref (ad 5), .ref (ad 6), .ref (ad 7), .ref (ad 8), .ref (ad 9), .ref (ad 12), .int (iI (sc 0)), .int (iI (sc 4)), .int (iI (sc 2)), .int (iI (sc 3)), .int (iI 1)])) 9 10 11 (tbF sc fn) (tbS sc fn) (up_n (by decide) (up_n (by decide) (up_n (by decide) h9))) (up_n (by decide) (up_n (by decide) (up_s _ _ _))) (up_n (by decide) (up_s _ _ _)) (tbOk_tb hI).1 (tbOk_tb hI).2.1 (tbOk_tb hI).2.2.1 fr to_ (by omega)) (cwV 2 hts gX5_sum_X1_greatestDay rfl rfl rfl (by decide +kernel) ⟨Nat.le_of_ble_eq_true rfl, Nat.le_of_ble_eq_true rfl⟩) (gR_V hP hK hB 9 (ci := 1) rfl (up_n (by decide) (up_n (by decide) (up_n (by decide) h9)))) rfl rfl hl.1 rfl (lv_room (Nat.le_of_ble_eq_true rfl)) dX5_sum_114 ⟨Nat.le_of_ble_eq_true rfl, Nat.le_of_ble_eq_true rfl⟩) (fun v_114 hv_114 => ?_)
          obtain ⟨z_114, rfl, hz_114, hy_114, hw_114⟩ := hv_114
          refine W.eq (g2 := F0 m 117 ls [.int (iI z_114)]) rfl ?_
          refine k_i2l (pc := 117) hx hb ⟨by omega, by omega⟩ dX5_sum_117 ?_
          rw [hQ9]
          refine vx_ret ?_
          refine W.widen (k := 2) (n := 12) (by decide) (by decide) ?_
          exact W.lret (v := lI z_114) hx hb hret (fun t ht hW => ⟨⟨some (.long (lI z_114)), ad, (up (up (up w 10 (eJ (cA 2) 400 (tbF sc fn))) 11 (eI (cA 0) 400 (tbS sc fn))) 0 (oB 5 [.ref (ad 1), .ref (ad 2), .ref (ad 5), .ref (ad 6), .ref (ad 7), .ref (ad 8), .ref (ad 9), .ref (ad 12), .int (iI (sc 0)), .int (iI (sc 4)), .int (iI (sc 2)), .int (iI (sc 3)), .int (iI 1)])), rfl, ⟨sc, fn, ⟨1, (tbF sc fn), (tbS sc fn), rn, rd, rm_, rz, ⟨(up_s _ _ _), (up_n (by decide) (up_n (by decide) (up_n (by decide) h1))), (up_n (by decide) (up_n (by decide) (up_n (by decide) h2))), (up_n (by decide) (up_n (by decide) (up_n (by decide) h3))), (up_n (by decide) (up_n (by decide) (up_n (by decide) h4))), (up_n (by decide) (up_n (by decide) (up_n (by decide) h5))), (up_n (by decide) (up_n (by decide) (up_n (by decide) h6))), (up_n (by decide) (up_n (by decide) (up_n (by decide) h7))), (up_n (by decide) (up_n (by decide) (up_n (by decide) h8))), (up_n (by decide) (up_n (by decide) (up_n (by decide) h9))), (up_n (by decide) (up_n (by decide) (up_s _ _ _))), (up_n (by decide) (up_s _ _ _)), (up_n (by decide) (up_n (by decide) (up_n (by decide) h12))), (up_n (by decide) (up_n (by decide) (up_n (by decide) h13))), (up_n (by decide) (up_n (by decide) (up_n (by decide) h14))), (up_n (by decide) (up_n (by decide) (up_n (by decide) h15))), (fun k9 hk9 => by have h9_ := hcv k9 hk9; have i9_ := hI.1.1; exact ⟨(up_n (by omega) (up_n (by omega) (up_n (by omega) h9_.1))), (up_n (by omega) (up_n (by omega) (up_n (by omega) h9_.2.1))), (up_n (by omega) (up_n (by omega) (up_n (by omega) h9_.2.2)))⟩), (fun k9 hk9 => by have h9_ := hms k9 hk9; have i9_ := hI.1.2.2.2.2; exact (up_n (by omega) (up_n (by omega) (up_n (by omega) h9_))))⟩, (Or.inr ⟨rfl, rfl, rfl⟩), (tbOk_tb hI).1, (tbOk_tb hI).2.1⟩, hI, ⟨rfl, fun r hr => ⟨(up_n (by omega) (up_n (by omega) (up_n (by omega) rfl))), rfl⟩⟩, ⟨rfl, rfl, by omega, by omega, by omega, by omega, by omega, z_114, rfl, Or.inr (Or.inr (Or.inr (Or.inr ⟨by omega, hz_114⟩)))⟩⟩, by rw [ht]; exact hP, hD⟩, hS.F ht⟩) hS.2.2 dX5_sum_118
    · skip
      obtain ⟨sa_9, hsa_9⟩ := ns_165 hB
      rw [hQ9]
      exact vx_throwS (pc := 9) (own := RX5) (cls := xIX) (names := ["java/lang/RuntimeException", "java/lang/Exception"]) (ik := 90) (is := 165) (ic := 94) (A := A) hx hb hl0 hown (by decide +kernel) (by decide +kernel) (hts (.classLink RX5 90 "java/lang/IndexOutOfBoundsException") (by decide +kernel)) (hts (.initialized "java/lang/IndexOutOfBoundsException") (by decide +kernel)) hsa_9 (gx_hat hB (E := xIX) (i := 2) rfl (fun w h => hts w (hxw_xIX_94 w h)) (by decide +kernel)) (by decide +kernel) hZ.1 hZ.2 hS (hl.1.trans hml.symm) dX5_sum_9 dX5_sum_12 dX5_sum_13 dX5_sum_15 dX5_sum_18 (fun x h => (hE x h).elim) (Nat.le_of_ble_eq_true rfl) (Nat.le_of_ble_eq_true rfl) (Nat.le_of_ble_eq_true rfl) (Nat.le_of_ble_eq_true rfl) hlocks (fun t hW hz hk => ⟨Or.inl ⟨rfl, by omega⟩, fun r x hr => (hP r x hr).kept (hk _ (hP r x hr).lt), hD, Nat.le_trans hS.1 hz, fun q h1 h2 => (hk q (Nat.lt_of_lt_of_le h1 hS.1)).trans (hS.2.1 q h1 h2)⟩) hS.2.2 (Nat.le_of_ble_eq_true rfl) (Nat.le_of_ble_eq_true rfl)




/-- what count() tells -/
def cntV (sc : Nat → Int) (fn : Nat → Int → Int) (what : Int) : Int := if what = 0 then sc 0 else if what = 1 then sc 1 else if what = 2 then cntT (fn 3) 0 400 else if what = 3 then cntT (fn 4) 0 400 else sc 4

