abbrev rmX1_stateOn : Room := { frames := 0, cells := 0, slots := 0, locals := 0 }
theorem hiX1_stateOn_1 : ∀ w ∈ wsX10, w ∈ wsX1_stateOn := by decide +kernel
set_option maxHeartbeats 4000000 in
set_option maxRecDepth 100000 in
theorem c_X1_stateOn (l : Launch) (D : va_G) (cA : Nat → ClassId) (ad : Nat → Nat) (w : Nat → Option va_E) (r0 r1 r2 : Nat) (F S : Int → Int) (h0 : w r0 = some (oB 1 [.ref (ad r1), .ref (ad r2)])) (h1 : w r1 = some (eJ (cA 2) 400 F)) (h2 : w r2 = some (eI (cA 0) 400 S)) (hF : ∀ j : Int, -1 ≤ F j ∧ F j ≤ 1000000000000) (hS9 : ∀ j : Int, 0 ≤ S j ∧ S j ≤ 3) (d : Int) (hd : -2147483648 ≤ d ∧ d < 2147483648) : Met l yX1_stateOn wsX1_stateOn rmX1_stateOn (gR D cA ad w [.ref (ad r0), .int (iI d)]) (gR0 (fun v9 => ∃ z : Int, v9 = some (.int (iI z)) ∧ ((0 ≤ d ∧ d < 400 ∧ z = S d) ∨ (¬ (0 ≤ d ∧ d < 400) ∧ z = 0)))) 0 0 (fun _ => False) := by
  refine Met.ofW (cc := cX1_stateOn) (maxL := 2) (ret := (some .int)) (by decide) rfl ?_
  intro p e s m args below meth c s₁ B hml hv
  obtain ⟨hav, hP, hK, hB⟩ := hv
  have hx := B.exec
  have hb := B.bytes
  have hret := B.returns
  have hts := atoms_spec (ws := wsX1_stateOn) B.pre
  have hown : s.vm.findClass RX1 = some m.cls := findClass_of_methodNamed B.named
  have hlocks := B.notSynchronized
  have hS : va_S (fun _ => False) s.heap s.heap [] := va_S.rf
  have hi1 := hiX1_stateOn_1
  have hf15 := hts (.fieldLink RX1 15 "GaugeBook$FlowTable" "states" "[I") (by decide +kernel)
  have he9 : entryFrame m args 2 = F0 m 0 ((lg_sl ([.ref (ad r0), .int (iI d)] : List Value) ++ List.replicate (2 - (lg_sl ([.ref (ad r0), .int (iI d)] : List Value)).length) Slot.unset).toArray) [] := by rw [hav, lg_entry_eq]
  rw [he9]
  have hl := lv_entry ([.ref (ad r0), .int (iI d)] : List Value) (n := 2) (Nat.le_of_ble_eq_true rfl)
  generalize (lg_sl ([.ref (ad r0), .int (iI d)] : List Value) ++ List.replicate (2 - (lg_sl ([.ref (ad r0), .int (iI d)] : List Value)).length) Slot.unset).toArray = ls at hl ⊢
  have hl : lv_has ls 2 [(0, .ref (ad r0)), (1, .int (iI d))] := hl
  obtain ⟨Q9, hQ9⟩ : ∃ z, z = MQ below (gR0 (fun v9 => ∃ z : Int, v9 = some (.int (iI z)) ∧ ((0 ≤ d ∧ d < 400 ∧ z = S d) ∨ (¬ (0 ≤ d ∧ d < 400) ∧ z = 0)))) args s 0 0 (fun _ => False) := ⟨_, rfl⟩
  rw [← hQ9]
  show W p l e rmX1_stateOn s m args below meth c s.heap [] 0 0 Q9 (F0 m 0 ls [])
  refine lv_iload_n (pc := 0) hx hb dX1_stateOn_0 rfl (lv_at hl 1 rfl) ?_
  refine k_if_lt (pc := 1) (tgt := 11) hx hb ⟨by omega, by omega⟩ dX1_stateOn_1 (by decide) (fun hc_1 => ?_) (fun hc_1 => ?_)
  · skip
    refine k_iconst (pc := 11) hx hb dX1_stateOn_11 ?_
    refine lv_goto (pc := 12) (tgt := 21) hx hb dX1_stateOn_12 (by decide) ?_
    rw [hQ9]
    exact W.iret (v := iI 0) hx hb hret (fun t ht hW => ⟨some (.int (iI 0)), rfl, ⟨0, rfl, Or.inr ⟨by omega, rfl⟩⟩, ht⟩) (fun q hq => by cases hq) dX1_stateOn_21
  · skip
    refine lv_iload_n (pc := 4) hx hb dX1_stateOn_4 rfl (lv_at hl 1 rfl) ?_
    refine k_sipush (pc := 5) hx hb dX1_stateOn_5 (by decide +kernel) ?_
    refine k_icmp_lt (pc := 8) (tgt := 15) hx hb ⟨by omega, by omega⟩ ⟨by omega, by omega⟩ dX1_stateOn_8 (by decide) (fun hc_8 => ?_) (fun hc_8 => ?_)
    · skip
      refine lv_aload_n (pc := 15) hx hb dX1_stateOn_15 rfl (lv_at hl 0 rfl) ?_
      refine k_get (pc := 16) (ci := 1) (C := RX1) (T := TX1) (N := 2) hx hb hts hi1 hown hK hP r0 h0 rfl 1 (by decide) hf15 (fun _ h9 => h9) rfl dX1_stateOn_16 ?_
      refine lv_iload_n (pc := 19) hx hb dX1_stateOn_19 rfl (lv_at hl 1 rfl) ?_
      refine k_iald (pc := 20) hx hb hK hP r2 0 h2 rfl (by omega) (by omega) (by omega) dX1_stateOn_20 ?_
      have hq_20 := hS9 d
      rw [hQ9]
      exact W.iret (v := iI (S d)) hx hb hret (fun t ht hW => ⟨some (.int (iI (S d))), rfl, ⟨S d, rfl, Or.inl ⟨by omega, by omega, rfl⟩⟩, ht⟩) (fun q hq => by cases hq) dX1_stateOn_21
    · skip
      refine k_iconst (pc := 11) hx hb dX1_stateOn_11 ?_
      refine lv_goto (pc := 12) (tgt := 21) hx hb dX1_stateOn_12 (by decide) ?_
      rw [hQ9]
      exact W.iret (v := iI 0) hx hb hret (fun t ht hW => ⟨some (.int (iI 0)), rfl, ⟨0, rfl, Or.inr ⟨by omega, rfl⟩⟩, ht⟩) (fun q hq => by cases hq) dX1_stateOn_21

abbrev rmX1_flowOn : Room := { frames := 0, cells := 0, slots := 0, locals := 0 }
theorem hiX1_flowOn_1 : ∀ w ∈ wsX10, w ∈ wsX1_flowOn := by decide +kernel
set_option maxHeartbeats 4000000 in
set_option maxRecDepth 100000 in
theorem c_X1_flowOn (l : Launch) (D : va_G) (cA : Nat → ClassId) (ad : Nat → Nat) (w : Nat → Option va_E) (r0 r1 r2 : Nat) (F S : Int → Int) (h0 : w r0 = some (oB 1 [.ref (ad r1), .ref (ad r2)])) (h1 : w r1 = some (eJ (cA 2) 400 F)) (h2 : w r2 = some (eI (cA 0) 400 S)) (hF : ∀ j : Int, -1 ≤ F j ∧ F j ≤ 1000000000000) (hS9 : ∀ j : Int, 0 ≤ S j ∧ S j ≤ 3) (d : Int) (hd : -2147483648 ≤ d ∧ d < 2147483648) : Met l yX1_flowOn wsX1_flowOn rmX1_flowOn (gR D cA ad w [.ref (ad r0), .int (iI d)]) (gR0 (fun v9 => ∃ z : Int, v9 = some (.long (lI z)) ∧ ((0 ≤ d ∧ d < 400 ∧ z = F d) ∨ (¬ (0 ≤ d ∧ d < 400) ∧ z = -1)))) 0 0 (fun _ => False) := by
  refine Met.ofW (cc := cX1_flowOn) (maxL := 2) (ret := (some .long)) (by decide) rfl ?_
  intro p e s m args below meth c s₁ B hml hv
  obtain ⟨hav, hP, hK, hB⟩ := hv
  have hx := B.exec
  have hb := B.bytes
  have hret := B.returns
  have hts := atoms_spec (ws := wsX1_flowOn) B.pre
  have hown : s.vm.findClass RX1 = some m.cls := findClass_of_methodNamed B.named
  have hlocks := B.notSynchronized
  have hS : va_S (fun _ => False) s.heap s.heap [] := va_S.rf
  have hi1 := hiX1_flowOn_1
  have hf9 := hts (.fieldLink RX1 9 "GaugeBook$FlowTable" "flows" "[J") (by decide +kernel)
  have he9 : entryFrame m args 2 = F0 m 0 ((lg_sl ([.ref (ad r0), .int (iI d)] : List Value) ++ List.replicate (2 - (lg_sl ([.ref (ad r0), .int (iI d)] : List Value)).length) Slot.unset).toArray) [] := by rw [hav, lg_entry_eq]
  rw [he9]
  have hl := lv_entry ([.ref (ad r0), .int (iI d)] : List Value) (n := 2) (Nat.le_of_ble_eq_true rfl)
  generalize (lg_sl ([.ref (ad r0), .int (iI d)] : List Value) ++ List.replicate (2 - (lg_sl ([.ref (ad r0), .int (iI d)] : List Value)).length) Slot.unset).toArray = ls at hl ⊢
  have hl : lv_has ls 2 [(0, .ref (ad r0)), (1, .int (iI d))] := hl
  obtain ⟨Q9, hQ9⟩ : ∃ z, z = MQ below (gR0 (fun v9 => ∃ z : Int, v9 = some (.long (lI z)) ∧ ((0 ≤ d ∧ d < 400 ∧ z = F d) ∨ (¬ (0 ≤ d ∧ d < 400) ∧ z = -1)))) args s 0 0 (fun _ => False) := ⟨_, rfl⟩
  rw [← hQ9]
  show W p l e rmX1_flowOn s m args below meth c s.heap [] 0 0 Q9 (F0 m 0 ls [])
  refine lv_iload_n (pc := 0) hx hb dX1_flowOn_0 rfl (lv_at hl 1 rfl) ?_
  refine k_if_lt (pc := 1) (tgt := 11) hx hb ⟨by omega, by omega⟩ dX1_flowOn_1 (by decide) (fun hc_1 => ?_) (fun hc_1 => ?_)
  · skip
    refine k_ldc2 (z := (-1)) (pc := 11) hx hb hown (hts (.constantLong RX1 19 (-1)) (by decide +kernel)) (by decide +kernel) dX1_flowOn_11 ?_
    refine lv_goto (pc := 14) (tgt := 23) hx hb dX1_flowOn_14 (by decide) ?_
    rw [hQ9]
    exact W.lret (v := lI (-1)) hx hb hret (fun t ht hW => ⟨some (.long (lI (-1))), rfl, ⟨(-1), rfl, Or.inr ⟨by omega, rfl⟩⟩, ht⟩) (fun q hq => by cases hq) dX1_flowOn_23
  · skip
    refine lv_iload_n (pc := 4) hx hb dX1_flowOn_4 rfl (lv_at hl 1 rfl) ?_
    refine k_sipush (pc := 5) hx hb dX1_flowOn_5 (by decide +kernel) ?_
    refine k_icmp_lt (pc := 8) (tgt := 17) hx hb ⟨by omega, by omega⟩ ⟨by omega, by omega⟩ dX1_flowOn_8 (by decide) (fun hc_8 => ?_) (fun hc_8 => ?_)
    · skip
      refine lv_aload_n (pc := 17) hx hb dX1_flowOn_17 rfl (lv_at hl 0 rfl) ?_
      refine k_get (pc := 18) (ci := 1) (C := RX1) (T := TX1) (N := 2) hx hb hts hi1 hown hK hP r0 h0 rfl 0 (by decide) hf9 (fun _ h9 => h9) rfl dX1_flowOn_18 ?_
      refine lv_iload_n (pc := 21) hx hb dX1_flowOn_21 rfl (lv_at hl 1 rfl) ?_
      refine k_lald (pc := 22) hx hb hK hP r1 2 h1 rfl (by omega) (by omega) (by omega) dX1_flowOn_22 ?_
      have hq_22 := hF d
      rw [hQ9]
      exact W.lret (v := lI (F d)) hx hb hret (fun t ht hW => ⟨some (.long (lI (F d))), rfl, ⟨F d, rfl, Or.inl ⟨by omega, by omega, rfl⟩⟩, ht⟩) (fun q hq => by cases hq) dX1_flowOn_23
    · skip
      refine k_ldc2 (z := (-1)) (pc := 11) hx hb hown (hts (.constantLong RX1 19 (-1)) (by decide +kernel)) (by decide +kernel) dX1_flowOn_11 ?_
      refine lv_goto (pc := 14) (tgt := 23) hx hb dX1_flowOn_14 (by decide) ?_
      rw [hQ9]
      exact W.lret (v := lI (-1)) hx hb hret (fun t ht hW => ⟨some (.long (lI (-1))), rfl, ⟨(-1), rfl, Or.inr ⟨by omega, rfl⟩⟩, ht⟩) (fun q hq => by cases hq) dX1_flowOn_23

abbrev rmX1_hasFlow : Room := { frames := 1, cells := 0, slots := 0, locals := 21 }
set_option maxHeartbeats 4000000 in
set_option maxRecDepth 100000 in
theorem c_X1_hasFlow (l : Launch) (D : va_G) (cA : Nat → ClassId) (ad : Nat → Nat) (w : Nat → Option va_E) (r0 r1 r2 : Nat) (F S : Int → Int) (h0 : w r0 = some (oB 1 [.ref (ad r1), .ref (ad r2)])) (h1 : w r1 = some (eJ (cA 2) 400 F)) (h2 : w r2 = some (eI (cA 0) 400 S)) (hF : ∀ j : Int, -1 ≤ F j ∧ F j ≤ 1000000000000) (hS9 : ∀ j : Int, 0 ≤ S j ∧ S j ≤ 3) (d : Int) (hd : -2147483648 ≤ d ∧ d < 2147483648) : Met l yX1_hasFlow wsX1_hasFlow rmX1_hasFlow (gR D cA ad w [.ref (ad r0), .int (iI d)]) (gR0 (fun v9 => ∃ z : Int, v9 = some (.int (iI z)) ∧ ((z = 1 ∧ 0 ≤ d ∧ d < 400 ∧ S d ≠ 0) ∨ (z = 0 ∧ ¬ (0 ≤ d ∧ d < 400 ∧ S d ≠ 0))))) 0 0 (fun _ => False) := by
  refine Met.ofW (cc := cX1_hasFlow) (maxL := 2) (ret := (some .boolean)) (by decide) rfl ?_
  intro p e s m args below meth c s₁ B hml hv
  obtain ⟨hav, hP, hK, hB⟩ := hv
  have hx := B.exec
  have hb := B.bytes
  have hret := B.returns
  have hts := atoms_spec (ws := wsX1_hasFlow) B.pre
  have hown : s.vm.findClass RX1 = some m.cls := findClass_of_methodNamed B.named
  have hlocks := B.notSynchronized
  have hS : va_S (fun _ => False) s.heap s.heap [] := va_S.rf
  have he9 : entryFrame m args 2 = F0 m 0 ((lg_sl ([.ref (ad r0), .int (iI d)] : List Value) ++ List.replicate (2 - (lg_sl ([.ref (ad r0), .int (iI d)] : List Value)).length) Slot.unset).toArray) [] := by rw [hav, lg_entry_eq]
  rw [he9]
  have hl := lv_entry ([.ref (ad r0), .int (iI d)] : List Value) (n := 2) (Nat.le_of_ble_eq_true rfl)
  generalize (lg_sl ([.ref (ad r0), .int (iI d)] : List Value) ++ List.replicate (2 - (lg_sl ([.ref (ad r0), .int (iI d)] : List Value)).length) Slot.unset).toArray = ls at hl ⊢
  have hl : lv_has ls 2 [(0, .ref (ad r0)), (1, .int (iI d))] := hl
  obtain ⟨Q9, hQ9⟩ : ∃ z, z = MQ below (gR0 (fun v9 => ∃ z : Int, v9 = some (.int (iI z)) ∧ ((z = 1 ∧ 0 ≤ d ∧ d < 400 ∧ S d ≠ 0) ∨ (z = 0 ∧ ¬ (0 ≤ d ∧ d < 400 ∧ S d ≠ 0))))) args s 0 0 (fun _ => False) := ⟨_, rfl⟩
  rw [← hQ9]
  show W p l e rmX1_hasFlow s m args below meth c s.heap [] 0 0 Q9 (F0 m 0 ls [])
  refine lv_aload_n (pc := 0) hx hb dX1_hasFlow_0 rfl (lv_at hl 0 rfl) ?_
  refine lv_iload_n (pc := 1) hx hb dX1_hasFlow_1 rfl (lv_at hl 1 rfl) ?_
  refine k_call0 (pc := 2) (va_runV (As := [.int (iI d)]) (rest := []) ⟨hx, hb, hml, hown, hts⟩ (c_X1_stateOn l D cA ad w r0 r1 r2 F S h0 h1 h2 hF hS9 d ⟨by omega, by omega⟩) (cwV 1 hts gX1_hasFlow_X1_stateOn rfl rfl rfl (by decide +kernel) ⟨Nat.le_of_ble_eq_true rfl, Nat.le_of_ble_eq_true rfl⟩) (gR_V hP hK hB r0 (ci := 1) rfl h0) rfl rfl hl.1 rfl (lv_room (Nat.le_of_ble_eq_true rfl)) dX1_hasFlow_2 ⟨Nat.le_of_ble_eq_true rfl, Nat.le_of_ble_eq_true rfl⟩) (fun v_2 hv_2 => ?_)
  obtain ⟨z_2, rfl, hz_2⟩ := hv_2
  have hb_2 := hS9 d
  refine W.eq (g2 := F0 m 5 ls [.int (iI z_2)]) rfl ?_
  refine k_if_eq (pc := 5) (tgt := 12) hx hb ⟨by omega, by omega⟩ dX1_hasFlow_5 (by decide) (fun hc_5 => ?_) (fun hc_5 => ?_)
  · skip
    refine k_iconst (pc := 12) hx hb dX1_hasFlow_12 ?_
    rw [hQ9]
    exact W.zret (v := iI 0) hx hb hret (by decide +kernel) (fun t ht hW => ⟨some (.int (iI 0)), rfl, ⟨0, rfl, Or.inr ⟨rfl, by omega⟩⟩, ht⟩) (fun q hq => by cases hq) dX1_hasFlow_13
  · skip
    refine k_iconst (pc := 8) hx hb dX1_hasFlow_8 ?_
    refine lv_goto (pc := 9) (tgt := 13) hx hb dX1_hasFlow_9 (by decide) ?_
    rw [hQ9]
    exact W.zret (v := iI 1) hx hb hret (by decide +kernel) (fun t ht hW => ⟨some (.int (iI 1)), rfl, ⟨1, rfl, Or.inl ⟨rfl, by omega⟩⟩, ht⟩) (fun q hq => by cases hq) dX1_hasFlow_13

abbrev rmX1_put : Room := { frames := 0, cells := 0, slots := 0, locals := 0 }
theorem hiX1_put_1 : ∀ w ∈ wsX10, w ∈ wsX1_put := by decide +kernel
set_option maxHeartbeats 4000000 in
set_option maxRecDepth 100000 in
theorem c_X1_put (l : Launch) (D : va_G) (cA : Nat → ClassId) (ad : Nat → Nat) (w : Nat → Option va_E) (sz : Nat) (r0 r1 r2 : Nat) (F S : Int → Int) (h0 : w r0 = some (oB 1 [.ref (ad r1), .ref (ad r2)])) (h1 : w r1 = some (eJ (cA 2) 400 F)) (h2 : w r2 = some (eI (cA 0) 400 S)) (hF : ∀ j : Int, -1 ≤ F j ∧ F j ≤ 1000000000000) (hS9 : ∀ j : Int, 0 ≤ S j ∧ S j ≤ 3) (h01 : r0 ≠ r1) (h02 : r0 ≠ r2) (h12 : r1 ≠ r2) (d f tt : Int) (hd : 0 ≤ d ∧ d < 400) : Met l yX1_put wsX1_put rmX1_put (gV D cA ad w sz [.ref (ad r0), .int (iI d), .long (lI f), .int (iI tt)]) (gW D (fun v9 ad1 w1 => v9 = none ∧ ad1 = ad ∧ w1 = up (up w r1 (eJ (cA 2) 400 (updI F d f))) r2 (eI (cA 0) 400 (updI S d tt))) (gA ad w sz)) 0 0 (gA ad w sz) := by
  refine Met.ofW (cc := cX1_put) (maxL := 5) (ret := none) (by decide) rfl ?_
  intro p e s m args below meth c s₁ B hml hv
  obtain ⟨hav, hsz, hP, hD0, hK, hB, hZ⟩ := hv
  have hx := B.exec
  have hb := B.bytes
  have hret := B.returns
  have hts := atoms_spec (ws := wsX1_put) B.pre
  have hown : s.vm.findClass RX1 = some m.cls := findClass_of_methodNamed B.named
  have hlocks := B.notSynchronized
  subst hsz
  have hD := hD0.self (sz := s.heap.size)
  generalize hAe : gA ad w s.heap.size = A at hD hZ ⊢
  have hA : ∀ q : Nat, s.heap.size ≤ q → A q := fun q h => by rw [← hAe]; exact Or.inr h
  have hS : va_S A s.heap s.heap [] := va_S.rf
  have hi1 := hiX1_put_1
  have hf9 := hts (.fieldLink RX1 9 "GaugeBook$FlowTable" "flows" "[J") (by decide +kernel)
  have hf15 := hts (.fieldLink RX1 15 "GaugeBook$FlowTable" "states" "[I") (by decide +kernel)
  have he9 : entryFrame m args 5 = F0 m 0 ((lg_sl ([.ref (ad r0), .int (iI d), .long (lI f), .int (iI tt)] : List Value) ++ List.replicate (5 - (lg_sl ([.ref (ad r0), .int (iI d), .long (lI f), .int (iI tt)] : List Value)).length) Slot.unset).toArray) [] := by rw [hav, lg_entry_eq]
  rw [he9]
  have hl := lv_entry ([.ref (ad r0), .int (iI d), .long (lI f), .int (iI tt)] : List Value) (n := 5) (Nat.le_of_ble_eq_true rfl)
  generalize (lg_sl ([.ref (ad r0), .int (iI d), .long (lI f), .int (iI tt)] : List Value) ++ List.replicate (5 - (lg_sl ([.ref (ad r0), .int (iI d), .long (lI f), .int (iI tt)] : List Value)).length) Slot.unset).toArray = ls at hl ⊢
  have hl : lv_has ls 5 [(0, .ref (ad r0)), (1, .int (iI d)), (2, .long (lI f)), (4, .int (iI tt))] := hl
  obtain ⟨Q9, hQ9⟩ : ∃ z, z = MQ below (gW D (fun v9 ad1 w1 => v9 = none ∧ ad1 = ad ∧ w1 = up (up w r1 (eJ (cA 2) 400 (updI F d f))) r2 (eI (cA 0) 400 (updI S d tt))) A) args s 0 0 A := ⟨_, rfl⟩
  rw [← hQ9]
  show W p l e rmX1_put s m args below meth c s.heap [] 0 0 Q9 (F0 m 0 ls [])
  obtain ⟨H, hHe⟩ : ∃ z, z = s.heap := ⟨_, rfl⟩
  obtain ⟨locs, hLe⟩ : ∃ z, z = ([] : List Loc) := ⟨_, rfl⟩
  have hP : gP D vwCl ad w H := by rw [hHe]; exact hP
  have hS : va_S A s.heap H locs := by rw [hHe, hLe]; exact va_S.rf
  rw [show W p l e rmX1_put s m args below meth c s.heap [] 0 0 Q9 (F0 m 0 ls []) = W p l e rmX1_put s m args below meth c H locs 0 0 Q9 (F0 m 0 ls []) by rw [hHe, hLe]]
  clear hHe hLe
  refine lv_iload_n (pc := 0) hx hb dX1_put_0 rfl (lv_at hl 1 rfl) ?_
  refine k_if_lt (pc := 1) (tgt := 26) hx hb ⟨by omega, by omega⟩ dX1_put_1 (by decide) (fun hc_1 => ?_) (fun hc_1 => ?_)
  · skip
    exfalso
    omega
  · skip
    refine lv_iload_n (pc := 4) hx hb dX1_put_4 rfl (lv_at hl 1 rfl) ?_
    refine k_sipush (pc := 5) hx hb dX1_put_5 (by decide +kernel) ?_
    refine k_icmp_ge (pc := 8) (tgt := 26) hx hb ⟨by omega, by omega⟩ ⟨by omega, by omega⟩ dX1_put_8 (by decide) (fun hc_8 => ?_) (fun hc_8 => ?_)
    · skip
      exfalso
      omega
    · skip
      refine lv_aload_n (pc := 11) hx hb dX1_put_11 rfl (lv_at hl 0 rfl) ?_
      refine k_get (pc := 12) (ci := 1) (C := RX1) (T := TX1) (N := 2) hx hb hts hi1 hown hK hP r0 h0 rfl 0 (by decide) hf9 (fun _ h9 => h9) rfl dX1_put_12 ?_
      refine lv_iload_n (pc := 15) hx hb dX1_put_15 rfl (lv_at hl 1 rfl) ?_
      refine lv_lload_n (pc := 16) hx hb dX1_put_16 rfl (lv_at hl 2 rfl) ?_
      refine k_last (pc := 17) (w1 := (up w r1 (eJ (cA 2) 400 (updI F d f)))) hx hb hK hP hD hS r1 2 h1 rfl (by omega) (by omega) (by omega) rfl dX1_put_17 (fun H locs hP hD hS => ?_)
      refine lv_aload_n (pc := 18) hx hb dX1_put_18 rfl (lv_at hl 0 rfl) ?_
      refine k_get (pc := 19) (ci := 1) (C := RX1) (T := TX1) (N := 2) hx hb hts hi1 hown hK hP r0 (up_n h01 h0) rfl 1 (by decide) hf15 (fun _ h9 => h9) rfl dX1_put_19 ?_
      refine lv_iload_n (pc := 22) hx hb dX1_put_22 rfl (lv_at hl 1 rfl) ?_
      refine lv_iload (pc := 23) hx hb dX1_put_23 (lv_at hl 3 rfl) ?_
      refine k_iast (pc := 25) (w1 := (up (up w r1 (eJ (cA 2) 400 (updI F d f))) r2 (eI (cA 0) 400 (updI S d tt)))) hx hb hK hP hD hS r2 0 (up_n (Ne.symm h12) h2) rfl (by omega) (by omega) (by omega) rfl dX1_put_25 (fun H locs hP hD hS => ?_)
      rw [hQ9]
      exact W.vret hx hb hret (fun t ht hW => ⟨⟨none, ad, (up (up w r1 (eJ (cA 2) 400 (updI F d f))) r2 (eI (cA 0) 400 (updI S d tt))), rfl, ⟨rfl, rfl, rfl⟩, by rw [ht]; exact hP, hD⟩, hS.F ht⟩) hS.2.2 dX1_put_26

abbrev rmX1_fillBetween : Room := { frames := 1, cells := 0, slots := 0, locals := 27 }
set_option maxHeartbeats 4000000 in
set_option maxRecDepth 100000 in
theorem c_X1_fillBetween (l : Launch) (D : va_G) (cA : Nat → ClassId) (ad : Nat → Nat) (w : Nat → Option va_E) (sz : Nat) (r0 r1 r2 : Nat) (F S : Int → Int) (h0 : w r0 = some (oB 1 [.ref (ad r1), .ref (ad r2)])) (h1 : w r1 = some (eJ (cA 2) 400 F)) (h2 : w r2 = some (eI (cA 0) 400 S)) (hF : ∀ j : Int, -1 ≤ F j ∧ F j ≤ 1000000000000) (hS9 : ∀ j : Int, 0 ≤ S j ∧ S j ≤ 3) (h01 : r0 ≠ r1) (h02 : r0 ≠ r2) (h12 : r1 ≠ r2) (a b : Int) (hab : 0 ≤ a ∧ a < b ∧ b < 400) : Met l yX1_fillBetween wsX1_fillBetween rmX1_fillBetween (gV D cA ad w sz [.ref (ad r0), .int (iI a), .int (iI b)]) (gW D (fun v9 ad1 w1 => v9 = none ∧ ad1 = ad ∧ w1 = up (up w r1 (eJ (cA 2) 400 (flF F a b b))) r2 (eI (cA 0) 400 (flS S a b))) (gA ad w sz)) 0 0 (gA ad w sz) := by
  refine Met.ofW (cc := cX1_fillBetween) (maxL := 8) (ret := none) (by decide) rfl ?_
  intro p e s m args below meth c s₁ B hml hv
  obtain ⟨hav, hsz, hP, hD0, hK, hB, hZ⟩ := hv
  have hx := B.exec
  have hb := B.bytes
  have hret := B.returns
  have hts := atoms_spec (ws := wsX1_fillBetween) B.pre
  have hown : s.vm.findClass RX1 = some m.cls := findClass_of_methodNamed B.named
  have hlocks := B.notSynchronized
  subst hsz
  have hD := hD0.self (sz := s.heap.size)
  generalize hAe : gA ad w s.heap.size = A at hD hZ ⊢
  have hA : ∀ q : Nat, s.heap.size ≤ q → A q := fun q h => by rw [← hAe]; exact Or.inr h
  have hS : va_S A s.heap s.heap [] := va_S.rf
  have he9 : entryFrame m args 8 = F0 m 0 ((lg_sl ([.ref (ad r0), .int (iI a), .int (iI b)] : List Value) ++ List.replicate (8 - (lg_sl ([.ref (ad r0), .int (iI a), .int (iI b)] : List Value)).length) Slot.unset).toArray) [] := by rw [hav, lg_entry_eq]
  rw [he9]
  have hl := lv_entry ([.ref (ad r0), .int (iI a), .int (iI b)] : List Value) (n := 8) (Nat.le_of_ble_eq_true rfl)
  generalize (lg_sl ([.ref (ad r0), .int (iI a), .int (iI b)] : List Value) ++ List.replicate (8 - (lg_sl ([.ref (ad r0), .int (iI a), .int (iI b)] : List Value)).length) Slot.unset).toArray = ls at hl ⊢
  have hl : lv_has ls 8 [(0, .ref (ad r0)), (1, .int (iI a)), (2, .int (iI b))] := hl
  obtain ⟨Q9, hQ9⟩ : ∃ z, z = MQ below (gW D (fun v9 ad1 w1 => v9 = none ∧ ad1 = ad ∧ w1 = up (up w r1 (eJ (cA 2) 400 (flF F a b b))) r2 (eI (cA 0) 400 (flS S a b))) A) args s 0 0 A := ⟨_, rfl⟩
  rw [← hQ9]
  show W p l e rmX1_fillBetween s m args below meth c s.heap [] 0 0 Q9 (F0 m 0 ls [])
  obtain ⟨H, hHe⟩ : ∃ z, z = s.heap := ⟨_, rfl⟩
  obtain ⟨locs, hLe⟩ : ∃ z, z = ([] : List Loc) := ⟨_, rfl⟩
  have hP : gP D vwCl ad w H := by rw [hHe]; exact hP
  have hS : va_S A s.heap H locs := by rw [hHe, hLe]; exact va_S.rf
  rw [show W p l e rmX1_fillBetween s m args below meth c s.heap [] 0 0 Q9 (F0 m 0 ls []) = W p l e rmX1_fillBetween s m args below meth c H locs 0 0 Q9 (F0 m 0 ls []) by rw [hHe, hLe]]
  clear hHe hLe
  refine lv_aload_n (pc := 0) hx hb dX1_fillBetween_0 rfl (lv_at hl 0 rfl) ?_
  refine lv_iload_n (pc := 1) hx hb dX1_fillBetween_1 rfl (lv_at hl 1 rfl) ?_
  refine k_call0 (pc := 2) (va_runV (As := [.int (iI a)]) (rest := []) ⟨hx, hb, hml, hown, hts⟩ (c_X1_flowOn l D cA ad w r0 r1 r2 F S h0 h1 h2 hF hS9 a ⟨by omega, by omega⟩) (cwV 1 hts gX1_fillBetween_X1_flowOn rfl rfl rfl (by decide +kernel) ⟨Nat.le_of_ble_eq_true rfl, Nat.le_of_ble_eq_true rfl⟩) (gR_V hP hK hB r0 (ci := 1) rfl h0) rfl rfl hl.1 rfl (lv_room (Nat.le_of_ble_eq_true rfl)) dX1_fillBetween_2 ⟨Nat.le_of_ble_eq_true rfl, Nat.le_of_ble_eq_true rfl⟩) (fun v_2 hv_2 => ?_)
  obtain ⟨z_2, rfl, hz_2⟩ := hv_2
  have hb_2 := hF a
  refine W.eq (g2 := F0 m 5 ls [.long (lI z_2)]) rfl ?_
  refine lv_lstore_n (pc := 5) (lv' := [(3, .long (lI z_2)), (0, .ref (ad r0)), (1, .int (iI a)), (2, .int (iI b))]) hx hb dX1_fillBetween_5 rfl hl (by decide) rfl (fun ls hl => ?_)
  have e_2 : z_2 = F a := by omega
  subst e_2
  refine lv_aload_n (pc := 6) hx hb dX1_fillBetween_6 rfl (lv_at hl 1 rfl) ?_
  refine lv_iload_n (pc := 7) hx hb dX1_fillBetween_7 rfl (lv_at hl 3 rfl) ?_
  refine k_call0 (pc := 8) (va_runV (As := [.int (iI b)]) (rest := []) ⟨hx, hb, hml, hown, hts⟩ (c_X1_flowOn l D cA ad w r0 r1 r2 F S h0 h1 h2 hF hS9 b ⟨by omega, by omega⟩) (cwV 1 hts gX1_fillBetween_X1_flowOn rfl rfl rfl (by decide +kernel) ⟨Nat.le_of_ble_eq_true rfl, Nat.le_of_ble_eq_true rfl⟩) (gR_V hP hK hB r0 (ci := 1) rfl h0) rfl rfl hl.1 rfl (lv_room (Nat.le_of_ble_eq_true rfl)) dX1_fillBetween_8 ⟨Nat.le_of_ble_eq_true rfl, Nat.le_of_ble_eq_true rfl⟩) (fun v_8 hv_8 => ?_)
  obtain ⟨z_8, rfl, hz_8⟩ := hv_8
  have hb_8 := hF b
  refine W.eq (g2 := F0 m 11 ls [.long (lI z_8)]) rfl ?_
  refine lv_lstore (pc := 11) (lv' := [(5, .long (lI z_8)), (3, .long (lI (F a))), (0, .ref (ad r0)), (1, .int (iI a)), (2, .int (iI b))]) hx hb dX1_fillBetween_11 hl (by decide) rfl (fun ls hl => ?_)
  have e_8 : z_8 = F b := by omega
  subst e_8
  refine lv_iload_n (pc := 13) hx hb dX1_fillBetween_13 rfl (lv_at hl 3 rfl) ?_
  refine k_iconst (pc := 14) hx hb dX1_fillBetween_14 ?_
  refine k_iadd (pc := 15) hx hb dX1_fillBetween_15 ?_
  refine lv_istore (pc := 16) (lv' := [(7, .int (iI (a + 1))), (5, .long (lI (F b))), (3, .long (lI (F a))), (0, .ref (ad r0)), (1, .int (iI a)), (2, .int (iI b))]) hx hb dX1_fillBetween_16 hl (by decide) rfl (fun ls hl => ?_)
  have lp_18 : ∀ (N9 : Nat) (dm : Int), (a < dm ∧ dm ≤ b) → (b - dm).toNat < N9 → ∀ (H : Heap) (locs : List Loc), gP D vwCl ad (up (up w r1 (eJ (cA 2) 400 (flF F a b dm))) r2 (eI (cA 0) 400 (flS S a dm))) H → gD A ad (up (up w r1 (eJ (cA 2) 400 (flF F a b dm))) r2 (eI (cA 0) 400 (flS S a dm))) → va_S A s.heap H locs → ∀ (ls : Array Slot), lv_has ls 8 [(7, .int (iI dm)), (5, .long (lI (F b))), (3, .long (lI (F a))), (0, .ref (ad r0)), (1, .int (iI a)), (2, .int (iI b))] → W p l e rmX1_fillBetween s m args below meth c H locs 0 0 Q9 (F0 m 18 ls []) := by
    intro N9
    induction N9 with
    | zero => intro dm i0 hmu; exact absurd hmu (Nat.not_lt_zero _)
    | succ N9 ih_18 =>
      intro dm i0 hmu_18 H locs hP hD hS ls hl
      refine lv_iload (pc := 18) hx hb dX1_fillBetween_18 (lv_at hl 0 rfl) ?_
      refine lv_iload_n (pc := 20) hx hb dX1_fillBetween_20 rfl (lv_at hl 5 rfl) ?_
      refine k_icmp_ge (pc := 21) (tgt := 52) hx hb ⟨by omega, by omega⟩ ⟨by omega, by omega⟩ dX1_fillBetween_21 (by decide) (fun hc_21 => ?_) (fun hc_21 => ?_)
      · skip
        rw [hQ9]
        exact W.vret hx hb hret (fun t ht hW => ⟨⟨none, ad, (up (up w r1 (eJ (cA 2) 400 (flF F a b dm))) r2 (eI (cA 0) 400 (flS S a dm))), rfl, ⟨rfl, rfl, by rw [show dm = b by omega]⟩, by rw [ht]; exact hP, hD⟩, hS.F ht⟩) hS.2.2 dX1_fillBetween_52
      · skip
        refine lv_aload_n (pc := 24) hx hb dX1_fillBetween_24 rfl (lv_at hl 3 rfl) ?_
        refine lv_iload (pc := 25) hx hb dX1_fillBetween_25 (lv_at hl 0 rfl) ?_
        refine lv_lload_n (pc := 27) hx hb dX1_fillBetween_27 rfl (lv_at hl 2 rfl) ?_
        refine lv_lload (pc := 28) hx hb dX1_fillBetween_28 (lv_at hl 1 rfl) ?_
        refine lv_iload (pc := 30) hx hb dX1_fillBetween_30 (lv_at hl 0 rfl) ?_
        refine lv_iload_n (pc := 32) hx hb dX1_fillBetween_32 rfl (lv_at hl 4 rfl) ?_
        refine k_isub (pc := 33) hx hb dX1_fillBetween_33 ?_
        refine k_i2l (pc := 34) hx hb ⟨by omega, by omega⟩ dX1_fillBetween_34 ?_
        refine lv_iload_n (pc := 35) hx hb dX1_fillBetween_35 rfl (lv_at hl 5 rfl) ?_
        refine lv_iload_n (pc := 36) hx hb dX1_fillBetween_36 rfl (lv_at hl 4 rfl) ?_
        refine k_isub (pc := 37) hx hb dX1_fillBetween_37 ?_
        refine k_i2l (pc := 38) hx hb ⟨by omega, by omega⟩ dX1_fillBetween_38 ?_
        refine k_call0 (pc := 39) (va_runSN (As := [.long (lI (F a)), .long (lI (F b)), .long (lI (dm - a)), .long (lI (b - a))]) (rest := [.int (iI dm), .ref (ad r0)]) ⟨hx, hb, hml, hown, hts⟩ (c_X5_interpolate l D cA ad (up (up w r1 (eJ (cA 2) 400 (flF F a b dm))) r2 (eI (cA 0) 400 (flS S a dm))) (F a) (F b) (dm - a) (b - a) (by have h9 := mulB (a := F b - F a) (b := dm - a) (M := 10000000000000) (N := 10000) ⟨by omega, by omega⟩ ⟨by omega, by omega⟩; constructor <;> omega) (by constructor <;> omega)) ⟨va_cnB 4 hts gX1_fillBetween_X5_interpolate_n37 rfl rfl rfl (nm_X1_37 hB) (hts (.initialized RX5) (by decide +kernel)) (by decide +kernel) ⟨Nat.le_of_ble_eq_true rfl, Nat.le_of_ble_eq_true rfl⟩, hts (.static yX5_interpolate) (by decide +kernel), trivial⟩ (gR_S hP hK hB) rfl rfl hl.1 rfl (lv_room (Nat.le_of_ble_eq_true rfl)) dX1_fillBetween_39 ⟨Nat.le_of_ble_eq_true rfl, Nat.le_of_ble_eq_true rfl⟩) (fun v_39 hv_39 => ?_)
        obtain ⟨z_39, rfl, rfl⟩ := hv_39
        refine W.eq (g2 := F0 m 42 ls [.long (lI ((F a) + Int.tdiv (((F b) - (F a)) * (dm - a)) (b - a))), .int (iI dm), .ref (ad r0)]) rfl ?_
        refine k_iconst (pc := 42) hx hb dX1_fillBetween_42 ?_
        refine k_call1 (pc := 43) (va_runV (As := [.int (iI dm), .long (lI ((F a) + Int.tdiv (((F b) - (F a)) * (dm - a)) (b - a))), .int (iI 3)]) (rest := []) ⟨hx, hb, hml, hown, hts⟩ (c_X1_put l D cA ad (up (up w r1 (eJ (cA 2) 400 (flF F a b dm))) r2 (eI (cA 0) 400 (flS S a dm))) H.size r0 r1 r2 (flF F a b dm) (flS S a dm) (up_n h02 (up_n h01 h0)) (up_n h12 (up_s _ _ _)) (up_s _ _ _) (flF_b hF (by omega)) (flS_b hS9) h01 h02 h12 dm ((F a) + Int.tdiv (((F b) - (F a)) * (dm - a)) (b - a)) 3 (by omega)) (cwV 3 hts gX1_fillBetween_X1_put rfl rfl rfl (by decide +kernel) ⟨Nat.le_of_ble_eq_true rfl, Nat.le_of_ble_eq_true rfl⟩) (gV_V hP hD hK hB hS hA hZ r0 (ci := 1) rfl (up_n h02 (up_n h01 h0))) rfl rfl hl.1 rfl (lv_room (Nat.le_of_ble_eq_true rfl)) dX1_fillBetween_43 ⟨Nat.le_of_ble_eq_true rfl, Nat.le_of_ble_eq_true rfl⟩) hS (gA_sub hD hS hA) (fun v_43 ad_43 w_43 H locs hv_43 hP hD hS => ?_)
        obtain ⟨hv1, hv2, hv3⟩ := hv_43
        subst hv1
        rw [hv2, hv3] at hP hD
        rw [show up ((up (up w r1 (eJ (cA 2) 400 (flF F a b dm))) r2 (eI (cA 0) 400 (flS S a dm)))) r1 (eJ (cA 2) 400 (updI (flF F a b dm) dm ((F a) + Int.tdiv (((F b) - (F a)) * (dm - a)) (b - a)))) = _ from ((up_co _ _ _ (Ne.symm h12)).trans (congrArg (fun u => up u r2 _) (up_up _ _ _ _)))] at hP hD
        rw [(up_up _ _ _ _)] at hP hD
        refine W.eq (g2 := F0 m 46 ls []) rfl ?_
        refine W.cs (cells' := 0) (slots' := 0) rfl rfl ?_
        refine lv_iinc (pc := 46) (v := iI (dm + 1)) (lv' := [(7, .int (iI (dm + 1))), (5, .long (lI (F b))), (3, .long (lI (F a))), (0, .ref (ad r0)), (1, .int (iI a)), (2, .int (iI b))]) hx hb dX1_fillBetween_46 hl (k := 0) rfl (iI_add _ _) (by decide) rfl (fun ls hl => ?_)
        refine lv_goto (pc := 49) (tgt := 18) hx hb dX1_fillBetween_49 (by decide) ?_
        have hW9 : ((up (up w r1 (eJ (cA 2) 400 (updI (flF F a b dm) dm ((F a) + Int.tdiv (((F b) - (F a)) * (dm - a)) (b - a))))) r2 (eI (cA 0) 400 (updI (flS S a dm) dm 3)))) = (up (up w r1 (eJ (cA 2) 400 (flF F a b (dm + 1)))) r2 (eI (cA 0) 400 (flS S a (dm + 1)))) := by rw [flF_s F (by omega), flS_s S (by omega)]
        rw [hW9] at hP hD
        exact ih_18 (dm + 1) (by omega) (by omega) H locs hP hD hS ls (lv_sub hl [0, 1, 2, 3, 4, 5] rfl)
  have hW9 : (w) = (up (up w r1 (eJ (cA 2) 400 (flF F a b (a + 1)))) r2 (eI (cA 0) 400 (flS S a (a + 1)))) := by rw [flF_0, flS_0, up_self h1, up_self h2]
  rw [hW9] at hP hD
  exact lp_18 _ (a + 1) (by omega) (Nat.lt_succ_self _) H locs hP hD hS ls (lv_sub hl [0, 1, 2, 3, 4, 5] rfl)
