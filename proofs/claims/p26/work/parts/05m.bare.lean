abbrev rmX5_requireDay_b : Room := { frames := 0, cells := 0, slots := 0, locals := 0 }
set_option maxHeartbeats 4000000 in
set_option maxRecDepth 100000 in
theorem c_X5_requireDay_b (l : Launch) (D : va_G) (cA : Nat → ClassId) (ad : Nat → Nat) (w : Nat → Option va_E) (d : Int) (hok : 0 ≤ d ∧ d < 400) : Met l yX5_requireDay wsX5_requireDay rmX5_requireDay_b (gR D cA ad w [.int (iI d)]) (gR0 (fun v9 => v9 = none ∧ (0 ≤ d ∧ d < 400))) 0 0 (fun _ => False) := by
  refine Met.ofW (cc := cX5_requireDay) (maxL := 1) (ret := none) (by decide) rfl ?_
  intro p e s m args below meth c s₁ B hml hv
  obtain ⟨hav, hP, hK, hB⟩ := hv
  have hx := B.exec
  have hb := B.bytes
  have hret := B.returns
  have hts := atoms_spec (ws := wsX5_requireDay) B.pre
  have hown : s.vm.findClass RX5 = some m.cls := findClass_of_methodNamed B.named
  have hlocks := B.notSynchronized
  have hS : va_S (fun _ => False) s.heap s.heap [] := va_S.rf
  have he9 : entryFrame m args 1 = F0 m 0 ((lg_sl ([.int (iI d)] : List Value) ++ List.replicate (1 - (lg_sl ([.int (iI d)] : List Value)).length) Slot.unset).toArray) [] := by rw [hav, lg_entry_eq]
  rw [he9]
  have hl := lv_entry ([.int (iI d)] : List Value) (n := 1) (Nat.le_of_ble_eq_true rfl)
  generalize (lg_sl ([.int (iI d)] : List Value) ++ List.replicate (1 - (lg_sl ([.int (iI d)] : List Value)).length) Slot.unset).toArray = ls at hl ⊢
  have hl : lv_has ls 1 [(0, .int (iI d))] := hl
  obtain ⟨Q9, hQ9⟩ : ∃ z, z = MQ below (gR0 (fun v9 => v9 = none ∧ (0 ≤ d ∧ d < 400))) args s 0 0 (fun _ => False) := ⟨_, rfl⟩
  rw [← hQ9]
  show W p l e rmX5_requireDay_b s m args below meth c s.heap [] 0 0 Q9 (F0 m 0 ls [])
  refine lv_iload_n (pc := 0) hx hb dX5_requireDay_0 rfl (lv_at hl 0 rfl) ?_
  refine k_if_lt (pc := 1) (tgt := 11) hx hb ⟨by omega, by omega⟩ dX5_requireDay_1 (by decide) (fun hc_1 => ?_) (fun hc_1 => ?_)
  · skip
    exfalso
    omega
  · skip
    refine lv_iload_n (pc := 4) hx hb dX5_requireDay_4 rfl (lv_at hl 0 rfl) ?_
    refine k_sipush (pc := 5) hx hb dX5_requireDay_5 (by decide +kernel) ?_
    refine k_icmp_lt (pc := 8) (tgt := 21) hx hb ⟨by omega, by omega⟩ ⟨by omega, by omega⟩ dX5_requireDay_8 (by decide) (fun hc_8 => ?_) (fun hc_8 => ?_)
    · skip
      rw [hQ9]
      exact W.vret hx hb hret (fun t ht hW => ⟨none, rfl, ⟨rfl, hok⟩, ht⟩) (fun q hq => by cases hq) dX5_requireDay_21
    · skip
      exfalso
      omega

abbrev rmX5_requireRange_b : Room := { frames := 0, cells := 0, slots := 0, locals := 0 }
set_option maxHeartbeats 4000000 in
set_option maxRecDepth 100000 in
theorem c_X5_requireRange_b (l : Launch) (D : va_G) (cA : Nat → ClassId) (ad : Nat → Nat) (w : Nat → Option va_E) (fr to_ : Int) (hok : 0 ≤ fr ∧ fr ≤ to_ ∧ to_ < 400) : Met l yX5_requireRange wsX5_requireRange rmX5_requireRange_b (gR D cA ad w [.int (iI fr), .int (iI to_)]) (gR0 (fun v9 => v9 = none ∧ (0 ≤ fr ∧ fr ≤ to_ ∧ to_ < 400))) 0 0 (fun _ => False) := by
  refine Met.ofW (cc := cX5_requireRange) (maxL := 2) (ret := none) (by decide) rfl ?_
  intro p e s m args below meth c s₁ B hml hv
  obtain ⟨hav, hP, hK, hB⟩ := hv
  have hx := B.exec
  have hb := B.bytes
  have hret := B.returns
  have hts := atoms_spec (ws := wsX5_requireRange) B.pre
  have hown : s.vm.findClass RX5 = some m.cls := findClass_of_methodNamed B.named
  have hlocks := B.notSynchronized
  have hS : va_S (fun _ => False) s.heap s.heap [] := va_S.rf
  have he9 : entryFrame m args 2 = F0 m 0 ((lg_sl ([.int (iI fr), .int (iI to_)] : List Value) ++ List.replicate (2 - (lg_sl ([.int (iI fr), .int (iI to_)] : List Value)).length) Slot.unset).toArray) [] := by rw [hav, lg_entry_eq]
  rw [he9]
  have hl := lv_entry ([.int (iI fr), .int (iI to_)] : List Value) (n := 2) (Nat.le_of_ble_eq_true rfl)
  generalize (lg_sl ([.int (iI fr), .int (iI to_)] : List Value) ++ List.replicate (2 - (lg_sl ([.int (iI fr), .int (iI to_)] : List Value)).length) Slot.unset).toArray = ls at hl ⊢
  have hl : lv_has ls 2 [(0, .int (iI fr)), (1, .int (iI to_))] := hl
  obtain ⟨Q9, hQ9⟩ : ∃ z, z = MQ below (gR0 (fun v9 => v9 = none ∧ (0 ≤ fr ∧ fr ≤ to_ ∧ to_ < 400))) args s 0 0 (fun _ => False) := ⟨_, rfl⟩
  rw [← hQ9]
  show W p l e rmX5_requireRange_b s m args below meth c s.heap [] 0 0 Q9 (F0 m 0 ls [])
  refine lv_iload_n (pc := 0) hx hb dX5_requireRange_0 rfl (lv_at hl 0 rfl) ?_
  refine k_if_lt (pc := 1) (tgt := 16) hx hb ⟨by omega, by omega⟩ dX5_requireRange_1 (by decide) (fun hc_1 => ?_) (fun hc_1 => ?_)
  · skip
    exfalso
    omega
  · skip
    refine lv_iload_n (pc := 4) hx hb dX5_requireRange_4 rfl (lv_at hl 0 rfl) ?_
    refine lv_iload_n (pc := 5) hx hb dX5_requireRange_5 rfl (lv_at hl 1 rfl) ?_
    refine k_icmp_gt (pc := 6) (tgt := 16) hx hb ⟨by omega, by omega⟩ ⟨by omega, by omega⟩ dX5_requireRange_6 (by decide) (fun hc_6 => ?_) (fun hc_6 => ?_)
    · skip
      exfalso
      omega
    · skip
      refine lv_iload_n (pc := 9) hx hb dX5_requireRange_9 rfl (lv_at hl 1 rfl) ?_
      refine k_sipush (pc := 10) hx hb dX5_requireRange_10 (by decide +kernel) ?_
      refine k_icmp_lt (pc := 13) (tgt := 27) hx hb ⟨by omega, by omega⟩ ⟨by omega, by omega⟩ dX5_requireRange_13 (by decide) (fun hc_13 => ?_) (fun hc_13 => ?_)
      · skip
        rw [hQ9]
        exact W.vret hx hb hret (fun t ht hW => ⟨none, rfl, ⟨rfl, hok⟩, ht⟩) (fun q hq => by cases hq) dX5_requireRange_27
      · skip
        exfalso
        omega

abbrev rmX5_requireStage_b : Room := { frames := 0, cells := 0, slots := 0, locals := 0 }
set_option maxHeartbeats 4000000 in
set_option maxRecDepth 100000 in
theorem c_X5_requireStage_b (l : Launch) (D : va_G) (cA : Nat → ClassId) (ad : Nat → Nat) (w : Nat → Option va_E) (sg : Int) (hok : -500 ≤ sg ∧ sg ≤ 2000) : Met l yX5_requireStage wsX5_requireStage rmX5_requireStage_b (gR D cA ad w [.long (lI sg)]) (gR0 (fun v9 => v9 = none ∧ (-500 ≤ sg ∧ sg ≤ 2000))) 0 0 (fun _ => False) := by
  refine Met.ofW (cc := cX5_requireStage) (maxL := 2) (ret := none) (by decide) rfl ?_
  intro p e s m args below meth c s₁ B hml hv
  obtain ⟨hav, hP, hK, hB⟩ := hv
  have hx := B.exec
  have hb := B.bytes
  have hret := B.returns
  have hts := atoms_spec (ws := wsX5_requireStage) B.pre
  have hown : s.vm.findClass RX5 = some m.cls := findClass_of_methodNamed B.named
  have hlocks := B.notSynchronized
  have hS : va_S (fun _ => False) s.heap s.heap [] := va_S.rf
  have he9 : entryFrame m args 2 = F0 m 0 ((lg_sl ([.long (lI sg)] : List Value) ++ List.replicate (2 - (lg_sl ([.long (lI sg)] : List Value)).length) Slot.unset).toArray) [] := by rw [hav, lg_entry_eq]
  rw [he9]
  have hl := lv_entry ([.long (lI sg)] : List Value) (n := 2) (Nat.le_of_ble_eq_true rfl)
  generalize (lg_sl ([.long (lI sg)] : List Value) ++ List.replicate (2 - (lg_sl ([.long (lI sg)] : List Value)).length) Slot.unset).toArray = ls at hl ⊢
  have hl : lv_has ls 2 [(0, .long (lI sg))] := hl
  obtain ⟨Q9, hQ9⟩ : ∃ z, z = MQ below (gR0 (fun v9 => v9 = none ∧ (-500 ≤ sg ∧ sg ≤ 2000))) args s 0 0 (fun _ => False) := ⟨_, rfl⟩
  rw [← hQ9]
  show W p l e rmX5_requireStage_b s m args below meth c s.heap [] 0 0 Q9 (F0 m 0 ls [])
  refine lv_lload_n (pc := 0) hx hb dX5_requireStage_0 rfl (lv_at hl 0 rfl) ?_
  refine k_ldc2 (z := (-500)) (pc := 1) hx hb hown (hts (.constantLong RX5 258 (-500)) (by decide +kernel)) (by decide +kernel) dX5_requireStage_1 ?_
  refine k_lcmp_lt (pc := 4) (tgt := 16) hx hb ⟨by omega, by omega⟩ ⟨by omega, by omega⟩ dX5_requireStage_4 dX5_requireStage_5 (by decide) (fun hc_4 => ?_) (fun hc_4 => ?_)
  · skip
    exfalso
    omega
  · skip
    refine lv_lload_n (pc := 8) hx hb dX5_requireStage_8 rfl (lv_at hl 0 rfl) ?_
    refine k_ldc2 (z := 2000) (pc := 9) hx hb hown (hts (.constantLong RX5 260 (2000)) (by decide +kernel)) (by decide +kernel) dX5_requireStage_9 ?_
    refine k_lcmp_le (pc := 12) (tgt := 27) hx hb ⟨by omega, by omega⟩ ⟨by omega, by omega⟩ dX5_requireStage_12 dX5_requireStage_13 (by decide) (fun hc_12 => ?_) (fun hc_12 => ?_)
    · skip
      rw [hQ9]
      exact W.vret hx hb hret (fun t ht hW => ⟨none, rfl, ⟨rfl, hok⟩, ht⟩) (fun q hq => by cases hq) dX5_requireStage_27
    · skip
      exfalso
      omega

abbrev rmX5_requireFlow_b : Room := { frames := 0, cells := 0, slots := 0, locals := 0 }
set_option maxHeartbeats 4000000 in
set_option maxRecDepth 100000 in
theorem c_X5_requireFlow_b (l : Launch) (D : va_G) (cA : Nat → ClassId) (ad : Nat → Nat) (w : Nat → Option va_E) (q : Int) (hok : 0 ≤ q ∧ q ≤ 1000000) : Met l yX5_requireFlow wsX5_requireFlow rmX5_requireFlow_b (gR D cA ad w [.int (iI q)]) (gR0 (fun v9 => v9 = none ∧ (0 ≤ q ∧ q ≤ 1000000))) 0 0 (fun _ => False) := by
  refine Met.ofW (cc := cX5_requireFlow) (maxL := 1) (ret := none) (by decide) rfl ?_
  intro p e s m args below meth c s₁ B hml hv
  obtain ⟨hav, hP, hK, hB⟩ := hv
  have hx := B.exec
  have hb := B.bytes
  have hret := B.returns
  have hts := atoms_spec (ws := wsX5_requireFlow) B.pre
  have hown : s.vm.findClass RX5 = some m.cls := findClass_of_methodNamed B.named
  have hlocks := B.notSynchronized
  have hS : va_S (fun _ => False) s.heap s.heap [] := va_S.rf
  have he9 : entryFrame m args 1 = F0 m 0 ((lg_sl ([.int (iI q)] : List Value) ++ List.replicate (1 - (lg_sl ([.int (iI q)] : List Value)).length) Slot.unset).toArray) [] := by rw [hav, lg_entry_eq]
  rw [he9]
  have hl := lv_entry ([.int (iI q)] : List Value) (n := 1) (Nat.le_of_ble_eq_true rfl)
  generalize (lg_sl ([.int (iI q)] : List Value) ++ List.replicate (1 - (lg_sl ([.int (iI q)] : List Value)).length) Slot.unset).toArray = ls at hl ⊢
  have hl : lv_has ls 1 [(0, .int (iI q))] := hl
  obtain ⟨Q9, hQ9⟩ : ∃ z, z = MQ below (gR0 (fun v9 => v9 = none ∧ (0 ≤ q ∧ q ≤ 1000000))) args s 0 0 (fun _ => False) := ⟨_, rfl⟩
  rw [← hQ9]
  show W p l e rmX5_requireFlow_b s m args below meth c s.heap [] 0 0 Q9 (F0 m 0 ls [])
  refine lv_iload_n (pc := 0) hx hb dX5_requireFlow_0 rfl (lv_at hl 0 rfl) ?_
  refine k_if_lt (pc := 1) (tgt := 11) hx hb ⟨by omega, by omega⟩ dX5_requireFlow_1 (by decide) (fun hc_1 => ?_) (fun hc_1 => ?_)
  · skip
    exfalso
    omega
  · skip
    refine lv_iload_n (pc := 4) hx hb dX5_requireFlow_4 rfl (lv_at hl 0 rfl) ?_
    refine k_ldcw (z := 1000000) (pc := 5) hx hb hown (hts (.constant RX5 264 (1000000)) (by decide +kernel)) (by decide +kernel) dX5_requireFlow_5 ?_
    refine k_icmp_le (pc := 8) (tgt := 22) hx hb ⟨by omega, by omega⟩ ⟨by omega, by omega⟩ dX5_requireFlow_8 (by decide) (fun hc_8 => ?_) (fun hc_8 => ?_)
    · skip
      rw [hQ9]
      exact W.vret hx hb hret (fun t ht hW => ⟨none, rfl, ⟨rfl, hok⟩, ht⟩) (fun q hq => by cases hq) dX5_requireFlow_22
    · skip
      exfalso
      omega

abbrev rmX5_requireLimit_b : Room := { frames := 0, cells := 0, slots := 0, locals := 0 }
set_option maxHeartbeats 4000000 in
set_option maxRecDepth 100000 in
theorem c_X5_requireLimit_b (l : Launch) (D : va_G) (cA : Nat → ClassId) (ad : Nat → Nat) (w : Nat → Option va_E) (q : Int) (hq9 : q < 9223372036854775808) (hok : 0 ≤ q) : Met l yX5_requireLimit wsX5_requireLimit rmX5_requireLimit_b (gR D cA ad w [.long (lI q)]) (gR0 (fun v9 => v9 = none ∧ (0 ≤ q))) 0 0 (fun _ => False) := by
  refine Met.ofW (cc := cX5_requireLimit) (maxL := 2) (ret := none) (by decide) rfl ?_
  intro p e s m args below meth c s₁ B hml hv
  obtain ⟨hav, hP, hK, hB⟩ := hv
  have hx := B.exec
  have hb := B.bytes
  have hret := B.returns
  have hts := atoms_spec (ws := wsX5_requireLimit) B.pre
  have hown : s.vm.findClass RX5 = some m.cls := findClass_of_methodNamed B.named
  have hlocks := B.notSynchronized
  have hS : va_S (fun _ => False) s.heap s.heap [] := va_S.rf
  have he9 : entryFrame m args 2 = F0 m 0 ((lg_sl ([.long (lI q)] : List Value) ++ List.replicate (2 - (lg_sl ([.long (lI q)] : List Value)).length) Slot.unset).toArray) [] := by rw [hav, lg_entry_eq]
  rw [he9]
  have hl := lv_entry ([.long (lI q)] : List Value) (n := 2) (Nat.le_of_ble_eq_true rfl)
  generalize (lg_sl ([.long (lI q)] : List Value) ++ List.replicate (2 - (lg_sl ([.long (lI q)] : List Value)).length) Slot.unset).toArray = ls at hl ⊢
  have hl : lv_has ls 2 [(0, .long (lI q))] := hl
  obtain ⟨Q9, hQ9⟩ : ∃ z, z = MQ below (gR0 (fun v9 => v9 = none ∧ (0 ≤ q))) args s 0 0 (fun _ => False) := ⟨_, rfl⟩
  rw [← hQ9]
  show W p l e rmX5_requireLimit_b s m args below meth c s.heap [] 0 0 Q9 (F0 m 0 ls [])
  refine lv_lload_n (pc := 0) hx hb dX5_requireLimit_0 rfl (lv_at hl 0 rfl) ?_
  refine k_lconst0 (pc := 1) hx hb dX5_requireLimit_1 ?_
  refine k_lcmp_ge (pc := 2) (tgt := 17) hx hb ⟨by omega, by omega⟩ ⟨by omega, by omega⟩ dX5_requireLimit_2 dX5_requireLimit_3 (by decide) (fun hc_2 => ?_) (fun hc_2 => ?_)
  · skip
    rw [hQ9]
    exact W.vret hx hb hret (fun t ht hW => ⟨none, rfl, ⟨rfl, hok⟩, ht⟩) (fun q hq => by cases hq) dX5_requireLimit_17
  · skip
    exfalso
    omega

abbrev rmX5_requireSpan_b : Room := { frames := 1, cells := 0, slots := 0, locals := 20 }
set_option maxHeartbeats 4000000 in
set_option maxRecDepth 100000 in
theorem c_X5_requireSpan_b (l : Launch) (D : va_G) (cA : Nat → ClassId) (ad : Nat → Nat) (w : Nat → Option va_E) (d n : Int) (hok : 0 ≤ d ∧ d < 400 ∧ 1 ≤ n ∧ d + n ≤ 400) : Met l yX5_requireSpan wsX5_requireSpan rmX5_requireSpan_b (gR D cA ad w [.int (iI d), .int (iI n)]) (gR0 (fun v9 => v9 = none ∧ (0 ≤ d ∧ d < 400 ∧ 1 ≤ n ∧ d + n ≤ 400))) 0 0 (fun _ => False) := by
  refine Met.ofW (cc := cX5_requireSpan) (maxL := 2) (ret := none) (by decide) rfl ?_
  intro p e s m args below meth c s₁ B hml hv
  obtain ⟨hav, hP, hK, hB⟩ := hv
  have hx := B.exec
  have hb := B.bytes
  have hret := B.returns
  have hts := atoms_spec (ws := wsX5_requireSpan) B.pre
  have hown : s.vm.findClass RX5 = some m.cls := findClass_of_methodNamed B.named
  have hlocks := B.notSynchronized
  have hS : va_S (fun _ => False) s.heap s.heap [] := va_S.rf
  have he9 : entryFrame m args 2 = F0 m 0 ((lg_sl ([.int (iI d), .int (iI n)] : List Value) ++ List.replicate (2 - (lg_sl ([.int (iI d), .int (iI n)] : List Value)).length) Slot.unset).toArray) [] := by rw [hav, lg_entry_eq]
  rw [he9]
  have hl := lv_entry ([.int (iI d), .int (iI n)] : List Value) (n := 2) (Nat.le_of_ble_eq_true rfl)
  generalize (lg_sl ([.int (iI d), .int (iI n)] : List Value) ++ List.replicate (2 - (lg_sl ([.int (iI d), .int (iI n)] : List Value)).length) Slot.unset).toArray = ls at hl ⊢
  have hl : lv_has ls 2 [(0, .int (iI d)), (1, .int (iI n))] := hl
  obtain ⟨Q9, hQ9⟩ : ∃ z, z = MQ below (gR0 (fun v9 => v9 = none ∧ (0 ≤ d ∧ d < 400 ∧ 1 ≤ n ∧ d + n ≤ 400))) args s 0 0 (fun _ => False) := ⟨_, rfl⟩
  rw [← hQ9]
  show W p l e rmX5_requireSpan_b s m args below meth c s.heap [] 0 0 Q9 (F0 m 0 ls [])
  refine lv_iload_n (pc := 0) hx hb dX5_requireSpan_0 rfl (lv_at hl 0 rfl) ?_
  refine k_call0 (pc := 1) (va_runS (As := [.int (iI d)]) (rest := []) ⟨hx, hb, hml, hown, hts⟩ (c_X5_requireDay_b l D cA ad w d (by omega)) (va_cwS 1 hts gX5_requireSpan_X5_requireDay rfl rfl rfl (by decide +kernel) ⟨Nat.le_of_ble_eq_true rfl, Nat.le_of_ble_eq_true rfl⟩) (gR_S hP hK hB) rfl rfl hl.1 rfl (lv_room (Nat.le_of_ble_eq_true rfl)) dX5_requireSpan_1 ⟨Nat.le_of_ble_eq_true rfl, Nat.le_of_ble_eq_true rfl⟩) (fun v_1 hv_1 => ?_)
  obtain ⟨hv1, hq_1⟩ := hv_1
  subst hv1
  refine W.eq (g2 := F0 m 4 ls []) rfl ?_
  refine lv_iload_n (pc := 4) hx hb dX5_requireSpan_4 rfl (lv_at hl 1 rfl) ?_
  refine k_iconst (pc := 5) hx hb dX5_requireSpan_5 ?_
  refine k_icmp_lt (pc := 6) (tgt := 16) hx hb ⟨by omega, by omega⟩ ⟨by omega, by omega⟩ dX5_requireSpan_6 (by decide) (fun hc_6 => ?_) (fun hc_6 => ?_)
  · skip
    exfalso
    omega
  · skip
    refine lv_iload_n (pc := 9) hx hb dX5_requireSpan_9 rfl (lv_at hl 1 rfl) ?_
    refine k_sipush (pc := 10) hx hb dX5_requireSpan_10 (by decide +kernel) ?_
    refine k_icmp_le (pc := 13) (tgt := 26) hx hb ⟨by omega, by omega⟩ ⟨by omega, by omega⟩ dX5_requireSpan_13 (by decide) (fun hc_13 => ?_) (fun hc_13 => ?_)
    · skip
      refine lv_iload_n (pc := 26) hx hb dX5_requireSpan_26 rfl (lv_at hl 0 rfl) ?_
      refine lv_iload_n (pc := 27) hx hb dX5_requireSpan_27 rfl (lv_at hl 1 rfl) ?_
      refine k_iadd (pc := 28) hx hb dX5_requireSpan_28 ?_
      refine k_sipush (pc := 29) hx hb dX5_requireSpan_29 (by decide +kernel) ?_
      refine k_icmp_le (pc := 32) (tgt := 45) hx hb ⟨by omega, by omega⟩ ⟨by omega, by omega⟩ dX5_requireSpan_32 (by decide) (fun hc_32 => ?_) (fun hc_32 => ?_)
      · skip
        rw [hQ9]
        exact W.vret hx hb hret (fun t ht hW => ⟨none, rfl, ⟨rfl, hok⟩, ht⟩) (fun q hq => by cases hq) dX5_requireSpan_45
      · skip
        exfalso
        omega
    · skip
      exfalso
      omega

abbrev rmX5_state_b : Room := { frames := 5, cells := 0, slots := 0, locals := 113 }
theorem hiX5_state_b_5 : ∀ w ∈ wsX50, w ∈ wsX5_state := by decide +kernel
set_option maxHeartbeats 4000000 in
set_option maxRecDepth 100000 in
theorem c_X5_state_b (l : Launch) (D : va_G) (cA : Nat → ClassId) (ad : Nat → Nat) (w : Nat → Option va_E) (sz : Nat) (sc : Nat → Int) (fn : Nat → Int → Int) (hI : bkInv sc fn) (hbk : bookS cA ad w sc fn) (d : Int) (hd : (-2147483648 ≤ d ∧ d < 2147483648)) (hok : 0 ≤ d ∧ d < 400) : Met l yX5_state wsX5_state rmX5_state_b (gV D cA ad w sz [.ref (ad 0), .int (iI d)]) (gW D (fun v9 ad1 w1 => ∃ (sc2 : Nat → Int) (fn2 : Nat → Int → Int), bookS cA ad1 w1 sc2 fn2 ∧ bkInv sc2 fn2 ∧ keepR ad ad1 w w1 ∧ (sc2 = sc ∧ fn2 = fn ∧ 0 ≤ d ∧ d < 400 ∧ v9 = some (.int (iI (tbS sc fn d))))) (gA ad w sz)) 0 0 (gA ad w sz) := by
  refine Met.ofW (cc := cX5_state) (maxL := 2) (ret := (some .int)) (by decide) rfl ?_
  intro p e s m args below meth c s₁ B hml hv
  obtain ⟨hav, hsz, hP, hD0, hK, hB, hZ⟩ := hv
  have hx := B.exec
  have hb := B.bytes
  have hret := B.returns
  have hts := atoms_spec (ws := wsX5_state) B.pre
  have hown : s.vm.findClass RX5 = some m.cls := findClass_of_methodNamed B.named
  have hlocks := B.notSynchronized
  subst hsz
  have hD := hD0.self (sz := s.heap.size)
  generalize hAe : gA ad w s.heap.size = A at hD hZ ⊢
  have hA : ∀ q : Nat, s.heap.size ≤ q → A q := fun q h => by rw [← hAe]; exact Or.inr h
  have hS : va_S A s.heap s.heap [] := va_S.rf
  have hi5 := hiX5_state_b_5
  have hf42 := hts (.fieldLink RX5 42 "GaugeBook" "table" "LGaugeBook$FlowTable;") (by decide +kernel)
  have he9 : entryFrame m args 2 = F0 m 0 ((lg_sl ([.ref (ad 0), .int (iI d)] : List Value) ++ List.replicate (2 - (lg_sl ([.ref (ad 0), .int (iI d)] : List Value)).length) Slot.unset).toArray) [] := by rw [hav, lg_entry_eq]
  rw [he9]
  have hl := lv_entry ([.ref (ad 0), .int (iI d)] : List Value) (n := 2) (Nat.le_of_ble_eq_true rfl)
  generalize (lg_sl ([.ref (ad 0), .int (iI d)] : List Value) ++ List.replicate (2 - (lg_sl ([.ref (ad 0), .int (iI d)] : List Value)).length) Slot.unset).toArray = ls at hl ⊢
  have hl : lv_has ls 2 [(0, .ref (ad 0)), (1, .int (iI d))] := hl
  obtain ⟨Q9, hQ9⟩ : ∃ z, z = MQ below (gW D (fun v9 ad1 w1 => ∃ (sc2 : Nat → Int) (fn2 : Nat → Int → Int), bookS cA ad1 w1 sc2 fn2 ∧ bkInv sc2 fn2 ∧ keepR ad ad1 w w1 ∧ (sc2 = sc ∧ fn2 = fn ∧ 0 ≤ d ∧ d < 400 ∧ v9 = some (.int (iI (tbS sc fn d))))) A) args s 0 0 A := ⟨_, rfl⟩
  rw [← hQ9]
  show W p l e rmX5_state_b s m args below meth c s.heap [] 0 0 Q9 (F0 m 0 ls [])
  obtain ⟨H, hHe⟩ : ∃ z, z = s.heap := ⟨_, rfl⟩
  obtain ⟨locs, hLe⟩ : ∃ z, z = ([] : List Loc) := ⟨_, rfl⟩
  have hP : gP D vwCl ad w H := by rw [hHe]; exact hP
  have hS : va_S A s.heap H locs := by rw [hHe, hLe]; exact va_S.rf
  rw [show W p l e rmX5_state_b s m args below meth c s.heap [] 0 0 Q9 (F0 m 0 ls []) = W p l e rmX5_state_b s m args below meth c H locs 0 0 Q9 (F0 m 0 ls []) by rw [hHe, hLe]]
  clear hHe hLe
  obtain ⟨rk, F, S, rn, rd, rm_, rz, ⟨h0, h1, h2, h3, h4, h5, h6, h7, h8, h9, h10, h11, h12, h13, h14, h15, hcv, hms⟩, hrk, hF, hS9⟩ := hbk
  have hI1 := hI.1
  refine lv_iload_n (pc := 0) hx hb dX5_state_0 rfl (lv_at hl 1 rfl) ?_
  refine k_call0 (pc := 1) (va_runS (As := [.int (iI d)]) (rest := []) ⟨hx, hb, hml, hown, hts⟩ (c_X5_requireDay_b l D cA ad w d (by omega)) (va_cwS 1 hts gX5_state_X5_requireDay rfl rfl rfl (by decide +kernel) ⟨Nat.le_of_ble_eq_true rfl, Nat.le_of_ble_eq_true rfl⟩) (gR_S hP hK hB) rfl rfl hl.1 rfl (lv_room (Nat.le_of_ble_eq_true rfl)) dX5_state_1 ⟨Nat.le_of_ble_eq_true rfl, Nat.le_of_ble_eq_true rfl⟩) (fun v_1 hv_1 => ?_)
  obtain ⟨hv1, hq_1⟩ := hv_1
  subst hv1
  refine W.eq (g2 := F0 m 4 ls []) rfl ?_
  refine lv_aload_n (pc := 4) hx hb dX5_state_4 rfl (lv_at hl 0 rfl) ?_
  refine k_call1 (pc := 5) (va_runV (As := []) (rest := []) ⟨hx, hb, hml, hown, hts⟩ (c_X5_reckon l D cA ad w H.size sc fn rk F S hI h0 h1 h2 h3 h4 h5 h6 h7 h9 h10 h11 hcv hF hS9 hrk) (cwV 0 hts gX5_state_X5_reckon rfl rfl rfl (by decide +kernel) ⟨Nat.le_of_ble_eq_true rfl, Nat.le_of_ble_eq_true rfl⟩) (gV_V hP hD hK hB hS hA hZ 0 (ci := 5) rfl h0) rfl rfl hl.1 rfl (lv_room (Nat.le_of_ble_eq_true rfl)) dX5_state_5 ⟨Nat.le_of_ble_eq_true rfl, Nat.le_of_ble_eq_true rfl⟩) hS (gA_sub hD hS hA) (fun v_5 ad_5 w_5 H locs hv_5 hP hD hS => ?_)
  obtain ⟨hv1, hv2, hv3⟩ := hv_5
  subst hv1
  rw [hv2, hv3] at hP hD
  refine W.eq (g2 := F0 m 8 ls []) rfl ?_
  refine W.cs (cells' := 0) (slots' := 0) rfl rfl ?_
  refine lv_aload_n (pc := 8) hx hb dX5_state_8 rfl (lv_at hl 0 rfl) ?_
  refine k_get (pc := 9) (ci := 5) (C := RX5) (T := TX5) (N := 13) hx hb hts hi5 hown hK hP 0 (up_s _ _ _) rfl 6 (by decide) hf42 (fun _ h9 => h9) rfl dX5_state_9 ?_
  refine lv_iload_n (pc := 12) hx hb dX5_state_12 rfl (lv_at hl 1 rfl) ?_
  refine k_call0 (pc := 13) (va_runV (As := [.int (iI d)]) (rest := []) ⟨hx, hb, hml, hown, hts⟩ (c_X1_stateOn l D cA ad (up (up (up w 10 (eJ (cA 2) 400 (tbF sc fn))) 11 (eI (cA 0) 400 (tbS sc fn))) 0 (oB 5 [.ref (ad 1), .ref (ad 2), .ref (ad 5), .ref (ad 6), .ref (ad 7), .ref (ad 8), .ref (ad 9), .ref (ad 12), .int (iI (sc 0)), .int (iI (sc 4)), .int (iI (sc 2)), .int (iI (sc 3)), .int (iI 1)])) 9 10 11 (tbF sc fn) (tbS sc fn) (up_n (by decide) (up_n (by decide) (up_n (by decide) h9))) (up_n (by decide) (up_n (by decide) (up_s _ _ _))) (up_n (by decide) (up_s _ _ _)) (tbOk_tb hI).1 (tbOk_tb hI).2.1 d ⟨by omega, by omega⟩) (cwV 1 hts gX5_state_X1_stateOn rfl rfl rfl (by decide +kernel) ⟨Nat.le_of_ble_eq_true rfl, Nat.le_of_ble_eq_true rfl⟩) (gR_V hP hK hB 9 (ci := 1) rfl (up_n (by decide) (up_n (by decide) (up_n (by decide) h9)))) rfl rfl hl.1 rfl (lv_room (Nat.le_of_ble_eq_true rfl)) dX5_state_13 ⟨Nat.le_of_ble_eq_true rfl, Nat.le_of_ble_eq_true rfl⟩) (fun v_13 hv_13 => ?_)
  obtain ⟨z_13, rfl, hz_13⟩ := hv_13
  have hb_13 := (tbOk_tb hI).2.1 d
  refine W.eq (g2 := F0 m 16 ls [.int (iI z_13)]) rfl ?_
  have he_16 : z_13 = tbS sc fn d := by omega
  rw [he_16]
  rw [hQ9]
  exact W.iret (v := iI (tbS sc fn d)) hx hb hret (fun t ht hW => ⟨⟨some (.int (iI (tbS sc fn d))), ad, (up (up (up w 10 (eJ (cA 2) 400 (tbF sc fn))) 11 (eI (cA 0) 400 (tbS sc fn))) 0 (oB 5 [.ref (ad 1), .ref (ad 2), .ref (ad 5), .ref (ad 6), .ref (ad 7), .ref (ad 8), .ref (ad 9), .ref (ad 12), .int (iI (sc 0)), .int (iI (sc 4)), .int (iI (sc 2)), .int (iI (sc 3)), .int (iI 1)])), rfl, ⟨sc, fn, ⟨1, (tbF sc fn), (tbS sc fn), rn, rd, rm_, rz, ⟨(up_s _ _ _), (up_n (by decide) (up_n (by decide) (up_n (by decide) h1))), (up_n (by decide) (up_n (by decide) (up_n (by decide) h2))), (up_n (by decide) (up_n (by decide) (up_n (by decide) h3))), (up_n (by decide) (up_n (by decide) (up_n (by decide) h4))), (up_n (by decide) (up_n (by decide) (up_n (by decide) h5))), (up_n (by decide) (up_n (by decide) (up_n (by decide) h6))), (up_n (by decide) (up_n (by decide) (up_n (by decide) h7))), (up_n (by decide) (up_n (by decide) (up_n (by decide) h8))), (up_n (by decide) (up_n (by decide) (up_n (by decide) h9))), (up_n (by decide) (up_n (by decide) (up_s _ _ _))), (up_n (by decide) (up_s _ _ _)), (up_n (by decide) (up_n (by decide) (up_n (by decide) h12))), (up_n (by decide) (up_n (by decide) (up_n (by decide) h13))), (up_n (by decide) (up_n (by decide) (up_n (by decide) h14))), (up_n (by decide) (up_n (by decide) (up_n (by decide) h15))), (fun k9 hk9 => by have h9_ := hcv k9 hk9; have i9_ := hI.1.1; exact ⟨(up_n (by omega) (up_n (by omega) (up_n (by omega) h9_.1))), (up_n (by omega) (up_n (by omega) (up_n (by omega) h9_.2.1))), (up_n (by omega) (up_n (by omega) (up_n (by omega) h9_.2.2)))⟩), (fun k9 hk9 => by have h9_ := hms k9 hk9; have i9_ := hI.1.2.2.2.2; exact (up_n (by omega) (up_n (by omega) (up_n (by omega) h9_))))⟩, (Or.inr ⟨rfl, rfl, rfl⟩), (tbOk_tb hI).1, (tbOk_tb hI).2.1⟩, hI, ⟨rfl, fun r hr => ⟨(up_n (by omega) (up_n (by omega) (up_n (by omega) rfl))), rfl⟩⟩, ⟨rfl, rfl, by omega, by omega, rfl⟩⟩, by rw [ht]; exact hP, hD⟩, hS.F ht⟩) hS.2.2 dX5_state_16

abbrev rmX5_flow_b : Room := { frames := 5, cells := 0, slots := 0, locals := 113 }
theorem hiX5_flow_b_5 : ∀ w ∈ wsX50, w ∈ wsX5_flow := by decide +kernel
set_option maxHeartbeats 4000000 in
set_option maxRecDepth 100000 in
theorem c_X5_flow_b (l : Launch) (D : va_G) (cA : Nat → ClassId) (ad : Nat → Nat) (w : Nat → Option va_E) (sz : Nat) (sc : Nat → Int) (fn : Nat → Int → Int) (hI : bkInv sc fn) (hbk : bookS cA ad w sc fn) (d : Int) (hd : (-2147483648 ≤ d ∧ d < 2147483648)) (hok : 0 ≤ d ∧ d < 400) : Met l yX5_flow wsX5_flow rmX5_flow_b (gV D cA ad w sz [.ref (ad 0), .int (iI d)]) (gW D (fun v9 ad1 w1 => ∃ (sc2 : Nat → Int) (fn2 : Nat → Int → Int), bookS cA ad1 w1 sc2 fn2 ∧ bkInv sc2 fn2 ∧ keepR ad ad1 w w1 ∧ (sc2 = sc ∧ fn2 = fn ∧ 0 ≤ d ∧ d < 400 ∧ v9 = some (.long (lI (tbF sc fn d))))) (gA ad w sz)) 0 0 (gA ad w sz) := by
  refine Met.ofW (cc := cX5_flow) (maxL := 2) (ret := (some .long)) (by decide) rfl ?_
  intro p e s m args below meth c s₁ B hml hv
  obtain ⟨hav, hsz, hP, hD0, hK, hB, hZ⟩ := hv
  have hx := B.exec
  have hb := B.bytes
  have hret := B.returns
  have hts := atoms_spec (ws := wsX5_flow) B.pre
  have hown : s.vm.findClass RX5 = some m.cls := findClass_of_methodNamed B.named
  have hlocks := B.notSynchronized
  subst hsz
  have hD := hD0.self (sz := s.heap.size)
  generalize hAe : gA ad w s.heap.size = A at hD hZ ⊢
  have hA : ∀ q : Nat, s.heap.size ≤ q → A q := fun q h => by rw [← hAe]; exact Or.inr h
  have hS : va_S A s.heap s.heap [] := va_S.rf
  have hi5 := hiX5_flow_b_5
  have hf42 := hts (.fieldLink RX5 42 "GaugeBook" "table" "LGaugeBook$FlowTable;") (by decide +kernel)
  have he9 : entryFrame m args 2 = F0 m 0 ((lg_sl ([.ref (ad 0), .int (iI d)] : List Value) ++ List.replicate (2 - (lg_sl ([.ref (ad 0), .int (iI d)] : List Value)).length) Slot.unset).toArray) [] := by rw [hav, lg_entry_eq]
  rw [he9]
  have hl := lv_entry ([.ref (ad 0), .int (iI d)] : List Value) (n := 2) (Nat.le_of_ble_eq_true rfl)
  generalize (lg_sl ([.ref (ad 0), .int (iI d)] : List Value) ++ List.replicate (2 - (lg_sl ([.ref (ad 0), .int (iI d)] : List Value)).length) Slot.unset).toArray = ls at hl ⊢
  have hl : lv_has ls 2 [(0, .ref (ad 0)), (1, .int (iI d))] := hl
  obtain ⟨Q9, hQ9⟩ : ∃ z, z = MQ below (gW D (fun v9 ad1 w1 => ∃ (sc2 : Nat → Int) (fn2 : Nat → Int → Int), bookS cA ad1 w1 sc2 fn2 ∧ bkInv sc2 fn2 ∧ keepR ad ad1 w w1 ∧ (sc2 = sc ∧ fn2 = fn ∧ 0 ≤ d ∧ d < 400 ∧ v9 = some (.long (lI (tbF sc fn d))))) A) args s 0 0 A := ⟨_, rfl⟩
  rw [← hQ9]
  show W p l e rmX5_flow_b s m args below meth c s.heap [] 0 0 Q9 (F0 m 0 ls [])
  obtain ⟨H, hHe⟩ : ∃ z, z = s.heap := ⟨_, rfl⟩
  obtain ⟨locs, hLe⟩ : ∃ z, z = ([] : List Loc) := ⟨_, rfl⟩
  have hP : gP D vwCl ad w H := by rw [hHe]; exact hP
  have hS : va_S A s.heap H locs := by rw [hHe, hLe]; exact va_S.rf
  rw [show W p l e rmX5_flow_b s m args below meth c s.heap [] 0 0 Q9 (F0 m 0 ls []) = W p l e rmX5_flow_b s m args below meth c H locs 0 0 Q9 (F0 m 0 ls []) by rw [hHe, hLe]]
  clear hHe hLe
  obtain ⟨rk, F, S, rn, rd, rm_, rz, ⟨h0, h1, h2, h3, h4, h5, h6, h7, h8, h9, h10, h11, h12, h13, h14, h15, hcv, hms⟩, hrk, hF, hS9⟩ := hbk
  have hI1 := hI.1
  refine lv_iload_n (pc := 0) hx hb dX5_flow_0 rfl (lv_at hl 1 rfl) ?_
  refine k_call0 (pc := 1) (va_runS (As := [.int (iI d)]) (rest := []) ⟨hx, hb, hml, hown, hts⟩ (c_X5_requireDay_b l D cA ad w d (by omega)) (va_cwS 1 hts gX5_flow_X5_requireDay rfl rfl rfl (by decide +kernel) ⟨Nat.le_of_ble_eq_true rfl, Nat.le_of_ble_eq_true rfl⟩) (gR_S hP hK hB) rfl rfl hl.1 rfl (lv_room (Nat.le_of_ble_eq_true rfl)) dX5_flow_1 ⟨Nat.le_of_ble_eq_true rfl, Nat.le_of_ble_eq_true rfl⟩) (fun v_1 hv_1 => ?_)
  obtain ⟨hv1, hq_1⟩ := hv_1
  subst hv1
  refine W.eq (g2 := F0 m 4 ls []) rfl ?_
  refine lv_aload_n (pc := 4) hx hb dX5_flow_4 rfl (lv_at hl 0 rfl) ?_
  refine k_call1 (pc := 5) (va_runV (As := []) (rest := []) ⟨hx, hb, hml, hown, hts⟩ (c_X5_reckon l D cA ad w H.size sc fn rk F S hI h0 h1 h2 h3 h4 h5 h6 h7 h9 h10 h11 hcv hF hS9 hrk) (cwV 0 hts gX5_flow_X5_reckon rfl rfl rfl (by decide +kernel) ⟨Nat.le_of_ble_eq_true rfl, Nat.le_of_ble_eq_true rfl⟩) (gV_V hP hD hK hB hS hA hZ 0 (ci := 5) rfl h0) rfl rfl hl.1 rfl (lv_room (Nat.le_of_ble_eq_true rfl)) dX5_flow_5 ⟨Nat.le_of_ble_eq_true rfl, Nat.le_of_ble_eq_true rfl⟩) hS (gA_sub hD hS hA) (fun v_5 ad_5 w_5 H locs hv_5 hP hD hS => ?_)
  obtain ⟨hv1, hv2, hv3⟩ := hv_5
  subst hv1
  rw [hv2, hv3] at hP hD
  refine W.eq (g2 := F0 m 8 ls []) rfl ?_
  refine W.cs (cells' := 0) (slots' := 0) rfl rfl ?_
  refine lv_aload_n (pc := 8) hx hb dX5_flow_8 rfl (lv_at hl 0 rfl) ?_
  refine k_get (pc := 9) (ci := 5) (C := RX5) (T := TX5) (N := 13) hx hb hts hi5 hown hK hP 0 (up_s _ _ _) rfl 6 (by decide) hf42 (fun _ h9 => h9) rfl dX5_flow_9 ?_
  refine lv_iload_n (pc := 12) hx hb dX5_flow_12 rfl (lv_at hl 1 rfl) ?_
  refine k_call0 (pc := 13) (va_runV (As := [.int (iI d)]) (rest := []) ⟨hx, hb, hml, hown, hts⟩ (c_X1_flowOn l D cA ad (up (up (up w 10 (eJ (cA 2) 400 (tbF sc fn))) 11 (eI (cA 0) 400 (tbS sc fn))) 0 (oB 5 [.ref (ad 1), .ref (ad 2), .ref (ad 5), .ref (ad 6), .ref (ad 7), .ref (ad 8), .ref (ad 9), .ref (ad 12), .int (iI (sc 0)), .int (iI (sc 4)), .int (iI (sc 2)), .int (iI (sc 3)), .int (iI 1)])) 9 10 11 (tbF sc fn) (tbS sc fn) (up_n (by decide) (up_n (by decide) (up_n (by decide) h9))) (up_n (by decide) (up_n (by decide) (up_s _ _ _))) (up_n (by decide) (up_s _ _ _)) (tbOk_tb hI).1 (tbOk_tb hI).2.1 d ⟨by omega, by omega⟩) (cwV 1 hts gX5_flow_X1_flowOn rfl rfl rfl (by decide +kernel) ⟨Nat.le_of_ble_eq_true rfl, Nat.le_of_ble_eq_true rfl⟩) (gR_V hP hK hB 9 (ci := 1) rfl (up_n (by decide) (up_n (by decide) (up_n (by decide) h9)))) rfl rfl hl.1 rfl (lv_room (Nat.le_of_ble_eq_true rfl)) dX5_flow_13 ⟨Nat.le_of_ble_eq_true rfl, Nat.le_of_ble_eq_true rfl⟩) (fun v_13 hv_13 => ?_)
  obtain ⟨z_13, rfl, hz_13⟩ := hv_13
  have hb_13 := (tbOk_tb hI).1 d
  refine W.eq (g2 := F0 m 16 ls [.long (lI z_13)]) rfl ?_
  have he_16 : z_13 = tbF sc fn d := by omega
  rw [he_16]
  rw [hQ9]
  exact W.lret (v := lI (tbF sc fn d)) hx hb hret (fun t ht hW => ⟨⟨some (.long (lI (tbF sc fn d))), ad, (up (up (up w 10 (eJ (cA 2) 400 (tbF sc fn))) 11 (eI (cA 0) 400 (tbS sc fn))) 0 (oB 5 [.ref (ad 1), .ref (ad 2), .ref (ad 5), .ref (ad 6), .ref (ad 7), .ref (ad 8), .ref (ad 9), .ref (ad 12), .int (iI (sc 0)), .int (iI (sc 4)), .int (iI (sc 2)), .int (iI (sc 3)), .int (iI 1)])), rfl, ⟨sc, fn, ⟨1, (tbF sc fn), (tbS sc fn), rn, rd, rm_, rz, ⟨(up_s _ _ _), (up_n (by decide) (up_n (by decide) (up_n (by decide) h1))), (up_n (by decide) (up_n (by decide) (up_n (by decide) h2))), (up_n (by decide) (up_n (by decide) (up_n (by decide) h3))), (up_n (by decide) (up_n (by decide) (up_n (by decide) h4))), (up_n (by decide) (up_n (by decide) (up_n (by decide) h5))), (up_n (by decide) (up_n (by decide) (up_n (by decide) h6))), (up_n (by decide) (up_n (by decide) (up_n (by decide) h7))), (up_n (by decide) (up_n (by decide) (up_n (by decide) h8))), (up_n (by decide) (up_n (by decide) (up_n (by decide) h9))), (up_n (by decide) (up_n (by decide) (up_s _ _ _))), (up_n (by decide) (up_s _ _ _)), (up_n (by decide) (up_n (by decide) (up_n (by decide) h12))), (up_n (by decide) (up_n (by decide) (up_n (by decide) h13))), (up_n (by decide) (up_n (by decide) (up_n (by decide) h14))), (up_n (by decide) (up_n (by decide) (up_n (by decide) h15))), (fun k9 hk9 => by have h9_ := hcv k9 hk9; have i9_ := hI.1.1; exact ⟨(up_n (by omega) (up_n (by omega) (up_n (by omega) h9_.1))), (up_n (by omega) (up_n (by omega) (up_n (by omega) h9_.2.1))), (up_n (by omega) (up_n (by omega) (up_n (by omega) h9_.2.2)))⟩), (fun k9 hk9 => by have h9_ := hms k9 hk9; have i9_ := hI.1.2.2.2.2; exact (up_n (by omega) (up_n (by omega) (up_n (by omega) h9_))))⟩, (Or.inr ⟨rfl, rfl, rfl⟩), (tbOk_tb hI).1, (tbOk_tb hI).2.1⟩, hI, ⟨rfl, fun r hr => ⟨(up_n (by omega) (up_n (by omega) (up_n (by omega) rfl))), rfl⟩⟩, ⟨rfl, rfl, by omega, by omega, rfl⟩⟩, by rw [ht]; exact hP, hD⟩, hS.F ht⟩) hS.2.2 dX5_flow_16

abbrev rmX5_shift_b : Room := { frames := 2, cells := 0, slots := 0, locals := 50 }
theorem hiX5_shift_b_5 : ∀ w ∈ wsX50, w ∈ wsX5_shift := by decide +kernel
set_option maxHeartbeats 4000000 in
set_option maxRecDepth 100000 in
theorem c_X5_shift_b (l : Launch) (D : va_G) (cA : Nat → ClassId) (ad : Nat → Nat) (w : Nat → Option va_E) (sz : Nat) (sc : Nat → Int) (fn : Nat → Int → Int) (hI : bkInv sc fn) (hbk : bookS cA ad w sc fn) (d : Int) (hd : (-2147483648 ≤ d ∧ d < 2147483648)) (hok : 0 ≤ d ∧ d < 400) : Met l yX5_shift wsX5_shift rmX5_shift_b (gV D cA ad w sz [.ref (ad 0), .int (iI d)]) (gW D (fun v9 ad1 w1 => ∃ (sc2 : Nat → Int) (fn2 : Nat → Int → Int), bookS cA ad1 w1 sc2 fn2 ∧ bkInv sc2 fn2 ∧ keepR ad ad1 w w1 ∧ (sc2 = sc ∧ fn2 = fn ∧ 0 ≤ d ∧ d < 400 ∧ v9 = some (.int (iI (sftF (fn 0) (fn 1) (sc 1) d))))) (gA ad w sz)) 0 0 (gA ad w sz) := by
  refine Met.ofW (cc := cX5_shift) (maxL := 2) (ret := (some .int)) (by decide) rfl ?_
  intro p e s m args below meth c s₁ B hml hv
  obtain ⟨hav, hsz, hP, hD0, hK, hB, hZ⟩ := hv
  have hx := B.exec
  have hb := B.bytes
  have hret := B.returns
  have hts := atoms_spec (ws := wsX5_shift) B.pre
  have hown : s.vm.findClass RX5 = some m.cls := findClass_of_methodNamed B.named
  have hlocks := B.notSynchronized
  subst hsz
  have hD := hD0.self (sz := s.heap.size)
  generalize hAe : gA ad w s.heap.size = A at hD hZ ⊢
  have hA : ∀ q : Nat, s.heap.size ≤ q → A q := fun q h => by rw [← hAe]; exact Or.inr h
  have hS : va_S A s.heap s.heap [] := va_S.rf
  have hi5 := hiX5_shift_b_5
  have hf18 := hts (.fieldLink RX5 18 "GaugeBook" "shifts" "LGaugeBook$Shifts;") (by decide +kernel)
  have he9 : entryFrame m args 2 = F0 m 0 ((lg_sl ([.ref (ad 0), .int (iI d)] : List Value) ++ List.replicate (2 - (lg_sl ([.ref (ad 0), .int (iI d)] : List Value)).length) Slot.unset).toArray) [] := by rw [hav, lg_entry_eq]
  rw [he9]
  have hl := lv_entry ([.ref (ad 0), .int (iI d)] : List Value) (n := 2) (Nat.le_of_ble_eq_true rfl)
  generalize (lg_sl ([.ref (ad 0), .int (iI d)] : List Value) ++ List.replicate (2 - (lg_sl ([.ref (ad 0), .int (iI d)] : List Value)).length) Slot.unset).toArray = ls at hl ⊢
  have hl : lv_has ls 2 [(0, .ref (ad 0)), (1, .int (iI d))] := hl
  obtain ⟨Q9, hQ9⟩ : ∃ z, z = MQ below (gW D (fun v9 ad1 w1 => ∃ (sc2 : Nat → Int) (fn2 : Nat → Int → Int), bookS cA ad1 w1 sc2 fn2 ∧ bkInv sc2 fn2 ∧ keepR ad ad1 w w1 ∧ (sc2 = sc ∧ fn2 = fn ∧ 0 ≤ d ∧ d < 400 ∧ v9 = some (.int (iI (sftF (fn 0) (fn 1) (sc 1) d))))) A) args s 0 0 A := ⟨_, rfl⟩
  rw [← hQ9]
  show W p l e rmX5_shift_b s m args below meth c s.heap [] 0 0 Q9 (F0 m 0 ls [])
  obtain ⟨H, hHe⟩ : ∃ z, z = s.heap := ⟨_, rfl⟩
  obtain ⟨locs, hLe⟩ : ∃ z, z = ([] : List Loc) := ⟨_, rfl⟩
  have hP : gP D vwCl ad w H := by rw [hHe]; exact hP
  have hS : va_S A s.heap H locs := by rw [hHe, hLe]; exact va_S.rf
  rw [show W p l e rmX5_shift_b s m args below meth c s.heap [] 0 0 Q9 (F0 m 0 ls []) = W p l e rmX5_shift_b s m args below meth c H locs 0 0 Q9 (F0 m 0 ls []) by rw [hHe, hLe]]
  clear hHe hLe
  obtain ⟨rk, F, S, rn, rd, rm_, rz, ⟨h0, h1, h2, h3, h4, h5, h6, h7, h8, h9, h10, h11, h12, h13, h14, h15, hcv, hms⟩, hrk, hF, hS9⟩ := hbk
  have hI1 := hI.1
  refine lv_iload_n (pc := 0) hx hb dX5_shift_0 rfl (lv_at hl 1 rfl) ?_
  refine k_call0 (pc := 1) (va_runS (As := [.int (iI d)]) (rest := []) ⟨hx, hb, hml, hown, hts⟩ (c_X5_requireDay_b l D cA ad w d (by omega)) (va_cwS 1 hts gX5_shift_X5_requireDay rfl rfl rfl (by decide +kernel) ⟨Nat.le_of_ble_eq_true rfl, Nat.le_of_ble_eq_true rfl⟩) (gR_S hP hK hB) rfl rfl hl.1 rfl (lv_room (Nat.le_of_ble_eq_true rfl)) dX5_shift_1 ⟨Nat.le_of_ble_eq_true rfl, Nat.le_of_ble_eq_true rfl⟩) (fun v_1 hv_1 => ?_)
  obtain ⟨hv1, hq_1⟩ := hv_1
  subst hv1
  refine W.eq (g2 := F0 m 4 ls []) rfl ?_
  refine lv_aload_n (pc := 4) hx hb dX5_shift_4 rfl (lv_at hl 0 rfl) ?_
  refine k_get (pc := 5) (ci := 5) (C := RX5) (T := TX5) (N := 13) hx hb hts hi5 hown hK hP 0 h0 rfl 1 (by decide) hf18 (fun _ h9 => h9) rfl dX5_shift_5 ?_
  refine lv_iload_n (pc := 8) hx hb dX5_shift_8 rfl (lv_at hl 1 rfl) ?_
  refine k_call0 (pc := 9) (va_runV (As := [.int (iI d)]) (rest := []) ⟨hx, hb, hml, hown, hts⟩ (c_X4_on l D cA ad w 2 3 4 (sc 1) (fn 0) (fn 1) h2 h3 h4 hI1.2.1 hI.2.1 d ⟨by omega, by omega⟩) (cwV 1 hts gX5_shift_X4_on rfl rfl rfl (by decide +kernel) ⟨Nat.le_of_ble_eq_true rfl, Nat.le_of_ble_eq_true rfl⟩) (gR_V hP hK hB 2 (ci := 4) rfl h2) rfl rfl hl.1 rfl (lv_room (Nat.le_of_ble_eq_true rfl)) dX5_shift_9 ⟨Nat.le_of_ble_eq_true rfl, Nat.le_of_ble_eq_true rfl⟩) (fun v_9 hv_9 => ?_)
  obtain ⟨z_9, rfl, hz_9, hy_9, hw_9⟩ := hv_9
  refine W.eq (g2 := F0 m 12 ls [.int (iI z_9)]) rfl ?_
  have he_12 : z_9 = sftF (fn 0) (fn 1) (sc 1) d := by omega
  rw [he_12]
  rw [hQ9]
  exact W.iret (v := iI (sftF (fn 0) (fn 1) (sc 1) d)) hx hb hret (fun t ht hW => ⟨⟨some (.int (iI (sftF (fn 0) (fn 1) (sc 1) d))), ad, w, rfl, ⟨sc, fn, ⟨rk, F, S, rn, rd, rm_, rz, ⟨h0, h1, h2, h3, h4, h5, h6, h7, h8, h9, h10, h11, h12, h13, h14, h15, hcv, hms⟩, hrk, hF, hS9⟩, hI, ⟨rfl, fun r hr => ⟨rfl, rfl⟩⟩, ⟨rfl, rfl, by omega, by omega, rfl⟩⟩, by rw [ht]; exact hP, hD⟩, hS.F ht⟩) hS.2.2 dX5_shift_12

abbrev rmX5_curveOf_b : Room := { frames := 2, cells := 0, slots := 0, locals := 46 }
set_option maxHeartbeats 4000000 in
set_option maxRecDepth 100000 in
theorem c_X5_curveOf_b (l : Launch) (D : va_G) (cA : Nat → ClassId) (ad : Nat → Nat) (w : Nat → Option va_E) (sz : Nat) (sc : Nat → Int) (fn : Nat → Int → Int) (hI : bkInv sc fn) (hbk : bookS cA ad w sc fn) (d : Int) (hd : (-2147483648 ≤ d ∧ d < 2147483648)) (hok : 0 ≤ d ∧ d < 400) : Met l yX5_curveOf wsX5_curveOf rmX5_curveOf_b (gV D cA ad w sz [.ref (ad 0), .int (iI d)]) (gW D (fun v9 ad1 w1 => ∃ (sc2 : Nat → Int) (fn2 : Nat → Int → Int), bookS cA ad1 w1 sc2 fn2 ∧ bkInv sc2 fn2 ∧ keepR ad ad1 w w1 ∧ (sc2 = sc ∧ fn2 = fn ∧ 0 ≤ d ∧ d < 400 ∧ v9 = some (.int (iI (cvno sc fn d))))) (gA ad w sz)) 0 0 (gA ad w sz) := by
  refine Met.ofW (cc := cX5_curveOf) (maxL := 2) (ret := (some .int)) (by decide) rfl ?_
  intro p e s m args below meth c s₁ B hml hv
  obtain ⟨hav, hsz, hP, hD0, hK, hB, hZ⟩ := hv
  have hx := B.exec
  have hb := B.bytes
  have hret := B.returns
  have hts := atoms_spec (ws := wsX5_curveOf) B.pre
  have hown : s.vm.findClass RX5 = some m.cls := findClass_of_methodNamed B.named
  have hlocks := B.notSynchronized
  subst hsz
  have hD := hD0.self (sz := s.heap.size)
  generalize hAe : gA ad w s.heap.size = A at hD hZ ⊢
  have hA : ∀ q : Nat, s.heap.size ≤ q → A q := fun q h => by rw [← hAe]; exact Or.inr h
  have hS : va_S A s.heap s.heap [] := va_S.rf
  have he9 : entryFrame m args 2 = F0 m 0 ((lg_sl ([.ref (ad 0), .int (iI d)] : List Value) ++ List.replicate (2 - (lg_sl ([.ref (ad 0), .int (iI d)] : List Value)).length) Slot.unset).toArray) [] := by rw [hav, lg_entry_eq]
  rw [he9]
  have hl := lv_entry ([.ref (ad 0), .int (iI d)] : List Value) (n := 2) (Nat.le_of_ble_eq_true rfl)
  generalize (lg_sl ([.ref (ad 0), .int (iI d)] : List Value) ++ List.replicate (2 - (lg_sl ([.ref (ad 0), .int (iI d)] : List Value)).length) Slot.unset).toArray = ls at hl ⊢
  have hl : lv_has ls 2 [(0, .ref (ad 0)), (1, .int (iI d))] := hl
  obtain ⟨Q9, hQ9⟩ : ∃ z, z = MQ below (gW D (fun v9 ad1 w1 => ∃ (sc2 : Nat → Int) (fn2 : Nat → Int → Int), bookS cA ad1 w1 sc2 fn2 ∧ bkInv sc2 fn2 ∧ keepR ad ad1 w w1 ∧ (sc2 = sc ∧ fn2 = fn ∧ 0 ≤ d ∧ d < 400 ∧ v9 = some (.int (iI (cvno sc fn d))))) A) args s 0 0 A := ⟨_, rfl⟩
  rw [← hQ9]
  show W p l e rmX5_curveOf_b s m args below meth c s.heap [] 0 0 Q9 (F0 m 0 ls [])
  obtain ⟨H, hHe⟩ : ∃ z, z = s.heap := ⟨_, rfl⟩
  obtain ⟨locs, hLe⟩ : ∃ z, z = ([] : List Loc) := ⟨_, rfl⟩
  have hP : gP D vwCl ad w H := by rw [hHe]; exact hP
  have hS : va_S A s.heap H locs := by rw [hHe, hLe]; exact va_S.rf
  rw [show W p l e rmX5_curveOf_b s m args below meth c s.heap [] 0 0 Q9 (F0 m 0 ls []) = W p l e rmX5_curveOf_b s m args below meth c H locs 0 0 Q9 (F0 m 0 ls []) by rw [hHe, hLe]]
  clear hHe hLe
  obtain ⟨rk, F, S, rn, rd, rm_, rz, ⟨h0, h1, h2, h3, h4, h5, h6, h7, h8, h9, h10, h11, h12, h13, h14, h15, hcv, hms⟩, hrk, hF, hS9⟩ := hbk
  have hI1 := hI.1
  refine lv_iload_n (pc := 0) hx hb dX5_curveOf_0 rfl (lv_at hl 1 rfl) ?_
  refine k_call0 (pc := 1) (va_runS (As := [.int (iI d)]) (rest := []) ⟨hx, hb, hml, hown, hts⟩ (c_X5_requireDay_b l D cA ad w d (by omega)) (va_cwS 1 hts gX5_curveOf_X5_requireDay rfl rfl rfl (by decide +kernel) ⟨Nat.le_of_ble_eq_true rfl, Nat.le_of_ble_eq_true rfl⟩) (gR_S hP hK hB) rfl rfl hl.1 rfl (lv_room (Nat.le_of_ble_eq_true rfl)) dX5_curveOf_1 ⟨Nat.le_of_ble_eq_true rfl, Nat.le_of_ble_eq_true rfl⟩) (fun v_1 hv_1 => ?_)
  obtain ⟨hv1, hq_1⟩ := hv_1
  subst hv1
  refine W.eq (g2 := F0 m 4 ls []) rfl ?_
  refine lv_aload_n (pc := 4) hx hb dX5_curveOf_4 rfl (lv_at hl 0 rfl) ?_
  refine lv_iload_n (pc := 5) hx hb dX5_curveOf_5 rfl (lv_at hl 1 rfl) ?_
  refine k_call0 (pc := 6) (va_runV (As := [.int (iI d)]) (rest := []) ⟨hx, hb, hml, hown, hts⟩ (c_X5_curveNumberOn l D cA ad w sc fn rk hI h0 h1 hcv d ⟨by omega, by omega⟩) (cwV 1 hts gX5_curveOf_X5_curveNumberOn rfl rfl rfl (by decide +kernel) ⟨Nat.le_of_ble_eq_true rfl, Nat.le_of_ble_eq_true rfl⟩) (gR_V hP hK hB 0 (ci := 5) rfl h0) rfl rfl hl.1 rfl (lv_room (Nat.le_of_ble_eq_true rfl)) dX5_curveOf_6 ⟨Nat.le_of_ble_eq_true rfl, Nat.le_of_ble_eq_true rfl⟩) (fun v_6 hv_6 => ?_)
  obtain ⟨z_6, rfl, hz_6, hy_6, hw_6⟩ := hv_6
  refine W.eq (g2 := F0 m 9 ls [.int (iI z_6)]) rfl ?_
  have he_9 : z_6 = cvno sc fn d := by omega
  rw [he_9]
  rw [hQ9]
  exact W.iret (v := iI (cvno sc fn d)) hx hb hret (fun t ht hW => ⟨⟨some (.int (iI (cvno sc fn d))), ad, w, rfl, ⟨sc, fn, ⟨rk, F, S, rn, rd, rm_, rz, ⟨h0, h1, h2, h3, h4, h5, h6, h7, h8, h9, h10, h11, h12, h13, h14, h15, hcv, hms⟩, hrk, hF, hS9⟩, hI, ⟨rfl, fun r hr => ⟨rfl, rfl⟩⟩, ⟨rfl, rfl, by omega, by omega, rfl⟩⟩, by rw [ht]; exact hP, hD⟩, hS.F ht⟩) hS.2.2 dX5_curveOf_9

abbrev rmX5_flowBy_b : Room := { frames := 2, cells := 0, slots := 0, locals := 50 }
set_option maxHeartbeats 4000000 in
set_option maxRecDepth 100000 in
theorem c_X5_flowBy_b (l : Launch) (D : va_G) (cA : Nat → ClassId) (ad : Nat → Nat) (w : Nat → Option va_E) (sz : Nat) (sc : Nat → Int) (fn : Nat → Int → Int) (hI : bkInv sc fn) (hbk : bookS cA ad w sc fn) (ci sg : Int) (hci : (-2147483648 ≤ ci ∧ ci < 2147483648)) (hsg : (-2147483648 ≤ sg ∧ sg < 2147483648)) (hok : 0 ≤ ci ∧ ci < sc 0 ∧ -2000 ≤ sg ∧ sg ≤ 4000 ∧ 2 ≤ fn 9 ci) : Met l yX5_flowBy wsX5_flowBy rmX5_flowBy_b (gV D cA ad w sz [.ref (ad 0), .int (iI ci), .int (iI sg)]) (gW D (fun v9 ad1 w1 => ∃ (sc2 : Nat → Int) (fn2 : Nat → Int → Int), bookS cA ad1 w1 sc2 fn2 ∧ bkInv sc2 fn2 ∧ keepR ad ad1 w w1 ∧ (sc2 = sc ∧ fn2 = fn ∧ 0 ≤ ci ∧ ci < sc 0 ∧ -2000 ≤ sg ∧ sg ≤ 4000 ∧ 2 ≤ fn 9 ci ∧ v9 = some (.long (lI (flowF (fn (20 + ci.toNat)) (fn (30 + ci.toNat)) (fn 9 ci) sg))))) (gA ad w sz)) 0 0 (gA ad w sz) := by
  refine Met.ofW (cc := cX5_flowBy) (maxL := 4) (ret := (some .long)) (by decide) rfl ?_
  intro p e s m args below meth c s₁ B hml hv
  obtain ⟨hav, hsz, hP, hD0, hK, hB, hZ⟩ := hv
  have hx := B.exec
  have hb := B.bytes
  have hret := B.returns
  have hts := atoms_spec (ws := wsX5_flowBy) B.pre
  have hown : s.vm.findClass RX5 = some m.cls := findClass_of_methodNamed B.named
  have hlocks := B.notSynchronized
  subst hsz
  have hD := hD0.self (sz := s.heap.size)
  generalize hAe : gA ad w s.heap.size = A at hD hZ ⊢
  have hA : ∀ q : Nat, s.heap.size ≤ q → A q := fun q h => by rw [← hAe]; exact Or.inr h
  have hS : va_S A s.heap s.heap [] := va_S.rf
  have he9 : entryFrame m args 4 = F0 m 0 ((lg_sl ([.ref (ad 0), .int (iI ci), .int (iI sg)] : List Value) ++ List.replicate (4 - (lg_sl ([.ref (ad 0), .int (iI ci), .int (iI sg)] : List Value)).length) Slot.unset).toArray) [] := by rw [hav, lg_entry_eq]
  rw [he9]
  have hl := lv_entry ([.ref (ad 0), .int (iI ci), .int (iI sg)] : List Value) (n := 4) (Nat.le_of_ble_eq_true rfl)
  generalize (lg_sl ([.ref (ad 0), .int (iI ci), .int (iI sg)] : List Value) ++ List.replicate (4 - (lg_sl ([.ref (ad 0), .int (iI ci), .int (iI sg)] : List Value)).length) Slot.unset).toArray = ls at hl ⊢
  have hl : lv_has ls 4 [(0, .ref (ad 0)), (1, .int (iI ci)), (2, .int (iI sg))] := hl
  obtain ⟨Q9, hQ9⟩ : ∃ z, z = MQ below (gW D (fun v9 ad1 w1 => ∃ (sc2 : Nat → Int) (fn2 : Nat → Int → Int), bookS cA ad1 w1 sc2 fn2 ∧ bkInv sc2 fn2 ∧ keepR ad ad1 w w1 ∧ (sc2 = sc ∧ fn2 = fn ∧ 0 ≤ ci ∧ ci < sc 0 ∧ -2000 ≤ sg ∧ sg ≤ 4000 ∧ 2 ≤ fn 9 ci ∧ v9 = some (.long (lI (flowF (fn (20 + ci.toNat)) (fn (30 + ci.toNat)) (fn 9 ci) sg))))) A) args s 0 0 A := ⟨_, rfl⟩
  rw [← hQ9]
  show W p l e rmX5_flowBy_b s m args below meth c s.heap [] 0 0 Q9 (F0 m 0 ls [])
  obtain ⟨H, hHe⟩ : ∃ z, z = s.heap := ⟨_, rfl⟩
  obtain ⟨locs, hLe⟩ : ∃ z, z = ([] : List Loc) := ⟨_, rfl⟩
  have hP : gP D vwCl ad w H := by rw [hHe]; exact hP
  have hS : va_S A s.heap H locs := by rw [hHe, hLe]; exact va_S.rf
  rw [show W p l e rmX5_flowBy_b s m args below meth c s.heap [] 0 0 Q9 (F0 m 0 ls []) = W p l e rmX5_flowBy_b s m args below meth c H locs 0 0 Q9 (F0 m 0 ls []) by rw [hHe, hLe]]
  clear hHe hLe
  obtain ⟨rk, F, S, rn, rd, rm_, rz, ⟨h0, h1, h2, h3, h4, h5, h6, h7, h8, h9, h10, h11, h12, h13, h14, h15, hcv, hms⟩, hrk, hF, hS9⟩ := hbk
  have hI1 := hI.1
  refine lv_aload_n (pc := 0) hx hb dX5_flowBy_0 rfl (lv_at hl 0 rfl) ?_
  refine lv_iload_n (pc := 1) hx hb dX5_flowBy_1 rfl (lv_at hl 1 rfl) ?_
  refine k_call0 (pc := 2) (va_runV (As := [.int (iI ci)]) (rest := []) ⟨hx, hb, hml, hown, hts⟩ (c_X5_curveAt l D cA ad w sc fn rk hI h0 h1 ci ⟨by omega, by omega⟩) (cwV 1 hts gX5_flowBy_X5_curveAt rfl rfl rfl (by decide +kernel) ⟨Nat.le_of_ble_eq_true rfl, Nat.le_of_ble_eq_true rfl⟩) (gR_V hP hK hB 0 (ci := 5) rfl h0) rfl rfl hl.1 rfl (lv_room (Nat.le_of_ble_eq_true rfl)) dX5_flowBy_2 ⟨Nat.le_of_ble_eq_true rfl, Nat.le_of_ble_eq_true rfl⟩) (fun v_2 hv_2 => ?_)
  rcases hv_2 with ⟨k_2, hk_2, he_2, hv_2⟩ | ⟨he_2, hv_2⟩
  · skip
    subst hv_2
    refine W.eq (g2 := F0 m 5 ls [.ref (ad (30 + 3 * k_2))]) rfl ?_
    refine lv_astore_n (pc := 5) (lv' := [(3, .ref (ad (30 + 3 * k_2))), (0, .ref (ad 0)), (1, .int (iI ci)), (2, .int (iI sg))]) hx hb dX5_flowBy_5 rfl hl (by decide) rfl (fun ls hl => ?_)
    refine lv_aload_n (pc := 6) hx hb dX5_flowBy_6 rfl (lv_at hl 0 rfl) ?_
    refine lv_ifnonnull (pc := 7) (tgt := 20) hx hb dX5_flowBy_7 (by decide) ?_
    refine lv_iload_n (pc := 20) hx hb dX5_flowBy_20 rfl (lv_at hl 3 rfl) ?_
    refine k_sipush (pc := 21) hx hb dX5_flowBy_21 (by decide +kernel) ?_
    refine k_icmp_lt (pc := 24) (tgt := 34) hx hb ⟨by omega, by omega⟩ ⟨by omega, by omega⟩ dX5_flowBy_24 (by decide) (fun hc_24 => ?_) (fun hc_24 => ?_)
    · skip
      exfalso
      omega
    · skip
      refine lv_iload_n (pc := 27) hx hb dX5_flowBy_27 rfl (lv_at hl 3 rfl) ?_
      refine k_sipush (pc := 28) hx hb dX5_flowBy_28 (by decide +kernel) ?_
      refine k_icmp_le (pc := 31) (tgt := 44) hx hb ⟨by omega, by omega⟩ ⟨by omega, by omega⟩ dX5_flowBy_31 (by decide) (fun hc_31 => ?_) (fun hc_31 => ?_)
      · skip
        refine lv_aload_n (pc := 44) hx hb dX5_flowBy_44 rfl (lv_at hl 0 rfl) ?_
        refine k_call0 (pc := 45) (va_runV (As := []) (rest := []) ⟨hx, hb, hml, hown, hts⟩ (c_X0_isComplete l D cA ad w (30 + 3 * k_2) (31 + 3 * k_2) (32 + 3 * k_2) (fn 8 (k_2 : Int)) (fn 9 (k_2 : Int)) (fn (20 + k_2)) (fn (30 + k_2)) (hcv k_2 hk_2).1 (hcv k_2 hk_2).2.1 (hcv k_2 hk_2).2.2 (by have h9_ := hI.2.2.2.2.2.2.2.2.2.1 (k_2 : Int); omega) (hI.2.2.2.2.2.2.2.2.2.2 k_2 hk_2)) (cwV 0 hts gX5_flowBy_X0_isComplete rfl rfl rfl (by decide +kernel) ⟨Nat.le_of_ble_eq_true rfl, Nat.le_of_ble_eq_true rfl⟩) (gR_V hP hK hB (30 + 3 * k_2) (ci := 0) rfl (hcv k_2 hk_2).1) rfl rfl hl.1 rfl (lv_room (Nat.le_of_ble_eq_true rfl)) dX5_flowBy_45 ⟨Nat.le_of_ble_eq_true rfl, Nat.le_of_ble_eq_true rfl⟩) (fun v_45 hv_45 => ?_)
        obtain ⟨z_45, rfl, hz_45⟩ := hv_45
        refine W.eq (g2 := F0 m 48 ls [.int (iI z_45)]) rfl ?_
        refine k_if_ne (pc := 48) (tgt := 61) hx hb ⟨by omega, by omega⟩ dX5_flowBy_48 (by decide) (fun hc_48 => ?_) (fun hc_48 => ?_)
        · skip
          refine lv_aload_n (pc := 61) hx hb dX5_flowBy_61 rfl (lv_at hl 0 rfl) ?_
          refine lv_iload_n (pc := 62) hx hb dX5_flowBy_62 rfl (lv_at hl 3 rfl) ?_
          refine k_call0 (pc := 63) (va_runV (As := [.int (iI sg)]) (rest := []) ⟨hx, hb, hml, hown, hts⟩ (c_X0_flowAt l D cA ad w (30 + 3 * k_2) (31 + 3 * k_2) (32 + 3 * k_2) (fn 8 (k_2 : Int)) (fn 9 (k_2 : Int)) (fn (20 + k_2)) (fn (30 + k_2)) (hcv k_2 hk_2).1 (hcv k_2 hk_2).2.1 (hcv k_2 hk_2).2.2 (by have h9_ := hI.2.2.2.2.2.2.2.2.2.1 (k_2 : Int); omega) (hI.2.2.2.2.2.2.2.2.2.2 k_2 hk_2) sg (by omega) ⟨by omega, by omega⟩) (cwV 1 hts gX5_flowBy_X0_flowAt rfl rfl rfl (by decide +kernel) ⟨Nat.le_of_ble_eq_true rfl, Nat.le_of_ble_eq_true rfl⟩) (gR_V hP hK hB (30 + 3 * k_2) (ci := 0) rfl (hcv k_2 hk_2).1) rfl rfl hl.1 rfl (lv_room (Nat.le_of_ble_eq_true rfl)) dX5_flowBy_63 ⟨Nat.le_of_ble_eq_true rfl, Nat.le_of_ble_eq_true rfl⟩) (fun v_63 hv_63 => ?_)
          obtain ⟨z_63, rfl, rfl⟩ := hv_63
          refine W.eq (g2 := F0 m 66 ls [.long (lI (flowF (fn (20 + k_2)) (fn (30 + k_2)) (fn 9 (k_2 : Int)) sg))]) rfl ?_
          have he_66 : flowF (fn (20 + k_2)) (fn (30 + k_2)) (fn 9 (k_2 : Int)) sg = flowF (fn (20 + ci.toNat)) (fn (30 + ci.toNat)) (fn 9 ci) sg := by rw [he_2, Int.toNat_natCast]
          rw [he_66]
          rw [hQ9]
          exact W.lret (v := lI (flowF (fn (20 + ci.toNat)) (fn (30 + ci.toNat)) (fn 9 ci) sg)) hx hb hret (fun t ht hW => ⟨⟨some (.long (lI (flowF (fn (20 + ci.toNat)) (fn (30 + ci.toNat)) (fn 9 ci) sg))), ad, w, rfl, ⟨sc, fn, ⟨rk, F, S, rn, rd, rm_, rz, ⟨h0, h1, h2, h3, h4, h5, h6, h7, h8, h9, h10, h11, h12, h13, h14, h15, hcv, hms⟩, hrk, hF, hS9⟩, hI, ⟨rfl, fun r hr => ⟨rfl, rfl⟩⟩, ⟨rfl, rfl, by omega, by omega, by omega, by omega, by rw [he_2]; omega, rfl⟩⟩, by rw [ht]; exact hP, hD⟩, hS.F ht⟩) hS.2.2 dX5_flowBy_66
        · skip
          exfalso
          have h9_ := hok.2.2.2.2; rw [he_2] at h9_; omega
      · skip
        exfalso
        omega
  · skip
    subst hv_2
    refine W.eq (g2 := F0 m 5 ls [.null]) rfl ?_
    refine lv_astore_nN (pc := 5) (lv' := [(3, .null), (0, .ref (ad 0)), (1, .int (iI ci)), (2, .int (iI sg))]) hx hb dX5_flowBy_5 rfl hl (by decide) rfl (fun ls hl => ?_)
    refine lv_aload_nN (pc := 6) hx hb dX5_flowBy_6 rfl (lv_at hl 0 rfl) ?_
    refine lv_ifnonnullN (pc := 7) hx hb dX5_flowBy_7 ?_
    exfalso
    omega

abbrev rmX5_sum_b : Room := { frames := 5, cells := 0, slots := 0, locals := 113 }
theorem hiX5_sum_b_5 : ∀ w ∈ wsX50, w ∈ wsX5_sum := by decide +kernel
set_option maxHeartbeats 4000000 in
set_option maxRecDepth 100000 in
theorem c_X5_sum_b (l : Launch) (D : va_G) (cA : Nat → ClassId) (ad : Nat → Nat) (w : Nat → Option va_E) (sz : Nat) (sc : Nat → Int) (fn : Nat → Int → Int) (hI : bkInv sc fn) (hbk : bookS cA ad w sc fn) (fr to_ wh : Int) (h1_ : (-2147483648 ≤ fr ∧ fr < 2147483648)) (h2_ : (-2147483648 ≤ to_ ∧ to_ < 2147483648)) (h3_ : (-2147483648 ≤ wh ∧ wh < 2147483648)) (hok : 0 ≤ wh ∧ wh ≤ 4) (hok2 : (0 ≤ fr ∧ fr ≤ to_ ∧ to_ < 400)) : Met l yX5_sum wsX5_sum rmX5_sum_b (gV D cA ad w sz [.ref (ad 0), .int (iI fr), .int (iI to_), .int (iI wh)]) (gW D (fun v9 ad1 w1 => ∃ (sc2 : Nat → Int) (fn2 : Nat → Int → Int), bookS cA ad1 w1 sc2 fn2 ∧ bkInv sc2 fn2 ∧ keepR ad ad1 w w1 ∧ (sc2 = sc ∧ fn2 = fn ∧ 0 ≤ wh ∧ wh ≤ 4 ∧ 0 ≤ fr ∧ fr ≤ to_ ∧ to_ < 400 ∧ ∃ z : Int, v9 = some (.long (lI z)) ∧ sumV (tbF sc fn) (tbS sc fn) fr to_ wh z)) (gA ad w sz)) 0 0 (gA ad w sz) := by
  refine Met.ofW (cc := cX5_sum) (maxL := 4) (ret := (some .long)) (by decide) rfl ?_
  intro p e s m args below meth c s₁ B hml hv
  obtain ⟨hav, hsz, hP, hD0, hK, hB, hZ⟩ := hv
  have hx := B.exec
  have hb := B.bytes
  have hret := B.returns
  have hts := atoms_spec (ws := wsX5_sum) B.pre
  have hown : s.vm.findClass RX5 = some m.cls := findClass_of_methodNamed B.named
  have hlocks := B.notSynchronized
  subst hsz
  have hD := hD0.self (sz := s.heap.size)
  generalize hAe : gA ad w s.heap.size = A at hD hZ ⊢
  have hA : ∀ q : Nat, s.heap.size ≤ q → A q := fun q h => by rw [← hAe]; exact Or.inr h
  have hS : va_S A s.heap s.heap [] := va_S.rf
  have hi5 := hiX5_sum_b_5
  have hf42 := hts (.fieldLink RX5 42 "GaugeBook" "table" "LGaugeBook$FlowTable;") (by decide +kernel)
  have he9 : entryFrame m args 4 = F0 m 0 ((lg_sl ([.ref (ad 0), .int (iI fr), .int (iI to_), .int (iI wh)] : List Value) ++ List.replicate (4 - (lg_sl ([.ref (ad 0), .int (iI fr), .int (iI to_), .int (iI wh)] : List Value)).length) Slot.unset).toArray) [] := by rw [hav, lg_entry_eq]
  rw [he9]
  have hl := lv_entry ([.ref (ad 0), .int (iI fr), .int (iI to_), .int (iI wh)] : List Value) (n := 4) (Nat.le_of_ble_eq_true rfl)
  generalize (lg_sl ([.ref (ad 0), .int (iI fr), .int (iI to_), .int (iI wh)] : List Value) ++ List.replicate (4 - (lg_sl ([.ref (ad 0), .int (iI fr), .int (iI to_), .int (iI wh)] : List Value)).length) Slot.unset).toArray = ls at hl ⊢
  have hl : lv_has ls 4 [(0, .ref (ad 0)), (1, .int (iI fr)), (2, .int (iI to_)), (3, .int (iI wh))] := hl
  obtain ⟨Q9, hQ9⟩ : ∃ z, z = MQ below (gW D (fun v9 ad1 w1 => ∃ (sc2 : Nat → Int) (fn2 : Nat → Int → Int), bookS cA ad1 w1 sc2 fn2 ∧ bkInv sc2 fn2 ∧ keepR ad ad1 w w1 ∧ (sc2 = sc ∧ fn2 = fn ∧ 0 ≤ wh ∧ wh ≤ 4 ∧ 0 ≤ fr ∧ fr ≤ to_ ∧ to_ < 400 ∧ ∃ z : Int, v9 = some (.long (lI z)) ∧ sumV (tbF sc fn) (tbS sc fn) fr to_ wh z)) A) args s 0 0 A := ⟨_, rfl⟩
  rw [← hQ9]
  show W p l e rmX5_sum_b s m args below meth c s.heap [] 0 0 Q9 (F0 m 0 ls [])
  obtain ⟨H, hHe⟩ : ∃ z, z = s.heap := ⟨_, rfl⟩
  obtain ⟨locs, hLe⟩ : ∃ z, z = ([] : List Loc) := ⟨_, rfl⟩
  have hP : gP D vwCl ad w H := by rw [hHe]; exact hP
  have hS : va_S A s.heap H locs := by rw [hHe, hLe]; exact va_S.rf
  rw [show W p l e rmX5_sum_b s m args below meth c s.heap [] 0 0 Q9 (F0 m 0 ls []) = W p l e rmX5_sum_b s m args below meth c H locs 0 0 Q9 (F0 m 0 ls []) by rw [hHe, hLe]]
  clear hHe hLe
  obtain ⟨rk, F, S, rn, rd, rm_, rz, ⟨h0, h1, h2, h3, h4, h5, h6, h7, h8, h9, h10, h11, h12, h13, h14, h15, hcv, hms⟩, hrk, hF, hS9⟩ := hbk
  have hI1 := hI.1
  refine lv_iload_n (pc := 0) hx hb dX5_sum_0 rfl (lv_at hl 3 rfl) ?_
  refine k_if_lt (pc := 1) (tgt := 9) hx hb ⟨by omega, by omega⟩ dX5_sum_1 (by decide) (fun hc_1 => ?_) (fun hc_1 => ?_)
  · skip
    exfalso
    omega
  · skip
    refine lv_iload_n (pc := 4) hx hb dX5_sum_4 rfl (lv_at hl 3 rfl) ?_
    refine k_iconst (pc := 5) hx hb dX5_sum_5 ?_
    refine k_icmp_le (pc := 6) (tgt := 19) hx hb ⟨by omega, by omega⟩ ⟨by omega, by omega⟩ dX5_sum_6 (by decide) (fun hc_6 => ?_) (fun hc_6 => ?_)
    · skip
      refine lv_iload_n (pc := 19) hx hb dX5_sum_19 rfl (lv_at hl 1 rfl) ?_
      refine lv_iload_n (pc := 20) hx hb dX5_sum_20 rfl (lv_at hl 2 rfl) ?_
      refine k_call0 (pc := 21) (va_runS (As := [.int (iI fr), .int (iI to_)]) (rest := []) ⟨hx, hb, hml, hown, hts⟩ (c_X5_requireRange_b l D cA ad w fr to_ (by omega)) (va_cwS 2 hts gX5_sum_X5_requireRange rfl rfl rfl (by decide +kernel) ⟨Nat.le_of_ble_eq_true rfl, Nat.le_of_ble_eq_true rfl⟩) (gR_S hP hK hB) rfl rfl hl.1 rfl (lv_room (Nat.le_of_ble_eq_true rfl)) dX5_sum_21 ⟨Nat.le_of_ble_eq_true rfl, Nat.le_of_ble_eq_true rfl⟩) (fun v_21 hv_21 => ?_)
      obtain ⟨hv1, hq_21⟩ := hv_21
      subst hv1
      refine W.eq (g2 := F0 m 24 ls []) rfl ?_
      refine lv_aload_n (pc := 24) hx hb dX5_sum_24 rfl (lv_at hl 0 rfl) ?_
      refine k_call1 (pc := 25) (va_runV (As := []) (rest := []) ⟨hx, hb, hml, hown, hts⟩ (c_X5_reckon l D cA ad w H.size sc fn rk F S hI h0 h1 h2 h3 h4 h5 h6 h7 h9 h10 h11 hcv hF hS9 hrk) (cwV 0 hts gX5_sum_X5_reckon rfl rfl rfl (by decide +kernel) ⟨Nat.le_of_ble_eq_true rfl, Nat.le_of_ble_eq_true rfl⟩) (gV_V hP hD hK hB hS hA hZ 0 (ci := 5) rfl h0) rfl rfl hl.1 rfl (lv_room (Nat.le_of_ble_eq_true rfl)) dX5_sum_25 ⟨Nat.le_of_ble_eq_true rfl, Nat.le_of_ble_eq_true rfl⟩) hS (gA_sub hD hS hA) (fun v_25 ad_25 w_25 H locs hv_25 hP hD hS => ?_)
      obtain ⟨hv1, hv2, hv3⟩ := hv_25
      subst hv1
      rw [hv2, hv3] at hP hD
      refine W.eq (g2 := F0 m 28 ls []) rfl ?_
      refine W.cs (cells' := 0) (slots' := 0) rfl rfl ?_
      refine lv_iload_n (pc := 28) hx hb dX5_sum_28 rfl (lv_at hl 3 rfl) ?_
      rcases (show wh = 0 ∨ wh = 1 ∨ wh = 2 ∨ wh = 3 ∨ (wh < 0 ∨ 3 < wh) by omega) with hs_29 | hs_29 | hs_29 | hs_29 | hs_29
      · skip
        refine k_tab (pc := 29) (v := 0) (tgt := 60) hx hb hs_29 (by decide) (by decide) (by decide) rfl dX5_sum_29 (by decide) ?_
        refine lv_aload_n (pc := 60) hx hb dX5_sum_60 rfl (lv_at hl 0 rfl) ?_
        refine k_get (pc := 61) (ci := 5) (C := RX5) (T := TX5) (N := 13) hx hb hts hi5 hown hK hP 0 (up_s _ _ _) rfl 6 (by decide) hf42 (fun _ h9 => h9) rfl dX5_sum_61 ?_
        refine lv_iload_n (pc := 64) hx hb dX5_sum_64 rfl (lv_at hl 1 rfl) ?_
        refine lv_iload_n (pc := 65) hx hb dX5_sum_65 rfl (lv_at hl 2 rfl) ?_
        refine k_call0 (pc := 66) (va_runV (As := [.int (iI fr), .int (iI to_)]) (rest := []) ⟨hx, hb, hml, hown, hts⟩ (c_X1_daysWithFlow l D cA ad (up (up (up w 10 (eJ (cA 2) 400 (tbF sc fn))) 11 (eI (cA 0) 400 (tbS sc fn))) 0 (oB 5 [.ref (ad 1), .ref (ad 2), .ref (ad 5), .ref (ad 6), .ref (ad 7), .ref (ad 8), .ref (ad 9), .ref (ad 12), .int (iI (sc 0)), .int (iI (sc 4)), .int (iI (sc 2)), .int (iI (sc 3)), .int (iI 1)])) 9 10 11 (tbF sc fn) (tbS sc fn) (up_n (by decide) (up_n (by decide) (up_n (by decide) h9))) (up_n (by decide) (up_n (by decide) (up_s _ _ _))) (up_n (by decide) (up_s _ _ _)) (tbOk_tb hI).1 (tbOk_tb hI).2.1 fr to_ (by omega)) (cwV 2 hts gX5_sum_X1_daysWithFlow rfl rfl rfl (by decide +kernel) ⟨Nat.le_of_ble_eq_true rfl, Nat.le_of_ble_eq_true rfl⟩) (gR_V hP hK hB 9 (ci := 1) rfl (up_n (by decide) (up_n (by decide) (up_n (by decide) h9)))) rfl rfl hl.1 rfl (lv_room (Nat.le_of_ble_eq_true rfl)) dX5_sum_66 ⟨Nat.le_of_ble_eq_true rfl, Nat.le_of_ble_eq_true rfl⟩) (fun v_66 hv_66 => ?_)
        obtain ⟨z_66, rfl, hz_66⟩ := hv_66
        refine W.eq (g2 := F0 m 69 ls [.int (iI z_66)]) rfl ?_
        have cb_ := cntT_b (tbS sc fn) fr (to_ + 1 - fr).toNat
        refine k_i2l (pc := 69) hx hb ⟨by omega, by omega⟩ dX5_sum_69 ?_
        rw [hQ9]
        exact W.lret (v := lI z_66) hx hb hret (fun t ht hW => ⟨⟨some (.long (lI z_66)), ad, (up (up (up w 10 (eJ (cA 2) 400 (tbF sc fn))) 11 (eI (cA 0) 400 (tbS sc fn))) 0 (oB 5 [.ref (ad 1), .ref (ad 2), .ref (ad 5), .ref (ad 6), .ref (ad 7), .ref (ad 8), .ref (ad 9), .ref (ad 12), .int (iI (sc 0)), .int (iI (sc 4)), .int (iI (sc 2)), .int (iI (sc 3)), .int (iI 1)])), rfl, ⟨sc, fn, ⟨1, (tbF sc fn), (tbS sc fn), rn, rd, rm_, rz, ⟨(up_s _ _ _), (up_n (by decide) (up_n (by decide) (up_n (by decide) h1))), (up_n (by decide) (up_n (by decide) (up_n (by decide) h2))), (up_n (by decide) (up_n (by decide) (up_n (by decide) h3))), (up_n (by decide) (up_n (by decide) (up_n (by decide) h4))), (up_n (by decide) (up_n (by decide) (up_n (by decide) h5))), (up_n (by decide) (up_n (by decide) (up_n (by decide) h6))), (up_n (by decide) (up_n (by decide) (up_n (by decide) h7))), (up_n (by decide) (up_n (by decide) (up_n (by decide) h8))), (up_n (by decide) (up_n (by decide) (up_n (by decide) h9))), (up_n (by decide) (up_n (by decide) (up_s _ _ _))), (up_n (by decide) (up_s _ _ _)), (up_n (by decide) (up_n (by decide) (up_n (by decide) h12))), (up_n (by decide) (up_n (by decide) (up_n (by decide) h13))), (up_n (by decide) (up_n (by decide) (up_n (by decide) h14))), (up_n (by decide) (up_n (by decide) (up_n (by decide) h15))), (fun k9 hk9 => by have h9_ := hcv k9 hk9; have i9_ := hI.1.1; exact ⟨(up_n (by omega) (up_n (by omega) (up_n (by omega) h9_.1))), (up_n (by omega) (up_n (by omega) (up_n (by omega) h9_.2.1))), (up_n (by omega) (up_n (by omega) (up_n (by omega) h9_.2.2)))⟩), (fun k9 hk9 => by have h9_ := hms k9 hk9; have i9_ := hI.1.2.2.2.2; exact (up_n (by omega) (up_n (by omega) (up_n (by omega) h9_))))⟩, (Or.inr ⟨rfl, rfl, rfl⟩), (tbOk_tb hI).1, (tbOk_tb hI).2.1⟩, hI, ⟨rfl, fun r hr => ⟨(up_n (by omega) (up_n (by omega) (up_n (by omega) rfl))), rfl⟩⟩, ⟨rfl, rfl, by omega, by omega, by omega, by omega, by omega, z_66, rfl, Or.inl ⟨hs_29, by omega⟩⟩⟩, by rw [ht]; exact hP, hD⟩, hS.F ht⟩) hS.2.2 dX5_sum_70
      · skip
        refine k_tab (pc := 29) (v := 1) (tgt := 71) hx hb hs_29 (by decide) (by decide) (by decide) rfl dX5_sum_29 (by decide) ?_
        refine lv_aload_n (pc := 71) hx hb dX5_sum_71 rfl (lv_at hl 0 rfl) ?_
        refine k_get (pc := 72) (ci := 5) (C := RX5) (T := TX5) (N := 13) hx hb hts hi5 hown hK hP 0 (up_s _ _ _) rfl 6 (by decide) hf42 (fun _ h9 => h9) rfl dX5_sum_72 ?_
        refine lv_iload_n (pc := 75) hx hb dX5_sum_75 rfl (lv_at hl 1 rfl) ?_
        refine lv_iload_n (pc := 76) hx hb dX5_sum_76 rfl (lv_at hl 2 rfl) ?_
        refine k_call0 (pc := 77) (va_runV (As := [.int (iI fr), .int (iI to_)]) (rest := []) ⟨hx, hb, hml, hown, hts⟩ (c_X1_total l D cA ad (up (up (up w 10 (eJ (cA 2) 400 (tbF sc fn))) 11 (eI (cA 0) 400 (tbS sc fn))) 0 (oB 5 [.ref (ad 1), .ref (ad 2), .ref (ad 5), .ref (ad 6), .ref (ad 7), .ref (ad 8), .ref (ad 9), .ref (ad 12), .int (iI (sc 0)), .int (iI (sc 4)), .int (iI (sc 2)), .int (iI (sc 3)), .int (iI 1)])) 9 10 11 (tbF sc fn) (tbS sc fn) (up_n (by decide) (up_n (by decide) (up_n (by decide) h9))) (up_n (by decide) (up_n (by decide) (up_s _ _ _))) (up_n (by decide) (up_s _ _ _)) (tbOk_tb hI).1 (tbOk_tb hI).2.1 fr to_ (by omega)) (cwV 2 hts gX5_sum_X1_total rfl rfl rfl (by decide +kernel) ⟨Nat.le_of_ble_eq_true rfl, Nat.le_of_ble_eq_true rfl⟩) (gR_V hP hK hB 9 (ci := 1) rfl (up_n (by decide) (up_n (by decide) (up_n (by decide) h9)))) rfl rfl hl.1 rfl (lv_room (Nat.le_of_ble_eq_true rfl)) dX5_sum_77 ⟨Nat.le_of_ble_eq_true rfl, Nat.le_of_ble_eq_true rfl⟩) (fun v_77 hv_77 => ?_)
        obtain ⟨z_77, rfl, hz_77⟩ := hv_77
        refine W.eq (g2 := F0 m 80 ls [.long (lI z_77)]) rfl ?_
        rw [hQ9]
        exact W.lret (v := lI z_77) hx hb hret (fun t ht hW => ⟨⟨some (.long (lI z_77)), ad, (up (up (up w 10 (eJ (cA 2) 400 (tbF sc fn))) 11 (eI (cA 0) 400 (tbS sc fn))) 0 (oB 5 [.ref (ad 1), .ref (ad 2), .ref (ad 5), .ref (ad 6), .ref (ad 7), .ref (ad 8), .ref (ad 9), .ref (ad 12), .int (iI (sc 0)), .int (iI (sc 4)), .int (iI (sc 2)), .int (iI (sc 3)), .int (iI 1)])), rfl, ⟨sc, fn, ⟨1, (tbF sc fn), (tbS sc fn), rn, rd, rm_, rz, ⟨(up_s _ _ _), (up_n (by decide) (up_n (by decide) (up_n (by decide) h1))), (up_n (by decide) (up_n (by decide) (up_n (by decide) h2))), (up_n (by decide) (up_n (by decide) (up_n (by decide) h3))), (up_n (by decide) (up_n (by decide) (up_n (by decide) h4))), (up_n (by decide) (up_n (by decide) (up_n (by decide) h5))), (up_n (by decide) (up_n (by decide) (up_n (by decide) h6))), (up_n (by decide) (up_n (by decide) (up_n (by decide) h7))), (up_n (by decide) (up_n (by decide) (up_n (by decide) h8))), (up_n (by decide) (up_n (by decide) (up_n (by decide) h9))), (up_n (by decide) (up_n (by decide) (up_s _ _ _))), (up_n (by decide) (up_s _ _ _)), (up_n (by decide) (up_n (by decide) (up_n (by decide) h12))), (up_n (by decide) (up_n (by decide) (up_n (by decide) h13))), (up_n (by decide) (up_n (by decide) (up_n (by decide) h14))), (up_n (by decide) (up_n (by decide) (up_n (by decide) h15))), (fun k9 hk9 => by have h9_ := hcv k9 hk9; have i9_ := hI.1.1; exact ⟨(up_n (by omega) (up_n (by omega) (up_n (by omega) h9_.1))), (up_n (by omega) (up_n (by omega) (up_n (by omega) h9_.2.1))), (up_n (by omega) (up_n (by omega) (up_n (by omega) h9_.2.2)))⟩), (fun k9 hk9 => by have h9_ := hms k9 hk9; have i9_ := hI.1.2.2.2.2; exact (up_n (by omega) (up_n (by omega) (up_n (by omega) h9_))))⟩, (Or.inr ⟨rfl, rfl, rfl⟩), (tbOk_tb hI).1, (tbOk_tb hI).2.1⟩, hI, ⟨rfl, fun r hr => ⟨(up_n (by omega) (up_n (by omega) (up_n (by omega) rfl))), rfl⟩⟩, ⟨rfl, rfl, by omega, by omega, by omega, by omega, by omega, z_77, rfl, Or.inr (Or.inl ⟨hs_29, by omega⟩)⟩⟩, by rw [ht]; exact hP, hD⟩, hS.F ht⟩) hS.2.2 dX5_sum_80
      · skip
        refine k_tab (pc := 29) (v := 2) (tgt := 81) hx hb hs_29 (by decide) (by decide) (by decide) rfl dX5_sum_29 (by decide) ?_
        refine lv_aload_n (pc := 81) hx hb dX5_sum_81 rfl (lv_at hl 0 rfl) ?_
        refine k_get (pc := 82) (ci := 5) (C := RX5) (T := TX5) (N := 13) hx hb hts hi5 hown hK hP 0 (up_s _ _ _) rfl 6 (by decide) hf42 (fun _ h9 => h9) rfl dX5_sum_82 ?_
        refine lv_aload_n (pc := 85) hx hb dX5_sum_85 rfl (lv_at hl 0 rfl) ?_
        refine k_get (pc := 86) (ci := 5) (C := RX5) (T := TX5) (N := 13) hx hb hts hi5 hown hK hP 0 (up_s _ _ _) rfl 6 (by decide) hf42 (fun _ h9 => h9) rfl dX5_sum_86 ?_
        refine lv_iload_n (pc := 89) hx hb dX5_sum_89 rfl (lv_at hl 1 rfl) ?_
        refine lv_iload_n (pc := 90) hx hb dX5_sum_90 rfl (lv_at hl 2 rfl) ?_
        refine k_call0 (pc := 91) (va_runV (As := [.int (iI fr), .int (iI to_)]) (rest := [.ref (ad 9)]) ⟨hx, hb, hml, hown, hts⟩ (c_X1_greatestDay l D cA ad (up (up (up w 10 (eJ (cA 2) 400 (tbF sc fn))) 11 (eI (cA 0) 400 (tbS sc fn))) 0 (oB 5 [.ref (ad 1), .ref (ad 2), .ref (ad 5), .ref (ad 6), .ref (ad 7), .ref (ad 8), .ref (ad 9), .ref (ad 12), .int (iI (sc 0)), .int (iI (sc 4)), .int (iI (sc 2)), .int (iI (sc 3)), .int (iI 1)])) 9 10 11 (tbF sc fn) (tbS sc fn) (up_n (by decide) (up_n (by decide) (up_n (by decide) h9))) (up_n (by decide) (up_n (by decide) (up_s _ _ _))) (up_n (by decide) (up_s _ _ _)) (tbOk_tb hI).1 (tbOk_tb hI).2.1 (tbOk_tb hI).2.2.1 fr to_ (by omega)) (cwV 2 hts gX5_sum_X1_greatestDay rfl rfl rfl (by decide +kernel) ⟨Nat.le_of_ble_eq_true rfl, Nat.le_of_ble_eq_true rfl⟩) (gR_V hP hK hB 9 (ci := 1) rfl (up_n (by decide) (up_n (by decide) (up_n (by decide) h9)))) rfl rfl hl.1 rfl (lv_room (Nat.le_of_ble_eq_true rfl)) dX5_sum_91 ⟨Nat.le_of_ble_eq_true rfl, Nat.le_of_ble_eq_true rfl⟩) (fun v_91 hv_91 => ?_)
        obtain ⟨z_91, rfl, hz_91, hy_91, hw_91⟩ := hv_91
        refine W.eq (g2 := F0 m 94 ls [.int (iI z_91), .ref (ad 9)]) rfl ?_
        refine k_call0 (pc := 94) (va_runV (As := [.int (iI z_91)]) (rest := []) ⟨hx, hb, hml, hown, hts⟩ (c_X1_flowOn l D cA ad (up (up (up w 10 (eJ (cA 2) 400 (tbF sc fn))) 11 (eI (cA 0) 400 (tbS sc fn))) 0 (oB 5 [.ref (ad 1), .ref (ad 2), .ref (ad 5), .ref (ad 6), .ref (ad 7), .ref (ad 8), .ref (ad 9), .ref (ad 12), .int (iI (sc 0)), .int (iI (sc 4)), .int (iI (sc 2)), .int (iI (sc 3)), .int (iI 1)])) 9 10 11 (tbF sc fn) (tbS sc fn) (up_n (by decide) (up_n (by decide) (up_n (by decide) h9))) (up_n (by decide) (up_n (by decide) (up_s _ _ _))) (up_n (by decide) (up_s _ _ _)) (tbOk_tb hI).1 (tbOk_tb hI).2.1 z_91 ⟨by omega, by omega⟩) (cwV 1 hts gX5_sum_X1_flowOn rfl rfl rfl (by decide +kernel) ⟨Nat.le_of_ble_eq_true rfl, Nat.le_of_ble_eq_true rfl⟩) (gR_V hP hK hB 9 (ci := 1) rfl (up_n (by decide) (up_n (by decide) (up_n (by decide) h9)))) rfl rfl hl.1 rfl (lv_room (Nat.le_of_ble_eq_true rfl)) dX5_sum_94 ⟨Nat.le_of_ble_eq_true rfl, Nat.le_of_ble_eq_true rfl⟩) (fun v_94 hv_94 => ?_)
        obtain ⟨z_94, rfl, hz_94⟩ := hv_94
        have hb_94 := (tbOk_tb hI).1 z_91
        refine W.eq (g2 := F0 m 97 ls [.long (lI z_94)]) rfl ?_
        rw [hQ9]
        exact W.lret (v := lI z_94) hx hb hret (fun t ht hW => ⟨⟨some (.long (lI z_94)), ad, (up (up (up w 10 (eJ (cA 2) 400 (tbF sc fn))) 11 (eI (cA 0) 400 (tbS sc fn))) 0 (oB 5 [.ref (ad 1), .ref (ad 2), .ref (ad 5), .ref (ad 6), .ref (ad 7), .ref (ad 8), .ref (ad 9), .ref (ad 12), .int (iI (sc 0)), .int (iI (sc 4)), .int (iI (sc 2)), .int (iI (sc 3)), .int (iI 1)])), rfl, ⟨sc, fn, ⟨1, (tbF sc fn), (tbS sc fn), rn, rd, rm_, rz, ⟨(up_s _ _ _), (up_n (by decide) (up_n (by decide) (up_n (by decide) h1))), (up_n (by decide) (up_n (by decide) (up_n (by decide) h2))), (up_n (by decide) (up_n (by decide) (up_n (by decide) h3))), (up_n (by decide) (up_n (by decide) (up_n (by decide) h4))), (up_n (by decide) (up_n (by decide) (up_n (by decide) h5))), (up_n (by decide) (up_n (by decide) (up_n (by decide) h6))), (up_n (by decide) (up_n (by decide) (up_n (by decide) h7))), (up_n (by decide) (up_n (by decide) (up_n (by decide) h8))), (up_n (by decide) (up_n (by decide) (up_n (by decide) h9))), (up_n (by decide) (up_n (by decide) (up_s _ _ _))), (up_n (by decide) (up_s _ _ _)), (up_n (by decide) (up_n (by decide) (up_n (by decide) h12))), (up_n (by decide) (up_n (by decide) (up_n (by decide) h13))), (up_n (by decide) (up_n (by decide) (up_n (by decide) h14))), (up_n (by decide) (up_n (by decide) (up_n (by decide) h15))), (fun k9 hk9 => by have h9_ := hcv k9 hk9; have i9_ := hI.1.1; exact ⟨(up_n (by omega) (up_n (by omega) (up_n (by omega) h9_.1))), (up_n (by omega) (up_n (by omega) (up_n (by omega) h9_.2.1))), (up_n (by omega) (up_n (by omega) (up_n (by omega) h9_.2.2)))⟩), (fun k9 hk9 => by have h9_ := hms k9 hk9; have i9_ := hI.1.2.2.2.2; exact (up_n (by omega) (up_n (by omega) (up_n (by omega) h9_))))⟩, (Or.inr ⟨rfl, rfl, rfl⟩), (tbOk_tb hI).1, (tbOk_tb hI).2.1⟩, hI, ⟨rfl, fun r hr => ⟨(up_n (by omega) (up_n (by omega) (up_n (by omega) rfl))), rfl⟩⟩, ⟨rfl, rfl, by omega, by omega, by omega, by omega, by omega, z_94, rfl, Or.inr (Or.inr (Or.inl ⟨hs_29, z_91, hz_91, by rcases hz_91 with ⟨g1, g2⟩ | ⟨g1, g2, g3⟩; exact Or.inl ⟨g1, by omega⟩; exact Or.inr ⟨by omega, by omega⟩⟩))⟩⟩, by rw [ht]; exact hP, hD⟩, hS.F ht⟩) hS.2.2 dX5_sum_97
      · skip
        refine k_tab (pc := 29) (v := 3) (tgt := 98) hx hb hs_29 (by decide) (by decide) (by decide) rfl dX5_sum_29 (by decide) ?_
        refine lv_aload_n (pc := 98) hx hb dX5_sum_98 rfl (lv_at hl 0 rfl) ?_
        refine k_get (pc := 99) (ci := 5) (C := RX5) (T := TX5) (N := 13) hx hb hts hi5 hown hK hP 0 (up_s _ _ _) rfl 6 (by decide) hf42 (fun _ h9 => h9) rfl dX5_sum_99 ?_
        refine lv_iload_n (pc := 102) hx hb dX5_sum_102 rfl (lv_at hl 1 rfl) ?_
        refine lv_iload_n (pc := 103) hx hb dX5_sum_103 rfl (lv_at hl 2 rfl) ?_
        refine k_call0 (pc := 104) (va_runV (As := [.int (iI fr), .int (iI to_)]) (rest := []) ⟨hx, hb, hml, hown, hts⟩ (c_X1_leastFlow l D cA ad (up (up (up w 10 (eJ (cA 2) 400 (tbF sc fn))) 11 (eI (cA 0) 400 (tbS sc fn))) 0 (oB 5 [.ref (ad 1), .ref (ad 2), .ref (ad 5), .ref (ad 6), .ref (ad 7), .ref (ad 8), .ref (ad 9), .ref (ad 12), .int (iI (sc 0)), .int (iI (sc 4)), .int (iI (sc 2)), .int (iI (sc 3)), .int (iI 1)])) 9 10 11 (tbF sc fn) (tbS sc fn) (up_n (by decide) (up_n (by decide) (up_n (by decide) h9))) (up_n (by decide) (up_n (by decide) (up_s _ _ _))) (up_n (by decide) (up_s _ _ _)) (tbOk_tb hI).1 (tbOk_tb hI).2.1 (tbOk_tb hI).2.2.1 fr to_ (by omega)) (cwV 2 hts gX5_sum_X1_leastFlow rfl rfl rfl (by decide +kernel) ⟨Nat.le_of_ble_eq_true rfl, Nat.le_of_ble_eq_true rfl⟩) (gR_V hP hK hB 9 (ci := 1) rfl (up_n (by decide) (up_n (by decide) (up_n (by decide) h9)))) rfl rfl hl.1 rfl (lv_room (Nat.le_of_ble_eq_true rfl)) dX5_sum_104 ⟨Nat.le_of_ble_eq_true rfl, Nat.le_of_ble_eq_true rfl⟩) (fun v_104 hv_104 => ?_)
        obtain ⟨z_104, rfl, hz_104⟩ := hv_104
        refine W.eq (g2 := F0 m 107 ls [.long (lI z_104)]) rfl ?_
        rw [hQ9]
        exact W.lret (v := lI z_104) hx hb hret (fun t ht hW => ⟨⟨some (.long (lI z_104)), ad, (up (up (up w 10 (eJ (cA 2) 400 (tbF sc fn))) 11 (eI (cA 0) 400 (tbS sc fn))) 0 (oB 5 [.ref (ad 1), .ref (ad 2), .ref (ad 5), .ref (ad 6), .ref (ad 7), .ref (ad 8), .ref (ad 9), .ref (ad 12), .int (iI (sc 0)), .int (iI (sc 4)), .int (iI (sc 2)), .int (iI (sc 3)), .int (iI 1)])), rfl, ⟨sc, fn, ⟨1, (tbF sc fn), (tbS sc fn), rn, rd, rm_, rz, ⟨(up_s _ _ _), (up_n (by decide) (up_n (by decide) (up_n (by decide) h1))), (up_n (by decide) (up_n (by decide) (up_n (by decide) h2))), (up_n (by decide) (up_n (by decide) (up_n (by decide) h3))), (up_n (by decide) (up_n (by decide) (up_n (by decide) h4))), (up_n (by decide) (up_n (by decide) (up_n (by decide) h5))), (up_n (by decide) (up_n (by decide) (up_n (by decide) h6))), (up_n (by decide) (up_n (by decide) (up_n (by decide) h7))), (up_n (by decide) (up_n (by decide) (up_n (by decide) h8))), (up_n (by decide) (up_n (by decide) (up_n (by decide) h9))), (up_n (by decide) (up_n (by decide) (up_s _ _ _))), (up_n (by decide) (up_s _ _ _)), (up_n (by decide) (up_n (by decide) (up_n (by decide) h12))), (up_n (by decide) (up_n (by decide) (up_n (by decide) h13))), (up_n (by decide) (up_n (by decide) (up_n (by decide) h14))), (up_n (by decide) (up_n (by decide) (up_n (by decide) h15))), (fun k9 hk9 => by have h9_ := hcv k9 hk9; have i9_ := hI.1.1; exact ⟨(up_n (by omega) (up_n (by omega) (up_n (by omega) h9_.1))), (up_n (by omega) (up_n (by omega) (up_n (by omega) h9_.2.1))), (up_n (by omega) (up_n (by omega) (up_n (by omega) h9_.2.2)))⟩), (fun k9 hk9 => by have h9_ := hms k9 hk9; have i9_ := hI.1.2.2.2.2; exact (up_n (by omega) (up_n (by omega) (up_n (by omega) h9_))))⟩, (Or.inr ⟨rfl, rfl, rfl⟩), (tbOk_tb hI).1, (tbOk_tb hI).2.1⟩, hI, ⟨rfl, fun r hr => ⟨(up_n (by omega) (up_n (by omega) (up_n (by omega) rfl))), rfl⟩⟩, ⟨rfl, rfl, by omega, by omega, by omega, by omega, by omega, z_104, rfl, Or.inr (Or.inr (Or.inr (Or.inl ⟨hs_29, hz_104⟩)))⟩⟩, by rw [ht]; exact hP, hD⟩, hS.F ht⟩) hS.2.2 dX5_sum_107
      · skip
        refine k_tabOut (pc := 29) (tgt := 108) hx hb ⟨by omega, by omega⟩ hs_29 dX5_sum_29 (by decide) ?_
        refine lv_aload_n (pc := 108) hx hb dX5_sum_108 rfl (lv_at hl 0 rfl) ?_
        refine k_get (pc := 109) (ci := 5) (C := RX5) (T := TX5) (N := 13) hx hb hts hi5 hown hK hP 0 (up_s _ _ _) rfl 6 (by decide) hf42 (fun _ h9 => h9) rfl dX5_sum_109 ?_
        refine lv_iload_n (pc := 112) hx hb dX5_sum_112 rfl (lv_at hl 1 rfl) ?_
        refine lv_iload_n (pc := 113) hx hb dX5_sum_113 rfl (lv_at hl 2 rfl) ?_
        refine k_call0 (pc := 114) (va_runV (As := [.int (iI fr), .int (iI to_)]) (rest := []) ⟨hx, hb, hml, hown, hts⟩ (c_X1_greatestDay l D cA ad (up (up (up w 10 (eJ (cA 2) 400 (tbF sc fn))) 11 (eI (cA 0) 400 (tbS sc fn))) 0 (oB 5 [.ref (ad 1), .ref (ad 2), .ref (ad 5), .ref (ad 6), .ref (ad 7), .ref (ad 8), .ref (ad 9), .ref (ad 12), .int (iI (sc 0)), .int (iI (sc 4)), .int (iI (sc 2)), .int (iI (sc 3)), .int (iI 1)])) 9 10 11 (tbF sc fn) (tbS sc fn) (up_n (by decide) (up_n (by decide) (up_n (by decide) h9))) (up_n (by decide) (up_n (by decide) (up_s _ _ _))) (up_n (by decide) (up_s _ _ _)) (tbOk_tb hI).1 (tbOk_tb hI).2.1 (tbOk_tb hI).2.2.1 fr to_ (by omega)) (cwV 2 hts gX5_sum_X1_greatestDay rfl rfl rfl (by decide +kernel) ⟨Nat.le_of_ble_eq_true rfl, Nat.le_of_ble_eq_true rfl⟩) (gR_V hP hK hB 9 (ci := 1) rfl (up_n (by decide) (up_n (by decide) (up_n (by decide) h9)))) rfl rfl hl.1 rfl (lv_room (Nat.le_of_ble_eq_true rfl)) dX5_sum_114 ⟨Nat.le_of_ble_eq_true rfl, Nat.le_of_ble_eq_true rfl⟩) (fun v_114 hv_114 => ?_)
        obtain ⟨z_114, rfl, hz_114, hy_114, hw_114⟩ := hv_114
        refine W.eq (g2 := F0 m 117 ls [.int (iI z_114)]) rfl ?_
        refine k_i2l (pc := 117) hx hb ⟨by omega, by omega⟩ dX5_sum_117 ?_
        rw [hQ9]
        exact W.lret (v := lI z_114) hx hb hret (fun t ht hW => ⟨⟨some (.long (lI z_114)), ad, (up (up (up w 10 (eJ (cA 2) 400 (tbF sc fn))) 11 (eI (cA 0) 400 (tbS sc fn))) 0 (oB 5 [.ref (ad 1), .ref (ad 2), .ref (ad 5), .ref (ad 6), .ref (ad 7), .ref (ad 8), .ref (ad 9), .ref (ad 12), .int (iI (sc 0)), .int (iI (sc 4)), .int (iI (sc 2)), .int (iI (sc 3)), .int (iI 1)])), rfl, ⟨sc, fn, ⟨1, (tbF sc fn), (tbS sc fn), rn, rd, rm_, rz, ⟨(up_s _ _ _), (up_n (by decide) (up_n (by decide) (up_n (by decide) h1))), (up_n (by decide) (up_n (by decide) (up_n (by decide) h2))), (up_n (by decide) (up_n (by decide) (up_n (by decide) h3))), (up_n (by decide) (up_n (by decide) (up_n (by decide) h4))), (up_n (by decide) (up_n (by decide) (up_n (by decide) h5))), (up_n (by decide) (up_n (by decide) (up_n (by decide) h6))), (up_n (by decide) (up_n (by decide) (up_n (by decide) h7))), (up_n (by decide) (up_n (by decide) (up_n (by decide) h8))), (up_n (by decide) (up_n (by decide) (up_n (by decide) h9))), (up_n (by decide) (up_n (by decide) (up_s _ _ _))), (up_n (by decide) (up_s _ _ _)), (up_n (by decide) (up_n (by decide) (up_n (by decide) h12))), (up_n (by decide) (up_n (by decide) (up_n (by decide) h13))), (up_n (by decide) (up_n (by decide) (up_n (by decide) h14))), (up_n (by decide) (up_n (by decide) (up_n (by decide) h15))), (fun k9 hk9 => by have h9_ := hcv k9 hk9; have i9_ := hI.1.1; exact ⟨(up_n (by omega) (up_n (by omega) (up_n (by omega) h9_.1))), (up_n (by omega) (up_n (by omega) (up_n (by omega) h9_.2.1))), (up_n (by omega) (up_n (by omega) (up_n (by omega) h9_.2.2)))⟩), (fun k9 hk9 => by have h9_ := hms k9 hk9; have i9_ := hI.1.2.2.2.2; exact (up_n (by omega) (up_n (by omega) (up_n (by omega) h9_))))⟩, (Or.inr ⟨rfl, rfl, rfl⟩), (tbOk_tb hI).1, (tbOk_tb hI).2.1⟩, hI, ⟨rfl, fun r hr => ⟨(up_n (by omega) (up_n (by omega) (up_n (by omega) rfl))), rfl⟩⟩, ⟨rfl, rfl, by omega, by omega, by omega, by omega, by omega, z_114, rfl, Or.inr (Or.inr (Or.inr (Or.inr ⟨by omega, hz_114⟩)))⟩⟩, by rw [ht]; exact hP, hD⟩, hS.F ht⟩) hS.2.2 dX5_sum_118
    · skip
      exfalso
      omega

abbrev rmX5_reached_b : Room := { frames := 5, cells := 0, slots := 0, locals := 113 }
theorem hiX5_reached_b_5 : ∀ w ∈ wsX50, w ∈ wsX5_reached := by decide +kernel
set_option maxHeartbeats 4000000 in
set_option maxRecDepth 100000 in
theorem c_X5_reached_b (l : Launch) (D : va_G) (cA : Nat → ClassId) (ad : Nat → Nat) (w : Nat → Option va_E) (sz : Nat) (sc : Nat → Int) (fn : Nat → Int → Int) (hI : bkInv sc fn) (hbk : bookS cA ad w sc fn) (pt : Int) (hpt : (-2147483648 ≤ pt ∧ pt < 2147483648)) (hok : 1 ≤ pt ∧ pt ≤ 100) : Met l yX5_reached wsX5_reached rmX5_reached_b (gV D cA ad w sz [.ref (ad 0), .int (iI pt)]) (gW D (fun v9 ad1 w1 => ∃ (sc2 : Nat → Int) (fn2 : Nat → Int → Int), bookS cA ad1 w1 sc2 fn2 ∧ bkInv sc2 fn2 ∧ keepR ad ad1 w w1 ∧ (sc2 = sc ∧ fn2 = fn ∧ 1 ≤ pt ∧ pt ≤ 100 ∧ ∃ v : Int, v9 = some (.long (lI v)) ∧ rcP (tbF sc fn) (tbS sc fn) (max 1 (Int.tdiv (cntT (tbS sc fn) 0 400 * pt) 100)) v)) (gA ad w sz)) 0 0 (gA ad w sz) := by
  refine Met.ofW (cc := cX5_reached) (maxL := 3) (ret := (some .long)) (by decide) rfl ?_
  intro p e s m args below meth c s₁ B hml hv
  obtain ⟨hav, hsz, hP, hD0, hK, hB, hZ⟩ := hv
  have hx := B.exec
  have hb := B.bytes
  have hret := B.returns
  have hts := atoms_spec (ws := wsX5_reached) B.pre
  have hown : s.vm.findClass RX5 = some m.cls := findClass_of_methodNamed B.named
  have hlocks := B.notSynchronized
  subst hsz
  have hD := hD0.self (sz := s.heap.size)
  generalize hAe : gA ad w s.heap.size = A at hD hZ ⊢
  have hA : ∀ q : Nat, s.heap.size ≤ q → A q := fun q h => by rw [← hAe]; exact Or.inr h
  have hS : va_S A s.heap s.heap [] := va_S.rf
  have hi5 := hiX5_reached_b_5
  have hf42 := hts (.fieldLink RX5 42 "GaugeBook" "table" "LGaugeBook$FlowTable;") (by decide +kernel)
  have hf49 := hts (.fieldLink RX5 49 "GaugeBook" "ranking" "LGaugeBook$Ranking;") (by decide +kernel)
  have he9 : entryFrame m args 3 = F0 m 0 ((lg_sl ([.ref (ad 0), .int (iI pt)] : List Value) ++ List.replicate (3 - (lg_sl ([.ref (ad 0), .int (iI pt)] : List Value)).length) Slot.unset).toArray) [] := by rw [hav, lg_entry_eq]
  rw [he9]
  have hl := lv_entry ([.ref (ad 0), .int (iI pt)] : List Value) (n := 3) (Nat.le_of_ble_eq_true rfl)
  generalize (lg_sl ([.ref (ad 0), .int (iI pt)] : List Value) ++ List.replicate (3 - (lg_sl ([.ref (ad 0), .int (iI pt)] : List Value)).length) Slot.unset).toArray = ls at hl ⊢
  have hl : lv_has ls 3 [(0, .ref (ad 0)), (1, .int (iI pt))] := hl
  obtain ⟨Q9, hQ9⟩ : ∃ z, z = MQ below (gW D (fun v9 ad1 w1 => ∃ (sc2 : Nat → Int) (fn2 : Nat → Int → Int), bookS cA ad1 w1 sc2 fn2 ∧ bkInv sc2 fn2 ∧ keepR ad ad1 w w1 ∧ (sc2 = sc ∧ fn2 = fn ∧ 1 ≤ pt ∧ pt ≤ 100 ∧ ∃ v : Int, v9 = some (.long (lI v)) ∧ rcP (tbF sc fn) (tbS sc fn) (max 1 (Int.tdiv (cntT (tbS sc fn) 0 400 * pt) 100)) v)) A) args s 0 0 A := ⟨_, rfl⟩
  rw [← hQ9]
  show W p l e rmX5_reached_b s m args below meth c s.heap [] 0 0 Q9 (F0 m 0 ls [])
  obtain ⟨H, hHe⟩ : ∃ z, z = s.heap := ⟨_, rfl⟩
  obtain ⟨locs, hLe⟩ : ∃ z, z = ([] : List Loc) := ⟨_, rfl⟩
  have hP : gP D vwCl ad w H := by rw [hHe]; exact hP
  have hS : va_S A s.heap H locs := by rw [hHe, hLe]; exact va_S.rf
  rw [show W p l e rmX5_reached_b s m args below meth c s.heap [] 0 0 Q9 (F0 m 0 ls []) = W p l e rmX5_reached_b s m args below meth c H locs 0 0 Q9 (F0 m 0 ls []) by rw [hHe, hLe]]
  clear hHe hLe
  obtain ⟨rk, F, S, rn, rd, rm_, rz, ⟨h0, h1, h2, h3, h4, h5, h6, h7, h8, h9, h10, h11, h12, h13, h14, h15, hcv, hms⟩, hrk, hF, hS9⟩ := hbk
  have hI1 := hI.1
  refine lv_iload_n (pc := 0) hx hb dX5_reached_0 rfl (lv_at hl 1 rfl) ?_
  refine k_iconst (pc := 1) hx hb dX5_reached_1 ?_
  refine k_icmp_lt (pc := 2) (tgt := 11) hx hb ⟨by omega, by omega⟩ ⟨by omega, by omega⟩ dX5_reached_2 (by decide) (fun hc_2 => ?_) (fun hc_2 => ?_)
  · skip
    exfalso
    omega
  · skip
    refine lv_iload_n (pc := 5) hx hb dX5_reached_5 rfl (lv_at hl 1 rfl) ?_
    refine k_bipush (pc := 6) hx hb dX5_reached_6 (by decide +kernel) ?_
    refine k_icmp_le (pc := 8) (tgt := 21) hx hb ⟨by omega, by omega⟩ ⟨by omega, by omega⟩ dX5_reached_8 (by decide) (fun hc_8 => ?_) (fun hc_8 => ?_)
    · skip
      refine lv_aload_n (pc := 21) hx hb dX5_reached_21 rfl (lv_at hl 0 rfl) ?_
      refine k_call1 (pc := 22) (va_runV (As := []) (rest := []) ⟨hx, hb, hml, hown, hts⟩ (c_X5_reckon l D cA ad w H.size sc fn rk F S hI h0 h1 h2 h3 h4 h5 h6 h7 h9 h10 h11 hcv hF hS9 hrk) (cwV 0 hts gX5_reached_X5_reckon rfl rfl rfl (by decide +kernel) ⟨Nat.le_of_ble_eq_true rfl, Nat.le_of_ble_eq_true rfl⟩) (gV_V hP hD hK hB hS hA hZ 0 (ci := 5) rfl h0) rfl rfl hl.1 rfl (lv_room (Nat.le_of_ble_eq_true rfl)) dX5_reached_22 ⟨Nat.le_of_ble_eq_true rfl, Nat.le_of_ble_eq_true rfl⟩) hS (gA_sub hD hS hA) (fun v_22 ad_22 w_22 H locs hv_22 hP hD hS => ?_)
      obtain ⟨hv1, hv2, hv3⟩ := hv_22
      subst hv1
      rw [hv2, hv3] at hP hD
      refine W.eq (g2 := F0 m 25 ls []) rfl ?_
      refine W.cs (cells' := 0) (slots' := 0) rfl rfl ?_
      refine lv_aload_n (pc := 25) hx hb dX5_reached_25 rfl (lv_at hl 0 rfl) ?_
      refine k_get (pc := 26) (ci := 5) (C := RX5) (T := TX5) (N := 13) hx hb hts hi5 hown hK hP 0 (up_s _ _ _) rfl 7 (by decide) hf49 (fun _ h9 => h9) rfl dX5_reached_26 ?_
      refine lv_aload_n (pc := 29) hx hb dX5_reached_29 rfl (lv_at hl 0 rfl) ?_
      refine k_get (pc := 30) (ci := 5) (C := RX5) (T := TX5) (N := 13) hx hb hts hi5 hown hK hP 0 (up_s _ _ _) rfl 6 (by decide) hf42 (fun _ h9 => h9) rfl dX5_reached_30 ?_
      refine k_call1 (pc := 33) (va_runV (As := [.ref (ad 9)]) (rest := []) ⟨hx, hb, hml, hown, hts⟩ (c_X3_rank l D cA ad (up (up (up w 10 (eJ (cA 2) 400 (tbF sc fn))) 11 (eI (cA 0) 400 (tbS sc fn))) 0 (oB 5 [.ref (ad 1), .ref (ad 2), .ref (ad 5), .ref (ad 6), .ref (ad 7), .ref (ad 8), .ref (ad 9), .ref (ad 12), .int (iI (sc 0)), .int (iI (sc 4)), .int (iI (sc 2)), .int (iI (sc 3)), .int (iI 1)])) H.size (tbF sc fn) (tbS sc fn) rn rd rm_ rz (up_n (by decide) (up_n (by decide) (up_n (by decide) h9))) (up_n (by decide) (up_n (by decide) (up_s _ _ _))) (up_n (by decide) (up_s _ _ _)) (up_n (by decide) (up_n (by decide) (up_n (by decide) h12))) (up_n (by decide) (up_n (by decide) (up_n (by decide) h13))) (up_n (by decide) (up_n (by decide) (up_n (by decide) h14))) (up_n (by decide) (up_n (by decide) (up_n (by decide) h15))) (tbOk_tb hI).1 (tbOk_tb hI).2.1 ) (cwV 1 hts gX5_reached_X3_rank rfl rfl rfl (by decide +kernel) ⟨Nat.le_of_ble_eq_true rfl, Nat.le_of_ble_eq_true rfl⟩) (gV_V hP hD hK hB hS hA hZ 12 (ci := 3) rfl (up_n (by decide) (up_n (by decide) (up_n (by decide) h12)))) rfl rfl hl.1 rfl (lv_room (Nat.le_of_ble_eq_true rfl)) dX5_reached_33 ⟨Nat.le_of_ble_eq_true rfl, Nat.le_of_ble_eq_true rfl⟩) hS (gA_sub hD hS hA) (fun v_33 ad_33 w_33 H locs hv_33 hP hD hS => ?_)
      obtain ⟨hv1, hv2, f_33, g_33, hv3, hr_33⟩ := hv_33
      subst hv1
      rw [hv2, hv3] at hP hD
      refine W.eq (g2 := F0 m 36 ls []) rfl ?_
      refine W.cs (cells' := 0) (slots' := 0) rfl rfl ?_
      refine k_iconst (pc := 36) hx hb dX5_reached_36 ?_
      refine lv_aload_n (pc := 37) hx hb dX5_reached_37 rfl (lv_at hl 0 rfl) ?_
      refine k_get (pc := 38) (ci := 5) (C := RX5) (T := TX5) (N := 13) hx hb hts hi5 hown hK hP 0 (up_n (by decide) (up_n (by decide) (up_n (by decide) (up_s _ _ _)))) rfl 7 (by decide) hf49 (fun _ h9 => h9) rfl dX5_reached_38 ?_
      refine k_call0 (pc := 41) (va_runV (As := []) (rest := [.int (iI 1)]) ⟨hx, hb, hml, hown, hts⟩ (c_X3_size l D cA ad (up (up (up (up (up (up w 10 (eJ (cA 2) 400 (tbF sc fn))) 11 (eI (cA 0) 400 (tbS sc fn))) 0 (oB 5 [.ref (ad 1), .ref (ad 2), .ref (ad 5), .ref (ad 6), .ref (ad 7), .ref (ad 8), .ref (ad 9), .ref (ad 12), .int (iI (sc 0)), .int (iI (sc 4)), .int (iI (sc 2)), .int (iI (sc 3)), .int (iI 1)])) 12 (oB 3 [.ref (ad 13), .ref (ad 14), .ref (ad 15), .int (iI (cntT (tbS sc fn) 0 400))])) 13 (eI (cA 0) 400 f_33)) 14 (eI (cA 0) 400 g_33)) (tbF sc fn) (tbS sc fn) (cntT (tbS sc fn) 0 400) f_33 g_33 rz (up_n (by decide) (up_n (by decide) (up_n (by decide) (up_n (by decide) (up_n (by decide) (up_n (by decide) h9)))))) (up_n (by decide) (up_n (by decide) (up_n (by decide) (up_n (by decide) (up_n (by decide) (up_s _ _ _)))))) (up_n (by decide) (up_n (by decide) (up_n (by decide) (up_n (by decide) (up_s _ _ _))))) (up_n (by decide) (up_n (by decide) (up_s _ _ _))) (up_n (by decide) (up_s _ _ _)) (up_s _ _ _) (up_n (by decide) (up_n (by decide) (up_n (by decide) (up_n (by decide) (up_n (by decide) (up_n (by decide) h15)))))) (tbOk_tb hI).1 (tbOk_tb hI).2.1 (cntT_b (tbS sc fn) 0 400)) (cwV 0 hts gX5_reached_X3_size rfl rfl rfl (by decide +kernel) ⟨Nat.le_of_ble_eq_true rfl, Nat.le_of_ble_eq_true rfl⟩) (gR_V hP hK hB 12 (ci := 3) rfl (up_n (by decide) (up_n (by decide) (up_s _ _ _)))) rfl rfl hl.1 rfl (lv_room (Nat.le_of_ble_eq_true rfl)) dX5_reached_41 ⟨Nat.le_of_ble_eq_true rfl, Nat.le_of_ble_eq_true rfl⟩) (fun v_41 hv_41 => ?_)
      obtain ⟨z_41, rfl, hz_41⟩ := hv_41
      refine W.eq (g2 := F0 m 44 ls [.int (iI z_41), .int (iI 1)]) rfl ?_
      have cb_ := cntT_b (tbS sc fn) 0 400
      have m9_ := mulB (a := z_41) (b := pt) (M := 400) (N := 100) ⟨by omega, by omega⟩ ⟨by omega, by omega⟩
      have m8_ := Int.mul_nonneg (show 0 ≤ z_41 by omega) (show 0 ≤ pt by omega)
      refine lv_iload_n (pc := 44) hx hb dX5_reached_44 rfl (lv_at hl 1 rfl) ?_
      refine k_imul (pc := 45) hx hb dX5_reached_45 ?_
      refine k_bipush (pc := 46) hx hb dX5_reached_46 (by decide +kernel) ?_
      refine k_idiv (pc := 48) hx hb ⟨by omega, by omega⟩ ⟨by omega, by omega⟩ (by omega) dX5_reached_48 ?_
      have t9_ : Int.tdiv (z_41 * pt) 100 = z_41 * pt / 100 := Int.tdiv_eq_ediv_of_nonneg (by omega)
      refine k_mmax (pc := 49) hx hb (hml.trans hl.1.symm) hown (hts (.methodLink RX5 191 Lib.Math.max.name) (by decide +kernel)) (hts (.static Lib.Math.max.name) (by decide +kernel)) (hts (.initialized "java/lang/Math") (by decide +kernel)) (hts (.code Lib.Math.max.name Lib.Math.max.code 2 (some .int)) (by decide +kernel)) (Nat.le_of_ble_eq_true rfl) (Nat.le_of_ble_eq_true rfl) (Nat.le_of_ble_eq_true rfl) (Nat.le_of_ble_eq_true rfl) ⟨by omega, by omega⟩ ⟨by omega, by omega⟩ dX5_reached_49 ?_
      obtain ⟨r9, hr9⟩ : ∃ x9 : Int, x9 = max 1 (Int.tdiv (z_41 * pt) 100) := ⟨_, rfl⟩
      rw [← hr9]
      refine lv_istore_n (pc := 52) (lv' := [(2, .int (iI r9)), (0, .ref (ad 0)), (1, .int (iI pt))]) hx hb dX5_reached_52 rfl hl (by decide) rfl (fun ls hl => ?_)
      refine lv_aload_n (pc := 53) hx hb dX5_reached_53 rfl (lv_at hl 1 rfl) ?_
      refine k_get (pc := 54) (ci := 5) (C := RX5) (T := TX5) (N := 13) hx hb hts hi5 hown hK hP 0 (up_n (by decide) (up_n (by decide) (up_n (by decide) (up_s _ _ _)))) rfl 6 (by decide) hf42 (fun _ h9 => h9) rfl dX5_reached_54 ?_
      refine lv_aload_n (pc := 57) hx hb dX5_reached_57 rfl (lv_at hl 1 rfl) ?_
      refine k_get (pc := 58) (ci := 5) (C := RX5) (T := TX5) (N := 13) hx hb hts hi5 hown hK hP 0 (up_n (by decide) (up_n (by decide) (up_n (by decide) (up_s _ _ _)))) rfl 7 (by decide) hf49 (fun _ h9 => h9) rfl dX5_reached_58 ?_
      refine lv_iload_n (pc := 61) hx hb dX5_reached_61 rfl (lv_at hl 0 rfl) ?_
      refine k_call0 (pc := 62) (va_runV (As := [.int (iI r9)]) (rest := [.ref (ad 9)]) ⟨hx, hb, hml, hown, hts⟩ (c_X3_dayOfRank l D cA ad (up (up (up (up (up (up w 10 (eJ (cA 2) 400 (tbF sc fn))) 11 (eI (cA 0) 400 (tbS sc fn))) 0 (oB 5 [.ref (ad 1), .ref (ad 2), .ref (ad 5), .ref (ad 6), .ref (ad 7), .ref (ad 8), .ref (ad 9), .ref (ad 12), .int (iI (sc 0)), .int (iI (sc 4)), .int (iI (sc 2)), .int (iI (sc 3)), .int (iI 1)])) 12 (oB 3 [.ref (ad 13), .ref (ad 14), .ref (ad 15), .int (iI (cntT (tbS sc fn) 0 400))])) 13 (eI (cA 0) 400 f_33)) 14 (eI (cA 0) 400 g_33)) (tbF sc fn) (tbS sc fn) (cntT (tbS sc fn) 0 400) f_33 g_33 rz (up_n (by decide) (up_n (by decide) (up_n (by decide) (up_n (by decide) (up_n (by decide) (up_n (by decide) h9)))))) (up_n (by decide) (up_n (by decide) (up_n (by decide) (up_n (by decide) (up_n (by decide) (up_s _ _ _)))))) (up_n (by decide) (up_n (by decide) (up_n (by decide) (up_n (by decide) (up_s _ _ _))))) (up_n (by decide) (up_n (by decide) (up_s _ _ _))) (up_n (by decide) (up_s _ _ _)) (up_s _ _ _) (up_n (by decide) (up_n (by decide) (up_n (by decide) (up_n (by decide) (up_n (by decide) (up_n (by decide) h15)))))) (tbOk_tb hI).1 (tbOk_tb hI).2.1 (cntT_b (tbS sc fn) 0 400) r9 ⟨by omega, by omega⟩) (cwV 1 hts gX5_reached_X3_dayOfRank rfl rfl rfl (by decide +kernel) ⟨Nat.le_of_ble_eq_true rfl, Nat.le_of_ble_eq_true rfl⟩) (gR_V hP hK hB 12 (ci := 3) rfl (up_n (by decide) (up_n (by decide) (up_s _ _ _)))) rfl rfl hl.1 rfl (lv_room (Nat.le_of_ble_eq_true rfl)) dX5_reached_62 ⟨Nat.le_of_ble_eq_true rfl, Nat.le_of_ble_eq_true rfl⟩) (fun v_62 hv_62 => ?_)
      obtain ⟨z_62, rfl, hz_62⟩ := hv_62
      refine W.eq (g2 := F0 m 65 ls [.int (iI z_62), .ref (ad 9)]) rfl ?_
      have q9_ : -2147483648 ≤ z_62 ∧ z_62 < 2147483648 := by rcases hz_62 with ⟨a1, a2, a3⟩ | ⟨a1, a2⟩; have t_ := hr_33.2.1 (r9 - 1) (by omega) (by omega); omega; omega
      refine k_call0 (pc := 65) (va_runV (As := [.int (iI z_62)]) (rest := []) ⟨hx, hb, hml, hown, hts⟩ (c_X1_flowOn l D cA ad (up (up (up (up (up (up w 10 (eJ (cA 2) 400 (tbF sc fn))) 11 (eI (cA 0) 400 (tbS sc fn))) 0 (oB 5 [.ref (ad 1), .ref (ad 2), .ref (ad 5), .ref (ad 6), .ref (ad 7), .ref (ad 8), .ref (ad 9), .ref (ad 12), .int (iI (sc 0)), .int (iI (sc 4)), .int (iI (sc 2)), .int (iI (sc 3)), .int (iI 1)])) 12 (oB 3 [.ref (ad 13), .ref (ad 14), .ref (ad 15), .int (iI (cntT (tbS sc fn) 0 400))])) 13 (eI (cA 0) 400 f_33)) 14 (eI (cA 0) 400 g_33)) 9 10 11 (tbF sc fn) (tbS sc fn) (up_n (by decide) (up_n (by decide) (up_n (by decide) (up_n (by decide) (up_n (by decide) (up_n (by decide) h9)))))) (up_n (by decide) (up_n (by decide) (up_n (by decide) (up_n (by decide) (up_n (by decide) (up_s _ _ _)))))) (up_n (by decide) (up_n (by decide) (up_n (by decide) (up_n (by decide) (up_s _ _ _))))) (tbOk_tb hI).1 (tbOk_tb hI).2.1 z_62 ⟨by omega, by omega⟩) (cwV 1 hts gX5_reached_X1_flowOn rfl rfl rfl (by decide +kernel) ⟨Nat.le_of_ble_eq_true rfl, Nat.le_of_ble_eq_true rfl⟩) (gR_V hP hK hB 9 (ci := 1) rfl (up_n (by decide) (up_n (by decide) (up_n (by decide) (up_n (by decide) (up_n (by decide) (up_n (by decide) h9))))))) rfl rfl hl.1 rfl (lv_room (Nat.le_of_ble_eq_true rfl)) dX5_reached_65 ⟨Nat.le_of_ble_eq_true rfl, Nat.le_of_ble_eq_true rfl⟩) (fun v_65 hv_65 => ?_)
      obtain ⟨z_65, rfl, hz_65⟩ := hv_65
      have hb_65 := (tbOk_tb hI).1 z_62
      refine W.eq (g2 := F0 m 68 ls [.long (lI z_65)]) rfl ?_
      have hrc : rcP (tbF sc fn) (tbS sc fn) r9 z_65 := by
        rcases hz_62 with ⟨a1, a2, a3⟩ | ⟨a1, a2⟩
        · have t_ := hr_33.2.1 (r9 - 1) (by omega) (by omega)
          rw [a3] at hz_65
          rw [show z_65 = tbF sc fn (f_33 (r9 - 1)) by omega]
          exact rc_is hr_33 ⟨by omega, by omega⟩
        · rw [show z_65 = -1 by omega]
          exact rc_no hr_33 (by omega) (by omega)
      rw [hr9, hz_41] at hrc
      rw [hQ9]
      exact W.lret (v := lI z_65) hx hb hret (fun t ht hW => ⟨⟨some (.long (lI z_65)), ad, (up (up (up (up (up (up w 10 (eJ (cA 2) 400 (tbF sc fn))) 11 (eI (cA 0) 400 (tbS sc fn))) 0 (oB 5 [.ref (ad 1), .ref (ad 2), .ref (ad 5), .ref (ad 6), .ref (ad 7), .ref (ad 8), .ref (ad 9), .ref (ad 12), .int (iI (sc 0)), .int (iI (sc 4)), .int (iI (sc 2)), .int (iI (sc 3)), .int (iI 1)])) 12 (oB 3 [.ref (ad 13), .ref (ad 14), .ref (ad 15), .int (iI (cntT (tbS sc fn) 0 400))])) 13 (eI (cA 0) 400 f_33)) 14 (eI (cA 0) 400 g_33)), rfl, ⟨sc, fn, ⟨1, (tbF sc fn), (tbS sc fn), (cntT (tbS sc fn) 0 400), f_33, g_33, rz, ⟨(up_n (by decide) (up_n (by decide) (up_n (by decide) (up_s _ _ _)))), (up_n (by decide) (up_n (by decide) (up_n (by decide) (up_n (by decide) (up_n (by decide) (up_n (by decide) h1)))))), (up_n (by decide) (up_n (by decide) (up_n (by decide) (up_n (by decide) (up_n (by decide) (up_n (by decide) h2)))))), (up_n (by decide) (up_n (by decide) (up_n (by decide) (up_n (by decide) (up_n (by decide) (up_n (by decide) h3)))))), (up_n (by decide) (up_n (by decide) (up_n (by decide) (up_n (by decide) (up_n (by decide) (up_n (by decide) h4)))))), (up_n (by decide) (up_n (by decide) (up_n (by decide) (up_n (by decide) (up_n (by decide) (up_n (by decide) h5)))))), (up_n (by decide) (up_n (by decide) (up_n (by decide) (up_n (by decide) (up_n (by decide) (up_n (by decide) h6)))))), (up_n (by decide) (up_n (by decide) (up_n (by decide) (up_n (by decide) (up_n (by decide) (up_n (by decide) h7)))))), (up_n (by decide) (up_n (by decide) (up_n (by decide) (up_n (by decide) (up_n (by decide) (up_n (by decide) h8)))))), (up_n (by decide) (up_n (by decide) (up_n (by decide) (up_n (by decide) (up_n (by decide) (up_n (by decide) h9)))))), (up_n (by decide) (up_n (by decide) (up_n (by decide) (up_n (by decide) (up_n (by decide) (up_s _ _ _)))))), (up_n (by decide) (up_n (by decide) (up_n (by decide) (up_n (by decide) (up_s _ _ _))))), (up_n (by decide) (up_n (by decide) (up_s _ _ _))), (up_n (by decide) (up_s _ _ _)), (up_s _ _ _), (up_n (by decide) (up_n (by decide) (up_n (by decide) (up_n (by decide) (up_n (by decide) (up_n (by decide) h15)))))), (fun k9 hk9 => by have h9_ := hcv k9 hk9; have i9_ := hI.1.1; exact ⟨(up_n (by omega) (up_n (by omega) (up_n (by omega) (up_n (by omega) (up_n (by omega) (up_n (by omega) h9_.1)))))), (up_n (by omega) (up_n (by omega) (up_n (by omega) (up_n (by omega) (up_n (by omega) (up_n (by omega) h9_.2.1)))))), (up_n (by omega) (up_n (by omega) (up_n (by omega) (up_n (by omega) (up_n (by omega) (up_n (by omega) h9_.2.2))))))⟩), (fun k9 hk9 => by have h9_ := hms k9 hk9; have i9_ := hI.1.2.2.2.2; exact (up_n (by omega) (up_n (by omega) (up_n (by omega) (up_n (by omega) (up_n (by omega) (up_n (by omega) h9_)))))))⟩, (Or.inr ⟨rfl, rfl, rfl⟩), (tbOk_tb hI).1, (tbOk_tb hI).2.1⟩, hI, ⟨rfl, fun r hr => ⟨(up_n (by omega) (up_n (by omega) (up_n (by omega) (up_n (by omega) (up_n (by omega) (up_n (by omega) rfl)))))), rfl⟩⟩, ⟨rfl, rfl, by omega, by omega, z_65, rfl, hrc⟩⟩, by rw [ht]; exact hP, hD⟩, hS.F ht⟩) hS.2.2 dX5_reached_68
    · skip
      exfalso
      omega

abbrev rmX5_peaks_b : Room := { frames := 5, cells := 0, slots := 0, locals := 113 }
theorem hiX5_peaks_b_5 : ∀ w ∈ wsX50, w ∈ wsX5_peaks := by decide +kernel
set_option maxHeartbeats 4000000 in
set_option maxRecDepth 100000 in
theorem c_X5_peaks_b (l : Launch) (D : va_G) (cA : Nat → ClassId) (ad : Nat → Nat) (w : Nat → Option va_E) (sz : Nat) (sc : Nat → Int) (fn : Nat → Int → Int) (hI : bkInv sc fn) (hbk : bookS cA ad w sc fn) (lm ap : Int) (hlm : (-9223372036854775808 ≤ lm ∧ lm < 9223372036854775808)) (hap : (-2147483648 ≤ ap ∧ ap < 2147483648)) (hok : 0 ≤ lm ∧ 1 ≤ ap ∧ ap ≤ 100) : Met l yX5_peaks wsX5_peaks rmX5_peaks_b (gV D cA ad w sz [.ref (ad 0), .long (lI lm), .int (iI ap)]) (gW D (fun v9 ad1 w1 => ∃ (sc2 : Nat → Int) (fn2 : Nat → Int → Int), bookS cA ad1 w1 sc2 fn2 ∧ bkInv sc2 fn2 ∧ keepR ad ad1 w w1 ∧ (sc2 = sc ∧ fn2 = fn ∧ 0 ≤ lm ∧ 1 ≤ ap ∧ ap ≤ 100 ∧ ∃ v : Int, v9 = some (.int (iI v)) ∧ pkE (tbF sc fn) (tbS sc fn) lm ap (fun _ => False) 0 v)) (gA ad w sz)) 0 0 (gA ad w sz) := by
  refine Met.ofW (cc := cX5_peaks) (maxL := 4) (ret := (some .int)) (by decide) rfl ?_
  intro p e s m args below meth c s₁ B hml hv
  obtain ⟨hav, hsz, hP, hD0, hK, hB, hZ⟩ := hv
  have hx := B.exec
  have hb := B.bytes
  have hret := B.returns
  have hts := atoms_spec (ws := wsX5_peaks) B.pre
  have hown : s.vm.findClass RX5 = some m.cls := findClass_of_methodNamed B.named
  have hlocks := B.notSynchronized
  subst hsz
  have hD := hD0.self (sz := s.heap.size)
  generalize hAe : gA ad w s.heap.size = A at hD hZ ⊢
  have hA : ∀ q : Nat, s.heap.size ≤ q → A q := fun q h => by rw [← hAe]; exact Or.inr h
  have hS : va_S A s.heap s.heap [] := va_S.rf
  have hi5 := hiX5_peaks_b_5
  have hf42 := hts (.fieldLink RX5 42 "GaugeBook" "table" "LGaugeBook$FlowTable;") (by decide +kernel)
  have hf49 := hts (.fieldLink RX5 49 "GaugeBook" "ranking" "LGaugeBook$Ranking;") (by decide +kernel)
  have he9 : entryFrame m args 4 = F0 m 0 ((lg_sl ([.ref (ad 0), .long (lI lm), .int (iI ap)] : List Value) ++ List.replicate (4 - (lg_sl ([.ref (ad 0), .long (lI lm), .int (iI ap)] : List Value)).length) Slot.unset).toArray) [] := by rw [hav, lg_entry_eq]
  rw [he9]
  have hl := lv_entry ([.ref (ad 0), .long (lI lm), .int (iI ap)] : List Value) (n := 4) (Nat.le_of_ble_eq_true rfl)
  generalize (lg_sl ([.ref (ad 0), .long (lI lm), .int (iI ap)] : List Value) ++ List.replicate (4 - (lg_sl ([.ref (ad 0), .long (lI lm), .int (iI ap)] : List Value)).length) Slot.unset).toArray = ls at hl ⊢
  have hl : lv_has ls 4 [(0, .ref (ad 0)), (1, .long (lI lm)), (3, .int (iI ap))] := hl
  obtain ⟨Q9, hQ9⟩ : ∃ z, z = MQ below (gW D (fun v9 ad1 w1 => ∃ (sc2 : Nat → Int) (fn2 : Nat → Int → Int), bookS cA ad1 w1 sc2 fn2 ∧ bkInv sc2 fn2 ∧ keepR ad ad1 w w1 ∧ (sc2 = sc ∧ fn2 = fn ∧ 0 ≤ lm ∧ 1 ≤ ap ∧ ap ≤ 100 ∧ ∃ v : Int, v9 = some (.int (iI v)) ∧ pkE (tbF sc fn) (tbS sc fn) lm ap (fun _ => False) 0 v)) A) args s 0 0 A := ⟨_, rfl⟩
  rw [← hQ9]
  show W p l e rmX5_peaks_b s m args below meth c s.heap [] 0 0 Q9 (F0 m 0 ls [])
  obtain ⟨H, hHe⟩ : ∃ z, z = s.heap := ⟨_, rfl⟩
  obtain ⟨locs, hLe⟩ : ∃ z, z = ([] : List Loc) := ⟨_, rfl⟩
  have hP : gP D vwCl ad w H := by rw [hHe]; exact hP
  have hS : va_S A s.heap H locs := by rw [hHe, hLe]; exact va_S.rf
  rw [show W p l e rmX5_peaks_b s m args below meth c s.heap [] 0 0 Q9 (F0 m 0 ls []) = W p l e rmX5_peaks_b s m args below meth c H locs 0 0 Q9 (F0 m 0 ls []) by rw [hHe, hLe]]
  clear hHe hLe
  obtain ⟨rk, F, S, rn, rd, rm_, rz, ⟨h0, h1, h2, h3, h4, h5, h6, h7, h8, h9, h10, h11, h12, h13, h14, h15, hcv, hms⟩, hrk, hF, hS9⟩ := hbk
  have hI1 := hI.1
  refine lv_lload_n (pc := 0) hx hb dX5_peaks_0 rfl (lv_at hl 1 rfl) ?_
  refine k_call0 (pc := 1) (va_runS (As := [.long (lI lm)]) (rest := []) ⟨hx, hb, hml, hown, hts⟩ (c_X5_requireLimit_b l D cA ad w lm (by omega) (by omega)) (va_cwS 1 hts gX5_peaks_X5_requireLimit rfl rfl rfl (by decide +kernel) ⟨Nat.le_of_ble_eq_true rfl, Nat.le_of_ble_eq_true rfl⟩) (gR_S hP hK hB) rfl rfl hl.1 rfl (lv_room (Nat.le_of_ble_eq_true rfl)) dX5_peaks_1 ⟨Nat.le_of_ble_eq_true rfl, Nat.le_of_ble_eq_true rfl⟩) (fun v_1 hv_1 => ?_)
  obtain ⟨hv1, hq_1⟩ := hv_1
  subst hv1
  refine W.eq (g2 := F0 m 4 ls []) rfl ?_
  refine lv_iload_n (pc := 4) hx hb dX5_peaks_4 rfl (lv_at hl 2 rfl) ?_
  refine k_iconst (pc := 5) hx hb dX5_peaks_5 ?_
  refine k_icmp_lt (pc := 6) (tgt := 15) hx hb ⟨by omega, by omega⟩ ⟨by omega, by omega⟩ dX5_peaks_6 (by decide) (fun hc_6 => ?_) (fun hc_6 => ?_)
  · skip
    exfalso
    omega
  · skip
    refine lv_iload_n (pc := 9) hx hb dX5_peaks_9 rfl (lv_at hl 2 rfl) ?_
    refine k_bipush (pc := 10) hx hb dX5_peaks_10 (by decide +kernel) ?_
    refine k_icmp_le (pc := 12) (tgt := 25) hx hb ⟨by omega, by omega⟩ ⟨by omega, by omega⟩ dX5_peaks_12 (by decide) (fun hc_12 => ?_) (fun hc_12 => ?_)
    · skip
      refine lv_aload_n (pc := 25) hx hb dX5_peaks_25 rfl (lv_at hl 0 rfl) ?_
      refine k_call1 (pc := 26) (va_runV (As := []) (rest := []) ⟨hx, hb, hml, hown, hts⟩ (c_X5_reckon l D cA ad w H.size sc fn rk F S hI h0 h1 h2 h3 h4 h5 h6 h7 h9 h10 h11 hcv hF hS9 hrk) (cwV 0 hts gX5_peaks_X5_reckon rfl rfl rfl (by decide +kernel) ⟨Nat.le_of_ble_eq_true rfl, Nat.le_of_ble_eq_true rfl⟩) (gV_V hP hD hK hB hS hA hZ 0 (ci := 5) rfl h0) rfl rfl hl.1 rfl (lv_room (Nat.le_of_ble_eq_true rfl)) dX5_peaks_26 ⟨Nat.le_of_ble_eq_true rfl, Nat.le_of_ble_eq_true rfl⟩) hS (gA_sub hD hS hA) (fun v_26 ad_26 w_26 H locs hv_26 hP hD hS => ?_)
      obtain ⟨hv1, hv2, hv3⟩ := hv_26
      subst hv1
      rw [hv2, hv3] at hP hD
      refine W.eq (g2 := F0 m 29 ls []) rfl ?_
      refine W.cs (cells' := 0) (slots' := 0) rfl rfl ?_
      refine lv_aload_n (pc := 29) hx hb dX5_peaks_29 rfl (lv_at hl 0 rfl) ?_
      refine k_get (pc := 30) (ci := 5) (C := RX5) (T := TX5) (N := 13) hx hb hts hi5 hown hK hP 0 (up_s _ _ _) rfl 7 (by decide) hf49 (fun _ h9 => h9) rfl dX5_peaks_30 ?_
      refine lv_aload_n (pc := 33) hx hb dX5_peaks_33 rfl (lv_at hl 0 rfl) ?_
      refine k_get (pc := 34) (ci := 5) (C := RX5) (T := TX5) (N := 13) hx hb hts hi5 hown hK hP 0 (up_s _ _ _) rfl 6 (by decide) hf42 (fun _ h9 => h9) rfl dX5_peaks_34 ?_
      refine k_call1 (pc := 37) (va_runV (As := [.ref (ad 9)]) (rest := []) ⟨hx, hb, hml, hown, hts⟩ (c_X3_rank l D cA ad (up (up (up w 10 (eJ (cA 2) 400 (tbF sc fn))) 11 (eI (cA 0) 400 (tbS sc fn))) 0 (oB 5 [.ref (ad 1), .ref (ad 2), .ref (ad 5), .ref (ad 6), .ref (ad 7), .ref (ad 8), .ref (ad 9), .ref (ad 12), .int (iI (sc 0)), .int (iI (sc 4)), .int (iI (sc 2)), .int (iI (sc 3)), .int (iI 1)])) H.size (tbF sc fn) (tbS sc fn) rn rd rm_ rz (up_n (by decide) (up_n (by decide) (up_n (by decide) h9))) (up_n (by decide) (up_n (by decide) (up_s _ _ _))) (up_n (by decide) (up_s _ _ _)) (up_n (by decide) (up_n (by decide) (up_n (by decide) h12))) (up_n (by decide) (up_n (by decide) (up_n (by decide) h13))) (up_n (by decide) (up_n (by decide) (up_n (by decide) h14))) (up_n (by decide) (up_n (by decide) (up_n (by decide) h15))) (tbOk_tb hI).1 (tbOk_tb hI).2.1 ) (cwV 1 hts gX5_peaks_X3_rank rfl rfl rfl (by decide +kernel) ⟨Nat.le_of_ble_eq_true rfl, Nat.le_of_ble_eq_true rfl⟩) (gV_V hP hD hK hB hS hA hZ 12 (ci := 3) rfl (up_n (by decide) (up_n (by decide) (up_n (by decide) h12)))) rfl rfl hl.1 rfl (lv_room (Nat.le_of_ble_eq_true rfl)) dX5_peaks_37 ⟨Nat.le_of_ble_eq_true rfl, Nat.le_of_ble_eq_true rfl⟩) hS (gA_sub hD hS hA) (fun v_37 ad_37 w_37 H locs hv_37 hP hD hS => ?_)
      obtain ⟨hv1, hv2, f_37, g_37, hv3, hr_37⟩ := hv_37
      subst hv1
      rw [hv2, hv3] at hP hD
      refine W.eq (g2 := F0 m 40 ls []) rfl ?_
      refine W.cs (cells' := 0) (slots' := 0) rfl rfl ?_
      refine lv_aload_n (pc := 40) hx hb dX5_peaks_40 rfl (lv_at hl 0 rfl) ?_
      refine k_get (pc := 41) (ci := 5) (C := RX5) (T := TX5) (N := 13) hx hb hts hi5 hown hK hP 0 (up_n (by decide) (up_n (by decide) (up_n (by decide) (up_s _ _ _)))) rfl 7 (by decide) hf49 (fun _ h9 => h9) rfl dX5_peaks_41 ?_
      refine lv_aload_n (pc := 44) hx hb dX5_peaks_44 rfl (lv_at hl 0 rfl) ?_
      refine k_get (pc := 45) (ci := 5) (C := RX5) (T := TX5) (N := 13) hx hb hts hi5 hown hK hP 0 (up_n (by decide) (up_n (by decide) (up_n (by decide) (up_s _ _ _)))) rfl 6 (by decide) hf42 (fun _ h9 => h9) rfl dX5_peaks_45 ?_
      refine lv_lload_n (pc := 48) hx hb dX5_peaks_48 rfl (lv_at hl 1 rfl) ?_
      refine lv_iload_n (pc := 49) hx hb dX5_peaks_49 rfl (lv_at hl 2 rfl) ?_
      refine k_call1 (pc := 50) (va_runV (As := [.ref (ad 9), .long (lI lm), .int (iI ap)]) (rest := []) ⟨hx, hb, hml, hown, hts⟩ (c_X3_countPeaks l D cA ad (up (up (up (up (up (up w 10 (eJ (cA 2) 400 (tbF sc fn))) 11 (eI (cA 0) 400 (tbS sc fn))) 0 (oB 5 [.ref (ad 1), .ref (ad 2), .ref (ad 5), .ref (ad 6), .ref (ad 7), .ref (ad 8), .ref (ad 9), .ref (ad 12), .int (iI (sc 0)), .int (iI (sc 4)), .int (iI (sc 2)), .int (iI (sc 3)), .int (iI 1)])) 12 (oB 3 [.ref (ad 13), .ref (ad 14), .ref (ad 15), .int (iI (cntT (tbS sc fn) 0 400))])) 13 (eI (cA 0) 400 f_37)) 14 (eI (cA 0) 400 g_37)) H.size (tbF sc fn) (tbS sc fn) (cntT (tbS sc fn) 0 400) f_37 g_37 rz (up_n (by decide) (up_n (by decide) (up_n (by decide) (up_n (by decide) (up_n (by decide) (up_n (by decide) h9)))))) (up_n (by decide) (up_n (by decide) (up_n (by decide) (up_n (by decide) (up_n (by decide) (up_s _ _ _)))))) (up_n (by decide) (up_n (by decide) (up_n (by decide) (up_n (by decide) (up_s _ _ _))))) (up_n (by decide) (up_n (by decide) (up_s _ _ _))) (up_n (by decide) (up_s _ _ _)) (up_s _ _ _) (up_n (by decide) (up_n (by decide) (up_n (by decide) (up_n (by decide) (up_n (by decide) (up_n (by decide) h15)))))) (tbOk_tb hI).1 (tbOk_tb hI).2.1 (cntT_b (tbS sc fn) 0 400) lm ap (by omega) (by omega) hr_37) (cwV 3 hts gX5_peaks_X3_countPeaks rfl rfl rfl (by decide +kernel) ⟨Nat.le_of_ble_eq_true rfl, Nat.le_of_ble_eq_true rfl⟩) (gV_V hP hD hK hB hS hA hZ 12 (ci := 3) rfl (up_n (by decide) (up_n (by decide) (up_s _ _ _)))) rfl rfl hl.1 rfl (lv_room (Nat.le_of_ble_eq_true rfl)) dX5_peaks_50 ⟨Nat.le_of_ble_eq_true rfl, Nat.le_of_ble_eq_true rfl⟩) hS (gA_sub hD hS hA) (fun v_50 ad_50 w_50 H locs hv_50 hP hD hS => ?_)
      obtain ⟨hv1, p_50, z_50, rfl, hv2, hp_50⟩ := hv_50
      rw [hv1, hv2] at hP hD
      refine W.eq (g2 := F0 m 53 ls [.int (iI p_50)]) rfl ?_
      refine W.cs (cells' := 0) (slots' := 0) rfl rfl ?_
      rw [hQ9]
      exact W.iret (v := iI p_50) hx hb hret (fun t ht hW => ⟨⟨some (.int (iI p_50)), ad, (up (up (up (up (up (up (up w 10 (eJ (cA 2) 400 (tbF sc fn))) 11 (eI (cA 0) 400 (tbS sc fn))) 0 (oB 5 [.ref (ad 1), .ref (ad 2), .ref (ad 5), .ref (ad 6), .ref (ad 7), .ref (ad 8), .ref (ad 9), .ref (ad 12), .int (iI (sc 0)), .int (iI (sc 4)), .int (iI (sc 2)), .int (iI (sc 3)), .int (iI 1)])) 12 (oB 3 [.ref (ad 13), .ref (ad 14), .ref (ad 15), .int (iI (cntT (tbS sc fn) 0 400))])) 13 (eI (cA 0) 400 f_37)) 14 (eI (cA 0) 400 g_37)) 15 (eI (cA 1) 400 z_50)), rfl, ⟨sc, fn, ⟨1, (tbF sc fn), (tbS sc fn), (cntT (tbS sc fn) 0 400), f_37, g_37, z_50, ⟨(up_n (by decide) (up_n (by decide) (up_n (by decide) (up_n (by decide) (up_s _ _ _))))), (up_n (by decide) (up_n (by decide) (up_n (by decide) (up_n (by decide) (up_n (by decide) (up_n (by decide) (up_n (by decide) h1))))))), (up_n (by decide) (up_n (by decide) (up_n (by decide) (up_n (by decide) (up_n (by decide) (up_n (by decide) (up_n (by decide) h2))))))), (up_n (by decide) (up_n (by decide) (up_n (by decide) (up_n (by decide) (up_n (by decide) (up_n (by decide) (up_n (by decide) h3))))))), (up_n (by decide) (up_n (by decide) (up_n (by decide) (up_n (by decide) (up_n (by decide) (up_n (by decide) (up_n (by decide) h4))))))), (up_n (by decide) (up_n (by decide) (up_n (by decide) (up_n (by decide) (up_n (by decide) (up_n (by decide) (up_n (by decide) h5))))))), (up_n (by decide) (up_n (by decide) (up_n (by decide) (up_n (by decide) (up_n (by decide) (up_n (by decide) (up_n (by decide) h6))))))), (up_n (by decide) (up_n (by decide) (up_n (by decide) (up_n (by decide) (up_n (by decide) (up_n (by decide) (up_n (by decide) h7))))))), (up_n (by decide) (up_n (by decide) (up_n (by decide) (up_n (by decide) (up_n (by decide) (up_n (by decide) (up_n (by decide) h8))))))), (up_n (by decide) (up_n (by decide) (up_n (by decide) (up_n (by decide) (up_n (by decide) (up_n (by decide) (up_n (by decide) h9))))))), (up_n (by decide) (up_n (by decide) (up_n (by decide) (up_n (by decide) (up_n (by decide) (up_n (by decide) (up_s _ _ _))))))), (up_n (by decide) (up_n (by decide) (up_n (by decide) (up_n (by decide) (up_n (by decide) (up_s _ _ _)))))), (up_n (by decide) (up_n (by decide) (up_n (by decide) (up_s _ _ _)))), (up_n (by decide) (up_n (by decide) (up_s _ _ _))), (up_n (by decide) (up_s _ _ _)), (up_s _ _ _), (fun k9 hk9 => by have h9_ := hcv k9 hk9; have i9_ := hI.1.1; exact ⟨(up_n (by omega) (up_n (by omega) (up_n (by omega) (up_n (by omega) (up_n (by omega) (up_n (by omega) (up_n (by omega) h9_.1))))))), (up_n (by omega) (up_n (by omega) (up_n (by omega) (up_n (by omega) (up_n (by omega) (up_n (by omega) (up_n (by omega) h9_.2.1))))))), (up_n (by omega) (up_n (by omega) (up_n (by omega) (up_n (by omega) (up_n (by omega) (up_n (by omega) (up_n (by omega) h9_.2.2)))))))⟩), (fun k9 hk9 => by have h9_ := hms k9 hk9; have i9_ := hI.1.2.2.2.2; exact (up_n (by omega) (up_n (by omega) (up_n (by omega) (up_n (by omega) (up_n (by omega) (up_n (by omega) (up_n (by omega) h9_))))))))⟩, (Or.inr ⟨rfl, rfl, rfl⟩), (tbOk_tb hI).1, (tbOk_tb hI).2.1⟩, hI, ⟨rfl, fun r hr => ⟨(up_n (by omega) (up_n (by omega) (up_n (by omega) (up_n (by omega) (up_n (by omega) (up_n (by omega) (up_n (by omega) rfl))))))), rfl⟩⟩, ⟨rfl, rfl, by omega, by omega, by omega, p_50, rfl, hp_50⟩⟩, by rw [ht]; exact hP, hD⟩, hS.F ht⟩) hS.2.2 dX5_peaks_53
    · skip
      exfalso
      omega
