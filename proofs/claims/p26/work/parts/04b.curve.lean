abbrev rmX0_size : Room := { frames := 0, cells := 0, slots := 0, locals := 0 }
theorem hiX0_size_0 : ∀ w ∈ wsX00, w ∈ wsX0_size := by decide +kernel
set_option maxHeartbeats 4000000 in
set_option maxRecDepth 100000 in
theorem c_X0_size (l : Launch) (D : va_G) (cA : Nat → ClassId) (ad : Nat → Nat) (w : Nat → Option va_E) (r0 r1 r2 : Nat) (fd n : Int) (st fl : Int → Int) (h0 : w r0 = some (oB 0 [.int (iI fd), .ref (ad r1), .ref (ad r2), .int (iI n)])) (h1 : w r1 = some (eI (cA 0) 12 st)) (h2 : w r2 = some (eI (cA 0) 12 fl)) (hn : 0 ≤ n ∧ n ≤ 12) (hc : cvOk st fl n) : Met l yX0_size wsX0_size rmX0_size (gR D cA ad w [.ref (ad r0)]) (gR0 (fun v9 => ∃ z : Int, v9 = some (.int (iI z)) ∧ z = n)) 0 0 (fun _ => False) := by
  refine Met.ofW (cc := cX0_size) (maxL := 1) (ret := (some .int)) (by decide) rfl ?_
  intro p e s m args below meth c s₁ B hml hv
  obtain ⟨hav, hP, hK, hB⟩ := hv
  have hx := B.exec
  have hb := B.bytes
  have hret := B.returns
  have hts := atoms_spec (ws := wsX0_size) B.pre
  have hown : s.vm.findClass RX0 = some m.cls := findClass_of_methodNamed B.named
  have hlocks := B.notSynchronized
  have hS : va_S (fun _ => False) s.heap s.heap [] := va_S.rf
  have hi0 := hiX0_size_0
  have hf22 := hts (.fieldLink RX0 22 "GaugeBook$Curve" "points" "I") (by decide +kernel)
  have he9 : entryFrame m args 1 = F0 m 0 ((lg_sl ([.ref (ad r0)] : List Value) ++ List.replicate (1 - (lg_sl ([.ref (ad r0)] : List Value)).length) Slot.unset).toArray) [] := by rw [hav, lg_entry_eq]
  rw [he9]
  have hl := lv_entry ([.ref (ad r0)] : List Value) (n := 1) (Nat.le_of_ble_eq_true rfl)
  generalize (lg_sl ([.ref (ad r0)] : List Value) ++ List.replicate (1 - (lg_sl ([.ref (ad r0)] : List Value)).length) Slot.unset).toArray = ls at hl ⊢
  have hl : lv_has ls 1 [(0, .ref (ad r0))] := hl
  obtain ⟨Q9, hQ9⟩ : ∃ z, z = MQ below (gR0 (fun v9 => ∃ z : Int, v9 = some (.int (iI z)) ∧ z = n)) args s 0 0 (fun _ => False) := ⟨_, rfl⟩
  rw [← hQ9]
  show W p l e rmX0_size s m args below meth c s.heap [] 0 0 Q9 (F0 m 0 ls [])
  refine lv_aload_n (pc := 0) hx hb dX0_size_0 rfl (lv_at hl 0 rfl) ?_
  refine k_get (pc := 1) (ci := 0) (C := RX0) (T := TX0) (N := 4) hx hb hts hi0 hown hK hP r0 h0 rfl 3 (by decide) hf22 (fun _ h9 => h9) rfl dX0_size_1 ?_
  rw [hQ9]
  exact W.iret (v := iI n) hx hb hret (fun t ht hW => ⟨some (.int (iI n)), rfl, ⟨n, rfl, rfl⟩, ht⟩) (fun q hq => by cases hq) dX0_size_4

abbrev rmX0_isComplete : Room := { frames := 0, cells := 0, slots := 0, locals := 0 }
theorem hiX0_isComplete_0 : ∀ w ∈ wsX00, w ∈ wsX0_isComplete := by decide +kernel
set_option maxHeartbeats 4000000 in
set_option maxRecDepth 100000 in
theorem c_X0_isComplete (l : Launch) (D : va_G) (cA : Nat → ClassId) (ad : Nat → Nat) (w : Nat → Option va_E) (r0 r1 r2 : Nat) (fd n : Int) (st fl : Int → Int) (h0 : w r0 = some (oB 0 [.int (iI fd), .ref (ad r1), .ref (ad r2), .int (iI n)])) (h1 : w r1 = some (eI (cA 0) 12 st)) (h2 : w r2 = some (eI (cA 0) 12 fl)) (hn : 0 ≤ n ∧ n ≤ 12) (hc : cvOk st fl n) : Met l yX0_isComplete wsX0_isComplete rmX0_isComplete (gR D cA ad w [.ref (ad r0)]) (gR0 (fun v9 => ∃ z : Int, v9 = some (.int (iI z)) ∧ ((z = 1 ∧ 2 ≤ n) ∨ (z = 0 ∧ ¬ 2 ≤ n)))) 0 0 (fun _ => False) := by
  refine Met.ofW (cc := cX0_isComplete) (maxL := 1) (ret := (some .boolean)) (by decide) rfl ?_
  intro p e s m args below meth c s₁ B hml hv
  obtain ⟨hav, hP, hK, hB⟩ := hv
  have hx := B.exec
  have hb := B.bytes
  have hret := B.returns
  have hts := atoms_spec (ws := wsX0_isComplete) B.pre
  have hown : s.vm.findClass RX0 = some m.cls := findClass_of_methodNamed B.named
  have hlocks := B.notSynchronized
  have hS : va_S (fun _ => False) s.heap s.heap [] := va_S.rf
  have hi0 := hiX0_isComplete_0
  have hf22 := hts (.fieldLink RX0 22 "GaugeBook$Curve" "points" "I") (by decide +kernel)
  have he9 : entryFrame m args 1 = F0 m 0 ((lg_sl ([.ref (ad r0)] : List Value) ++ List.replicate (1 - (lg_sl ([.ref (ad r0)] : List Value)).length) Slot.unset).toArray) [] := by rw [hav, lg_entry_eq]
  rw [he9]
  have hl := lv_entry ([.ref (ad r0)] : List Value) (n := 1) (Nat.le_of_ble_eq_true rfl)
  generalize (lg_sl ([.ref (ad r0)] : List Value) ++ List.replicate (1 - (lg_sl ([.ref (ad r0)] : List Value)).length) Slot.unset).toArray = ls at hl ⊢
  have hl : lv_has ls 1 [(0, .ref (ad r0))] := hl
  obtain ⟨Q9, hQ9⟩ : ∃ z, z = MQ below (gR0 (fun v9 => ∃ z : Int, v9 = some (.int (iI z)) ∧ ((z = 1 ∧ 2 ≤ n) ∨ (z = 0 ∧ ¬ 2 ≤ n)))) args s 0 0 (fun _ => False) := ⟨_, rfl⟩
  rw [← hQ9]
  show W p l e rmX0_isComplete s m args below meth c s.heap [] 0 0 Q9 (F0 m 0 ls [])
  refine lv_aload_n (pc := 0) hx hb dX0_isComplete_0 rfl (lv_at hl 0 rfl) ?_
  refine k_get (pc := 1) (ci := 0) (C := RX0) (T := TX0) (N := 4) hx hb hts hi0 hown hK hP r0 h0 rfl 3 (by decide) hf22 (fun _ h9 => h9) rfl dX0_isComplete_1 ?_
  refine k_iconst (pc := 4) hx hb dX0_isComplete_4 ?_
  refine k_icmp_lt (pc := 5) (tgt := 12) hx hb ⟨by omega, by omega⟩ ⟨by omega, by omega⟩ dX0_isComplete_5 (by decide) (fun hc_5 => ?_) (fun hc_5 => ?_)
  · skip
    refine k_iconst (pc := 12) hx hb dX0_isComplete_12 ?_
    rw [hQ9]
    exact W.zret (v := iI 0) hx hb hret (by decide +kernel) (fun t ht hW => ⟨some (.int (iI 0)), rfl, ⟨0, rfl, Or.inr ⟨rfl, by omega⟩⟩, ht⟩) (fun q hq => by cases hq) dX0_isComplete_13
  · skip
    refine k_iconst (pc := 8) hx hb dX0_isComplete_8 ?_
    refine lv_goto (pc := 9) (tgt := 13) hx hb dX0_isComplete_9 (by decide) ?_
    rw [hQ9]
    exact W.zret (v := iI 1) hx hb hret (by decide +kernel) (fun t ht hW => ⟨some (.int (iI 1)), rfl, ⟨1, rfl, Or.inl ⟨rfl, by omega⟩⟩, ht⟩) (fun q hq => by cases hq) dX0_isComplete_13

abbrev rmX0_fits : Room := { frames := 0, cells := 0, slots := 0, locals := 0 }
theorem hiX0_fits_0 : ∀ w ∈ wsX00, w ∈ wsX0_fits := by decide +kernel
set_option maxHeartbeats 4000000 in
set_option maxRecDepth 100000 in
theorem c_X0_fits (l : Launch) (D : va_G) (cA : Nat → ClassId) (ad : Nat → Nat) (w : Nat → Option va_E) (r0 r1 r2 : Nat) (fd n : Int) (st fl : Int → Int) (h0 : w r0 = some (oB 0 [.int (iI fd), .ref (ad r1), .ref (ad r2), .int (iI n)])) (h1 : w r1 = some (eI (cA 0) 12 st)) (h2 : w r2 = some (eI (cA 0) 12 fl)) (hn : 0 ≤ n ∧ n ≤ 12) (hc : cvOk st fl n) (k s0 q : Int) (hk : 0 ≤ k ∧ k ≤ n) (hs0 : -2147483648 ≤ s0 ∧ s0 < 2147483648) (hq : -2147483648 ≤ q ∧ q < 2147483648) : Met l yX0_fits wsX0_fits rmX0_fits (gR D cA ad w [.ref (ad r0), .int (iI k), .int (iI s0), .int (iI q)]) (gR0 (fun v9 => ∃ z : Int, v9 = some (.int (iI z)) ∧ ((z = 1 ∧ (k = 0 ∨ fl (k - 1) < q) ∧ (k = n ∨ (s0 < st k ∧ q < fl k))) ∨ (z = 0 ∧ ¬ ((k = 0 ∨ fl (k - 1) < q) ∧ (k = n ∨ (s0 < st k ∧ q < fl k))))))) 0 0 (fun _ => False) := by
  refine Met.ofW (cc := cX0_fits) (maxL := 6) (ret := (some .boolean)) (by decide) rfl ?_
  intro p e s m args below meth c s₁ B hml hv
  obtain ⟨hav, hP, hK, hB⟩ := hv
  have hx := B.exec
  have hb := B.bytes
  have hret := B.returns
  have hts := atoms_spec (ws := wsX0_fits) B.pre
  have hown : s.vm.findClass RX0 = some m.cls := findClass_of_methodNamed B.named
  have hlocks := B.notSynchronized
  have hS : va_S (fun _ => False) s.heap s.heap [] := va_S.rf
  have hi0 := hiX0_fits_0
  have hf15 := hts (.fieldLink RX0 15 "GaugeBook$Curve" "pointStages" "[I") (by decide +kernel)
  have hf19 := hts (.fieldLink RX0 19 "GaugeBook$Curve" "pointFlows" "[I") (by decide +kernel)
  have hf22 := hts (.fieldLink RX0 22 "GaugeBook$Curve" "points" "I") (by decide +kernel)
  have he9 : entryFrame m args 6 = F0 m 0 ((lg_sl ([.ref (ad r0), .int (iI k), .int (iI s0), .int (iI q)] : List Value) ++ List.replicate (6 - (lg_sl ([.ref (ad r0), .int (iI k), .int (iI s0), .int (iI q)] : List Value)).length) Slot.unset).toArray) [] := by rw [hav, lg_entry_eq]
  rw [he9]
  have hl := lv_entry ([.ref (ad r0), .int (iI k), .int (iI s0), .int (iI q)] : List Value) (n := 6) (Nat.le_of_ble_eq_true rfl)
  generalize (lg_sl ([.ref (ad r0), .int (iI k), .int (iI s0), .int (iI q)] : List Value) ++ List.replicate (6 - (lg_sl ([.ref (ad r0), .int (iI k), .int (iI s0), .int (iI q)] : List Value)).length) Slot.unset).toArray = ls at hl ⊢
  have hl : lv_has ls 6 [(0, .ref (ad r0)), (1, .int (iI k)), (2, .int (iI s0)), (3, .int (iI q))] := hl
  obtain ⟨Q9, hQ9⟩ : ∃ z, z = MQ below (gR0 (fun v9 => ∃ z : Int, v9 = some (.int (iI z)) ∧ ((z = 1 ∧ (k = 0 ∨ fl (k - 1) < q) ∧ (k = n ∨ (s0 < st k ∧ q < fl k))) ∨ (z = 0 ∧ ¬ ((k = 0 ∨ fl (k - 1) < q) ∧ (k = n ∨ (s0 < st k ∧ q < fl k))))))) args s 0 0 (fun _ => False) := ⟨_, rfl⟩
  rw [← hQ9]
  show W p l e rmX0_fits s m args below meth c s.heap [] 0 0 Q9 (F0 m 0 ls [])
  refine lv_iload_n (pc := 0) hx hb dX0_fits_0 rfl (lv_at hl 1 rfl) ?_
  refine k_if_eq (pc := 1) (tgt := 16) hx hb ⟨by omega, by omega⟩ dX0_fits_1 (by decide) (fun hc_1 => ?_) (fun hc_1 => ?_)
  · skip
    refine k_iconst (pc := 16) hx hb dX0_fits_16 ?_
    refine lv_goto (pc := 17) (tgt := 21) hx hb dX0_fits_17 (by decide) ?_
    refine lv_istore (pc := 21) (lv' := [(4, .int (iI 1)), (0, .ref (ad r0)), (1, .int (iI k)), (2, .int (iI s0)), (3, .int (iI q))]) hx hb dX0_fits_21 hl (by decide) rfl (fun ls hl => ?_)
    refine lv_iload_n (pc := 23) hx hb dX0_fits_23 rfl (lv_at hl 2 rfl) ?_
    refine lv_aload_n (pc := 24) hx hb dX0_fits_24 rfl (lv_at hl 1 rfl) ?_
    refine k_get (pc := 25) (ci := 0) (C := RX0) (T := TX0) (N := 4) hx hb hts hi0 hown hK hP r0 h0 rfl 3 (by decide) hf22 (fun _ h9 => h9) rfl dX0_fits_25 ?_
    refine k_icmp_ge (pc := 28) (tgt := 51) hx hb ⟨by omega, by omega⟩ ⟨by omega, by omega⟩ dX0_fits_28 (by decide) (fun hc_28 => ?_) (fun hc_28 => ?_)
    · skip
      refine k_iconst (pc := 51) hx hb dX0_fits_51 ?_
      refine lv_goto (pc := 52) (tgt := 56) hx hb dX0_fits_52 (by decide) ?_
      refine lv_istore (pc := 56) (lv' := [(5, .int (iI 1)), (4, .int (iI 1)), (0, .ref (ad r0)), (1, .int (iI k)), (2, .int (iI s0)), (3, .int (iI q))]) hx hb dX0_fits_56 hl (by decide) rfl (fun ls hl => ?_)
      refine lv_iload (pc := 58) hx hb dX0_fits_58 (lv_at hl 1 rfl) ?_
      refine k_if_eq (pc := 60) (tgt := 72) hx hb ⟨by omega, by omega⟩ dX0_fits_60 (by decide) (fun hc_60 => ?_) (fun hc_60 => ?_)
      · skip
        exfalso
        omega
      · skip
        refine lv_iload (pc := 63) hx hb dX0_fits_63 (lv_at hl 0 rfl) ?_
        refine k_if_eq (pc := 65) (tgt := 72) hx hb ⟨by omega, by omega⟩ dX0_fits_65 (by decide) (fun hc_65 => ?_) (fun hc_65 => ?_)
        · skip
          exfalso
          omega
        · skip
          refine k_iconst (pc := 68) hx hb dX0_fits_68 ?_
          refine lv_goto (pc := 69) (tgt := 73) hx hb dX0_fits_69 (by decide) ?_
          rw [hQ9]
          exact W.zret (v := iI 1) hx hb hret (by decide +kernel) (fun t ht hW => ⟨some (.int (iI 1)), rfl, ⟨1, rfl, Or.inl ⟨rfl, by omega⟩⟩, ht⟩) (fun q hq => by cases hq) dX0_fits_73
    · skip
      refine lv_aload_n (pc := 31) hx hb dX0_fits_31 rfl (lv_at hl 1 rfl) ?_
      refine k_get (pc := 32) (ci := 0) (C := RX0) (T := TX0) (N := 4) hx hb hts hi0 hown hK hP r0 h0 rfl 1 (by decide) hf15 (fun _ h9 => h9) rfl dX0_fits_32 ?_
      refine lv_iload_n (pc := 35) hx hb dX0_fits_35 rfl (lv_at hl 2 rfl) ?_
      refine k_iald (pc := 36) hx hb hK hP r1 0 h1 rfl (by omega) (by omega) (by omega) dX0_fits_36 ?_
      have hq_36 := hc.2.2.1 k
      refine lv_iload_n (pc := 37) hx hb dX0_fits_37 rfl (lv_at hl 3 rfl) ?_
      refine k_icmp_le (pc := 38) (tgt := 55) hx hb ⟨by omega, by omega⟩ ⟨by omega, by omega⟩ dX0_fits_38 (by decide) (fun hc_38 => ?_) (fun hc_38 => ?_)
      · skip
        refine k_iconst (pc := 55) hx hb dX0_fits_55 ?_
        refine lv_istore (pc := 56) (lv' := [(5, .int (iI 0)), (4, .int (iI 1)), (0, .ref (ad r0)), (1, .int (iI k)), (2, .int (iI s0)), (3, .int (iI q))]) hx hb dX0_fits_56 hl (by decide) rfl (fun ls hl => ?_)
        refine lv_iload (pc := 58) hx hb dX0_fits_58 (lv_at hl 1 rfl) ?_
        refine k_if_eq (pc := 60) (tgt := 72) hx hb ⟨by omega, by omega⟩ dX0_fits_60 (by decide) (fun hc_60 => ?_) (fun hc_60 => ?_)
        · skip
          exfalso
          omega
        · skip
          refine lv_iload (pc := 63) hx hb dX0_fits_63 (lv_at hl 0 rfl) ?_
          refine k_if_eq (pc := 65) (tgt := 72) hx hb ⟨by omega, by omega⟩ dX0_fits_65 (by decide) (fun hc_65 => ?_) (fun hc_65 => ?_)
          · skip
            refine k_iconst (pc := 72) hx hb dX0_fits_72 ?_
            rw [hQ9]
            exact W.zret (v := iI 0) hx hb hret (by decide +kernel) (fun t ht hW => ⟨some (.int (iI 0)), rfl, ⟨0, rfl, Or.inr ⟨rfl, by omega⟩⟩, ht⟩) (fun q hq => by cases hq) dX0_fits_73
          · skip
            exfalso
            omega
      · skip
        refine lv_aload_n (pc := 41) hx hb dX0_fits_41 rfl (lv_at hl 1 rfl) ?_
        refine k_get (pc := 42) (ci := 0) (C := RX0) (T := TX0) (N := 4) hx hb hts hi0 hown hK hP r0 h0 rfl 2 (by decide) hf19 (fun _ h9 => h9) rfl dX0_fits_42 ?_
        refine lv_iload_n (pc := 45) hx hb dX0_fits_45 rfl (lv_at hl 2 rfl) ?_
        refine k_iald (pc := 46) hx hb hK hP r2 0 h2 rfl (by omega) (by omega) (by omega) dX0_fits_46 ?_
        have hq_46 := hc.2.2.2 k
        refine lv_iload_n (pc := 47) hx hb dX0_fits_47 rfl (lv_at hl 4 rfl) ?_
        refine k_icmp_le (pc := 48) (tgt := 55) hx hb ⟨by omega, by omega⟩ ⟨by omega, by omega⟩ dX0_fits_48 (by decide) (fun hc_48 => ?_) (fun hc_48 => ?_)
        · skip
          refine k_iconst (pc := 55) hx hb dX0_fits_55 ?_
          refine lv_istore (pc := 56) (lv' := [(5, .int (iI 0)), (4, .int (iI 1)), (0, .ref (ad r0)), (1, .int (iI k)), (2, .int (iI s0)), (3, .int (iI q))]) hx hb dX0_fits_56 hl (by decide) rfl (fun ls hl => ?_)
          refine lv_iload (pc := 58) hx hb dX0_fits_58 (lv_at hl 1 rfl) ?_
          refine k_if_eq (pc := 60) (tgt := 72) hx hb ⟨by omega, by omega⟩ dX0_fits_60 (by decide) (fun hc_60 => ?_) (fun hc_60 => ?_)
          · skip
            exfalso
            omega
          · skip
            refine lv_iload (pc := 63) hx hb dX0_fits_63 (lv_at hl 0 rfl) ?_
            refine k_if_eq (pc := 65) (tgt := 72) hx hb ⟨by omega, by omega⟩ dX0_fits_65 (by decide) (fun hc_65 => ?_) (fun hc_65 => ?_)
            · skip
              refine k_iconst (pc := 72) hx hb dX0_fits_72 ?_
              rw [hQ9]
              exact W.zret (v := iI 0) hx hb hret (by decide +kernel) (fun t ht hW => ⟨some (.int (iI 0)), rfl, ⟨0, rfl, Or.inr ⟨rfl, by omega⟩⟩, ht⟩) (fun q hq => by cases hq) dX0_fits_73
            · skip
              exfalso
              omega
        · skip
          refine k_iconst (pc := 51) hx hb dX0_fits_51 ?_
          refine lv_goto (pc := 52) (tgt := 56) hx hb dX0_fits_52 (by decide) ?_
          refine lv_istore (pc := 56) (lv' := [(5, .int (iI 1)), (4, .int (iI 1)), (0, .ref (ad r0)), (1, .int (iI k)), (2, .int (iI s0)), (3, .int (iI q))]) hx hb dX0_fits_56 hl (by decide) rfl (fun ls hl => ?_)
          refine lv_iload (pc := 58) hx hb dX0_fits_58 (lv_at hl 1 rfl) ?_
          refine k_if_eq (pc := 60) (tgt := 72) hx hb ⟨by omega, by omega⟩ dX0_fits_60 (by decide) (fun hc_60 => ?_) (fun hc_60 => ?_)
          · skip
            exfalso
            omega
          · skip
            refine lv_iload (pc := 63) hx hb dX0_fits_63 (lv_at hl 0 rfl) ?_
            refine k_if_eq (pc := 65) (tgt := 72) hx hb ⟨by omega, by omega⟩ dX0_fits_65 (by decide) (fun hc_65 => ?_) (fun hc_65 => ?_)
            · skip
              exfalso
              omega
            · skip
              refine k_iconst (pc := 68) hx hb dX0_fits_68 ?_
              refine lv_goto (pc := 69) (tgt := 73) hx hb dX0_fits_69 (by decide) ?_
              rw [hQ9]
              exact W.zret (v := iI 1) hx hb hret (by decide +kernel) (fun t ht hW => ⟨some (.int (iI 1)), rfl, ⟨1, rfl, Or.inl ⟨rfl, by omega⟩⟩, ht⟩) (fun q hq => by cases hq) dX0_fits_73
  · skip
    refine lv_aload_n (pc := 4) hx hb dX0_fits_4 rfl (lv_at hl 0 rfl) ?_
    refine k_get (pc := 5) (ci := 0) (C := RX0) (T := TX0) (N := 4) hx hb hts hi0 hown hK hP r0 h0 rfl 2 (by decide) hf19 (fun _ h9 => h9) rfl dX0_fits_5 ?_
    refine lv_iload_n (pc := 8) hx hb dX0_fits_8 rfl (lv_at hl 1 rfl) ?_
    refine k_iconst (pc := 9) hx hb dX0_fits_9 ?_
    refine k_isub (pc := 10) hx hb dX0_fits_10 ?_
    refine k_iald (pc := 11) hx hb hK hP r2 0 h2 rfl (by omega) (by omega) (by omega) dX0_fits_11 ?_
    have hq_11 := hc.2.2.2 (k - 1)
    refine lv_iload_n (pc := 12) hx hb dX0_fits_12 rfl (lv_at hl 3 rfl) ?_
    refine k_icmp_ge (pc := 13) (tgt := 20) hx hb ⟨by omega, by omega⟩ ⟨by omega, by omega⟩ dX0_fits_13 (by decide) (fun hc_13 => ?_) (fun hc_13 => ?_)
    · skip
      refine k_iconst (pc := 20) hx hb dX0_fits_20 ?_
      refine lv_istore (pc := 21) (lv' := [(4, .int (iI 0)), (0, .ref (ad r0)), (1, .int (iI k)), (2, .int (iI s0)), (3, .int (iI q))]) hx hb dX0_fits_21 hl (by decide) rfl (fun ls hl => ?_)
      refine lv_iload_n (pc := 23) hx hb dX0_fits_23 rfl (lv_at hl 2 rfl) ?_
      refine lv_aload_n (pc := 24) hx hb dX0_fits_24 rfl (lv_at hl 1 rfl) ?_
      refine k_get (pc := 25) (ci := 0) (C := RX0) (T := TX0) (N := 4) hx hb hts hi0 hown hK hP r0 h0 rfl 3 (by decide) hf22 (fun _ h9 => h9) rfl dX0_fits_25 ?_
      refine k_icmp_ge (pc := 28) (tgt := 51) hx hb ⟨by omega, by omega⟩ ⟨by omega, by omega⟩ dX0_fits_28 (by decide) (fun hc_28 => ?_) (fun hc_28 => ?_)
      · skip
        refine k_iconst (pc := 51) hx hb dX0_fits_51 ?_
        refine lv_goto (pc := 52) (tgt := 56) hx hb dX0_fits_52 (by decide) ?_
        refine lv_istore (pc := 56) (lv' := [(5, .int (iI 1)), (4, .int (iI 0)), (0, .ref (ad r0)), (1, .int (iI k)), (2, .int (iI s0)), (3, .int (iI q))]) hx hb dX0_fits_56 hl (by decide) rfl (fun ls hl => ?_)
        refine lv_iload (pc := 58) hx hb dX0_fits_58 (lv_at hl 1 rfl) ?_
        refine k_if_eq (pc := 60) (tgt := 72) hx hb ⟨by omega, by omega⟩ dX0_fits_60 (by decide) (fun hc_60 => ?_) (fun hc_60 => ?_)
        · skip
          refine k_iconst (pc := 72) hx hb dX0_fits_72 ?_
          rw [hQ9]
          exact W.zret (v := iI 0) hx hb hret (by decide +kernel) (fun t ht hW => ⟨some (.int (iI 0)), rfl, ⟨0, rfl, Or.inr ⟨rfl, by omega⟩⟩, ht⟩) (fun q hq => by cases hq) dX0_fits_73
        · skip
          exfalso
          omega
      · skip
        refine lv_aload_n (pc := 31) hx hb dX0_fits_31 rfl (lv_at hl 1 rfl) ?_
        refine k_get (pc := 32) (ci := 0) (C := RX0) (T := TX0) (N := 4) hx hb hts hi0 hown hK hP r0 h0 rfl 1 (by decide) hf15 (fun _ h9 => h9) rfl dX0_fits_32 ?_
        refine lv_iload_n (pc := 35) hx hb dX0_fits_35 rfl (lv_at hl 2 rfl) ?_
        refine k_iald (pc := 36) hx hb hK hP r1 0 h1 rfl (by omega) (by omega) (by omega) dX0_fits_36 ?_
        have hq_36 := hc.2.2.1 k
        refine lv_iload_n (pc := 37) hx hb dX0_fits_37 rfl (lv_at hl 3 rfl) ?_
        refine k_icmp_le (pc := 38) (tgt := 55) hx hb ⟨by omega, by omega⟩ ⟨by omega, by omega⟩ dX0_fits_38 (by decide) (fun hc_38 => ?_) (fun hc_38 => ?_)
        · skip
          refine k_iconst (pc := 55) hx hb dX0_fits_55 ?_
          refine lv_istore (pc := 56) (lv' := [(5, .int (iI 0)), (4, .int (iI 0)), (0, .ref (ad r0)), (1, .int (iI k)), (2, .int (iI s0)), (3, .int (iI q))]) hx hb dX0_fits_56 hl (by decide) rfl (fun ls hl => ?_)
          refine lv_iload (pc := 58) hx hb dX0_fits_58 (lv_at hl 1 rfl) ?_
          refine k_if_eq (pc := 60) (tgt := 72) hx hb ⟨by omega, by omega⟩ dX0_fits_60 (by decide) (fun hc_60 => ?_) (fun hc_60 => ?_)
          · skip
            refine k_iconst (pc := 72) hx hb dX0_fits_72 ?_
            rw [hQ9]
            exact W.zret (v := iI 0) hx hb hret (by decide +kernel) (fun t ht hW => ⟨some (.int (iI 0)), rfl, ⟨0, rfl, Or.inr ⟨rfl, by omega⟩⟩, ht⟩) (fun q hq => by cases hq) dX0_fits_73
          · skip
            exfalso
            omega
        · skip
          refine lv_aload_n (pc := 41) hx hb dX0_fits_41 rfl (lv_at hl 1 rfl) ?_
          refine k_get (pc := 42) (ci := 0) (C := RX0) (T := TX0) (N := 4) hx hb hts hi0 hown hK hP r0 h0 rfl 2 (by decide) hf19 (fun _ h9 => h9) rfl dX0_fits_42 ?_
          refine lv_iload_n (pc := 45) hx hb dX0_fits_45 rfl (lv_at hl 2 rfl) ?_
          refine k_iald (pc := 46) hx hb hK hP r2 0 h2 rfl (by omega) (by omega) (by omega) dX0_fits_46 ?_
          have hq_46 := hc.2.2.2 k
          refine lv_iload_n (pc := 47) hx hb dX0_fits_47 rfl (lv_at hl 4 rfl) ?_
          refine k_icmp_le (pc := 48) (tgt := 55) hx hb ⟨by omega, by omega⟩ ⟨by omega, by omega⟩ dX0_fits_48 (by decide) (fun hc_48 => ?_) (fun hc_48 => ?_)
          · skip
            refine k_iconst (pc := 55) hx hb dX0_fits_55 ?_
            refine lv_istore (pc := 56) (lv' := [(5, .int (iI 0)), (4, .int (iI 0)), (0, .ref (ad r0)), (1, .int (iI k)), (2, .int (iI s0)), (3, .int (iI q))]) hx hb dX0_fits_56 hl (by decide) rfl (fun ls hl => ?_)
            refine lv_iload (pc := 58) hx hb dX0_fits_58 (lv_at hl 1 rfl) ?_
            refine k_if_eq (pc := 60) (tgt := 72) hx hb ⟨by omega, by omega⟩ dX0_fits_60 (by decide) (fun hc_60 => ?_) (fun hc_60 => ?_)
            · skip
              refine k_iconst (pc := 72) hx hb dX0_fits_72 ?_
              rw [hQ9]
              exact W.zret (v := iI 0) hx hb hret (by decide +kernel) (fun t ht hW => ⟨some (.int (iI 0)), rfl, ⟨0, rfl, Or.inr ⟨rfl, by omega⟩⟩, ht⟩) (fun q hq => by cases hq) dX0_fits_73
            · skip
              exfalso
              omega
          · skip
            refine k_iconst (pc := 51) hx hb dX0_fits_51 ?_
            refine lv_goto (pc := 52) (tgt := 56) hx hb dX0_fits_52 (by decide) ?_
            refine lv_istore (pc := 56) (lv' := [(5, .int (iI 1)), (4, .int (iI 0)), (0, .ref (ad r0)), (1, .int (iI k)), (2, .int (iI s0)), (3, .int (iI q))]) hx hb dX0_fits_56 hl (by decide) rfl (fun ls hl => ?_)
            refine lv_iload (pc := 58) hx hb dX0_fits_58 (lv_at hl 1 rfl) ?_
            refine k_if_eq (pc := 60) (tgt := 72) hx hb ⟨by omega, by omega⟩ dX0_fits_60 (by decide) (fun hc_60 => ?_) (fun hc_60 => ?_)
            · skip
              refine k_iconst (pc := 72) hx hb dX0_fits_72 ?_
              rw [hQ9]
              exact W.zret (v := iI 0) hx hb hret (by decide +kernel) (fun t ht hW => ⟨some (.int (iI 0)), rfl, ⟨0, rfl, Or.inr ⟨rfl, by omega⟩⟩, ht⟩) (fun q hq => by cases hq) dX0_fits_73
            · skip
              exfalso
              omega
    · skip
      refine k_iconst (pc := 16) hx hb dX0_fits_16 ?_
      refine lv_goto (pc := 17) (tgt := 21) hx hb dX0_fits_17 (by decide) ?_
      refine lv_istore (pc := 21) (lv' := [(4, .int (iI 1)), (0, .ref (ad r0)), (1, .int (iI k)), (2, .int (iI s0)), (3, .int (iI q))]) hx hb dX0_fits_21 hl (by decide) rfl (fun ls hl => ?_)
      refine lv_iload_n (pc := 23) hx hb dX0_fits_23 rfl (lv_at hl 2 rfl) ?_
      refine lv_aload_n (pc := 24) hx hb dX0_fits_24 rfl (lv_at hl 1 rfl) ?_
      refine k_get (pc := 25) (ci := 0) (C := RX0) (T := TX0) (N := 4) hx hb hts hi0 hown hK hP r0 h0 rfl 3 (by decide) hf22 (fun _ h9 => h9) rfl dX0_fits_25 ?_
      refine k_icmp_ge (pc := 28) (tgt := 51) hx hb ⟨by omega, by omega⟩ ⟨by omega, by omega⟩ dX0_fits_28 (by decide) (fun hc_28 => ?_) (fun hc_28 => ?_)
      · skip
        refine k_iconst (pc := 51) hx hb dX0_fits_51 ?_
        refine lv_goto (pc := 52) (tgt := 56) hx hb dX0_fits_52 (by decide) ?_
        refine lv_istore (pc := 56) (lv' := [(5, .int (iI 1)), (4, .int (iI 1)), (0, .ref (ad r0)), (1, .int (iI k)), (2, .int (iI s0)), (3, .int (iI q))]) hx hb dX0_fits_56 hl (by decide) rfl (fun ls hl => ?_)
        refine lv_iload (pc := 58) hx hb dX0_fits_58 (lv_at hl 1 rfl) ?_
        refine k_if_eq (pc := 60) (tgt := 72) hx hb ⟨by omega, by omega⟩ dX0_fits_60 (by decide) (fun hc_60 => ?_) (fun hc_60 => ?_)
        · skip
          exfalso
          omega
        · skip
          refine lv_iload (pc := 63) hx hb dX0_fits_63 (lv_at hl 0 rfl) ?_
          refine k_if_eq (pc := 65) (tgt := 72) hx hb ⟨by omega, by omega⟩ dX0_fits_65 (by decide) (fun hc_65 => ?_) (fun hc_65 => ?_)
          · skip
            exfalso
            omega
          · skip
            refine k_iconst (pc := 68) hx hb dX0_fits_68 ?_
            refine lv_goto (pc := 69) (tgt := 73) hx hb dX0_fits_69 (by decide) ?_
            rw [hQ9]
            exact W.zret (v := iI 1) hx hb hret (by decide +kernel) (fun t ht hW => ⟨some (.int (iI 1)), rfl, ⟨1, rfl, Or.inl ⟨rfl, by omega⟩⟩, ht⟩) (fun q hq => by cases hq) dX0_fits_73
      · skip
        refine lv_aload_n (pc := 31) hx hb dX0_fits_31 rfl (lv_at hl 1 rfl) ?_
        refine k_get (pc := 32) (ci := 0) (C := RX0) (T := TX0) (N := 4) hx hb hts hi0 hown hK hP r0 h0 rfl 1 (by decide) hf15 (fun _ h9 => h9) rfl dX0_fits_32 ?_
        refine lv_iload_n (pc := 35) hx hb dX0_fits_35 rfl (lv_at hl 2 rfl) ?_
        refine k_iald (pc := 36) hx hb hK hP r1 0 h1 rfl (by omega) (by omega) (by omega) dX0_fits_36 ?_
        have hq_36 := hc.2.2.1 k
        refine lv_iload_n (pc := 37) hx hb dX0_fits_37 rfl (lv_at hl 3 rfl) ?_
        refine k_icmp_le (pc := 38) (tgt := 55) hx hb ⟨by omega, by omega⟩ ⟨by omega, by omega⟩ dX0_fits_38 (by decide) (fun hc_38 => ?_) (fun hc_38 => ?_)
        · skip
          refine k_iconst (pc := 55) hx hb dX0_fits_55 ?_
          refine lv_istore (pc := 56) (lv' := [(5, .int (iI 0)), (4, .int (iI 1)), (0, .ref (ad r0)), (1, .int (iI k)), (2, .int (iI s0)), (3, .int (iI q))]) hx hb dX0_fits_56 hl (by decide) rfl (fun ls hl => ?_)
          refine lv_iload (pc := 58) hx hb dX0_fits_58 (lv_at hl 1 rfl) ?_
          refine k_if_eq (pc := 60) (tgt := 72) hx hb ⟨by omega, by omega⟩ dX0_fits_60 (by decide) (fun hc_60 => ?_) (fun hc_60 => ?_)
          · skip
            exfalso
            omega
          · skip
            refine lv_iload (pc := 63) hx hb dX0_fits_63 (lv_at hl 0 rfl) ?_
            refine k_if_eq (pc := 65) (tgt := 72) hx hb ⟨by omega, by omega⟩ dX0_fits_65 (by decide) (fun hc_65 => ?_) (fun hc_65 => ?_)
            · skip
              refine k_iconst (pc := 72) hx hb dX0_fits_72 ?_
              rw [hQ9]
              exact W.zret (v := iI 0) hx hb hret (by decide +kernel) (fun t ht hW => ⟨some (.int (iI 0)), rfl, ⟨0, rfl, Or.inr ⟨rfl, by omega⟩⟩, ht⟩) (fun q hq => by cases hq) dX0_fits_73
            · skip
              exfalso
              omega
        · skip
          refine lv_aload_n (pc := 41) hx hb dX0_fits_41 rfl (lv_at hl 1 rfl) ?_
          refine k_get (pc := 42) (ci := 0) (C := RX0) (T := TX0) (N := 4) hx hb hts hi0 hown hK hP r0 h0 rfl 2 (by decide) hf19 (fun _ h9 => h9) rfl dX0_fits_42 ?_
          refine lv_iload_n (pc := 45) hx hb dX0_fits_45 rfl (lv_at hl 2 rfl) ?_
          refine k_iald (pc := 46) hx hb hK hP r2 0 h2 rfl (by omega) (by omega) (by omega) dX0_fits_46 ?_
          have hq_46 := hc.2.2.2 k
          refine lv_iload_n (pc := 47) hx hb dX0_fits_47 rfl (lv_at hl 4 rfl) ?_
          refine k_icmp_le (pc := 48) (tgt := 55) hx hb ⟨by omega, by omega⟩ ⟨by omega, by omega⟩ dX0_fits_48 (by decide) (fun hc_48 => ?_) (fun hc_48 => ?_)
          · skip
            refine k_iconst (pc := 55) hx hb dX0_fits_55 ?_
            refine lv_istore (pc := 56) (lv' := [(5, .int (iI 0)), (4, .int (iI 1)), (0, .ref (ad r0)), (1, .int (iI k)), (2, .int (iI s0)), (3, .int (iI q))]) hx hb dX0_fits_56 hl (by decide) rfl (fun ls hl => ?_)
            refine lv_iload (pc := 58) hx hb dX0_fits_58 (lv_at hl 1 rfl) ?_
            refine k_if_eq (pc := 60) (tgt := 72) hx hb ⟨by omega, by omega⟩ dX0_fits_60 (by decide) (fun hc_60 => ?_) (fun hc_60 => ?_)
            · skip
              exfalso
              omega
            · skip
              refine lv_iload (pc := 63) hx hb dX0_fits_63 (lv_at hl 0 rfl) ?_
              refine k_if_eq (pc := 65) (tgt := 72) hx hb ⟨by omega, by omega⟩ dX0_fits_65 (by decide) (fun hc_65 => ?_) (fun hc_65 => ?_)
              · skip
                refine k_iconst (pc := 72) hx hb dX0_fits_72 ?_
                rw [hQ9]
                exact W.zret (v := iI 0) hx hb hret (by decide +kernel) (fun t ht hW => ⟨some (.int (iI 0)), rfl, ⟨0, rfl, Or.inr ⟨rfl, by omega⟩⟩, ht⟩) (fun q hq => by cases hq) dX0_fits_73
              · skip
                exfalso
                omega
          · skip
            refine k_iconst (pc := 51) hx hb dX0_fits_51 ?_
            refine lv_goto (pc := 52) (tgt := 56) hx hb dX0_fits_52 (by decide) ?_
            refine lv_istore (pc := 56) (lv' := [(5, .int (iI 1)), (4, .int (iI 1)), (0, .ref (ad r0)), (1, .int (iI k)), (2, .int (iI s0)), (3, .int (iI q))]) hx hb dX0_fits_56 hl (by decide) rfl (fun ls hl => ?_)
            refine lv_iload (pc := 58) hx hb dX0_fits_58 (lv_at hl 1 rfl) ?_
            refine k_if_eq (pc := 60) (tgt := 72) hx hb ⟨by omega, by omega⟩ dX0_fits_60 (by decide) (fun hc_60 => ?_) (fun hc_60 => ?_)
            · skip
              exfalso
              omega
            · skip
              refine lv_iload (pc := 63) hx hb dX0_fits_63 (lv_at hl 0 rfl) ?_
              refine k_if_eq (pc := 65) (tgt := 72) hx hb ⟨by omega, by omega⟩ dX0_fits_65 (by decide) (fun hc_65 => ?_) (fun hc_65 => ?_)
              · skip
                exfalso
                omega
              · skip
                refine k_iconst (pc := 68) hx hb dX0_fits_68 ?_
                refine lv_goto (pc := 69) (tgt := 73) hx hb dX0_fits_69 (by decide) ?_
                rw [hQ9]
                exact W.zret (v := iI 1) hx hb hret (by decide +kernel) (fun t ht hW => ⟨some (.int (iI 1)), rfl, ⟨1, rfl, Or.inl ⟨rfl, by omega⟩⟩, ht⟩) (fun q hq => by cases hq) dX0_fits_73


abbrev rmX0_flowAt : Room := { frames := 1, cells := 0, slots := 0, locals := 27 }
theorem hiX0_flowAt_0 : ∀ w ∈ wsX00, w ∈ wsX0_flowAt := by decide +kernel
set_option maxHeartbeats 4000000 in
set_option maxRecDepth 100000 in
theorem c_X0_flowAt (l : Launch) (D : va_G) (cA : Nat → ClassId) (ad : Nat → Nat) (w : Nat → Option va_E) (r0 r1 r2 : Nat) (fd n : Int) (st fl : Int → Int) (h0 : w r0 = some (oB 0 [.int (iI fd), .ref (ad r1), .ref (ad r2), .int (iI n)])) (h1 : w r1 = some (eI (cA 0) 12 st)) (h2 : w r2 = some (eI (cA 0) 12 fl)) (hn : 0 ≤ n ∧ n ≤ 12) (hc : cvOk st fl n) (s0 : Int) (hn2 : 2 ≤ n) (hs0 : -5000 ≤ s0 ∧ s0 ≤ 5000) : Met l yX0_flowAt wsX0_flowAt rmX0_flowAt (gR D cA ad w [.ref (ad r0), .int (iI s0)]) (gR0 (fun v9 => ∃ z : Int, v9 = some (.long (lI z)) ∧ z = flowF st fl n s0)) 0 0 (fun _ => False) := by
  refine Met.ofW (cc := cX0_flowAt) (maxL := 4) (ret := (some .long)) (by decide) rfl ?_
  intro p e s m args below meth c s₁ B hml hv
  obtain ⟨hav, hP, hK, hB⟩ := hv
  have hx := B.exec
  have hb := B.bytes
  have hret := B.returns
  have hts := atoms_spec (ws := wsX0_flowAt) B.pre
  have hown : s.vm.findClass RX0 = some m.cls := findClass_of_methodNamed B.named
  have hlocks := B.notSynchronized
  have hS : va_S (fun _ => False) s.heap s.heap [] := va_S.rf
  have hi0 := hiX0_flowAt_0
  have hf15 := hts (.fieldLink RX0 15 "GaugeBook$Curve" "pointStages" "[I") (by decide +kernel)
  have hf19 := hts (.fieldLink RX0 19 "GaugeBook$Curve" "pointFlows" "[I") (by decide +kernel)
  have hf22 := hts (.fieldLink RX0 22 "GaugeBook$Curve" "points" "I") (by decide +kernel)
  have he9 : entryFrame m args 4 = F0 m 0 ((lg_sl ([.ref (ad r0), .int (iI s0)] : List Value) ++ List.replicate (4 - (lg_sl ([.ref (ad r0), .int (iI s0)] : List Value)).length) Slot.unset).toArray) [] := by rw [hav, lg_entry_eq]
  rw [he9]
  have hl := lv_entry ([.ref (ad r0), .int (iI s0)] : List Value) (n := 4) (Nat.le_of_ble_eq_true rfl)
  generalize (lg_sl ([.ref (ad r0), .int (iI s0)] : List Value) ++ List.replicate (4 - (lg_sl ([.ref (ad r0), .int (iI s0)] : List Value)).length) Slot.unset).toArray = ls at hl ⊢
  have hl : lv_has ls 4 [(0, .ref (ad r0)), (1, .int (iI s0))] := hl
  obtain ⟨Q9, hQ9⟩ : ∃ z, z = MQ below (gR0 (fun v9 => ∃ z : Int, v9 = some (.long (lI z)) ∧ z = flowF st fl n s0)) args s 0 0 (fun _ => False) := ⟨_, rfl⟩
  rw [← hQ9]
  show W p l e rmX0_flowAt s m args below meth c s.heap [] 0 0 Q9 (F0 m 0 ls [])
  refine lv_aload_n (pc := 0) hx hb dX0_flowAt_0 rfl (lv_at hl 0 rfl) ?_
  refine k_get (pc := 1) (ci := 0) (C := RX0) (T := TX0) (N := 4) hx hb hts hi0 hown hK hP r0 h0 rfl 3 (by decide) hf22 (fun _ h9 => h9) rfl dX0_flowAt_1 ?_
  refine k_iconst (pc := 4) hx hb dX0_flowAt_4 ?_
  refine k_icmp_lt (pc := 5) (tgt := 18) hx hb ⟨by omega, by omega⟩ ⟨by omega, by omega⟩ dX0_flowAt_5 (by decide) (fun hc_5 => ?_) (fun hc_5 => ?_)
  · skip
    exfalso
    omega
  · skip
    refine lv_iload_n (pc := 8) hx hb dX0_flowAt_8 rfl (lv_at hl 1 rfl) ?_
    refine lv_aload_n (pc := 9) hx hb dX0_flowAt_9 rfl (lv_at hl 0 rfl) ?_
    refine k_get (pc := 10) (ci := 0) (C := RX0) (T := TX0) (N := 4) hx hb hts hi0 hown hK hP r0 h0 rfl 1 (by decide) hf15 (fun _ h9 => h9) rfl dX0_flowAt_10 ?_
    refine k_iconst (pc := 13) hx hb dX0_flowAt_13 ?_
    refine k_iald (pc := 14) hx hb hK hP r1 0 h1 rfl (by omega) (by omega) (by omega) dX0_flowAt_14 ?_
    have hq_14 := hc.2.2.1 0
    refine k_icmp_ge (pc := 15) (tgt := 20) hx hb ⟨by omega, by omega⟩ ⟨by omega, by omega⟩ dX0_flowAt_15 (by decide) (fun hc_15 => ?_) (fun hc_15 => ?_)
    · skip
      refine lv_aload_n (pc := 20) hx hb dX0_flowAt_20 rfl (lv_at hl 0 rfl) ?_
      refine k_get (pc := 21) (ci := 0) (C := RX0) (T := TX0) (N := 4) hx hb hts hi0 hown hK hP r0 h0 rfl 1 (by decide) hf15 (fun _ h9 => h9) rfl dX0_flowAt_21 ?_
      refine lv_aload_n (pc := 24) hx hb dX0_flowAt_24 rfl (lv_at hl 0 rfl) ?_
      refine k_get (pc := 25) (ci := 0) (C := RX0) (T := TX0) (N := 4) hx hb hts hi0 hown hK hP r0 h0 rfl 3 (by decide) hf22 (fun _ h9 => h9) rfl dX0_flowAt_25 ?_
      refine lv_iload_n (pc := 28) hx hb dX0_flowAt_28 rfl (lv_at hl 1 rfl) ?_
      refine k_call0 (pc := 29) (va_runSN (As := [.ref (ad r1), .int (iI n), .int (iI s0)]) (rest := []) ⟨hx, hb, hml, hown, hts⟩ (c_X5_countLower l D cA ad w r1 12 st n s0 h1 (by omega) (fun j9 => by have h9 := hc.2.2.1 j9; omega) ⟨by omega, by omega⟩ ⟨by omega, by omega⟩) ⟨va_cnB 3 hts gX0_flowAt_X5_countLower_n25 rfl rfl rfl (nm_X0_25 hB) (hts (.initialized RX5) (by decide +kernel)) (by decide +kernel) ⟨Nat.le_of_ble_eq_true rfl, Nat.le_of_ble_eq_true rfl⟩, hts (.static yX5_countLower) (by decide +kernel), trivial⟩ (gR_S hP hK hB) rfl rfl hl.1 rfl (lv_room (Nat.le_of_ble_eq_true rfl)) dX0_flowAt_29 ⟨Nat.le_of_ble_eq_true rfl, Nat.le_of_ble_eq_true rfl⟩) (fun v_29 hv_29 => ?_)
      obtain ⟨z_29, rfl, ⟨hz_29_0, hz_29_1, hz_29_2, hz_29_3⟩⟩ := hv_29
      refine W.eq (g2 := F0 m 32 ls [.int (iI z_29)]) rfl ?_
      refine lv_istore_n (pc := 32) (lv' := [(2, .int (iI z_29)), (0, .ref (ad r0)), (1, .int (iI s0))]) hx hb dX0_flowAt_32 rfl hl (by decide) rfl (fun ls hl => ?_)
      refine lv_iload_n (pc := 33) hx hb dX0_flowAt_33 rfl (lv_at hl 0 rfl) ?_
      refine k_iconst (pc := 34) hx hb dX0_flowAt_34 ?_
      refine k_mmax (pc := 35) hx hb (hml.trans hl.1.symm) hown (hts (.methodLink RX0 37 Lib.Math.max.name) (by decide +kernel)) (hts (.static Lib.Math.max.name) (by decide +kernel)) (hts (.initialized "java/lang/Math") (by decide +kernel)) (hts (.code Lib.Math.max.name Lib.Math.max.code 2 (some .int)) (by decide +kernel)) (Nat.le_of_ble_eq_true rfl) (Nat.le_of_ble_eq_true rfl) (Nat.le_of_ble_eq_true rfl) (Nat.le_of_ble_eq_true rfl) ⟨by omega, by omega⟩ ⟨by omega, by omega⟩ dX0_flowAt_35 ?_
      refine lv_aload_n (pc := 38) hx hb dX0_flowAt_38 rfl (lv_at hl 1 rfl) ?_
      refine k_get (pc := 39) (ci := 0) (C := RX0) (T := TX0) (N := 4) hx hb hts hi0 hown hK hP r0 h0 rfl 3 (by decide) hf22 (fun _ h9 => h9) rfl dX0_flowAt_39 ?_
      refine k_iconst (pc := 42) hx hb dX0_flowAt_42 ?_
      refine k_isub (pc := 43) hx hb dX0_flowAt_43 ?_
      refine k_mmin (pc := 44) hx hb (hml.trans hl.1.symm) hown (hts (.methodLink RX0 43 Lib.Math.min.name) (by decide +kernel)) (hts (.static Lib.Math.min.name) (by decide +kernel)) (hts (.initialized "java/lang/Math") (by decide +kernel)) (hts (.code Lib.Math.min.name Lib.Math.min.code 2 (some .int)) (by decide +kernel)) (Nat.le_of_ble_eq_true rfl) (Nat.le_of_ble_eq_true rfl) (Nat.le_of_ble_eq_true rfl) (Nat.le_of_ble_eq_true rfl) ⟨by omega, by omega⟩ ⟨by omega, by omega⟩ dX0_flowAt_44 ?_
      obtain ⟨u, hu⟩ : ∃ x9 : Int, x9 = min (max z_29 1) (n - 1) := ⟨_, rfl⟩
      rw [← hu]
      refine lv_istore_n (pc := 47) (lv' := [(2, .int (iI u)), (0, .ref (ad r0)), (1, .int (iI s0))]) hx hb dX0_flowAt_47 rfl hl (by decide) rfl (fun ls hl => ?_)
      refine lv_iload_n (pc := 48) hx hb dX0_flowAt_48 rfl (lv_at hl 0 rfl) ?_
      refine k_iconst (pc := 49) hx hb dX0_flowAt_49 ?_
      refine k_isub (pc := 50) hx hb dX0_flowAt_50 ?_
      refine lv_istore_n (pc := 51) (lv' := [(3, .int (iI (u - 1))), (2, .int (iI u)), (0, .ref (ad r0)), (1, .int (iI s0))]) hx hb dX0_flowAt_51 rfl hl (by decide) rfl (fun ls hl => ?_)
      refine lv_aload_n (pc := 52) hx hb dX0_flowAt_52 rfl (lv_at hl 2 rfl) ?_
      refine k_get (pc := 53) (ci := 0) (C := RX0) (T := TX0) (N := 4) hx hb hts hi0 hown hK hP r0 h0 rfl 2 (by decide) hf19 (fun _ h9 => h9) rfl dX0_flowAt_53 ?_
      refine lv_iload_n (pc := 56) hx hb dX0_flowAt_56 rfl (lv_at hl 0 rfl) ?_
      refine k_iald (pc := 57) hx hb hK hP r2 0 h2 rfl (by omega) (by omega) (by omega) dX0_flowAt_57 ?_
      have hq_57 := hc.2.2.2 (u - 1)
      refine k_i2l (pc := 58) hx hb ⟨by omega, by omega⟩ dX0_flowAt_58 ?_
      refine lv_aload_n (pc := 59) hx hb dX0_flowAt_59 rfl (lv_at hl 2 rfl) ?_
      refine k_get (pc := 60) (ci := 0) (C := RX0) (T := TX0) (N := 4) hx hb hts hi0 hown hK hP r0 h0 rfl 2 (by decide) hf19 (fun _ h9 => h9) rfl dX0_flowAt_60 ?_
      refine lv_iload_n (pc := 63) hx hb dX0_flowAt_63 rfl (lv_at hl 1 rfl) ?_
      refine k_iald (pc := 64) hx hb hK hP r2 0 h2 rfl (by omega) (by omega) (by omega) dX0_flowAt_64 ?_
      have hq_64 := hc.2.2.2 u
      refine k_i2l (pc := 65) hx hb ⟨by omega, by omega⟩ dX0_flowAt_65 ?_
      refine lv_iload_n (pc := 66) hx hb dX0_flowAt_66 rfl (lv_at hl 3 rfl) ?_
      refine lv_aload_n (pc := 67) hx hb dX0_flowAt_67 rfl (lv_at hl 2 rfl) ?_
      refine k_get (pc := 68) (ci := 0) (C := RX0) (T := TX0) (N := 4) hx hb hts hi0 hown hK hP r0 h0 rfl 1 (by decide) hf15 (fun _ h9 => h9) rfl dX0_flowAt_68 ?_
      refine lv_iload_n (pc := 71) hx hb dX0_flowAt_71 rfl (lv_at hl 0 rfl) ?_
      refine k_iald (pc := 72) hx hb hK hP r1 0 h1 rfl (by omega) (by omega) (by omega) dX0_flowAt_72 ?_
      have hq_72 := hc.2.2.1 (u - 1)
      refine k_isub (pc := 73) hx hb dX0_flowAt_73 ?_
      refine k_i2l (pc := 74) hx hb ⟨by omega, by omega⟩ dX0_flowAt_74 ?_
      refine lv_aload_n (pc := 75) hx hb dX0_flowAt_75 rfl (lv_at hl 2 rfl) ?_
      refine k_get (pc := 76) (ci := 0) (C := RX0) (T := TX0) (N := 4) hx hb hts hi0 hown hK hP r0 h0 rfl 1 (by decide) hf15 (fun _ h9 => h9) rfl dX0_flowAt_76 ?_
      refine lv_iload_n (pc := 79) hx hb dX0_flowAt_79 rfl (lv_at hl 1 rfl) ?_
      refine k_iald (pc := 80) hx hb hK hP r1 0 h1 rfl (by omega) (by omega) (by omega) dX0_flowAt_80 ?_
      have hq_80 := hc.2.2.1 u
      refine lv_aload_n (pc := 81) hx hb dX0_flowAt_81 rfl (lv_at hl 2 rfl) ?_
      refine k_get (pc := 82) (ci := 0) (C := RX0) (T := TX0) (N := 4) hx hb hts hi0 hown hK hP r0 h0 rfl 1 (by decide) hf15 (fun _ h9 => h9) rfl dX0_flowAt_82 ?_
      refine lv_iload_n (pc := 85) hx hb dX0_flowAt_85 rfl (lv_at hl 0 rfl) ?_
      refine k_iald (pc := 86) hx hb hK hP r1 0 h1 rfl (by omega) (by omega) (by omega) dX0_flowAt_86 ?_
      have hq_86 := hc.2.2.1 (u - 1)
      refine k_isub (pc := 87) hx hb dX0_flowAt_87 ?_
      refine k_i2l (pc := 88) hx hb ⟨by omega, by omega⟩ dX0_flowAt_88 ?_
      refine k_call0 (pc := 89) (va_runSN (As := [.long (lI (fl (u - 1))), .long (lI (fl u)), .long (lI (s0 - (st (u - 1)))), .long (lI ((st u) - (st (u - 1))))]) (rest := []) ⟨hx, hb, hml, hown, hts⟩ (c_X5_interpolate l D cA ad w (fl (u - 1)) (fl u) (s0 - (st (u - 1))) ((st u) - (st (u - 1))) (by have h9 := mulB (a := fl u - fl (u - 1)) (b := s0 - st (u - 1)) (M := 1000000) (N := 10000) ⟨by omega, by omega⟩ ⟨by omega, by omega⟩; constructor <;> omega) (by have h9 := hc.1 (u - 1) u (by omega) (by omega) (by omega); constructor <;> omega)) ⟨va_cnB 4 hts gX0_flowAt_X5_interpolate_n46 rfl rfl rfl (nm_X0_46 hB) (hts (.initialized RX5) (by decide +kernel)) (by decide +kernel) ⟨Nat.le_of_ble_eq_true rfl, Nat.le_of_ble_eq_true rfl⟩, hts (.static yX5_interpolate) (by decide +kernel), trivial⟩ (gR_S hP hK hB) rfl rfl hl.1 rfl (lv_room (Nat.le_of_ble_eq_true rfl)) dX0_flowAt_89 ⟨Nat.le_of_ble_eq_true rfl, Nat.le_of_ble_eq_true rfl⟩) (fun v_89 hv_89 => ?_)
      obtain ⟨z_89, rfl, rfl⟩ := hv_89
      refine W.eq (g2 := F0 m 92 ls [.long (lI ((fl (u - 1)) + Int.tdiv (((fl u) - (fl (u - 1))) * (s0 - (st (u - 1)))) ((st u) - (st (u - 1)))))]) rfl ?_
      rw [hQ9]
      exact W.lret (v := lI ((fl (u - 1)) + Int.tdiv (((fl u) - (fl (u - 1))) * (s0 - (st (u - 1)))) ((st u) - (st (u - 1))))) hx hb hret (fun t ht hW => ⟨some (.long (lI ((fl (u - 1)) + Int.tdiv (((fl u) - (fl (u - 1))) * (s0 - (st (u - 1)))) ((st u) - (st (u - 1)))))), rfl, ⟨(fl (u - 1)) + Int.tdiv (((fl u) - (fl (u - 1))) * (s0 - (st (u - 1)))) ((st u) - (st (u - 1))), rfl, flow_cl hc hn2 (by omega) ⟨hz_29_0, hz_29_1, hz_29_2, hz_29_3⟩ hu⟩, ht⟩) (fun q hq => by cases hq) dX0_flowAt_92
    · skip
      refine k_lconst0 (pc := 18) hx hb dX0_flowAt_18 ?_
      rw [hQ9]
      exact W.lret (v := lI 0) hx hb hret (fun t ht hW => ⟨some (.long (lI 0)), rfl, ⟨0, rfl, (flow_low hc (by omega)).symm⟩, ht⟩) (fun q hq => by cases hq) dX0_flowAt_19


abbrev rmX0_insert : Room := { frames := 1, cells := 0, slots := 0, locals := 25 }
theorem hiX0_insert_0 : ∀ w ∈ wsX00, w ∈ wsX0_insert := by decide +kernel
set_option maxHeartbeats 4000000 in
set_option maxRecDepth 100000 in
theorem c_X0_insert (l : Launch) (D : va_G) (cA : Nat → ClassId) (ad : Nat → Nat) (w : Nat → Option va_E) (sz : Nat) (r0 r1 r2 : Nat) (fd n : Int) (st fl : Int → Int) (h0 : w r0 = some (oB 0 [.int (iI fd), .ref (ad r1), .ref (ad r2), .int (iI n)])) (h1 : w r1 = some (eI (cA 0) 12 st)) (h2 : w r2 = some (eI (cA 0) 12 fl)) (hn : 0 ≤ n ∧ n ≤ 12) (hc : cvOk st fl n) (h01 : r0 ≠ r1) (h02 : r0 ≠ r2) (h12 : r1 ≠ r2) (s0 q : Int) (hs0 : -500 ≤ s0 ∧ s0 ≤ 2000) (hq : 0 ≤ q ∧ q ≤ 1000000) : Met l yX0_insert wsX0_insert rmX0_insert (gV D cA ad w sz [.ref (ad r0), .int (iI s0), .int (iI q)]) (gW D (fun v9 ad1 w1 => ∃ k : Int, clP st n s0 k ∧ ad1 = ad ∧ ((canP st fl n s0 q k ∧ v9 = some (.int (iI 1)) ∧ w1 = up (up (up w r1 (eI (cA 0) 12 (insF st n k s0))) r2 (eI (cA 0) 12 (insF fl n k q))) r0 (oB 0 [.int (iI fd), .ref (ad r1), .ref (ad r2), .int (iI (n + 1))])) ∨ (¬ canP st fl n s0 q k ∧ v9 = some (.int (iI 0)) ∧ w1 = w))) (gA ad w sz)) 0 0 (gA ad w sz) := by
  refine Met.ofW (cc := cX0_insert) (maxL := 4) (ret := (some .boolean)) (by decide) rfl ?_
  intro p e s m args below meth c s₁ B hml hv
  obtain ⟨hav, hsz, hP, hD0, hK, hB, hZ⟩ := hv
  have hx := B.exec
  have hb := B.bytes
  have hret := B.returns
  have hts := atoms_spec (ws := wsX0_insert) B.pre
  have hown : s.vm.findClass RX0 = some m.cls := findClass_of_methodNamed B.named
  have hlocks := B.notSynchronized
  subst hsz
  have hD := hD0.self (sz := s.heap.size)
  generalize hAe : gA ad w s.heap.size = A at hD hZ ⊢
  have hA : ∀ q : Nat, s.heap.size ≤ q → A q := fun q h => by rw [← hAe]; exact Or.inr h
  have hS : va_S A s.heap s.heap [] := va_S.rf
  have hi0 := hiX0_insert_0
  have hf15 := hts (.fieldLink RX0 15 "GaugeBook$Curve" "pointStages" "[I") (by decide +kernel)
  have hf19 := hts (.fieldLink RX0 19 "GaugeBook$Curve" "pointFlows" "[I") (by decide +kernel)
  have hf22 := hts (.fieldLink RX0 22 "GaugeBook$Curve" "points" "I") (by decide +kernel)
  have he9 : entryFrame m args 4 = F0 m 0 ((lg_sl ([.ref (ad r0), .int (iI s0), .int (iI q)] : List Value) ++ List.replicate (4 - (lg_sl ([.ref (ad r0), .int (iI s0), .int (iI q)] : List Value)).length) Slot.unset).toArray) [] := by rw [hav, lg_entry_eq]
  rw [he9]
  have hl := lv_entry ([.ref (ad r0), .int (iI s0), .int (iI q)] : List Value) (n := 4) (Nat.le_of_ble_eq_true rfl)
  generalize (lg_sl ([.ref (ad r0), .int (iI s0), .int (iI q)] : List Value) ++ List.replicate (4 - (lg_sl ([.ref (ad r0), .int (iI s0), .int (iI q)] : List Value)).length) Slot.unset).toArray = ls at hl ⊢
  have hl : lv_has ls 4 [(0, .ref (ad r0)), (1, .int (iI s0)), (2, .int (iI q))] := hl
  obtain ⟨Q9, hQ9⟩ : ∃ z, z = MQ below (gW D (fun v9 ad1 w1 => ∃ k : Int, clP st n s0 k ∧ ad1 = ad ∧ ((canP st fl n s0 q k ∧ v9 = some (.int (iI 1)) ∧ w1 = up (up (up w r1 (eI (cA 0) 12 (insF st n k s0))) r2 (eI (cA 0) 12 (insF fl n k q))) r0 (oB 0 [.int (iI fd), .ref (ad r1), .ref (ad r2), .int (iI (n + 1))])) ∨ (¬ canP st fl n s0 q k ∧ v9 = some (.int (iI 0)) ∧ w1 = w))) A) args s 0 0 A := ⟨_, rfl⟩
  rw [← hQ9]
  show W p l e rmX0_insert s m args below meth c s.heap [] 0 0 Q9 (F0 m 0 ls [])
  obtain ⟨H, hHe⟩ : ∃ z, z = s.heap := ⟨_, rfl⟩
  obtain ⟨locs, hLe⟩ : ∃ z, z = ([] : List Loc) := ⟨_, rfl⟩
  have hP : gP D vwCl ad w H := by rw [hHe]; exact hP
  have hS : va_S A s.heap H locs := by rw [hHe, hLe]; exact va_S.rf
  rw [show W p l e rmX0_insert s m args below meth c s.heap [] 0 0 Q9 (F0 m 0 ls []) = W p l e rmX0_insert s m args below meth c H locs 0 0 Q9 (F0 m 0 ls []) by rw [hHe, hLe]]
  clear hHe hLe
  refine lv_aload_n (pc := 0) hx hb dX0_insert_0 rfl (lv_at hl 0 rfl) ?_
  refine k_get (pc := 1) (ci := 0) (C := RX0) (T := TX0) (N := 4) hx hb hts hi0 hown hK hP r0 h0 rfl 1 (by decide) hf15 (fun _ h9 => h9) rfl dX0_insert_1 ?_
  refine lv_aload_n (pc := 4) hx hb dX0_insert_4 rfl (lv_at hl 0 rfl) ?_
  refine k_get (pc := 5) (ci := 0) (C := RX0) (T := TX0) (N := 4) hx hb hts hi0 hown hK hP r0 h0 rfl 3 (by decide) hf22 (fun _ h9 => h9) rfl dX0_insert_5 ?_
  refine lv_iload_n (pc := 8) hx hb dX0_insert_8 rfl (lv_at hl 1 rfl) ?_
  refine k_call0 (pc := 9) (va_runSN (As := [.ref (ad r1), .int (iI n), .int (iI s0)]) (rest := []) ⟨hx, hb, hml, hown, hts⟩ (c_X5_countLower l D cA ad w r1 12 st n s0 h1 (by omega) (fun j9 => by have h9 := hc.2.2.1 j9; omega) ⟨by omega, by omega⟩ ⟨by omega, by omega⟩) ⟨va_cnB 3 hts gX0_insert_X5_countLower_n25 rfl rfl rfl (nm_X0_25 hB) (hts (.initialized RX5) (by decide +kernel)) (by decide +kernel) ⟨Nat.le_of_ble_eq_true rfl, Nat.le_of_ble_eq_true rfl⟩, hts (.static yX5_countLower) (by decide +kernel), trivial⟩ (gR_S hP hK hB) rfl rfl hl.1 rfl (lv_room (Nat.le_of_ble_eq_true rfl)) dX0_insert_9 ⟨Nat.le_of_ble_eq_true rfl, Nat.le_of_ble_eq_true rfl⟩) (fun v_9 hv_9 => ?_)
  obtain ⟨z_9, rfl, ⟨hz_9_0, hz_9_1, hz_9_2, hz_9_3⟩⟩ := hv_9
  refine W.eq (g2 := F0 m 12 ls [.int (iI z_9)]) rfl ?_
  refine lv_istore_n (pc := 12) (lv' := [(3, .int (iI z_9)), (0, .ref (ad r0)), (1, .int (iI s0)), (2, .int (iI q))]) hx hb dX0_insert_12 rfl hl (by decide) rfl (fun ls hl => ?_)
  refine lv_aload_n (pc := 13) hx hb dX0_insert_13 rfl (lv_at hl 1 rfl) ?_
  refine k_get (pc := 14) (ci := 0) (C := RX0) (T := TX0) (N := 4) hx hb hts hi0 hown hK hP r0 h0 rfl 3 (by decide) hf22 (fun _ h9 => h9) rfl dX0_insert_14 ?_
  refine k_bipush (pc := 17) hx hb dX0_insert_17 (by decide +kernel) ?_
  refine k_icmp_ge (pc := 19) (tgt := 32) hx hb ⟨by omega, by omega⟩ ⟨by omega, by omega⟩ dX0_insert_19 (by decide) (fun hc_19 => ?_) (fun hc_19 => ?_)
  · skip
    refine k_iconst (pc := 32) hx hb dX0_insert_32 ?_
    rw [hQ9]
    exact W.zret (v := iI 0) hx hb hret (by decide +kernel) (fun t ht hW => ⟨⟨some (.int (iI 0)), ad, w, rfl, ⟨z_9, ⟨hz_9_0, hz_9_1, hz_9_2, hz_9_3⟩, rfl, Or.inr ⟨by unfold canP; omega, rfl, rfl⟩⟩, by rw [ht]; exact hP, hD⟩, hS.F ht⟩) hS.2.2 dX0_insert_33
  · skip
    refine lv_aload_n (pc := 22) hx hb dX0_insert_22 rfl (lv_at hl 1 rfl) ?_
    refine lv_iload_n (pc := 23) hx hb dX0_insert_23 rfl (lv_at hl 0 rfl) ?_
    refine lv_iload_n (pc := 24) hx hb dX0_insert_24 rfl (lv_at hl 2 rfl) ?_
    refine lv_iload_n (pc := 25) hx hb dX0_insert_25 rfl (lv_at hl 3 rfl) ?_
    refine k_call0 (pc := 26) (va_runV (As := [.int (iI z_9), .int (iI s0), .int (iI q)]) (rest := []) ⟨hx, hb, hml, hown, hts⟩ (c_X0_fits l D cA ad w r0 r1 r2 fd n st fl h0 h1 h2 hn hc z_9 s0 q ⟨by omega, by omega⟩ ⟨by omega, by omega⟩ ⟨by omega, by omega⟩) (cwV 3 hts gX0_insert_X0_fits rfl rfl rfl (by decide +kernel) ⟨Nat.le_of_ble_eq_true rfl, Nat.le_of_ble_eq_true rfl⟩) (gR_V hP hK hB r0 (ci := 0) rfl h0) rfl rfl hl.1 rfl (lv_room (Nat.le_of_ble_eq_true rfl)) dX0_insert_26 ⟨Nat.le_of_ble_eq_true rfl, Nat.le_of_ble_eq_true rfl⟩) (fun v_26 hv_26 => ?_)
    obtain ⟨z_26, rfl, hz_26⟩ := hv_26
    refine W.eq (g2 := F0 m 29 ls [.int (iI z_26)]) rfl ?_
    refine k_if_ne (pc := 29) (tgt := 34) hx hb ⟨by omega, by omega⟩ dX0_insert_29 (by decide) (fun hc_29 => ?_) (fun hc_29 => ?_)
    · skip
      refine lv_aload_n (pc := 34) hx hb dX0_insert_34 rfl (lv_at hl 1 rfl) ?_
      refine k_get (pc := 35) (ci := 0) (C := RX0) (T := TX0) (N := 4) hx hb hts hi0 hown hK hP r0 h0 rfl 1 (by decide) hf15 (fun _ h9 => h9) rfl dX0_insert_35 ?_
      refine lv_aload_n (pc := 38) hx hb dX0_insert_38 rfl (lv_at hl 1 rfl) ?_
      refine k_get (pc := 39) (ci := 0) (C := RX0) (T := TX0) (N := 4) hx hb hts hi0 hown hK hP r0 h0 rfl 3 (by decide) hf22 (fun _ h9 => h9) rfl dX0_insert_39 ?_
      refine lv_iload_n (pc := 42) hx hb dX0_insert_42 rfl (lv_at hl 0 rfl) ?_
      refine lv_iload_n (pc := 43) hx hb dX0_insert_43 rfl (lv_at hl 2 rfl) ?_
      refine k_call1 (pc := 44) (va_runSN (As := [.ref (ad r1), .int (iI n), .int (iI z_9), .int (iI s0)]) (rest := []) ⟨hx, hb, hml, hown, hts⟩ (c_X5_insertInto l D cA ad w H.size r1 12 st n z_9 s0 h1 (by omega) (by omega) (by omega)) ⟨va_cnB 4 hts gX0_insert_X5_insertInto_n33 rfl rfl rfl (nm_X0_33 hB) (hts (.initialized RX5) (by decide +kernel)) (by decide +kernel) ⟨Nat.le_of_ble_eq_true rfl, Nat.le_of_ble_eq_true rfl⟩, hts (.static yX5_insertInto) (by decide +kernel), trivial⟩ (gV_S hP hD hK hB hS hA hZ) rfl rfl hl.1 rfl (lv_room (Nat.le_of_ble_eq_true rfl)) dX0_insert_44 ⟨Nat.le_of_ble_eq_true rfl, Nat.le_of_ble_eq_true rfl⟩) hS (gA_sub hD hS hA) (fun v_44 ad_44 w_44 H locs hv_44 hP hD hS => ?_)
      obtain ⟨hv1, hv2, hv3⟩ := hv_44
      subst hv1
      rw [hv2, hv3] at hP hD
      refine W.eq (g2 := F0 m 47 ls []) rfl ?_
      refine W.cs (cells' := 0) (slots' := 0) rfl rfl ?_
      refine lv_aload_n (pc := 47) hx hb dX0_insert_47 rfl (lv_at hl 1 rfl) ?_
      refine k_get (pc := 48) (ci := 0) (C := RX0) (T := TX0) (N := 4) hx hb hts hi0 hown hK hP r0 (up_n h01 h0) rfl 2 (by decide) hf19 (fun _ h9 => h9) rfl dX0_insert_48 ?_
      refine lv_aload_n (pc := 51) hx hb dX0_insert_51 rfl (lv_at hl 1 rfl) ?_
      refine k_get (pc := 52) (ci := 0) (C := RX0) (T := TX0) (N := 4) hx hb hts hi0 hown hK hP r0 (up_n h01 h0) rfl 3 (by decide) hf22 (fun _ h9 => h9) rfl dX0_insert_52 ?_
      refine lv_iload_n (pc := 55) hx hb dX0_insert_55 rfl (lv_at hl 0 rfl) ?_
      refine lv_iload_n (pc := 56) hx hb dX0_insert_56 rfl (lv_at hl 3 rfl) ?_
      refine k_call1 (pc := 57) (va_runSN (As := [.ref (ad r2), .int (iI n), .int (iI z_9), .int (iI q)]) (rest := []) ⟨hx, hb, hml, hown, hts⟩ (c_X5_insertInto l D cA ad (up w r1 (eI (cA 0) 12 (insF st n z_9 s0))) H.size r2 12 fl n z_9 q (up_n (Ne.symm h12) h2) (by omega) (by omega) (by omega)) ⟨va_cnB 4 hts gX0_insert_X5_insertInto_n33 rfl rfl rfl (nm_X0_33 hB) (hts (.initialized RX5) (by decide +kernel)) (by decide +kernel) ⟨Nat.le_of_ble_eq_true rfl, Nat.le_of_ble_eq_true rfl⟩, hts (.static yX5_insertInto) (by decide +kernel), trivial⟩ (gV_S hP hD hK hB hS hA hZ) rfl rfl hl.1 rfl (lv_room (Nat.le_of_ble_eq_true rfl)) dX0_insert_57 ⟨Nat.le_of_ble_eq_true rfl, Nat.le_of_ble_eq_true rfl⟩) hS (gA_sub hD hS hA) (fun v_57 ad_57 w_57 H locs hv_57 hP hD hS => ?_)
      obtain ⟨hv1, hv2, hv3⟩ := hv_57
      subst hv1
      rw [hv2, hv3] at hP hD
      refine W.eq (g2 := F0 m 60 ls []) rfl ?_
      refine W.cs (cells' := 0) (slots' := 0) rfl rfl ?_
      refine lv_aload_n (pc := 60) hx hb dX0_insert_60 rfl (lv_at hl 1 rfl) ?_
      refine lv_dup (pc := 61) hx hb dX0_insert_61 rfl ?_
      refine k_get (pc := 62) (ci := 0) (C := RX0) (T := TX0) (N := 4) hx hb hts hi0 hown hK hP r0 (up_n h02 (up_n h01 h0)) rfl 3 (by decide) hf22 (fun _ h9 => h9) rfl dX0_insert_62 ?_
      refine k_iconst (pc := 65) hx hb dX0_insert_65 ?_
      refine k_iadd (pc := 66) hx hb dX0_insert_66 ?_
      refine k_put (pc := 67) (ci := 0) (C := RX0) (T := TX0) (N := 4) (ty := .int) (v := .int (iI (n + 1))) (w1 := (up (up (up w r1 (eI (cA 0) 12 (insF st n z_9 s0))) r2 (eI (cA 0) 12 (insF fl n z_9 q))) r0 (oB 0 [.int (iI fd), .ref (ad r1), .ref (ad r2), .int (iI (n + 1))]))) hx hb hts hi0 tyX0 tyX0_ok nmX0 hown hK hP hD hS r0 (up_n h02 (up_n h01 h0)) rfl 3 (by decide) hf22 (fun _ h9 => h9) rfl (by decide +kernel) rfl rfl (Nat.le_of_ble_eq_true rfl) rfl dX0_insert_67 (fun H locs hP hD hS => ?_)
      refine k_iconst (pc := 70) hx hb dX0_insert_70 ?_
      rw [hQ9]
      exact W.zret (v := iI 1) hx hb hret (by decide +kernel) (fun t ht hW => ⟨⟨some (.int (iI 1)), ad, (up (up (up w r1 (eI (cA 0) 12 (insF st n z_9 s0))) r2 (eI (cA 0) 12 (insF fl n z_9 q))) r0 (oB 0 [.int (iI fd), .ref (ad r1), .ref (ad r2), .int (iI (n + 1))])), rfl, ⟨z_9, ⟨hz_9_0, hz_9_1, hz_9_2, hz_9_3⟩, rfl, Or.inl ⟨by unfold canP; omega, rfl, rfl⟩⟩, by rw [ht]; exact hP, hD⟩, hS.F ht⟩) hS.2.2 dX0_insert_71
    · skip
      refine k_iconst (pc := 32) hx hb dX0_insert_32 ?_
      rw [hQ9]
      exact W.zret (v := iI 0) hx hb hret (by decide +kernel) (fun t ht hW => ⟨⟨some (.int (iI 0)), ad, w, rfl, ⟨z_9, ⟨hz_9_0, hz_9_1, hz_9_2, hz_9_3⟩, rfl, Or.inr ⟨by unfold canP; omega, rfl, rfl⟩⟩, by rw [ht]; exact hP, hD⟩, hS.F ht⟩) hS.2.2 dX0_insert_33
