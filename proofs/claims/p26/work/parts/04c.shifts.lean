
abbrev rmX4_on : Room := { frames := 1, cells := 0, slots := 0, locals := 27 }
theorem hiX4_on_4 : ∀ w ∈ wsX40, w ∈ wsX4_on := by decide +kernel
set_option maxHeartbeats 4000000 in
set_option maxRecDepth 100000 in
theorem c_X4_on (l : Launch) (D : va_G) (cA : Nat → ClassId) (ad : Nat → Nat) (w : Nat → Option va_E) (r0 r1 r2 : Nat) (tn : Int) (td tv : Int → Int) (h0 : w r0 = some (oB 4 [.ref (ad r1), .ref (ad r2), .int (iI tn)])) (h1 : w r1 = some (eI (cA 0) 20 td)) (h2 : w r2 = some (eI (cA 0) 20 tv)) (hn : 0 ≤ tn ∧ tn ≤ 20) (hs : shOk td tv tn) (dy : Int) (hd : 0 ≤ dy ∧ dy ≤ 399) : Met l yX4_on wsX4_on rmX4_on (gR D cA ad w [.ref (ad r0), .int (iI dy)]) (gR0 (fun v9 => ∃ z : Int, v9 = some (.int (iI z)) ∧ z = sftF td tv tn dy ∧ -200 ≤ z ∧ z ≤ 200)) 0 0 (fun _ => False) := by
  refine Met.ofW (cc := cX4_on) (maxL := 4) (ret := (some .int)) (by decide) rfl ?_
  intro p e s m args below meth c s₁ B hml hv
  obtain ⟨hav, hP, hK, hB⟩ := hv
  have hx := B.exec
  have hb := B.bytes
  have hret := B.returns
  have hts := atoms_spec (ws := wsX4_on) B.pre
  have hown : s.vm.findClass RX4 = some m.cls := findClass_of_methodNamed B.named
  have hlocks := B.notSynchronized
  have hS : va_S (fun _ => False) s.heap s.heap [] := va_S.rf
  have hi4 := hiX4_on_4
  have hf9 := hts (.fieldLink RX4 9 "GaugeBook$Shifts" "toldDays" "[I") (by decide +kernel)
  have hf13 := hts (.fieldLink RX4 13 "GaugeBook$Shifts" "toldShifts" "[I") (by decide +kernel)
  have hf16 := hts (.fieldLink RX4 16 "GaugeBook$Shifts" "told" "I") (by decide +kernel)
  have he9 : entryFrame m args 4 = F0 m 0 ((lg_sl ([.ref (ad r0), .int (iI dy)] : List Value) ++ List.replicate (4 - (lg_sl ([.ref (ad r0), .int (iI dy)] : List Value)).length) Slot.unset).toArray) [] := by rw [hav, lg_entry_eq]
  rw [he9]
  have hl := lv_entry ([.ref (ad r0), .int (iI dy)] : List Value) (n := 4) (Nat.le_of_ble_eq_true rfl)
  generalize (lg_sl ([.ref (ad r0), .int (iI dy)] : List Value) ++ List.replicate (4 - (lg_sl ([.ref (ad r0), .int (iI dy)] : List Value)).length) Slot.unset).toArray = ls at hl ⊢
  have hl : lv_has ls 4 [(0, .ref (ad r0)), (1, .int (iI dy))] := hl
  obtain ⟨Q9, hQ9⟩ : ∃ z, z = MQ below (gR0 (fun v9 => ∃ z : Int, v9 = some (.int (iI z)) ∧ z = sftF td tv tn dy ∧ -200 ≤ z ∧ z ≤ 200)) args s 0 0 (fun _ => False) := ⟨_, rfl⟩
  rw [← hQ9]
  show W p l e rmX4_on s m args below meth c s.heap [] 0 0 Q9 (F0 m 0 ls [])
  refine lv_aload_n (pc := 0) hx hb dX4_on_0 rfl (lv_at hl 0 rfl) ?_
  refine k_get (pc := 1) (ci := 4) (C := RX4) (T := TX4) (N := 3) hx hb hts hi4 hown hK hP r0 h0 rfl 2 (by decide) hf16 (fun _ h9 => h9) rfl dX4_on_1 ?_
  refine k_if_ne (pc := 4) (tgt := 9) hx hb ⟨by omega, by omega⟩ dX4_on_4 (by decide) (fun hc_4 => ?_) (fun hc_4 => ?_)
  · skip
    refine lv_aload_n (pc := 9) hx hb dX4_on_9 rfl (lv_at hl 0 rfl) ?_
    refine k_get (pc := 10) (ci := 4) (C := RX4) (T := TX4) (N := 3) hx hb hts hi4 hown hK hP r0 h0 rfl 0 (by decide) hf9 (fun _ h9 => h9) rfl dX4_on_10 ?_
    refine lv_aload_n (pc := 13) hx hb dX4_on_13 rfl (lv_at hl 0 rfl) ?_
    refine k_get (pc := 14) (ci := 4) (C := RX4) (T := TX4) (N := 3) hx hb hts hi4 hown hK hP r0 h0 rfl 2 (by decide) hf16 (fun _ h9 => h9) rfl dX4_on_14 ?_
    refine lv_iload_n (pc := 17) hx hb dX4_on_17 rfl (lv_at hl 1 rfl) ?_
    refine k_call0 (pc := 18) (va_runSN (As := [.ref (ad r1), .int (iI tn), .int (iI dy)]) (rest := []) ⟨hx, hb, hml, hown, hts⟩ (c_X5_countLower l D cA ad w r1 20 td tn dy h1 (by omega) (fun j9 => by have h9 := hs.2.1 j9; omega) ⟨by omega, by omega⟩ ⟨by omega, by omega⟩) ⟨va_cnB 3 hts gX4_on_X5_countLower_n20 rfl rfl rfl (nm_X4_20 hB) (hts (.initialized RX5) (by decide +kernel)) (by decide +kernel) ⟨Nat.le_of_ble_eq_true rfl, Nat.le_of_ble_eq_true rfl⟩, hts (.static yX5_countLower) (by decide +kernel), trivial⟩ (gR_S hP hK hB) rfl rfl hl.1 rfl (lv_room (Nat.le_of_ble_eq_true rfl)) dX4_on_18 ⟨Nat.le_of_ble_eq_true rfl, Nat.le_of_ble_eq_true rfl⟩) (fun v_18 hv_18 => ?_)
    obtain ⟨z_18, rfl, ⟨hz_18_0, hz_18_1, hz_18_2, hz_18_3⟩⟩ := hv_18
    refine W.eq (g2 := F0 m 21 ls [.int (iI z_18)]) rfl ?_
    refine lv_istore_n (pc := 21) (lv' := [(2, .int (iI z_18)), (0, .ref (ad r0)), (1, .int (iI dy))]) hx hb dX4_on_21 rfl hl (by decide) rfl (fun ls hl => ?_)
    refine lv_iload_n (pc := 22) hx hb dX4_on_22 rfl (lv_at hl 0 rfl) ?_
    refine lv_aload_n (pc := 23) hx hb dX4_on_23 rfl (lv_at hl 1 rfl) ?_
    refine k_get (pc := 24) (ci := 4) (C := RX4) (T := TX4) (N := 3) hx hb hts hi4 hown hK hP r0 h0 rfl 2 (by decide) hf16 (fun _ h9 => h9) rfl dX4_on_24 ?_
    refine k_icmp_lt (pc := 27) (tgt := 42) hx hb ⟨by omega, by omega⟩ ⟨by omega, by omega⟩ dX4_on_27 (by decide) (fun hc_27 => ?_) (fun hc_27 => ?_)
    · skip
      refine lv_iload_n (pc := 42) hx hb dX4_on_42 rfl (lv_at hl 0 rfl) ?_
      refine k_if_ne (pc := 43) (tgt := 53) hx hb ⟨by omega, by omega⟩ dX4_on_43 (by decide) (fun hc_43 => ?_) (fun hc_43 => ?_)
      · skip
        have g5 := hs.1 (z_18 - 1) z_18 (by omega) (by omega) (by omega)
        have g7 := hz_18_2 (z_18 - 1) (by omega) (by omega)
        refine lv_iload_n (pc := 53) hx hb dX4_on_53 rfl (lv_at hl 0 rfl) ?_
        refine k_iconst (pc := 54) hx hb dX4_on_54 ?_
        refine k_isub (pc := 55) hx hb dX4_on_55 ?_
        refine lv_istore_n (pc := 56) (lv' := [(3, .int (iI (z_18 - 1))), (2, .int (iI z_18)), (0, .ref (ad r0)), (1, .int (iI dy))]) hx hb dX4_on_56 rfl hl (by decide) rfl (fun ls hl => ?_)
        refine lv_aload_n (pc := 57) hx hb dX4_on_57 rfl (lv_at hl 2 rfl) ?_
        refine k_get (pc := 58) (ci := 4) (C := RX4) (T := TX4) (N := 3) hx hb hts hi4 hown hK hP r0 h0 rfl 1 (by decide) hf13 (fun _ h9 => h9) rfl dX4_on_58 ?_
        refine lv_iload_n (pc := 61) hx hb dX4_on_61 rfl (lv_at hl 0 rfl) ?_
        refine k_iald (pc := 62) hx hb hK hP r2 0 h2 rfl (by omega) (by omega) (by omega) dX4_on_62 ?_
        have hq_62 := hs.2.2 (z_18 - 1)
        refine k_i2l (pc := 63) hx hb ⟨by omega, by omega⟩ dX4_on_63 ?_
        refine lv_aload_n (pc := 64) hx hb dX4_on_64 rfl (lv_at hl 2 rfl) ?_
        refine k_get (pc := 65) (ci := 4) (C := RX4) (T := TX4) (N := 3) hx hb hts hi4 hown hK hP r0 h0 rfl 1 (by decide) hf13 (fun _ h9 => h9) rfl dX4_on_65 ?_
        refine lv_iload_n (pc := 68) hx hb dX4_on_68 rfl (lv_at hl 1 rfl) ?_
        refine k_iald (pc := 69) hx hb hK hP r2 0 h2 rfl (by omega) (by omega) (by omega) dX4_on_69 ?_
        have hq_69 := hs.2.2 z_18
        refine k_i2l (pc := 70) hx hb ⟨by omega, by omega⟩ dX4_on_70 ?_
        refine lv_iload_n (pc := 71) hx hb dX4_on_71 rfl (lv_at hl 3 rfl) ?_
        refine lv_aload_n (pc := 72) hx hb dX4_on_72 rfl (lv_at hl 2 rfl) ?_
        refine k_get (pc := 73) (ci := 4) (C := RX4) (T := TX4) (N := 3) hx hb hts hi4 hown hK hP r0 h0 rfl 0 (by decide) hf9 (fun _ h9 => h9) rfl dX4_on_73 ?_
        refine lv_iload_n (pc := 76) hx hb dX4_on_76 rfl (lv_at hl 0 rfl) ?_
        refine k_iald (pc := 77) hx hb hK hP r1 0 h1 rfl (by omega) (by omega) (by omega) dX4_on_77 ?_
        have hq_77 := hs.2.1 (z_18 - 1)
        refine k_isub (pc := 78) hx hb dX4_on_78 ?_
        refine k_i2l (pc := 79) hx hb ⟨by omega, by omega⟩ dX4_on_79 ?_
        refine lv_aload_n (pc := 80) hx hb dX4_on_80 rfl (lv_at hl 2 rfl) ?_
        refine k_get (pc := 81) (ci := 4) (C := RX4) (T := TX4) (N := 3) hx hb hts hi4 hown hK hP r0 h0 rfl 0 (by decide) hf9 (fun _ h9 => h9) rfl dX4_on_81 ?_
        refine lv_iload_n (pc := 84) hx hb dX4_on_84 rfl (lv_at hl 1 rfl) ?_
        refine k_iald (pc := 85) hx hb hK hP r1 0 h1 rfl (by omega) (by omega) (by omega) dX4_on_85 ?_
        have hq_85 := hs.2.1 z_18
        refine lv_aload_n (pc := 86) hx hb dX4_on_86 rfl (lv_at hl 2 rfl) ?_
        refine k_get (pc := 87) (ci := 4) (C := RX4) (T := TX4) (N := 3) hx hb hts hi4 hown hK hP r0 h0 rfl 0 (by decide) hf9 (fun _ h9 => h9) rfl dX4_on_87 ?_
        refine lv_iload_n (pc := 90) hx hb dX4_on_90 rfl (lv_at hl 0 rfl) ?_
        refine k_iald (pc := 91) hx hb hK hP r1 0 h1 rfl (by omega) (by omega) (by omega) dX4_on_91 ?_
        have hq_91 := hs.2.1 (z_18 - 1)
        refine k_isub (pc := 92) hx hb dX4_on_92 ?_
        refine k_i2l (pc := 93) hx hb ⟨by omega, by omega⟩ dX4_on_93 ?_
        refine k_call0 (pc := 94) (va_runSN (As := [.long (lI (tv (z_18 - 1))), .long (lI (tv z_18)), .long (lI (dy - (td (z_18 - 1)))), .long (lI ((td z_18) - (td (z_18 - 1))))]) (rest := []) ⟨hx, hb, hml, hown, hts⟩ (c_X5_interpolate l D cA ad w (tv (z_18 - 1)) (tv z_18) (dy - (td (z_18 - 1))) ((td z_18) - (td (z_18 - 1))) (by have h9 := mulB (a := tv z_18 - tv (z_18 - 1)) (b := dy - td (z_18 - 1)) (M := 1000000) (N := 10000) ⟨by omega, by omega⟩ ⟨by omega, by omega⟩; constructor <;> omega) (by constructor <;> omega)) ⟨va_cnB 4 hts gX4_on_X5_interpolate_n26 rfl rfl rfl (nm_X4_26 hB) (hts (.initialized RX5) (by decide +kernel)) (by decide +kernel) ⟨Nat.le_of_ble_eq_true rfl, Nat.le_of_ble_eq_true rfl⟩, hts (.static yX5_interpolate) (by decide +kernel), trivial⟩ (gR_S hP hK hB) rfl rfl hl.1 rfl (lv_room (Nat.le_of_ble_eq_true rfl)) dX4_on_94 ⟨Nat.le_of_ble_eq_true rfl, Nat.le_of_ble_eq_true rfl⟩) (fun v_94 hv_94 => ?_)
        obtain ⟨z_94, rfl, rfl⟩ := hv_94
        refine W.eq (g2 := F0 m 97 ls [.long (lI ((tv (z_18 - 1)) + Int.tdiv (((tv z_18) - (tv (z_18 - 1))) * (dy - (td (z_18 - 1)))) ((td z_18) - (td (z_18 - 1)))))]) rfl ?_
        refine k_l2i (pc := 97) hx hb dX4_on_97 ?_
        have h9 : sftP td tv tn dy _ := Or.inr ⟨by omega, z_18, ⟨hz_18_0, hz_18_1, hz_18_2, hz_18_3⟩, Or.inr (Or.inr ⟨by omega, by omega, rfl⟩)⟩
        rw [hQ9]
        exact W.iret (v := iI ((tv (z_18 - 1)) + Int.tdiv (((tv z_18) - (tv (z_18 - 1))) * (dy - (td (z_18 - 1)))) ((td z_18) - (td (z_18 - 1))))) hx hb hret (fun t ht hW => ⟨some (.int (iI ((tv (z_18 - 1)) + Int.tdiv (((tv z_18) - (tv (z_18 - 1))) * (dy - (td (z_18 - 1)))) ((td z_18) - (td (z_18 - 1)))))), rfl, ⟨(tv (z_18 - 1)) + Int.tdiv (((tv z_18) - (tv (z_18 - 1))) * (dy - (td (z_18 - 1)))) ((td z_18) - (td (z_18 - 1))), rfl, ⟨sftF_eq h9, sftP_bd hs h9⟩⟩, ht⟩) (fun q hq => by cases hq) dX4_on_98
      · skip
        refine lv_aload_n (pc := 46) hx hb dX4_on_46 rfl (lv_at hl 1 rfl) ?_
        refine k_get (pc := 47) (ci := 4) (C := RX4) (T := TX4) (N := 3) hx hb hts hi4 hown hK hP r0 h0 rfl 1 (by decide) hf13 (fun _ h9 => h9) rfl dX4_on_47 ?_
        refine k_iconst (pc := 50) hx hb dX4_on_50 ?_
        refine k_iald (pc := 51) hx hb hK hP r2 0 h2 rfl (by omega) (by omega) (by omega) dX4_on_51 ?_
        have hq_51 := hs.2.2 0
        have h9 : sftP td tv tn dy (tv 0) := Or.inr ⟨by omega, z_18, ⟨hz_18_0, hz_18_1, hz_18_2, hz_18_3⟩, Or.inr (Or.inl ⟨by omega, by omega, rfl⟩)⟩
        rw [hQ9]
        exact W.iret (v := iI (tv 0)) hx hb hret (fun t ht hW => ⟨some (.int (iI (tv 0))), rfl, ⟨tv 0, rfl, ⟨sftF_eq h9, sftP_bd hs h9⟩⟩, ht⟩) (fun q hq => by cases hq) dX4_on_52
    · skip
      refine lv_aload_n (pc := 30) hx hb dX4_on_30 rfl (lv_at hl 1 rfl) ?_
      refine k_get (pc := 31) (ci := 4) (C := RX4) (T := TX4) (N := 3) hx hb hts hi4 hown hK hP r0 h0 rfl 1 (by decide) hf13 (fun _ h9 => h9) rfl dX4_on_31 ?_
      refine lv_aload_n (pc := 34) hx hb dX4_on_34 rfl (lv_at hl 1 rfl) ?_
      refine k_get (pc := 35) (ci := 4) (C := RX4) (T := TX4) (N := 3) hx hb hts hi4 hown hK hP r0 h0 rfl 2 (by decide) hf16 (fun _ h9 => h9) rfl dX4_on_35 ?_
      refine k_iconst (pc := 38) hx hb dX4_on_38 ?_
      refine k_isub (pc := 39) hx hb dX4_on_39 ?_
      refine k_iald (pc := 40) hx hb hK hP r2 0 h2 rfl (by omega) (by omega) (by omega) dX4_on_40 ?_
      have hq_40 := hs.2.2 (tn - 1)
      have h9 : sftP td tv tn dy (tv (tn - 1)) := Or.inr ⟨by omega, z_18, ⟨hz_18_0, hz_18_1, hz_18_2, hz_18_3⟩, Or.inl ⟨by omega, rfl⟩⟩
      rw [hQ9]
      exact W.iret (v := iI (tv (tn - 1))) hx hb hret (fun t ht hW => ⟨some (.int (iI (tv (tn - 1)))), rfl, ⟨tv (tn - 1), rfl, ⟨sftF_eq h9, sftP_bd hs h9⟩⟩, ht⟩) (fun q hq => by cases hq) dX4_on_41
  · skip
    refine k_iconst (pc := 7) hx hb dX4_on_7 ?_
    have h9 : sftP td tv tn dy 0 := Or.inl ⟨by omega, rfl⟩
    rw [hQ9]
    exact W.iret (v := iI 0) hx hb hret (fun t ht hW => ⟨some (.int (iI 0)), rfl, ⟨0, rfl, ⟨sftF_eq h9, sftP_bd hs h9⟩⟩, ht⟩) (fun q hq => by cases hq) dX4_on_8

abbrev rmX4_tell : Room := { frames := 1, cells := 0, slots := 0, locals := 24 }
theorem hiX4_tell_4 : ∀ w ∈ wsX40, w ∈ wsX4_tell := by decide +kernel
set_option maxHeartbeats 4000000 in
set_option maxRecDepth 100000 in
theorem c_X4_tell (l : Launch) (D : va_G) (cA : Nat → ClassId) (ad : Nat → Nat) (w : Nat → Option va_E) (sz : Nat) (r0 r1 r2 : Nat) (tn : Int) (td tv : Int → Int) (h0 : w r0 = some (oB 4 [.ref (ad r1), .ref (ad r2), .int (iI tn)])) (h1 : w r1 = some (eI (cA 0) 20 td)) (h2 : w r2 = some (eI (cA 0) 20 tv)) (hn : 0 ≤ tn ∧ tn ≤ 20) (hs : shOk td tv tn) (h01 : r0 ≠ r1) (h02 : r0 ≠ r2) (h12 : r1 ≠ r2) (dy sv : Int) (hd : 0 ≤ dy ∧ dy ≤ 399) (hsv : -200 ≤ sv ∧ sv ≤ 200) : Met l yX4_tell wsX4_tell rmX4_tell (gV D cA ad w sz [.ref (ad r0), .int (iI dy), .int (iI sv)]) (gW D (fun v9 ad1 w1 => ∃ k : Int, clP td tn dy k ∧ ad1 = ad ∧ ((k < tn ∧ td k = dy ∧ v9 = some (.int (iI 1)) ∧ w1 = up w r2 (eI (cA 0) 20 (updI tv k sv))) ∨ (¬ (k < tn ∧ td k = dy) ∧ tn < 20 ∧ v9 = some (.int (iI 1)) ∧ w1 = up (up (up w r1 (eI (cA 0) 20 (insF td tn k dy))) r2 (eI (cA 0) 20 (insF tv tn k sv))) r0 (oB 4 [.ref (ad r1), .ref (ad r2), .int (iI (tn + 1))])) ∨ (¬ (k < tn ∧ td k = dy) ∧ ¬ tn < 20 ∧ v9 = some (.int (iI 0)) ∧ w1 = w))) (gA ad w sz)) 0 0 (gA ad w sz) := by
  refine Met.ofW (cc := cX4_tell) (maxL := 4) (ret := (some .boolean)) (by decide) rfl ?_
  intro p e s m args below meth c s₁ B hml hv
  obtain ⟨hav, hsz, hP, hD0, hK, hB, hZ⟩ := hv
  have hx := B.exec
  have hb := B.bytes
  have hret := B.returns
  have hts := atoms_spec (ws := wsX4_tell) B.pre
  have hown : s.vm.findClass RX4 = some m.cls := findClass_of_methodNamed B.named
  have hlocks := B.notSynchronized
  subst hsz
  have hD := hD0.self (sz := s.heap.size)
  generalize hAe : gA ad w s.heap.size = A at hD hZ ⊢
  have hA : ∀ q : Nat, s.heap.size ≤ q → A q := fun q h => by rw [← hAe]; exact Or.inr h
  have hS : va_S A s.heap s.heap [] := va_S.rf
  have hi4 := hiX4_tell_4
  have hf9 := hts (.fieldLink RX4 9 "GaugeBook$Shifts" "toldDays" "[I") (by decide +kernel)
  have hf13 := hts (.fieldLink RX4 13 "GaugeBook$Shifts" "toldShifts" "[I") (by decide +kernel)
  have hf16 := hts (.fieldLink RX4 16 "GaugeBook$Shifts" "told" "I") (by decide +kernel)
  have he9 : entryFrame m args 4 = F0 m 0 ((lg_sl ([.ref (ad r0), .int (iI dy), .int (iI sv)] : List Value) ++ List.replicate (4 - (lg_sl ([.ref (ad r0), .int (iI dy), .int (iI sv)] : List Value)).length) Slot.unset).toArray) [] := by rw [hav, lg_entry_eq]
  rw [he9]
  have hl := lv_entry ([.ref (ad r0), .int (iI dy), .int (iI sv)] : List Value) (n := 4) (Nat.le_of_ble_eq_true rfl)
  generalize (lg_sl ([.ref (ad r0), .int (iI dy), .int (iI sv)] : List Value) ++ List.replicate (4 - (lg_sl ([.ref (ad r0), .int (iI dy), .int (iI sv)] : List Value)).length) Slot.unset).toArray = ls at hl ⊢
  have hl : lv_has ls 4 [(0, .ref (ad r0)), (1, .int (iI dy)), (2, .int (iI sv))] := hl
  obtain ⟨Q9, hQ9⟩ : ∃ z, z = MQ below (gW D (fun v9 ad1 w1 => ∃ k : Int, clP td tn dy k ∧ ad1 = ad ∧ ((k < tn ∧ td k = dy ∧ v9 = some (.int (iI 1)) ∧ w1 = up w r2 (eI (cA 0) 20 (updI tv k sv))) ∨ (¬ (k < tn ∧ td k = dy) ∧ tn < 20 ∧ v9 = some (.int (iI 1)) ∧ w1 = up (up (up w r1 (eI (cA 0) 20 (insF td tn k dy))) r2 (eI (cA 0) 20 (insF tv tn k sv))) r0 (oB 4 [.ref (ad r1), .ref (ad r2), .int (iI (tn + 1))])) ∨ (¬ (k < tn ∧ td k = dy) ∧ ¬ tn < 20 ∧ v9 = some (.int (iI 0)) ∧ w1 = w))) A) args s 0 0 A := ⟨_, rfl⟩
  rw [← hQ9]
  show W p l e rmX4_tell s m args below meth c s.heap [] 0 0 Q9 (F0 m 0 ls [])
  obtain ⟨H, hHe⟩ : ∃ z, z = s.heap := ⟨_, rfl⟩
  obtain ⟨locs, hLe⟩ : ∃ z, z = ([] : List Loc) := ⟨_, rfl⟩
  have hP : gP D vwCl ad w H := by rw [hHe]; exact hP
  have hS : va_S A s.heap H locs := by rw [hHe, hLe]; exact va_S.rf
  rw [show W p l e rmX4_tell s m args below meth c s.heap [] 0 0 Q9 (F0 m 0 ls []) = W p l e rmX4_tell s m args below meth c H locs 0 0 Q9 (F0 m 0 ls []) by rw [hHe, hLe]]
  clear hHe hLe
  refine lv_aload_n (pc := 0) hx hb dX4_tell_0 rfl (lv_at hl 0 rfl) ?_
  refine k_get (pc := 1) (ci := 4) (C := RX4) (T := TX4) (N := 3) hx hb hts hi4 hown hK hP r0 h0 rfl 0 (by decide) hf9 (fun _ h9 => h9) rfl dX4_tell_1 ?_
  refine lv_aload_n (pc := 4) hx hb dX4_tell_4 rfl (lv_at hl 0 rfl) ?_
  refine k_get (pc := 5) (ci := 4) (C := RX4) (T := TX4) (N := 3) hx hb hts hi4 hown hK hP r0 h0 rfl 2 (by decide) hf16 (fun _ h9 => h9) rfl dX4_tell_5 ?_
  refine lv_iload_n (pc := 8) hx hb dX4_tell_8 rfl (lv_at hl 1 rfl) ?_
  refine k_call0 (pc := 9) (va_runSN (As := [.ref (ad r1), .int (iI tn), .int (iI dy)]) (rest := []) ⟨hx, hb, hml, hown, hts⟩ (c_X5_countLower l D cA ad w r1 20 td tn dy h1 (by omega) (fun j9 => by have h9 := hs.2.1 j9; omega) ⟨by omega, by omega⟩ ⟨by omega, by omega⟩) ⟨va_cnB 3 hts gX4_tell_X5_countLower_n20 rfl rfl rfl (nm_X4_20 hB) (hts (.initialized RX5) (by decide +kernel)) (by decide +kernel) ⟨Nat.le_of_ble_eq_true rfl, Nat.le_of_ble_eq_true rfl⟩, hts (.static yX5_countLower) (by decide +kernel), trivial⟩ (gR_S hP hK hB) rfl rfl hl.1 rfl (lv_room (Nat.le_of_ble_eq_true rfl)) dX4_tell_9 ⟨Nat.le_of_ble_eq_true rfl, Nat.le_of_ble_eq_true rfl⟩) (fun v_9 hv_9 => ?_)
  obtain ⟨z_9, rfl, ⟨hz_9_0, hz_9_1, hz_9_2, hz_9_3⟩⟩ := hv_9
  refine W.eq (g2 := F0 m 12 ls [.int (iI z_9)]) rfl ?_
  refine lv_istore_n (pc := 12) (lv' := [(3, .int (iI z_9)), (0, .ref (ad r0)), (1, .int (iI dy)), (2, .int (iI sv))]) hx hb dX4_tell_12 rfl hl (by decide) rfl (fun ls hl => ?_)
  refine lv_iload_n (pc := 13) hx hb dX4_tell_13 rfl (lv_at hl 0 rfl) ?_
  refine lv_aload_n (pc := 14) hx hb dX4_tell_14 rfl (lv_at hl 1 rfl) ?_
  refine k_get (pc := 15) (ci := 4) (C := RX4) (T := TX4) (N := 3) hx hb hts hi4 hown hK hP r0 h0 rfl 2 (by decide) hf16 (fun _ h9 => h9) rfl dX4_tell_15 ?_
  refine k_icmp_ge (pc := 18) (tgt := 40) hx hb ⟨by omega, by omega⟩ ⟨by omega, by omega⟩ dX4_tell_18 (by decide) (fun hc_18 => ?_) (fun hc_18 => ?_)
  · skip
    refine lv_aload_n (pc := 40) hx hb dX4_tell_40 rfl (lv_at hl 1 rfl) ?_
    refine k_get (pc := 41) (ci := 4) (C := RX4) (T := TX4) (N := 3) hx hb hts hi4 hown hK hP r0 h0 rfl 2 (by decide) hf16 (fun _ h9 => h9) rfl dX4_tell_41 ?_
    refine k_bipush (pc := 44) hx hb dX4_tell_44 (by decide +kernel) ?_
    refine k_icmp_lt (pc := 46) (tgt := 51) hx hb ⟨by omega, by omega⟩ ⟨by omega, by omega⟩ dX4_tell_46 (by decide) (fun hc_46 => ?_) (fun hc_46 => ?_)
    · skip
      refine lv_aload_n (pc := 51) hx hb dX4_tell_51 rfl (lv_at hl 1 rfl) ?_
      refine k_get (pc := 52) (ci := 4) (C := RX4) (T := TX4) (N := 3) hx hb hts hi4 hown hK hP r0 h0 rfl 0 (by decide) hf9 (fun _ h9 => h9) rfl dX4_tell_52 ?_
      refine lv_aload_n (pc := 55) hx hb dX4_tell_55 rfl (lv_at hl 1 rfl) ?_
      refine k_get (pc := 56) (ci := 4) (C := RX4) (T := TX4) (N := 3) hx hb hts hi4 hown hK hP r0 h0 rfl 2 (by decide) hf16 (fun _ h9 => h9) rfl dX4_tell_56 ?_
      refine lv_iload_n (pc := 59) hx hb dX4_tell_59 rfl (lv_at hl 0 rfl) ?_
      refine lv_iload_n (pc := 60) hx hb dX4_tell_60 rfl (lv_at hl 2 rfl) ?_
      refine k_call1 (pc := 61) (va_runSN (As := [.ref (ad r1), .int (iI tn), .int (iI z_9), .int (iI dy)]) (rest := []) ⟨hx, hb, hml, hown, hts⟩ (c_X5_insertInto l D cA ad w H.size r1 20 td tn z_9 dy h1 (by omega) (by omega) (by omega)) ⟨va_cnB 4 hts gX4_tell_X5_insertInto_n30 rfl rfl rfl (nm_X4_30 hB) (hts (.initialized RX5) (by decide +kernel)) (by decide +kernel) ⟨Nat.le_of_ble_eq_true rfl, Nat.le_of_ble_eq_true rfl⟩, hts (.static yX5_insertInto) (by decide +kernel), trivial⟩ (gV_S hP hD hK hB hS hA hZ) rfl rfl hl.1 rfl (lv_room (Nat.le_of_ble_eq_true rfl)) dX4_tell_61 ⟨Nat.le_of_ble_eq_true rfl, Nat.le_of_ble_eq_true rfl⟩) hS (gA_sub hD hS hA) (fun v_61 ad_61 w_61 H locs hv_61 hP hD hS => ?_)
      obtain ⟨hv1, hv2, hv3⟩ := hv_61
      subst hv1
      rw [hv2, hv3] at hP hD
      refine W.eq (g2 := F0 m 64 ls []) rfl ?_
      refine W.cs (cells' := 0) (slots' := 0) rfl rfl ?_
      refine lv_aload_n (pc := 64) hx hb dX4_tell_64 rfl (lv_at hl 1 rfl) ?_
      refine k_get (pc := 65) (ci := 4) (C := RX4) (T := TX4) (N := 3) hx hb hts hi4 hown hK hP r0 (up_n h01 h0) rfl 1 (by decide) hf13 (fun _ h9 => h9) rfl dX4_tell_65 ?_
      refine lv_aload_n (pc := 68) hx hb dX4_tell_68 rfl (lv_at hl 1 rfl) ?_
      refine k_get (pc := 69) (ci := 4) (C := RX4) (T := TX4) (N := 3) hx hb hts hi4 hown hK hP r0 (up_n h01 h0) rfl 2 (by decide) hf16 (fun _ h9 => h9) rfl dX4_tell_69 ?_
      refine lv_iload_n (pc := 72) hx hb dX4_tell_72 rfl (lv_at hl 0 rfl) ?_
      refine lv_iload_n (pc := 73) hx hb dX4_tell_73 rfl (lv_at hl 3 rfl) ?_
      refine k_call1 (pc := 74) (va_runSN (As := [.ref (ad r2), .int (iI tn), .int (iI z_9), .int (iI sv)]) (rest := []) ⟨hx, hb, hml, hown, hts⟩ (c_X5_insertInto l D cA ad (up w r1 (eI (cA 0) 20 (insF td tn z_9 dy))) H.size r2 20 tv tn z_9 sv (up_n (Ne.symm h12) h2) (by omega) (by omega) (by omega)) ⟨va_cnB 4 hts gX4_tell_X5_insertInto_n30 rfl rfl rfl (nm_X4_30 hB) (hts (.initialized RX5) (by decide +kernel)) (by decide +kernel) ⟨Nat.le_of_ble_eq_true rfl, Nat.le_of_ble_eq_true rfl⟩, hts (.static yX5_insertInto) (by decide +kernel), trivial⟩ (gV_S hP hD hK hB hS hA hZ) rfl rfl hl.1 rfl (lv_room (Nat.le_of_ble_eq_true rfl)) dX4_tell_74 ⟨Nat.le_of_ble_eq_true rfl, Nat.le_of_ble_eq_true rfl⟩) hS (gA_sub hD hS hA) (fun v_74 ad_74 w_74 H locs hv_74 hP hD hS => ?_)
      obtain ⟨hv1, hv2, hv3⟩ := hv_74
      subst hv1
      rw [hv2, hv3] at hP hD
      refine W.eq (g2 := F0 m 77 ls []) rfl ?_
      refine W.cs (cells' := 0) (slots' := 0) rfl rfl ?_
      refine lv_aload_n (pc := 77) hx hb dX4_tell_77 rfl (lv_at hl 1 rfl) ?_
      refine lv_dup (pc := 78) hx hb dX4_tell_78 rfl ?_
      refine k_get (pc := 79) (ci := 4) (C := RX4) (T := TX4) (N := 3) hx hb hts hi4 hown hK hP r0 (up_n h02 (up_n h01 h0)) rfl 2 (by decide) hf16 (fun _ h9 => h9) rfl dX4_tell_79 ?_
      refine k_iconst (pc := 82) hx hb dX4_tell_82 ?_
      refine k_iadd (pc := 83) hx hb dX4_tell_83 ?_
      refine k_put (pc := 84) (ci := 4) (C := RX4) (T := TX4) (N := 3) (ty := .int) (v := .int (iI (tn + 1))) (w1 := (up (up (up w r1 (eI (cA 0) 20 (insF td tn z_9 dy))) r2 (eI (cA 0) 20 (insF tv tn z_9 sv))) r0 (oB 4 [.ref (ad r1), .ref (ad r2), .int (iI (tn + 1))]))) hx hb hts hi4 tyX4 tyX4_ok nmX4 hown hK hP hD hS r0 (up_n h02 (up_n h01 h0)) rfl 2 (by decide) hf16 (fun _ h9 => h9) rfl (by decide +kernel) rfl rfl (Nat.le_of_ble_eq_true rfl) rfl dX4_tell_84 (fun H locs hP hD hS => ?_)
      refine k_iconst (pc := 87) hx hb dX4_tell_87 ?_
      rw [hQ9]
      exact W.zret (v := iI 1) hx hb hret (by decide +kernel) (fun t ht hW => ⟨⟨some (.int (iI 1)), ad, (up (up (up w r1 (eI (cA 0) 20 (insF td tn z_9 dy))) r2 (eI (cA 0) 20 (insF tv tn z_9 sv))) r0 (oB 4 [.ref (ad r1), .ref (ad r2), .int (iI (tn + 1))])), rfl, ⟨z_9, ⟨hz_9_0, hz_9_1, hz_9_2, hz_9_3⟩, rfl, Or.inr (Or.inl ⟨by omega, by omega, rfl, rfl⟩)⟩, by rw [ht]; exact hP, hD⟩, hS.F ht⟩) hS.2.2 dX4_tell_88
    · skip
      refine k_iconst (pc := 49) hx hb dX4_tell_49 ?_
      rw [hQ9]
      exact W.zret (v := iI 0) hx hb hret (by decide +kernel) (fun t ht hW => ⟨⟨some (.int (iI 0)), ad, w, rfl, ⟨z_9, ⟨hz_9_0, hz_9_1, hz_9_2, hz_9_3⟩, rfl, Or.inr (Or.inr ⟨by omega, by omega, rfl, rfl⟩)⟩, by rw [ht]; exact hP, hD⟩, hS.F ht⟩) hS.2.2 dX4_tell_50
  · skip
    refine lv_aload_n (pc := 21) hx hb dX4_tell_21 rfl (lv_at hl 1 rfl) ?_
    refine k_get (pc := 22) (ci := 4) (C := RX4) (T := TX4) (N := 3) hx hb hts hi4 hown hK hP r0 h0 rfl 0 (by decide) hf9 (fun _ h9 => h9) rfl dX4_tell_22 ?_
    refine lv_iload_n (pc := 25) hx hb dX4_tell_25 rfl (lv_at hl 0 rfl) ?_
    refine k_iald (pc := 26) hx hb hK hP r1 0 h1 rfl (by omega) (by omega) (by omega) dX4_tell_26 ?_
    have hq_26 := hs.2.1 z_9
    refine lv_iload_n (pc := 27) hx hb dX4_tell_27 rfl (lv_at hl 2 rfl) ?_
    refine k_icmp_ne (pc := 28) (tgt := 40) hx hb ⟨by omega, by omega⟩ ⟨by omega, by omega⟩ dX4_tell_28 (by decide) (fun hc_28 => ?_) (fun hc_28 => ?_)
    · skip
      refine lv_aload_n (pc := 40) hx hb dX4_tell_40 rfl (lv_at hl 1 rfl) ?_
      refine k_get (pc := 41) (ci := 4) (C := RX4) (T := TX4) (N := 3) hx hb hts hi4 hown hK hP r0 h0 rfl 2 (by decide) hf16 (fun _ h9 => h9) rfl dX4_tell_41 ?_
      refine k_bipush (pc := 44) hx hb dX4_tell_44 (by decide +kernel) ?_
      refine k_icmp_lt (pc := 46) (tgt := 51) hx hb ⟨by omega, by omega⟩ ⟨by omega, by omega⟩ dX4_tell_46 (by decide) (fun hc_46 => ?_) (fun hc_46 => ?_)
      · skip
        refine lv_aload_n (pc := 51) hx hb dX4_tell_51 rfl (lv_at hl 1 rfl) ?_
        refine k_get (pc := 52) (ci := 4) (C := RX4) (T := TX4) (N := 3) hx hb hts hi4 hown hK hP r0 h0 rfl 0 (by decide) hf9 (fun _ h9 => h9) rfl dX4_tell_52 ?_
        refine lv_aload_n (pc := 55) hx hb dX4_tell_55 rfl (lv_at hl 1 rfl) ?_
        refine k_get (pc := 56) (ci := 4) (C := RX4) (T := TX4) (N := 3) hx hb hts hi4 hown hK hP r0 h0 rfl 2 (by decide) hf16 (fun _ h9 => h9) rfl dX4_tell_56 ?_
        refine lv_iload_n (pc := 59) hx hb dX4_tell_59 rfl (lv_at hl 0 rfl) ?_
        refine lv_iload_n (pc := 60) hx hb dX4_tell_60 rfl (lv_at hl 2 rfl) ?_
        refine k_call1 (pc := 61) (va_runSN (As := [.ref (ad r1), .int (iI tn), .int (iI z_9), .int (iI dy)]) (rest := []) ⟨hx, hb, hml, hown, hts⟩ (c_X5_insertInto l D cA ad w H.size r1 20 td tn z_9 dy h1 (by omega) (by omega) (by omega)) ⟨va_cnB 4 hts gX4_tell_X5_insertInto_n30 rfl rfl rfl (nm_X4_30 hB) (hts (.initialized RX5) (by decide +kernel)) (by decide +kernel) ⟨Nat.le_of_ble_eq_true rfl, Nat.le_of_ble_eq_true rfl⟩, hts (.static yX5_insertInto) (by decide +kernel), trivial⟩ (gV_S hP hD hK hB hS hA hZ) rfl rfl hl.1 rfl (lv_room (Nat.le_of_ble_eq_true rfl)) dX4_tell_61 ⟨Nat.le_of_ble_eq_true rfl, Nat.le_of_ble_eq_true rfl⟩) hS (gA_sub hD hS hA) (fun v_61 ad_61 w_61 H locs hv_61 hP hD hS => ?_)
        obtain ⟨hv1, hv2, hv3⟩ := hv_61
        subst hv1
        rw [hv2, hv3] at hP hD
        refine W.eq (g2 := F0 m 64 ls []) rfl ?_
        refine W.cs (cells' := 0) (slots' := 0) rfl rfl ?_
        refine lv_aload_n (pc := 64) hx hb dX4_tell_64 rfl (lv_at hl 1 rfl) ?_
        refine k_get (pc := 65) (ci := 4) (C := RX4) (T := TX4) (N := 3) hx hb hts hi4 hown hK hP r0 (up_n h01 h0) rfl 1 (by decide) hf13 (fun _ h9 => h9) rfl dX4_tell_65 ?_
        refine lv_aload_n (pc := 68) hx hb dX4_tell_68 rfl (lv_at hl 1 rfl) ?_
        refine k_get (pc := 69) (ci := 4) (C := RX4) (T := TX4) (N := 3) hx hb hts hi4 hown hK hP r0 (up_n h01 h0) rfl 2 (by decide) hf16 (fun _ h9 => h9) rfl dX4_tell_69 ?_
        refine lv_iload_n (pc := 72) hx hb dX4_tell_72 rfl (lv_at hl 0 rfl) ?_
        refine lv_iload_n (pc := 73) hx hb dX4_tell_73 rfl (lv_at hl 3 rfl) ?_
        refine k_call1 (pc := 74) (va_runSN (As := [.ref (ad r2), .int (iI tn), .int (iI z_9), .int (iI sv)]) (rest := []) ⟨hx, hb, hml, hown, hts⟩ (c_X5_insertInto l D cA ad (up w r1 (eI (cA 0) 20 (insF td tn z_9 dy))) H.size r2 20 tv tn z_9 sv (up_n (Ne.symm h12) h2) (by omega) (by omega) (by omega)) ⟨va_cnB 4 hts gX4_tell_X5_insertInto_n30 rfl rfl rfl (nm_X4_30 hB) (hts (.initialized RX5) (by decide +kernel)) (by decide +kernel) ⟨Nat.le_of_ble_eq_true rfl, Nat.le_of_ble_eq_true rfl⟩, hts (.static yX5_insertInto) (by decide +kernel), trivial⟩ (gV_S hP hD hK hB hS hA hZ) rfl rfl hl.1 rfl (lv_room (Nat.le_of_ble_eq_true rfl)) dX4_tell_74 ⟨Nat.le_of_ble_eq_true rfl, Nat.le_of_ble_eq_true rfl⟩) hS (gA_sub hD hS hA) (fun v_74 ad_74 w_74 H locs hv_74 hP hD hS => ?_)
        obtain ⟨hv1, hv2, hv3⟩ := hv_74
        subst hv1
        rw [hv2, hv3] at hP hD
        refine W.eq (g2 := F0 m 77 ls []) rfl ?_
        refine W.cs (cells' := 0) (slots' := 0) rfl rfl ?_
        refine lv_aload_n (pc := 77) hx hb dX4_tell_77 rfl (lv_at hl 1 rfl) ?_
        refine lv_dup (pc := 78) hx hb dX4_tell_78 rfl ?_
        refine k_get (pc := 79) (ci := 4) (C := RX4) (T := TX4) (N := 3) hx hb hts hi4 hown hK hP r0 (up_n h02 (up_n h01 h0)) rfl 2 (by decide) hf16 (fun _ h9 => h9) rfl dX4_tell_79 ?_
        refine k_iconst (pc := 82) hx hb dX4_tell_82 ?_
        refine k_iadd (pc := 83) hx hb dX4_tell_83 ?_
        refine k_put (pc := 84) (ci := 4) (C := RX4) (T := TX4) (N := 3) (ty := .int) (v := .int (iI (tn + 1))) (w1 := (up (up (up w r1 (eI (cA 0) 20 (insF td tn z_9 dy))) r2 (eI (cA 0) 20 (insF tv tn z_9 sv))) r0 (oB 4 [.ref (ad r1), .ref (ad r2), .int (iI (tn + 1))]))) hx hb hts hi4 tyX4 tyX4_ok nmX4 hown hK hP hD hS r0 (up_n h02 (up_n h01 h0)) rfl 2 (by decide) hf16 (fun _ h9 => h9) rfl (by decide +kernel) rfl rfl (Nat.le_of_ble_eq_true rfl) rfl dX4_tell_84 (fun H locs hP hD hS => ?_)
        refine k_iconst (pc := 87) hx hb dX4_tell_87 ?_
        rw [hQ9]
        exact W.zret (v := iI 1) hx hb hret (by decide +kernel) (fun t ht hW => ⟨⟨some (.int (iI 1)), ad, (up (up (up w r1 (eI (cA 0) 20 (insF td tn z_9 dy))) r2 (eI (cA 0) 20 (insF tv tn z_9 sv))) r0 (oB 4 [.ref (ad r1), .ref (ad r2), .int (iI (tn + 1))])), rfl, ⟨z_9, ⟨hz_9_0, hz_9_1, hz_9_2, hz_9_3⟩, rfl, Or.inr (Or.inl ⟨by omega, by omega, rfl, rfl⟩)⟩, by rw [ht]; exact hP, hD⟩, hS.F ht⟩) hS.2.2 dX4_tell_88
      · skip
        refine k_iconst (pc := 49) hx hb dX4_tell_49 ?_
        rw [hQ9]
        exact W.zret (v := iI 0) hx hb hret (by decide +kernel) (fun t ht hW => ⟨⟨some (.int (iI 0)), ad, w, rfl, ⟨z_9, ⟨hz_9_0, hz_9_1, hz_9_2, hz_9_3⟩, rfl, Or.inr (Or.inr ⟨by omega, by omega, rfl, rfl⟩)⟩, by rw [ht]; exact hP, hD⟩, hS.F ht⟩) hS.2.2 dX4_tell_50
    · skip
      refine lv_aload_n (pc := 31) hx hb dX4_tell_31 rfl (lv_at hl 1 rfl) ?_
      refine k_get (pc := 32) (ci := 4) (C := RX4) (T := TX4) (N := 3) hx hb hts hi4 hown hK hP r0 h0 rfl 1 (by decide) hf13 (fun _ h9 => h9) rfl dX4_tell_32 ?_
      refine lv_iload_n (pc := 35) hx hb dX4_tell_35 rfl (lv_at hl 0 rfl) ?_
      refine lv_iload_n (pc := 36) hx hb dX4_tell_36 rfl (lv_at hl 3 rfl) ?_
      refine k_iast (pc := 37) (w1 := (up w r2 (eI (cA 0) 20 (updI tv z_9 sv)))) hx hb hK hP hD hS r2 0 h2 rfl (by omega) (by omega) (by omega) rfl dX4_tell_37 (fun H locs hP hD hS => ?_)
      refine k_iconst (pc := 38) hx hb dX4_tell_38 ?_
      rw [hQ9]
      exact W.zret (v := iI 1) hx hb hret (by decide +kernel) (fun t ht hW => ⟨⟨some (.int (iI 1)), ad, (up w r2 (eI (cA 0) 20 (updI tv z_9 sv))), rfl, ⟨z_9, ⟨hz_9_0, hz_9_1, hz_9_2, hz_9_3⟩, rfl, Or.inl ⟨by omega, by omega, rfl, rfl⟩⟩, by rw [ht]; exact hP, hD⟩, hS.F ht⟩) hS.2.2 dX4_tell_39
