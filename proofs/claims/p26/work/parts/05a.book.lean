abbrev rmX5_curveAt : Room := { frames := 0, cells := 0, slots := 0, locals := 0 }
theorem hiX5_curveAt_5 : ∀ w ∈ wsX50, w ∈ wsX5_curveAt := by decide +kernel
set_option maxHeartbeats 4000000 in
set_option maxRecDepth 100000 in
theorem c_X5_curveAt (l : Launch) (D : va_G) (cA : Nat → ClassId) (ad : Nat → Nat) (w : Nat → Option va_E) (sc : Nat → Int) (fn : Nat → Int → Int) (rk : Int) (hI : bkInv sc fn) (h0 : w 0 = some (oB 5 [.ref (ad 1), .ref (ad 2), .ref (ad 5), .ref (ad 6), .ref (ad 7), .ref (ad 8), .ref (ad 9), .ref (ad 12), .int (iI (sc 0)), .int (iI (sc 4)), .int (iI (sc 2)), .int (iI (sc 3)), .int (iI rk)])) (h1 : w 1 = some (eQ (cA 4) 6 (fun j : Nat => if (j : Int) < sc 0 then some (ad (30 + 3 * j)) else none))) (i : Int) (hi9 : (-2147483648 ≤ i ∧ i < 2147483648)) : Met l yX5_curveAt wsX5_curveAt rmX5_curveAt (gR D cA ad w [.ref (ad 0), .int (iI i)]) (gR0 (fun v9 => (∃ k : Nat, (k : Int) < sc 0 ∧ i = (k : Int) ∧ v9 = some (.ref (ad (30 + 3 * k)))) ∨ (¬ (0 ≤ i ∧ i < sc 0) ∧ v9 = some .null))) 0 0 (fun _ => False) := by
  refine Met.ofW (cc := cX5_curveAt) (maxL := 2) (ret := (some (.object "GaugeBook$Curve"))) (by decide) rfl ?_
  intro p e s m args below meth c s₁ B hml hv
  obtain ⟨hav, hP, hK, hB⟩ := hv
  have hx := B.exec
  have hb := B.bytes
  have hret := B.returns
  have hts := atoms_spec (ws := wsX5_curveAt) B.pre
  have hown : s.vm.findClass RX5 = some m.cls := findClass_of_methodNamed B.named
  have hlocks := B.notSynchronized
  have hS : va_S (fun _ => False) s.heap s.heap [] := va_S.rf
  have hi5 := hiX5_curveAt_5
  have hf11 := hts (.fieldLink RX5 11 "GaugeBook" "curves" "[LGaugeBook$Curve;") (by decide +kernel)
  have hf64 := hts (.fieldLink RX5 64 "GaugeBook" "curveTotal" "I") (by decide +kernel)
  have he9 : entryFrame m args 2 = F0 m 0 ((lg_sl ([.ref (ad 0), .int (iI i)] : List Value) ++ List.replicate (2 - (lg_sl ([.ref (ad 0), .int (iI i)] : List Value)).length) Slot.unset).toArray) [] := by rw [hav, lg_entry_eq]
  rw [he9]
  have hl := lv_entry ([.ref (ad 0), .int (iI i)] : List Value) (n := 2) (Nat.le_of_ble_eq_true rfl)
  generalize (lg_sl ([.ref (ad 0), .int (iI i)] : List Value) ++ List.replicate (2 - (lg_sl ([.ref (ad 0), .int (iI i)] : List Value)).length) Slot.unset).toArray = ls at hl ⊢
  have hl : lv_has ls 2 [(0, .ref (ad 0)), (1, .int (iI i))] := hl
  obtain ⟨Q9, hQ9⟩ : ∃ z, z = MQ below (gR0 (fun v9 => (∃ k : Nat, (k : Int) < sc 0 ∧ i = (k : Int) ∧ v9 = some (.ref (ad (30 + 3 * k)))) ∨ (¬ (0 ≤ i ∧ i < sc 0) ∧ v9 = some .null))) args s 0 0 (fun _ => False) := ⟨_, rfl⟩
  rw [← hQ9]
  show W p l e rmX5_curveAt s m args below meth c s.heap [] 0 0 Q9 (F0 m 0 ls [])
  have hI1 := hI.1
  refine lv_iload_n (pc := 0) hx hb dX5_curveAt_0 rfl (lv_at hl 1 rfl) ?_
  refine k_if_lt (pc := 1) (tgt := 18) hx hb ⟨by omega, by omega⟩ dX5_curveAt_1 (by decide) (fun hc_1 => ?_) (fun hc_1 => ?_)
  · skip
    refine lv_null (pc := 18) hx hb dX5_curveAt_18 ?_
    refine lv_goto (pc := 19) (tgt := 28) hx hb dX5_curveAt_19 (by decide) ?_
    rw [hQ9]
    exact W.aret (v := .null) hx hb hret (Or.inl ⟨_, rfl⟩) (Or.inl rfl) (fun t ht hW => ⟨some (.null), rfl, Or.inr ⟨by omega, rfl⟩, ht⟩) (fun q hq => by cases hq) dX5_curveAt_28
  · skip
    refine lv_iload_n (pc := 4) hx hb dX5_curveAt_4 rfl (lv_at hl 1 rfl) ?_
    refine lv_aload_n (pc := 5) hx hb dX5_curveAt_5 rfl (lv_at hl 0 rfl) ?_
    refine k_get (pc := 6) (ci := 5) (C := RX5) (T := TX5) (N := 13) hx hb hts hi5 hown hK hP 0 h0 rfl 8 (by decide) hf64 (fun _ h9 => h9) rfl dX5_curveAt_6 ?_
    refine k_icmp_ge (pc := 9) (tgt := 18) hx hb ⟨by omega, by omega⟩ ⟨by omega, by omega⟩ dX5_curveAt_9 (by decide) (fun hc_9 => ?_) (fun hc_9 => ?_)
    · skip
      refine lv_null (pc := 18) hx hb dX5_curveAt_18 ?_
      refine lv_goto (pc := 19) (tgt := 28) hx hb dX5_curveAt_19 (by decide) ?_
      rw [hQ9]
      exact W.aret (v := .null) hx hb hret (Or.inl ⟨_, rfl⟩) (Or.inl rfl) (fun t ht hW => ⟨some (.null), rfl, Or.inr ⟨by omega, rfl⟩, ht⟩) (fun q hq => by cases hq) dX5_curveAt_28
    · skip
      refine lv_iload_n (pc := 12) hx hb dX5_curveAt_12 rfl (lv_at hl 1 rfl) ?_
      refine k_bipush (pc := 13) hx hb dX5_curveAt_13 (by decide +kernel) ?_
      refine k_icmp_lt (pc := 15) (tgt := 22) hx hb ⟨by omega, by omega⟩ ⟨by omega, by omega⟩ dX5_curveAt_15 (by decide) (fun hc_15 => ?_) (fun hc_15 => ?_)
      · skip
        refine lv_aload_n (pc := 22) hx hb dX5_curveAt_22 rfl (lv_at hl 0 rfl) ?_
        refine k_get (pc := 23) (ci := 5) (C := RX5) (T := TX5) (N := 13) hx hb hts hi5 hown hK hP 0 h0 rfl 0 (by decide) hf11 (fun _ h9 => h9) rfl dX5_curveAt_23 ?_
        refine lv_iload_n (pc := 26) hx hb dX5_curveAt_26 rfl (lv_at hl 1 rfl) ?_
        refine k_aald (pc := 27) (o := some (ad (30 + 3 * i.toNat))) hx hb hK hP 1 4 h1 rfl (by omega) (by omega) (by omega) (if_pos (show ((i.toNat : Nat) : Int) < sc 0 by omega)) dX5_curveAt_27 ?_
        refine W.eq (g2 := F0 m 28 ls [.ref (ad (30 + 3 * i.toNat))]) rfl ?_
        rw [hQ9]
        exact W.aret (v := .ref (ad (30 + 3 * i.toNat))) hx hb hret (Or.inl ⟨_, rfl⟩) (Or.inr ⟨_, rfl⟩) (fun t ht hW => ⟨some (.ref (ad (30 + 3 * i.toNat))), rfl, Or.inl ⟨i.toNat, by omega, by omega, rfl⟩, ht⟩) (fun q hq => by cases hq) dX5_curveAt_28
      · skip
        exfalso
        omega

abbrev rmX5_curveNumberOn : Room := { frames := 1, cells := 0, slots := 0, locals := 21 }
theorem hiX5_curveNumberOn_0 : ∀ w ∈ wsX00, w ∈ wsX5_curveNumberOn := by decide +kernel
set_option maxHeartbeats 4000000 in
set_option maxRecDepth 100000 in
theorem c_X5_curveNumberOn (l : Launch) (D : va_G) (cA : Nat → ClassId) (ad : Nat → Nat) (w : Nat → Option va_E) (sc : Nat → Int) (fn : Nat → Int → Int) (rk : Int) (hI : bkInv sc fn) (h0 : w 0 = some (oB 5 [.ref (ad 1), .ref (ad 2), .ref (ad 5), .ref (ad 6), .ref (ad 7), .ref (ad 8), .ref (ad 9), .ref (ad 12), .int (iI (sc 0)), .int (iI (sc 4)), .int (iI (sc 2)), .int (iI (sc 3)), .int (iI rk)])) (h1 : w 1 = some (eQ (cA 4) 6 (fun j : Nat => if (j : Int) < sc 0 then some (ad (30 + 3 * j)) else none))) (hcv : ∀ k : Nat, (k : Int) < sc 0 → w (30 + 3 * k) = some (oB 0 [.int (iI (fn 8 (k : Int))), .ref (ad (31 + 3 * k)), .ref (ad (32 + 3 * k)), .int (iI (fn 9 (k : Int)))]) ∧ w (31 + 3 * k) = some (eI (cA 0) 12 (fn (20 + k))) ∧ w (32 + 3 * k) = some (eI (cA 0) 12 (fn (30 + k)))) (d : Int) (hd : 0 ≤ d ∧ d ≤ 399) : Met l yX5_curveNumberOn wsX5_curveNumberOn rmX5_curveNumberOn (gR D cA ad w [.ref (ad 0), .int (iI d)]) (gR0 (fun v9 => ∃ z : Int, v9 = some (.int (iI z)) ∧ z = cvno sc fn d ∧ -1 ≤ z ∧ z < sc 0)) 0 0 (fun _ => False) := by
  refine Met.ofW (cc := cX5_curveNumberOn) (maxL := 6) (ret := (some .int)) (by decide) rfl ?_
  intro p e s m args below meth c s₁ B hml hv
  obtain ⟨hav, hP, hK, hB⟩ := hv
  have hx := B.exec
  have hb := B.bytes
  have hret := B.returns
  have hts := atoms_spec (ws := wsX5_curveNumberOn) B.pre
  have hown : s.vm.findClass RX5 = some m.cls := findClass_of_methodNamed B.named
  have hlocks := B.notSynchronized
  have hS : va_S (fun _ => False) s.heap s.heap [] := va_S.rf
  have hi0 := hiX5_curveNumberOn_0
  have he9 : entryFrame m args 6 = F0 m 0 ((lg_sl ([.ref (ad 0), .int (iI d)] : List Value) ++ List.replicate (6 - (lg_sl ([.ref (ad 0), .int (iI d)] : List Value)).length) Slot.unset).toArray) [] := by rw [hav, lg_entry_eq]
  rw [he9]
  have hl := lv_entry ([.ref (ad 0), .int (iI d)] : List Value) (n := 6) (Nat.le_of_ble_eq_true rfl)
  generalize (lg_sl ([.ref (ad 0), .int (iI d)] : List Value) ++ List.replicate (6 - (lg_sl ([.ref (ad 0), .int (iI d)] : List Value)).length) Slot.unset).toArray = ls at hl ⊢
  have hl : lv_has ls 6 [(0, .ref (ad 0)), (1, .int (iI d))] := hl
  obtain ⟨Q9, hQ9⟩ : ∃ z, z = MQ below (gR0 (fun v9 => ∃ z : Int, v9 = some (.int (iI z)) ∧ z = cvno sc fn d ∧ -1 ≤ z ∧ z < sc 0)) args s 0 0 (fun _ => False) := ⟨_, rfl⟩
  rw [← hQ9]
  show W p l e rmX5_curveNumberOn s m args below meth c s.heap [] 0 0 Q9 (F0 m 0 ls [])
  have hI1 := hI.1
  refine k_iconst (pc := 0) hx hb dX5_curveNumberOn_0 ?_
  refine lv_istore_n (pc := 1) (lv' := [(2, .int (iI (-1))), (0, .ref (ad 0)), (1, .int (iI d))]) hx hb dX5_curveNumberOn_1 rfl hl (by decide) rfl (fun ls hl => ?_)
  refine k_iconst (pc := 2) hx hb dX5_curveNumberOn_2 ?_
  refine lv_istore_n (pc := 3) (lv' := [(3, .int (iI (-1))), (2, .int (iI (-1))), (0, .ref (ad 0)), (1, .int (iI d))]) hx hb dX5_curveNumberOn_3 rfl hl (by decide) rfl (fun ls hl => ?_)
  refine k_iconst (pc := 4) hx hb dX5_curveNumberOn_4 ?_
  refine lv_istore (pc := 5) (lv' := [(4, .int (iI 0)), (3, .int (iI (-1))), (2, .int (iI (-1))), (0, .ref (ad 0)), (1, .int (iI d))]) hx hb dX5_curveNumberOn_5 hl (by decide) rfl (fun ls hl => ?_)
  have lp_7 : ∀ (N9 : Nat) (i : Int) (b : Int) (e_ : Int), (0 ≤ i ∧ i ≤ 6) → (b = cnoF (fn 8) d (min i (sc 0)).toNat) → ((b = -1 ∧ e_ = -1) ∨ (0 ≤ b ∧ b < i ∧ b < sc 0 ∧ e_ = fn 8 b)) → (-1 ≤ e_ ∧ e_ ≤ 399) → (6 - i).toNat < N9 → ∀ (ls : Array Slot), lv_has ls 6 [(4, .int (iI i)), (3, .int (iI e_)), (2, .int (iI b)), (0, .ref (ad 0)), (1, .int (iI d))] → W p l e rmX5_curveNumberOn s m args below meth c s.heap [] 0 0 Q9 (F0 m 7 ls []) := by
    intro N9
    induction N9 with
    | zero => intro i b e_ i0 iC iE iR hmu; exact absurd hmu (Nat.not_lt_zero _)
    | succ N9 ih_7 =>
      intro i b e_ i0 iC iE iR hmu_7 ls hl
      refine lv_iload (pc := 7) hx hb dX5_curveNumberOn_7 (lv_at hl 0 rfl) ?_
      refine k_bipush (pc := 9) hx hb dX5_curveNumberOn_9 (by decide +kernel) ?_
      refine k_icmp_ge (pc := 11) (tgt := 60) hx hb ⟨by omega, by omega⟩ ⟨by omega, by omega⟩ dX5_curveNumberOn_11 (by decide) (fun hc_11 => ?_) (fun hc_11 => ?_)
      · skip
        refine lv_iload_n (pc := 60) hx hb dX5_curveNumberOn_60 rfl (lv_at hl 2 rfl) ?_
        rw [hQ9]
        exact W.iret (v := iI b) hx hb hret (fun t ht hW => ⟨some (.int (iI b)), rfl, ⟨b, rfl, ⟨by rw [iC, show min i (sc 0) = sc 0 by omega]; rfl, by omega, by omega⟩⟩, ht⟩) (fun q hq => by cases hq) dX5_curveNumberOn_61
      · skip
        refine lv_aload_n (pc := 14) hx hb dX5_curveNumberOn_14 rfl (lv_at hl 3 rfl) ?_
        refine lv_iload (pc := 15) hx hb dX5_curveNumberOn_15 (lv_at hl 0 rfl) ?_
        refine k_call0 (pc := 17) (va_runV (As := [.int (iI i)]) (rest := []) ⟨hx, hb, hml, hown, hts⟩ (c_X5_curveAt l D cA ad w sc fn rk hI h0 h1 i ⟨by omega, by omega⟩) (cwV 1 hts gX5_curveNumberOn_X5_curveAt rfl rfl rfl (by decide +kernel) ⟨Nat.le_of_ble_eq_true rfl, Nat.le_of_ble_eq_true rfl⟩) (gR_V hP hK hB 0 (ci := 5) rfl h0) rfl rfl hl.1 rfl (lv_room (Nat.le_of_ble_eq_true rfl)) dX5_curveNumberOn_17 ⟨Nat.le_of_ble_eq_true rfl, Nat.le_of_ble_eq_true rfl⟩) (fun v_17 hv_17 => ?_)
        rcases hv_17 with ⟨k_17, hk_17, he_17, hv_17⟩ | ⟨he_17, hv_17⟩
        · skip
          subst hv_17
          refine W.eq (g2 := F0 m 20 ls [.ref (ad (30 + 3 * k_17))]) rfl ?_
          refine lv_astore (pc := 20) (lv' := [(5, .ref (ad (30 + 3 * k_17))), (4, .int (iI i)), (3, .int (iI e_)), (2, .int (iI b)), (0, .ref (ad 0)), (1, .int (iI d))]) hx hb dX5_curveNumberOn_20 hl (by decide) rfl (fun ls hl => ?_)
          refine lv_aload (pc := 22) hx hb dX5_curveNumberOn_22 (lv_at hl 0 rfl) ?_
          refine lv_ifnull (pc := 24) hx hb dX5_curveNumberOn_24 ?_
          refine lv_aload (pc := 27) hx hb dX5_curveNumberOn_27 (lv_at hl 0 rfl) ?_
          have b8_ := hI.2.2.2.2.2.2.2.2.1 (k_17 : Int)
          refine k_getN (pc := 29) (ci := 0) (C := RX0) (T := TX0) (N := 4) hx hb hts hi0 hown hK hP (30 + 3 * k_17) (hcv k_17 hk_17).1 rfl 0 (by decide) (nu_269 hB) (fun _ h9 => h9) rfl dX5_curveNumberOn_29 ?_
          refine lv_iload_n (pc := 32) hx hb dX5_curveNumberOn_32 rfl (lv_at hl 5 rfl) ?_
          refine k_icmp_gt (pc := 33) (tgt := 54) hx hb ⟨by omega, by omega⟩ ⟨by omega, by omega⟩ dX5_curveNumberOn_33 (by decide) (fun hc_33 => ?_) (fun hc_33 => ?_)
          · skip
            refine lv_iinc (pc := 54) (v := iI (i + 1)) (lv' := [(4, .int (iI (i + 1))), (5, .ref (ad (30 + 3 * k_17))), (3, .int (iI e_)), (2, .int (iI b)), (0, .ref (ad 0)), (1, .int (iI d))]) hx hb dX5_curveNumberOn_54 hl (k := 1) rfl (iI_add _ _) (by decide) rfl (fun ls hl => ?_)
            refine lv_goto (pc := 57) (tgt := 7) hx hb dX5_curveNumberOn_57 (by decide) ?_
            have e9_ : fn 8 (k_17 : Int) = fn 8 i := by rw [he_17]
            have q9_ := cn_step (cday := fn 8) (d := d) (i := i) (cn := sc 0) i0.1 (by omega) iC iE (by omega)
            exact ih_7 (i + 1) b e_ (by omega) (q9_.2 (by omega)) (by omega) (by omega) (by omega) ls (lv_sub hl [0, 2, 3, 4, 5] rfl)
          · skip
            refine lv_aload (pc := 36) hx hb dX5_curveNumberOn_36 (lv_at hl 0 rfl) ?_
            refine k_getN (pc := 38) (ci := 0) (C := RX0) (T := TX0) (N := 4) hx hb hts hi0 hown hK hP (30 + 3 * k_17) (hcv k_17 hk_17).1 rfl 0 (by decide) (nu_269 hB) (fun _ h9 => h9) rfl dX5_curveNumberOn_38 ?_
            refine lv_iload_n (pc := 41) hx hb dX5_curveNumberOn_41 rfl (lv_at hl 2 rfl) ?_
            refine k_icmp_le (pc := 42) (tgt := 54) hx hb ⟨by omega, by omega⟩ ⟨by omega, by omega⟩ dX5_curveNumberOn_42 (by decide) (fun hc_42 => ?_) (fun hc_42 => ?_)
            · skip
              refine lv_iinc (pc := 54) (v := iI (i + 1)) (lv' := [(4, .int (iI (i + 1))), (5, .ref (ad (30 + 3 * k_17))), (3, .int (iI e_)), (2, .int (iI b)), (0, .ref (ad 0)), (1, .int (iI d))]) hx hb dX5_curveNumberOn_54 hl (k := 1) rfl (iI_add _ _) (by decide) rfl (fun ls hl => ?_)
              refine lv_goto (pc := 57) (tgt := 7) hx hb dX5_curveNumberOn_57 (by decide) ?_
              have e9_ : fn 8 (k_17 : Int) = fn 8 i := by rw [he_17]
              have q9_ := cn_step (cday := fn 8) (d := d) (i := i) (cn := sc 0) i0.1 (by omega) iC iE (by omega)
              exact ih_7 (i + 1) b e_ (by omega) (q9_.2 (by omega)) (by omega) (by omega) (by omega) ls (lv_sub hl [0, 2, 3, 4, 5] rfl)
            · skip
              refine lv_iload (pc := 45) hx hb dX5_curveNumberOn_45 (lv_at hl 1 rfl) ?_
              refine lv_istore_n (pc := 47) (lv' := [(2, .int (iI i)), (5, .ref (ad (30 + 3 * k_17))), (4, .int (iI i)), (3, .int (iI e_)), (0, .ref (ad 0)), (1, .int (iI d))]) hx hb dX5_curveNumberOn_47 rfl hl (by decide) rfl (fun ls hl => ?_)
              refine lv_aload (pc := 48) hx hb dX5_curveNumberOn_48 (lv_at hl 1 rfl) ?_
              refine k_getN (pc := 50) (ci := 0) (C := RX0) (T := TX0) (N := 4) hx hb hts hi0 hown hK hP (30 + 3 * k_17) (hcv k_17 hk_17).1 rfl 0 (by decide) (nu_269 hB) (fun _ h9 => h9) rfl dX5_curveNumberOn_50 ?_
              refine lv_istore_n (pc := 53) (lv' := [(3, .int (iI (fn 8 (k_17 : Int)))), (2, .int (iI i)), (5, .ref (ad (30 + 3 * k_17))), (4, .int (iI i)), (0, .ref (ad 0)), (1, .int (iI d))]) hx hb dX5_curveNumberOn_53 rfl hl (by decide) rfl (fun ls hl => ?_)
              refine lv_iinc (pc := 54) (v := iI (i + 1)) (lv' := [(4, .int (iI (i + 1))), (3, .int (iI (fn 8 (k_17 : Int)))), (2, .int (iI i)), (5, .ref (ad (30 + 3 * k_17))), (0, .ref (ad 0)), (1, .int (iI d))]) hx hb dX5_curveNumberOn_54 hl (k := 3) rfl (iI_add _ _) (by decide) rfl (fun ls hl => ?_)
              refine lv_goto (pc := 57) (tgt := 7) hx hb dX5_curveNumberOn_57 (by decide) ?_
              have e9_ : fn 8 (k_17 : Int) = fn 8 i := by rw [he_17]
              have q9_ := cn_step (cday := fn 8) (d := d) (i := i) (cn := sc 0) i0.1 (by omega) iC iE (by omega)
              exact ih_7 (i + 1) i (fn 8 (k_17 : Int)) (by omega) (q9_.1 (by omega) (by omega)) (Or.inr ⟨by omega, by omega, by omega, e9_⟩) (by omega) (by omega) ls (lv_sub hl [0, 1, 2, 4, 5] rfl)
        · skip
          subst hv_17
          refine W.eq (g2 := F0 m 20 ls [.null]) rfl ?_
          refine lv_astoreN (pc := 20) (lv' := [(5, .null), (4, .int (iI i)), (3, .int (iI e_)), (2, .int (iI b)), (0, .ref (ad 0)), (1, .int (iI d))]) hx hb dX5_curveNumberOn_20 hl (by decide) rfl (fun ls hl => ?_)
          refine lv_aloadN (pc := 22) hx hb dX5_curveNumberOn_22 (lv_at hl 0 rfl) ?_
          refine lv_ifnullN (pc := 24) (tgt := 54) hx hb dX5_curveNumberOn_24 (by decide) ?_
          refine lv_iinc (pc := 54) (v := iI (i + 1)) (lv' := [(4, .int (iI (i + 1))), (5, .null), (3, .int (iI e_)), (2, .int (iI b)), (0, .ref (ad 0)), (1, .int (iI d))]) hx hb dX5_curveNumberOn_54 hl (k := 1) rfl (iI_add _ _) (by decide) rfl (fun ls hl => ?_)
          refine lv_goto (pc := 57) (tgt := 7) hx hb dX5_curveNumberOn_57 (by decide) ?_
          exact ih_7 (i + 1) b e_ (by omega) (by rw [show min (i + 1) (sc 0) = min i (sc 0) by omega]; exact iC) (by omega) (by omega) (by omega) ls (lv_sub hl [0, 2, 3, 4, 5] rfl)
  exact lp_7 _ 0 (-1) (-1) (by omega) (by rw [show min 0 (sc 0) = 0 by omega]; rfl) (by omega) (by omega) (Nat.lt_succ_self _) ls (lv_sub hl [0, 1, 2, 3, 4] rfl)

abbrev rmX5_completeCurveOn : Room := { frames := 2, cells := 0, slots := 0, locals := 46 }
set_option maxHeartbeats 4000000 in
set_option maxRecDepth 100000 in
theorem c_X5_completeCurveOn (l : Launch) (D : va_G) (cA : Nat → ClassId) (ad : Nat → Nat) (w : Nat → Option va_E) (sc : Nat → Int) (fn : Nat → Int → Int) (rk : Int) (hI : bkInv sc fn) (h0 : w 0 = some (oB 5 [.ref (ad 1), .ref (ad 2), .ref (ad 5), .ref (ad 6), .ref (ad 7), .ref (ad 8), .ref (ad 9), .ref (ad 12), .int (iI (sc 0)), .int (iI (sc 4)), .int (iI (sc 2)), .int (iI (sc 3)), .int (iI rk)])) (h1 : w 1 = some (eQ (cA 4) 6 (fun j : Nat => if (j : Int) < sc 0 then some (ad (30 + 3 * j)) else none))) (hcv : ∀ k : Nat, (k : Int) < sc 0 → w (30 + 3 * k) = some (oB 0 [.int (iI (fn 8 (k : Int))), .ref (ad (31 + 3 * k)), .ref (ad (32 + 3 * k)), .int (iI (fn 9 (k : Int)))]) ∧ w (31 + 3 * k) = some (eI (cA 0) 12 (fn (20 + k))) ∧ w (32 + 3 * k) = some (eI (cA 0) 12 (fn (30 + k)))) (d : Int) (hd : 0 ≤ d ∧ d ≤ 399) : Met l yX5_completeCurveOn wsX5_completeCurveOn rmX5_completeCurveOn (gR D cA ad w [.ref (ad 0), .int (iI d)]) (gR0 (fun v9 => (∃ k : Nat, (k : Int) < sc 0 ∧ cvno sc fn d = (k : Int) ∧ 2 ≤ fn 9 (k : Int) ∧ v9 = some (.ref (ad (30 + 3 * k)))) ∨ (¬ (cvno sc fn d ≠ -1 ∧ 2 ≤ fn 9 (cvno sc fn d)) ∧ v9 = some .null))) 0 0 (fun _ => False) := by
  refine Met.ofW (cc := cX5_completeCurveOn) (maxL := 3) (ret := (some (.object "GaugeBook$Curve"))) (by decide) rfl ?_
  intro p e s m args below meth c s₁ B hml hv
  obtain ⟨hav, hP, hK, hB⟩ := hv
  have hx := B.exec
  have hb := B.bytes
  have hret := B.returns
  have hts := atoms_spec (ws := wsX5_completeCurveOn) B.pre
  have hown : s.vm.findClass RX5 = some m.cls := findClass_of_methodNamed B.named
  have hlocks := B.notSynchronized
  have hS : va_S (fun _ => False) s.heap s.heap [] := va_S.rf
  have he9 : entryFrame m args 3 = F0 m 0 ((lg_sl ([.ref (ad 0), .int (iI d)] : List Value) ++ List.replicate (3 - (lg_sl ([.ref (ad 0), .int (iI d)] : List Value)).length) Slot.unset).toArray) [] := by rw [hav, lg_entry_eq]
  rw [he9]
  have hl := lv_entry ([.ref (ad 0), .int (iI d)] : List Value) (n := 3) (Nat.le_of_ble_eq_true rfl)
  generalize (lg_sl ([.ref (ad 0), .int (iI d)] : List Value) ++ List.replicate (3 - (lg_sl ([.ref (ad 0), .int (iI d)] : List Value)).length) Slot.unset).toArray = ls at hl ⊢
  have hl : lv_has ls 3 [(0, .ref (ad 0)), (1, .int (iI d))] := hl
  obtain ⟨Q9, hQ9⟩ : ∃ z, z = MQ below (gR0 (fun v9 => (∃ k : Nat, (k : Int) < sc 0 ∧ cvno sc fn d = (k : Int) ∧ 2 ≤ fn 9 (k : Int) ∧ v9 = some (.ref (ad (30 + 3 * k)))) ∨ (¬ (cvno sc fn d ≠ -1 ∧ 2 ≤ fn 9 (cvno sc fn d)) ∧ v9 = some .null))) args s 0 0 (fun _ => False) := ⟨_, rfl⟩
  rw [← hQ9]
  show W p l e rmX5_completeCurveOn s m args below meth c s.heap [] 0 0 Q9 (F0 m 0 ls [])
  have hI1 := hI.1
  refine lv_aload_n (pc := 0) hx hb dX5_completeCurveOn_0 rfl (lv_at hl 0 rfl) ?_
  refine lv_aload_n (pc := 1) hx hb dX5_completeCurveOn_1 rfl (lv_at hl 0 rfl) ?_
  refine lv_iload_n (pc := 2) hx hb dX5_completeCurveOn_2 rfl (lv_at hl 1 rfl) ?_
  refine k_call0 (pc := 3) (va_runV (As := [.int (iI d)]) (rest := [.ref (ad 0)]) ⟨hx, hb, hml, hown, hts⟩ (c_X5_curveNumberOn l D cA ad w sc fn rk hI h0 h1 hcv d ⟨by omega, by omega⟩) (cwV 1 hts gX5_completeCurveOn_X5_curveNumberOn rfl rfl rfl (by decide +kernel) ⟨Nat.le_of_ble_eq_true rfl, Nat.le_of_ble_eq_true rfl⟩) (gR_V hP hK hB 0 (ci := 5) rfl h0) rfl rfl hl.1 rfl (lv_room (Nat.le_of_ble_eq_true rfl)) dX5_completeCurveOn_3 ⟨Nat.le_of_ble_eq_true rfl, Nat.le_of_ble_eq_true rfl⟩) (fun v_3 hv_3 => ?_)
  obtain ⟨z_3, rfl, hz_3, hy_3, hw_3⟩ := hv_3
  refine W.eq (g2 := F0 m 6 ls [.int (iI z_3), .ref (ad 0)]) rfl ?_
  refine k_call0 (pc := 6) (va_runV (As := [.int (iI z_3)]) (rest := []) ⟨hx, hb, hml, hown, hts⟩ (c_X5_curveAt l D cA ad w sc fn rk hI h0 h1 z_3 ⟨by omega, by omega⟩) (cwV 1 hts gX5_completeCurveOn_X5_curveAt rfl rfl rfl (by decide +kernel) ⟨Nat.le_of_ble_eq_true rfl, Nat.le_of_ble_eq_true rfl⟩) (gR_V hP hK hB 0 (ci := 5) rfl h0) rfl rfl hl.1 rfl (lv_room (Nat.le_of_ble_eq_true rfl)) dX5_completeCurveOn_6 ⟨Nat.le_of_ble_eq_true rfl, Nat.le_of_ble_eq_true rfl⟩) (fun v_6 hv_6 => ?_)
  rcases hv_6 with ⟨k_6, hk_6, he_6, hv_6⟩ | ⟨he_6, hv_6⟩
  · skip
    subst hv_6
    refine W.eq (g2 := F0 m 9 ls [.ref (ad (30 + 3 * k_6))]) rfl ?_
    refine lv_astore_n (pc := 9) (lv' := [(2, .ref (ad (30 + 3 * k_6))), (0, .ref (ad 0)), (1, .int (iI d))]) hx hb dX5_completeCurveOn_9 rfl hl (by decide) rfl (fun ls hl => ?_)
    refine lv_aload_n (pc := 10) hx hb dX5_completeCurveOn_10 rfl (lv_at hl 0 rfl) ?_
    refine lv_ifnull (pc := 11) hx hb dX5_completeCurveOn_11 ?_
    refine lv_aload_n (pc := 14) hx hb dX5_completeCurveOn_14 rfl (lv_at hl 0 rfl) ?_
    refine k_call0 (pc := 15) (va_runV (As := []) (rest := []) ⟨hx, hb, hml, hown, hts⟩ (c_X0_isComplete l D cA ad w (30 + 3 * k_6) (31 + 3 * k_6) (32 + 3 * k_6) (fn 8 (k_6 : Int)) (fn 9 (k_6 : Int)) (fn (20 + k_6)) (fn (30 + k_6)) (hcv k_6 hk_6).1 (hcv k_6 hk_6).2.1 (hcv k_6 hk_6).2.2 (by have h9_ := hI.2.2.2.2.2.2.2.2.2.1 (k_6 : Int); omega) (hI.2.2.2.2.2.2.2.2.2.2 k_6 hk_6)) (cwV 0 hts gX5_completeCurveOn_X0_isComplete rfl rfl rfl (by decide +kernel) ⟨Nat.le_of_ble_eq_true rfl, Nat.le_of_ble_eq_true rfl⟩) (gR_V hP hK hB (30 + 3 * k_6) (ci := 0) rfl (hcv k_6 hk_6).1) rfl rfl hl.1 rfl (lv_room (Nat.le_of_ble_eq_true rfl)) dX5_completeCurveOn_15 ⟨Nat.le_of_ble_eq_true rfl, Nat.le_of_ble_eq_true rfl⟩) (fun v_15 hv_15 => ?_)
    obtain ⟨z_15, rfl, hz_15⟩ := hv_15
    refine W.eq (g2 := F0 m 18 ls [.int (iI z_15)]) rfl ?_
    refine k_if_eq (pc := 18) (tgt := 25) hx hb ⟨by omega, by omega⟩ dX5_completeCurveOn_18 (by decide) (fun hc_18 => ?_) (fun hc_18 => ?_)
    · skip
      refine lv_null (pc := 25) hx hb dX5_completeCurveOn_25 ?_
      rw [hQ9]
      exact W.aret (v := .null) hx hb hret (Or.inl ⟨_, rfl⟩) (Or.inl rfl) (fun t ht hW => ⟨some (.null), rfl, (by refine Or.inr ⟨fun z => ?_, rfl⟩; first | omega | (rw [← hz_3, he_6] at z; omega)), ht⟩) (fun q hq => by cases hq) dX5_completeCurveOn_26
    · skip
      refine lv_aload_n (pc := 21) hx hb dX5_completeCurveOn_21 rfl (lv_at hl 0 rfl) ?_
      refine lv_goto (pc := 22) (tgt := 26) hx hb dX5_completeCurveOn_22 (by decide) ?_
      rw [hQ9]
      exact W.aret (v := .ref (ad (30 + 3 * k_6))) hx hb hret (Or.inl ⟨_, rfl⟩) (Or.inr ⟨_, rfl⟩) (fun t ht hW => ⟨some (.ref (ad (30 + 3 * k_6))), rfl, Or.inl ⟨k_6, hk_6, by omega, by omega, rfl⟩, ht⟩) (fun q hq => by cases hq) dX5_completeCurveOn_26
  · skip
    subst hv_6
    refine W.eq (g2 := F0 m 9 ls [.null]) rfl ?_
    refine lv_astore_nN (pc := 9) (lv' := [(2, .null), (0, .ref (ad 0)), (1, .int (iI d))]) hx hb dX5_completeCurveOn_9 rfl hl (by decide) rfl (fun ls hl => ?_)
    refine lv_aload_nN (pc := 10) hx hb dX5_completeCurveOn_10 rfl (lv_at hl 0 rfl) ?_
    refine lv_ifnullN (pc := 11) (tgt := 25) hx hb dX5_completeCurveOn_11 (by decide) ?_
    refine lv_null (pc := 25) hx hb dX5_completeCurveOn_25 ?_
    rw [hQ9]
    exact W.aret (v := .null) hx hb hret (Or.inl ⟨_, rfl⟩) (Or.inl rfl) (fun t ht hW => ⟨some (.null), rfl, (by refine Or.inr ⟨fun z => ?_, rfl⟩; first | omega | (rw [← hz_3, he_6] at z; omega)), ht⟩) (fun q hq => by cases hq) dX5_completeCurveOn_26

abbrev rmX5_hasCurveFrom : Room := { frames := 2, cells := 0, slots := 0, locals := 46 }
theorem hiX5_hasCurveFrom_0 : ∀ w ∈ wsX00, w ∈ wsX5_hasCurveFrom := by decide +kernel
set_option maxHeartbeats 4000000 in
set_option maxRecDepth 100000 in
theorem c_X5_hasCurveFrom (l : Launch) (D : va_G) (cA : Nat → ClassId) (ad : Nat → Nat) (w : Nat → Option va_E) (sc : Nat → Int) (fn : Nat → Int → Int) (rk : Int) (hI : bkInv sc fn) (h0 : w 0 = some (oB 5 [.ref (ad 1), .ref (ad 2), .ref (ad 5), .ref (ad 6), .ref (ad 7), .ref (ad 8), .ref (ad 9), .ref (ad 12), .int (iI (sc 0)), .int (iI (sc 4)), .int (iI (sc 2)), .int (iI (sc 3)), .int (iI rk)])) (h1 : w 1 = some (eQ (cA 4) 6 (fun j : Nat => if (j : Int) < sc 0 then some (ad (30 + 3 * j)) else none))) (hcv : ∀ k : Nat, (k : Int) < sc 0 → w (30 + 3 * k) = some (oB 0 [.int (iI (fn 8 (k : Int))), .ref (ad (31 + 3 * k)), .ref (ad (32 + 3 * k)), .int (iI (fn 9 (k : Int)))]) ∧ w (31 + 3 * k) = some (eI (cA 0) 12 (fn (20 + k))) ∧ w (32 + 3 * k) = some (eI (cA 0) 12 (fn (30 + k)))) (d : Int) (hd : 0 ≤ d ∧ d ≤ 399) : Met l yX5_hasCurveFrom wsX5_hasCurveFrom rmX5_hasCurveFrom (gR D cA ad w [.ref (ad 0), .int (iI d)]) (gR0 (fun v9 => ∃ z : Int, v9 = some (.int (iI z)) ∧ ((z = 1 ∧ ∃ j : Int, 0 ≤ j ∧ j < sc 0 ∧ fn 8 j = d) ∨ (z = 0 ∧ ∀ j : Int, 0 ≤ j → j < sc 0 → fn 8 j ≠ d)))) 0 0 (fun _ => False) := by
  refine Met.ofW (cc := cX5_hasCurveFrom) (maxL := 3) (ret := (some .boolean)) (by decide) rfl ?_
  intro p e s m args below meth c s₁ B hml hv
  obtain ⟨hav, hP, hK, hB⟩ := hv
  have hx := B.exec
  have hb := B.bytes
  have hret := B.returns
  have hts := atoms_spec (ws := wsX5_hasCurveFrom) B.pre
  have hown : s.vm.findClass RX5 = some m.cls := findClass_of_methodNamed B.named
  have hlocks := B.notSynchronized
  have hS : va_S (fun _ => False) s.heap s.heap [] := va_S.rf
  have hi0 := hiX5_hasCurveFrom_0
  have he9 : entryFrame m args 3 = F0 m 0 ((lg_sl ([.ref (ad 0), .int (iI d)] : List Value) ++ List.replicate (3 - (lg_sl ([.ref (ad 0), .int (iI d)] : List Value)).length) Slot.unset).toArray) [] := by rw [hav, lg_entry_eq]
  rw [he9]
  have hl := lv_entry ([.ref (ad 0), .int (iI d)] : List Value) (n := 3) (Nat.le_of_ble_eq_true rfl)
  generalize (lg_sl ([.ref (ad 0), .int (iI d)] : List Value) ++ List.replicate (3 - (lg_sl ([.ref (ad 0), .int (iI d)] : List Value)).length) Slot.unset).toArray = ls at hl ⊢
  have hl : lv_has ls 3 [(0, .ref (ad 0)), (1, .int (iI d))] := hl
  obtain ⟨Q9, hQ9⟩ : ∃ z, z = MQ below (gR0 (fun v9 => ∃ z : Int, v9 = some (.int (iI z)) ∧ ((z = 1 ∧ ∃ j : Int, 0 ≤ j ∧ j < sc 0 ∧ fn 8 j = d) ∨ (z = 0 ∧ ∀ j : Int, 0 ≤ j → j < sc 0 → fn 8 j ≠ d)))) args s 0 0 (fun _ => False) := ⟨_, rfl⟩
  rw [← hQ9]
  show W p l e rmX5_hasCurveFrom s m args below meth c s.heap [] 0 0 Q9 (F0 m 0 ls [])
  have hI1 := hI.1
  have hsp := cnoF_sp (fn 8) d (sc 0).toNat
  have hbb := cnoF_b (fn 8) d (sc 0).toNat
  refine lv_aload_n (pc := 0) hx hb dX5_hasCurveFrom_0 rfl (lv_at hl 0 rfl) ?_
  refine lv_aload_n (pc := 1) hx hb dX5_hasCurveFrom_1 rfl (lv_at hl 0 rfl) ?_
  refine lv_iload_n (pc := 2) hx hb dX5_hasCurveFrom_2 rfl (lv_at hl 1 rfl) ?_
  refine k_call0 (pc := 3) (va_runV (As := [.int (iI d)]) (rest := [.ref (ad 0)]) ⟨hx, hb, hml, hown, hts⟩ (c_X5_curveNumberOn l D cA ad w sc fn rk hI h0 h1 hcv d ⟨by omega, by omega⟩) (cwV 1 hts gX5_hasCurveFrom_X5_curveNumberOn rfl rfl rfl (by decide +kernel) ⟨Nat.le_of_ble_eq_true rfl, Nat.le_of_ble_eq_true rfl⟩) (gR_V hP hK hB 0 (ci := 5) rfl h0) rfl rfl hl.1 rfl (lv_room (Nat.le_of_ble_eq_true rfl)) dX5_hasCurveFrom_3 ⟨Nat.le_of_ble_eq_true rfl, Nat.le_of_ble_eq_true rfl⟩) (fun v_3 hv_3 => ?_)
  obtain ⟨z_3, rfl, hz_3, hy_3, hw_3⟩ := hv_3
  refine W.eq (g2 := F0 m 6 ls [.int (iI z_3), .ref (ad 0)]) rfl ?_
  refine k_call0 (pc := 6) (va_runV (As := [.int (iI z_3)]) (rest := []) ⟨hx, hb, hml, hown, hts⟩ (c_X5_curveAt l D cA ad w sc fn rk hI h0 h1 z_3 ⟨by omega, by omega⟩) (cwV 1 hts gX5_hasCurveFrom_X5_curveAt rfl rfl rfl (by decide +kernel) ⟨Nat.le_of_ble_eq_true rfl, Nat.le_of_ble_eq_true rfl⟩) (gR_V hP hK hB 0 (ci := 5) rfl h0) rfl rfl hl.1 rfl (lv_room (Nat.le_of_ble_eq_true rfl)) dX5_hasCurveFrom_6 ⟨Nat.le_of_ble_eq_true rfl, Nat.le_of_ble_eq_true rfl⟩) (fun v_6 hv_6 => ?_)
  rcases hv_6 with ⟨k_6, hk_6, he_6, hv_6⟩ | ⟨he_6, hv_6⟩
  · skip
    subst hv_6
    refine W.eq (g2 := F0 m 9 ls [.ref (ad (30 + 3 * k_6))]) rfl ?_
    refine lv_astore_n (pc := 9) (lv' := [(2, .ref (ad (30 + 3 * k_6))), (0, .ref (ad 0)), (1, .int (iI d))]) hx hb dX5_hasCurveFrom_9 rfl hl (by decide) rfl (fun ls hl => ?_)
    refine lv_aload_n (pc := 10) hx hb dX5_hasCurveFrom_10 rfl (lv_at hl 0 rfl) ?_
    refine lv_ifnull (pc := 11) hx hb dX5_hasCurveFrom_11 ?_
    refine lv_aload_n (pc := 14) hx hb dX5_hasCurveFrom_14 rfl (lv_at hl 0 rfl) ?_
    have b8_ := hI.2.2.2.2.2.2.2.2.1 (k_6 : Int)
    refine k_getN (pc := 15) (ci := 0) (C := RX0) (T := TX0) (N := 4) hx hb hts hi0 hown hK hP (30 + 3 * k_6) (hcv k_6 hk_6).1 rfl 0 (by decide) (nu_269 hB) (fun _ h9 => h9) rfl dX5_hasCurveFrom_15 ?_
    refine lv_iload_n (pc := 18) hx hb dX5_hasCurveFrom_18 rfl (lv_at hl 2 rfl) ?_
    refine k_icmp_ne (pc := 19) (tgt := 26) hx hb ⟨by omega, by omega⟩ ⟨by omega, by omega⟩ dX5_hasCurveFrom_19 (by decide) (fun hc_19 => ?_) (fun hc_19 => ?_)
    · skip
      refine k_iconst (pc := 26) hx hb dX5_hasCurveFrom_26 ?_
      have q1 : cnoF (fn 8) d (sc 0).toNat = z_3 := hz_3.symm
      rw [q1] at hsp hbb
      rw [hQ9]
      exact W.zret (v := iI 0) hx hb hret (by decide +kernel) (fun t ht hW => ⟨some (.int (iI 0)), rfl, ⟨0, rfl, Or.inr ⟨rfl, fun j g1 g2 g3 => by rcases hsp with ⟨s1, s2⟩ | ⟨s1, s2, s3⟩; have := s2 j g1 (by omega); omega; have := s3 j g1 (by omega) (by omega); first | omega | (rw [he_6] at this s2; omega)⟩⟩, ht⟩) (fun q hq => by cases hq) dX5_hasCurveFrom_27
    · skip
      refine k_iconst (pc := 22) hx hb dX5_hasCurveFrom_22 ?_
      refine lv_goto (pc := 23) (tgt := 27) hx hb dX5_hasCurveFrom_23 (by decide) ?_
      rw [hQ9]
      exact W.zret (v := iI 1) hx hb hret (by decide +kernel) (fun t ht hW => ⟨some (.int (iI 1)), rfl, ⟨1, rfl, Or.inl ⟨rfl, (k_6 : Int), by omega, hk_6, by omega⟩⟩, ht⟩) (fun q hq => by cases hq) dX5_hasCurveFrom_27
  · skip
    subst hv_6
    refine W.eq (g2 := F0 m 9 ls [.null]) rfl ?_
    refine lv_astore_nN (pc := 9) (lv' := [(2, .null), (0, .ref (ad 0)), (1, .int (iI d))]) hx hb dX5_hasCurveFrom_9 rfl hl (by decide) rfl (fun ls hl => ?_)
    refine lv_aload_nN (pc := 10) hx hb dX5_hasCurveFrom_10 rfl (lv_at hl 0 rfl) ?_
    refine lv_ifnullN (pc := 11) (tgt := 26) hx hb dX5_hasCurveFrom_11 (by decide) ?_
    refine k_iconst (pc := 26) hx hb dX5_hasCurveFrom_26 ?_
    have q1 : cnoF (fn 8) d (sc 0).toNat = z_3 := hz_3.symm
    rw [q1] at hsp hbb
    rw [hQ9]
    exact W.zret (v := iI 0) hx hb hret (by decide +kernel) (fun t ht hW => ⟨some (.int (iI 0)), rfl, ⟨0, rfl, Or.inr ⟨rfl, fun j g1 g2 g3 => by rcases hsp with ⟨s1, s2⟩ | ⟨s1, s2, s3⟩; have := s2 j g1 (by omega); omega; have := s3 j g1 (by omega) (by omega); first | omega | (rw [he_6] at this s2; omega)⟩⟩, ht⟩) (fun q hq => by cases hq) dX5_hasCurveFrom_27
