abbrev rmX5_erase_b : Room := { frames := 2, cells := 0, slots := 0, locals := 41 }
theorem hiX5_erase_b_5 : ∀ w ∈ wsX50, w ∈ wsX5_erase := by decide +kernel
set_option maxHeartbeats 4000000 in
set_option maxRecDepth 100000 in
theorem c_X5_erase_b (l : Launch) (D : va_G) (cA : Nat → ClassId) (ad : Nat → Nat) (w : Nat → Option va_E) (sz : Nat) (sc : Nat → Int) (fn : Nat → Int → Int) (hI : bkInv sc fn) (hbk : bookS cA ad w sc fn) (d n : Int) (hd : (-2147483648 ≤ d ∧ d < 2147483648)) (hn : (-2147483648 ≤ n ∧ n < 2147483648)) (hok : (0 ≤ d ∧ d < 400 ∧ 1 ≤ n ∧ d + n ≤ 400)) : Met l yX5_erase wsX5_erase rmX5_erase_b (gV D cA ad w sz [.ref (ad 0), .int (iI d), .int (iI n)]) (gW D (fun v9 ad1 w1 => ∃ (sc2 : Nat → Int) (fn2 : Nat → Int → Int), bookS cA ad1 w1 sc2 fn2 ∧ bkInv sc2 fn2 ∧ keepR ad ad1 w w1 ∧ (sc2 = sc ∧ fn2 = (upF fn 3 (spanF (fn 3) d n (fun _ => 0))) ∧ (0 ≤ d ∧ d < 400 ∧ 1 ≤ n ∧ d + n ≤ 400) ∧ v9 = some (.int (iI (cntT (fn 3) d n.toNat))))) (gA ad w sz)) 0 0 (gA ad w sz) := by
  refine Met.ofW (cc := cX5_erase) (maxL := 5) (ret := (some .int)) (by decide) rfl ?_
  intro p e s m args below meth c s₁ B hml hv
  obtain ⟨hav, hsz, hP, hD0, hK, hB, hZ⟩ := hv
  have hx := B.exec
  have hb := B.bytes
  have hret := B.returns
  have hts := atoms_spec (ws := wsX5_erase) B.pre
  have hown : s.vm.findClass RX5 = some m.cls := findClass_of_methodNamed B.named
  have hlocks := B.notSynchronized
  subst hsz
  have hD := hD0.self (sz := s.heap.size)
  generalize hAe : gA ad w s.heap.size = A at hD hZ ⊢
  have hA : ∀ q : Nat, s.heap.size ≤ q → A q := fun q h => by rw [← hAe]; exact Or.inr h
  have hS : va_S A s.heap s.heap [] := va_S.rf
  have hi5 := hiX5_erase_b_5
  have hf26 := hts (.fieldLink RX5 26 "GaugeBook" "hasStage" "[Z") (by decide +kernel)
  have hf82 := hts (.fieldLink RX5 82 "GaugeBook" "isReckoned" "Z") (by decide +kernel)
  have he9 : entryFrame m args 5 = F0 m 0 ((lg_sl ([.ref (ad 0), .int (iI d), .int (iI n)] : List Value) ++ List.replicate (5 - (lg_sl ([.ref (ad 0), .int (iI d), .int (iI n)] : List Value)).length) Slot.unset).toArray) [] := by rw [hav, lg_entry_eq]
  rw [he9]
  have hl := lv_entry ([.ref (ad 0), .int (iI d), .int (iI n)] : List Value) (n := 5) (Nat.le_of_ble_eq_true rfl)
  generalize (lg_sl ([.ref (ad 0), .int (iI d), .int (iI n)] : List Value) ++ List.replicate (5 - (lg_sl ([.ref (ad 0), .int (iI d), .int (iI n)] : List Value)).length) Slot.unset).toArray = ls at hl ⊢
  have hl : lv_has ls 5 [(0, .ref (ad 0)), (1, .int (iI d)), (2, .int (iI n))] := hl
  obtain ⟨Q9, hQ9⟩ : ∃ z, z = MQ below (gW D (fun v9 ad1 w1 => ∃ (sc2 : Nat → Int) (fn2 : Nat → Int → Int), bookS cA ad1 w1 sc2 fn2 ∧ bkInv sc2 fn2 ∧ keepR ad ad1 w w1 ∧ (sc2 = sc ∧ fn2 = (upF fn 3 (spanF (fn 3) d n (fun _ => 0))) ∧ (0 ≤ d ∧ d < 400 ∧ 1 ≤ n ∧ d + n ≤ 400) ∧ v9 = some (.int (iI (cntT (fn 3) d n.toNat))))) A) args s 0 0 A := ⟨_, rfl⟩
  rw [← hQ9]
  show W p l e rmX5_erase_b s m args below meth c s.heap [] 0 0 Q9 (F0 m 0 ls [])
  obtain ⟨H, hHe⟩ : ∃ z, z = s.heap := ⟨_, rfl⟩
  obtain ⟨locs, hLe⟩ : ∃ z, z = ([] : List Loc) := ⟨_, rfl⟩
  have hP : gP D vwCl ad w H := by rw [hHe]; exact hP
  have hS : va_S A s.heap H locs := by rw [hHe, hLe]; exact va_S.rf
  rw [show W p l e rmX5_erase_b s m args below meth c s.heap [] 0 0 Q9 (F0 m 0 ls []) = W p l e rmX5_erase_b s m args below meth c H locs 0 0 Q9 (F0 m 0 ls []) by rw [hHe, hLe]]
  clear hHe hLe
  obtain ⟨rk, F, S, rn, rd, rm_, rz, ⟨h0, h1, h2, h3, h4, h5, h6, h7, h8, h9, h10, h11, h12, h13, h14, h15, hcv, hms⟩, hrk, hF, hS9⟩ := hbk
  have hI1 := hI.1
  refine lv_iload_n (pc := 0) hx hb dX5_erase_0 rfl (lv_at hl 1 rfl) ?_
  refine lv_iload_n (pc := 1) hx hb dX5_erase_1 rfl (lv_at hl 2 rfl) ?_
  refine k_call0 (pc := 2) (va_runS (As := [.int (iI d), .int (iI n)]) (rest := []) ⟨hx, hb, hml, hown, hts⟩ (c_X5_requireSpan_b l D cA ad w d n (by omega)) (va_cwS 2 hts gX5_erase_X5_requireSpan rfl rfl rfl (by decide +kernel) ⟨Nat.le_of_ble_eq_true rfl, Nat.le_of_ble_eq_true rfl⟩) (gR_S hP hK hB) rfl rfl hl.1 rfl (lv_room (Nat.le_of_ble_eq_true rfl)) dX5_erase_2 ⟨Nat.le_of_ble_eq_true rfl, Nat.le_of_ble_eq_true rfl⟩) (fun v_2 hv_2 => ?_)
  obtain ⟨hv1, hq_2⟩ := hv_2
  subst hv1
  refine W.eq (g2 := F0 m 5 ls []) rfl ?_
  refine lv_aload_n (pc := 5) hx hb dX5_erase_5 rfl (lv_at hl 0 rfl) ?_
  refine k_get (pc := 6) (ci := 5) (C := RX5) (T := TX5) (N := 13) hx hb hts hi5 hown hK hP 0 h0 rfl 3 (by decide) hf26 (fun _ h9 => h9) rfl dX5_erase_6 ?_
  refine lv_iload_n (pc := 9) hx hb dX5_erase_9 rfl (lv_at hl 1 rfl) ?_
  refine lv_iload_n (pc := 10) hx hb dX5_erase_10 rfl (lv_at hl 2 rfl) ?_
  refine k_call0 (pc := 11) (va_runS (As := [.ref (ad 6), .int (iI d), .int (iI n)]) (rest := []) ⟨hx, hb, hml, hown, hts⟩ (c_X5_countTrue l D cA ad w 6 (fn 3) d n h6 (fun j9 => by have h9_ := hI.2.2.2.1 j9; omega) (by omega)) (va_cwS 3 hts gX5_erase_X5_countTrue rfl rfl rfl (by decide +kernel) ⟨Nat.le_of_ble_eq_true rfl, Nat.le_of_ble_eq_true rfl⟩) (gR_S hP hK hB) rfl rfl hl.1 rfl (lv_room (Nat.le_of_ble_eq_true rfl)) dX5_erase_11 ⟨Nat.le_of_ble_eq_true rfl, Nat.le_of_ble_eq_true rfl⟩) (fun v_11 hv_11 => ?_)
  obtain ⟨z_11, rfl, hz_11, hy_11, hw_11⟩ := hv_11
  refine W.eq (g2 := F0 m 14 ls [.int (iI z_11)]) rfl ?_
  have he_14 : z_11 = cntT (fn 3) d n.toNat := by omega
  rw [he_14]
  refine lv_istore_n (pc := 14) (lv' := [(3, .int (iI (cntT (fn 3) d n.toNat))), (0, .ref (ad 0)), (1, .int (iI d)), (2, .int (iI n))]) hx hb dX5_erase_14 rfl hl (by decide) rfl (fun ls hl => ?_)
  refine k_iconst (pc := 15) hx hb dX5_erase_15 ?_
  refine lv_istore (pc := 16) (lv' := [(4, .int (iI 0)), (3, .int (iI (cntT (fn 3) d n.toNat))), (0, .ref (ad 0)), (1, .int (iI d)), (2, .int (iI n))]) hx hb dX5_erase_16 hl (by decide) rfl (fun ls hl => ?_)
  have lp_18 : ∀ (N9 : Nat) (i : Int), (0 ≤ i ∧ i ≤ n) → (n - i).toNat < N9 → ∀ (H : Heap) (locs : List Loc), gP D vwCl ad (up w 6 (eI (cA 1) 400 (spanF (fn 3) d i (fun _ => 0)))) H → gD A ad (up w 6 (eI (cA 1) 400 (spanF (fn 3) d i (fun _ => 0)))) → va_S A s.heap H locs → ∀ (ls : Array Slot), lv_has ls 5 [(4, .int (iI i)), (3, .int (iI (cntT (fn 3) d n.toNat))), (0, .ref (ad 0)), (1, .int (iI d)), (2, .int (iI n))] → W p l e rmX5_erase_b s m args below meth c H locs 0 0 Q9 (F0 m 18 ls []) := by
    intro N9
    induction N9 with
    | zero => intro i i0 hmu; exact absurd hmu (Nat.not_lt_zero _)
    | succ N9 ih_18 =>
      intro i i0 hmu_18 H locs hP hD hS ls hl
      refine lv_iload (pc := 18) hx hb dX5_erase_18 (lv_at hl 0 rfl) ?_
      refine lv_iload_n (pc := 20) hx hb dX5_erase_20 rfl (lv_at hl 4 rfl) ?_
      refine k_icmp_ge (pc := 21) (tgt := 40) hx hb ⟨by omega, by omega⟩ ⟨by omega, by omega⟩ dX5_erase_21 (by decide) (fun hc_21 => ?_) (fun hc_21 => ?_)
      · skip
        have hin_ : i = n := by omega
        rw [hin_] at hP hD
        refine lv_aload_n (pc := 40) hx hb dX5_erase_40 rfl (lv_at hl 2 rfl) ?_
        refine k_iconst (pc := 41) hx hb dX5_erase_41 ?_
        refine k_put (pc := 42) (ci := 5) (C := RX5) (T := TX5) (N := 13) (ty := .boolean) (v := .int (iI 0)) (w1 := (up (up w 6 (eI (cA 1) 400 (spanF (fn 3) d n (fun _ => 0)))) 0 (oB 5 [.ref (ad 1), .ref (ad 2), .ref (ad 5), .ref (ad 6), .ref (ad 7), .ref (ad 8), .ref (ad 9), .ref (ad 12), .int (iI (sc 0)), .int (iI (sc 4)), .int (iI (sc 2)), .int (iI (sc 3)), .int (iI 0)]))) hx hb hts hi5 tyX5 tyX5_ok nmX5 hown hK hP hD hS 0 (up_n (by decide) h0) rfl 12 (by decide) hf82 (fun _ h9 => h9) rfl (by decide +kernel) (by decide +kernel) rfl (Nat.le_of_ble_eq_true rfl) rfl dX5_erase_42 (fun H locs hP hD hS => ?_)
        refine lv_iload_n (pc := 45) hx hb dX5_erase_45 rfl (lv_at hl 1 rfl) ?_
        rw [hQ9]
        exact W.iret (v := iI (cntT (fn 3) d n.toNat)) hx hb hret (fun t ht hW => ⟨⟨some (.int (iI (cntT (fn 3) d n.toNat))), ad, (up (up w 6 (eI (cA 1) 400 (spanF (fn 3) d n (fun _ => 0)))) 0 (oB 5 [.ref (ad 1), .ref (ad 2), .ref (ad 5), .ref (ad 6), .ref (ad 7), .ref (ad 8), .ref (ad 9), .ref (ad 12), .int (iI (sc 0)), .int (iI (sc 4)), .int (iI (sc 2)), .int (iI (sc 3)), .int (iI 0)])), rfl, ⟨sc, (upF fn 3 (spanF (fn 3) d n (fun _ => 0))), ⟨0, F, S, rn, rd, rm_, rz, ⟨(up_s _ _ _), (up_n (by decide) (up_n (by decide) h1)), (up_n (by decide) (up_n (by decide) h2)), (up_n (by decide) (up_n (by decide) h3)), (up_n (by decide) (up_n (by decide) h4)), (up_n (by decide) (up_n (by decide) h5)), (up_n (by decide) (up_s _ _ _)), (up_n (by decide) (up_n (by decide) h7)), (up_n (by decide) (up_n (by decide) h8)), (up_n (by decide) (up_n (by decide) h9)), (up_n (by decide) (up_n (by decide) h10)), (up_n (by decide) (up_n (by decide) h11)), (up_n (by decide) (up_n (by decide) h12)), (up_n (by decide) (up_n (by decide) h13)), (up_n (by decide) (up_n (by decide) h14)), (up_n (by decide) (up_n (by decide) h15)), (fun k9 hk9 => by have h9_ := (cv_keep (fn2 := (upF fn 3 (spanF (fn 3) d n (fun _ => 0)))) hcv rfl rfl (fun k => ⟨(upF_n (by omega)), (upF_n (by omega))⟩)) k9 hk9; have i9_ := hI.1.1; exact ⟨(up_n (by omega) (up_n (by omega) h9_.1)), (up_n (by omega) (up_n (by omega) h9_.2.1)), (up_n (by omega) (up_n (by omega) h9_.2.2))⟩), (fun k9 hk9 => by have h9_ := hms k9 hk9; have i9_ := hI.1.2.2.2.2; exact (up_n (by omega) (up_n (by omega) h9_)))⟩, (Or.inl rfl), hF, hS9⟩, (inv_3 hI (spanF_b hI.2.2.2.1 (fun j g1 g2 => by omega))), ⟨rfl, fun r hr => ⟨(up_n (by omega) (up_n (by omega) rfl)), rfl⟩⟩, ⟨rfl, rfl, by omega, rfl⟩⟩, by rw [ht]; exact hP, hD⟩, hS.F ht⟩) hS.2.2 dX5_erase_46
      · skip
        refine lv_aload_n (pc := 24) hx hb dX5_erase_24 rfl (lv_at hl 2 rfl) ?_
        refine k_get (pc := 25) (ci := 5) (C := RX5) (T := TX5) (N := 13) hx hb hts hi5 hown hK hP 0 (up_n (by decide) h0) rfl 3 (by decide) hf26 (fun _ h9 => h9) rfl dX5_erase_25 ?_
        refine lv_iload_n (pc := 28) hx hb dX5_erase_28 rfl (lv_at hl 3 rfl) ?_
        refine lv_iload (pc := 29) hx hb dX5_erase_29 (lv_at hl 0 rfl) ?_
        refine k_iadd (pc := 31) hx hb dX5_erase_31 ?_
        refine k_iconst (pc := 32) hx hb dX5_erase_32 ?_
        refine k_zast (pc := 33) (w1 := (up w 6 (eI (cA 1) 400 (updI (spanF (fn 3) d i (fun _ => 0)) (d + i) 0)))) hx hb hK hP hD hS 6 1 (up_s _ _ _) rfl (by omega) (by omega) (by omega) (Or.inl rfl) (up_up _ _ _ _) dX5_erase_33 (fun H locs hP hD hS => ?_)
        refine lv_iinc (pc := 34) (v := iI (i + 1)) (lv' := [(4, .int (iI (i + 1))), (3, .int (iI (cntT (fn 3) d n.toNat))), (0, .ref (ad 0)), (1, .int (iI d)), (2, .int (iI n))]) hx hb dX5_erase_34 hl (k := 0) rfl (iI_add _ _) (by decide) rfl (fun ls hl => ?_)
        refine lv_goto (pc := 37) (tgt := 18) hx hb dX5_erase_37 (by decide) ?_
        have hW9 : ((up w 6 (eI (cA 1) 400 (updI (spanF (fn 3) d i (fun _ => 0)) (d + i) 0)))) = (up w 6 (eI (cA 1) 400 (spanF (fn 3) d (i + 1) (fun _ => 0)))) := by rw [spanF_s (fn 3) (fun _ => 0) (by omega) rfl]
        rw [hW9] at hP hD
        exact ih_18 (i + 1) (by omega) (by omega) H locs hP hD hS ls (lv_sub hl [0, 1, 2, 3, 4] rfl)
  have hW9 : (w) = (up w 6 (eI (cA 1) 400 (spanF (fn 3) d 0 (fun _ => 0)))) := by rw [spanF_0, up_self h6]
  rw [hW9] at hP hD
  exact lp_18 _ 0 (by omega) (Nat.lt_succ_self _) H locs hP hD hS ls (lv_sub hl [0, 1, 2, 3, 4] rfl)

abbrev rmX5_freeze_b : Room := { frames := 2, cells := 0, slots := 0, locals := 41 }
theorem hiX5_freeze_b_5 : ∀ w ∈ wsX50, w ∈ wsX5_freeze := by decide +kernel
set_option maxHeartbeats 4000000 in
set_option maxRecDepth 100000 in
theorem c_X5_freeze_b (l : Launch) (D : va_G) (cA : Nat → ClassId) (ad : Nat → Nat) (w : Nat → Option va_E) (sz : Nat) (sc : Nat → Int) (fn : Nat → Int → Int) (hI : bkInv sc fn) (hbk : bookS cA ad w sc fn) (d n : Int) (hd : (-2147483648 ≤ d ∧ d < 2147483648)) (hn : (-2147483648 ≤ n ∧ n < 2147483648)) (ib : Int) (hib : ib = 0 ∨ ib = 1) (hok : (0 ≤ d ∧ d < 400 ∧ 1 ≤ n ∧ d + n ≤ 400)) : Met l yX5_freeze wsX5_freeze rmX5_freeze_b (gV D cA ad w sz [.ref (ad 0), .int (iI d), .int (iI n), .int (iI ib)]) (gW D (fun v9 ad1 w1 => ∃ (sc2 : Nat → Int) (fn2 : Nat → Int → Int), bookS cA ad1 w1 sc2 fn2 ∧ bkInv sc2 fn2 ∧ keepR ad ad1 w w1 ∧ (sc2 = sc ∧ fn2 = (upF fn 4 (spanF (fn 4) d n (fun _ => ib))) ∧ (0 ≤ d ∧ d < 400 ∧ 1 ≤ n ∧ d + n ≤ 400) ∧ v9 = some (.int (iI (if ib = 0 then cntT (fn 4) d n.toNat else n - cntT (fn 4) d n.toNat))))) (gA ad w sz)) 0 0 (gA ad w sz) := by
  refine Met.ofW (cc := cX5_freeze) (maxL := 6) (ret := (some .int)) (by decide) rfl ?_
  intro p e s m args below meth c s₁ B hml hv
  obtain ⟨hav, hsz, hP, hD0, hK, hB, hZ⟩ := hv
  have hx := B.exec
  have hb := B.bytes
  have hret := B.returns
  have hts := atoms_spec (ws := wsX5_freeze) B.pre
  have hown : s.vm.findClass RX5 = some m.cls := findClass_of_methodNamed B.named
  have hlocks := B.notSynchronized
  subst hsz
  have hD := hD0.self (sz := s.heap.size)
  generalize hAe : gA ad w s.heap.size = A at hD hZ ⊢
  have hA : ∀ q : Nat, s.heap.size ≤ q → A q := fun q h => by rw [← hAe]; exact Or.inr h
  have hS : va_S A s.heap s.heap [] := va_S.rf
  have hi5 := hiX5_freeze_b_5
  have hf30 := hts (.fieldLink RX5 30 "GaugeBook" "ice" "[Z") (by decide +kernel)
  have hf82 := hts (.fieldLink RX5 82 "GaugeBook" "isReckoned" "Z") (by decide +kernel)
  have he9 : entryFrame m args 6 = F0 m 0 ((lg_sl ([.ref (ad 0), .int (iI d), .int (iI n), .int (iI ib)] : List Value) ++ List.replicate (6 - (lg_sl ([.ref (ad 0), .int (iI d), .int (iI n), .int (iI ib)] : List Value)).length) Slot.unset).toArray) [] := by rw [hav, lg_entry_eq]
  rw [he9]
  have hl := lv_entry ([.ref (ad 0), .int (iI d), .int (iI n), .int (iI ib)] : List Value) (n := 6) (Nat.le_of_ble_eq_true rfl)
  generalize (lg_sl ([.ref (ad 0), .int (iI d), .int (iI n), .int (iI ib)] : List Value) ++ List.replicate (6 - (lg_sl ([.ref (ad 0), .int (iI d), .int (iI n), .int (iI ib)] : List Value)).length) Slot.unset).toArray = ls at hl ⊢
  have hl : lv_has ls 6 [(0, .ref (ad 0)), (1, .int (iI d)), (2, .int (iI n)), (3, .int (iI ib))] := hl
  obtain ⟨Q9, hQ9⟩ : ∃ z, z = MQ below (gW D (fun v9 ad1 w1 => ∃ (sc2 : Nat → Int) (fn2 : Nat → Int → Int), bookS cA ad1 w1 sc2 fn2 ∧ bkInv sc2 fn2 ∧ keepR ad ad1 w w1 ∧ (sc2 = sc ∧ fn2 = (upF fn 4 (spanF (fn 4) d n (fun _ => ib))) ∧ (0 ≤ d ∧ d < 400 ∧ 1 ≤ n ∧ d + n ≤ 400) ∧ v9 = some (.int (iI (if ib = 0 then cntT (fn 4) d n.toNat else n - cntT (fn 4) d n.toNat))))) A) args s 0 0 A := ⟨_, rfl⟩
  rw [← hQ9]
  show W p l e rmX5_freeze_b s m args below meth c s.heap [] 0 0 Q9 (F0 m 0 ls [])
  obtain ⟨H, hHe⟩ : ∃ z, z = s.heap := ⟨_, rfl⟩
  obtain ⟨locs, hLe⟩ : ∃ z, z = ([] : List Loc) := ⟨_, rfl⟩
  have hP : gP D vwCl ad w H := by rw [hHe]; exact hP
  have hS : va_S A s.heap H locs := by rw [hHe, hLe]; exact va_S.rf
  rw [show W p l e rmX5_freeze_b s m args below meth c s.heap [] 0 0 Q9 (F0 m 0 ls []) = W p l e rmX5_freeze_b s m args below meth c H locs 0 0 Q9 (F0 m 0 ls []) by rw [hHe, hLe]]
  clear hHe hLe
  obtain ⟨rk, F, S, rn, rd, rm_, rz, ⟨h0, h1, h2, h3, h4, h5, h6, h7, h8, h9, h10, h11, h12, h13, h14, h15, hcv, hms⟩, hrk, hF, hS9⟩ := hbk
  have hI1 := hI.1
  refine lv_iload_n (pc := 0) hx hb dX5_freeze_0 rfl (lv_at hl 1 rfl) ?_
  refine lv_iload_n (pc := 1) hx hb dX5_freeze_1 rfl (lv_at hl 2 rfl) ?_
  refine k_call0 (pc := 2) (va_runS (As := [.int (iI d), .int (iI n)]) (rest := []) ⟨hx, hb, hml, hown, hts⟩ (c_X5_requireSpan_b l D cA ad w d n (by omega)) (va_cwS 2 hts gX5_freeze_X5_requireSpan rfl rfl rfl (by decide +kernel) ⟨Nat.le_of_ble_eq_true rfl, Nat.le_of_ble_eq_true rfl⟩) (gR_S hP hK hB) rfl rfl hl.1 rfl (lv_room (Nat.le_of_ble_eq_true rfl)) dX5_freeze_2 ⟨Nat.le_of_ble_eq_true rfl, Nat.le_of_ble_eq_true rfl⟩) (fun v_2 hv_2 => ?_)
  obtain ⟨hv1, hq_2⟩ := hv_2
  subst hv1
  refine W.eq (g2 := F0 m 5 ls []) rfl ?_
  refine lv_aload_n (pc := 5) hx hb dX5_freeze_5 rfl (lv_at hl 0 rfl) ?_
  refine k_get (pc := 6) (ci := 5) (C := RX5) (T := TX5) (N := 13) hx hb hts hi5 hown hK hP 0 h0 rfl 4 (by decide) hf30 (fun _ h9 => h9) rfl dX5_freeze_6 ?_
  refine lv_iload_n (pc := 9) hx hb dX5_freeze_9 rfl (lv_at hl 1 rfl) ?_
  refine lv_iload_n (pc := 10) hx hb dX5_freeze_10 rfl (lv_at hl 2 rfl) ?_
  refine k_call0 (pc := 11) (va_runS (As := [.ref (ad 7), .int (iI d), .int (iI n)]) (rest := []) ⟨hx, hb, hml, hown, hts⟩ (c_X5_countTrue l D cA ad w 7 (fn 4) d n h7 (fun j9 => by have h9_ := hI.2.2.2.2.1 j9; omega) (by omega)) (va_cwS 3 hts gX5_freeze_X5_countTrue rfl rfl rfl (by decide +kernel) ⟨Nat.le_of_ble_eq_true rfl, Nat.le_of_ble_eq_true rfl⟩) (gR_S hP hK hB) rfl rfl hl.1 rfl (lv_room (Nat.le_of_ble_eq_true rfl)) dX5_freeze_11 ⟨Nat.le_of_ble_eq_true rfl, Nat.le_of_ble_eq_true rfl⟩) (fun v_11 hv_11 => ?_)
  obtain ⟨z_11, rfl, hz_11, hy_11, hw_11⟩ := hv_11
  refine W.eq (g2 := F0 m 14 ls [.int (iI z_11)]) rfl ?_
  have he_14 : z_11 = cntT (fn 4) d n.toNat := by omega
  rw [he_14]
  refine lv_istore (pc := 14) (lv' := [(4, .int (iI (cntT (fn 4) d n.toNat))), (0, .ref (ad 0)), (1, .int (iI d)), (2, .int (iI n)), (3, .int (iI ib))]) hx hb dX5_freeze_14 hl (by decide) rfl (fun ls hl => ?_)
  refine k_iconst (pc := 16) hx hb dX5_freeze_16 ?_
  refine lv_istore (pc := 17) (lv' := [(5, .int (iI 0)), (4, .int (iI (cntT (fn 4) d n.toNat))), (0, .ref (ad 0)), (1, .int (iI d)), (2, .int (iI n)), (3, .int (iI ib))]) hx hb dX5_freeze_17 hl (by decide) rfl (fun ls hl => ?_)
  have lp_19 : ∀ (N9 : Nat) (i : Int), (0 ≤ i ∧ i ≤ n) → (n - i).toNat < N9 → ∀ (H : Heap) (locs : List Loc), gP D vwCl ad (up w 7 (eI (cA 1) 400 (spanF (fn 4) d i (fun _ => ib)))) H → gD A ad (up w 7 (eI (cA 1) 400 (spanF (fn 4) d i (fun _ => ib)))) → va_S A s.heap H locs → ∀ (ls : Array Slot), lv_has ls 6 [(5, .int (iI i)), (4, .int (iI (cntT (fn 4) d n.toNat))), (0, .ref (ad 0)), (1, .int (iI d)), (2, .int (iI n)), (3, .int (iI ib))] → W p l e rmX5_freeze_b s m args below meth c H locs 0 0 Q9 (F0 m 19 ls []) := by
    intro N9
    induction N9 with
    | zero => intro i i0 hmu; exact absurd hmu (Nat.not_lt_zero _)
    | succ N9 ih_19 =>
      intro i i0 hmu_19 H locs hP hD hS ls hl
      refine lv_iload (pc := 19) hx hb dX5_freeze_19 (lv_at hl 0 rfl) ?_
      refine lv_iload_n (pc := 21) hx hb dX5_freeze_21 rfl (lv_at hl 4 rfl) ?_
      refine k_icmp_ge (pc := 22) (tgt := 41) hx hb ⟨by omega, by omega⟩ ⟨by omega, by omega⟩ dX5_freeze_22 (by decide) (fun hc_22 => ?_) (fun hc_22 => ?_)
      · skip
        have hin_ : i = n := by omega
        rw [hin_] at hP hD
        refine lv_aload_n (pc := 41) hx hb dX5_freeze_41 rfl (lv_at hl 2 rfl) ?_
        refine k_iconst (pc := 42) hx hb dX5_freeze_42 ?_
        refine k_put (pc := 43) (ci := 5) (C := RX5) (T := TX5) (N := 13) (ty := .boolean) (v := .int (iI 0)) (w1 := (up (up w 7 (eI (cA 1) 400 (spanF (fn 4) d n (fun _ => ib)))) 0 (oB 5 [.ref (ad 1), .ref (ad 2), .ref (ad 5), .ref (ad 6), .ref (ad 7), .ref (ad 8), .ref (ad 9), .ref (ad 12), .int (iI (sc 0)), .int (iI (sc 4)), .int (iI (sc 2)), .int (iI (sc 3)), .int (iI 0)]))) hx hb hts hi5 tyX5 tyX5_ok nmX5 hown hK hP hD hS 0 (up_n (by decide) h0) rfl 12 (by decide) hf82 (fun _ h9 => h9) rfl (by decide +kernel) (by decide +kernel) rfl (Nat.le_of_ble_eq_true rfl) rfl dX5_freeze_43 (fun H locs hP hD hS => ?_)
        refine lv_iload_n (pc := 46) hx hb dX5_freeze_46 rfl (lv_at hl 5 rfl) ?_
        refine k_if_eq (pc := 47) (tgt := 57) hx hb ⟨by omega, by omega⟩ dX5_freeze_47 (by decide) (fun hc_47 => ?_) (fun hc_47 => ?_)
        · skip
          refine lv_iload (pc := 57) hx hb dX5_freeze_57 (lv_at hl 1 rfl) ?_
          have he_59 : cntT (fn 4) d n.toNat = if ib = 0 then cntT (fn 4) d n.toNat else n - cntT (fn 4) d n.toNat := by first | rw [if_pos (by omega)] | rw [if_neg (by omega)]
          rw [he_59]
          rw [hQ9]
          exact W.iret (v := iI (if ib = 0 then cntT (fn 4) d n.toNat else n - cntT (fn 4) d n.toNat)) hx hb hret (fun t ht hW => ⟨⟨some (.int (iI (if ib = 0 then cntT (fn 4) d n.toNat else n - cntT (fn 4) d n.toNat))), ad, (up (up w 7 (eI (cA 1) 400 (spanF (fn 4) d n (fun _ => ib)))) 0 (oB 5 [.ref (ad 1), .ref (ad 2), .ref (ad 5), .ref (ad 6), .ref (ad 7), .ref (ad 8), .ref (ad 9), .ref (ad 12), .int (iI (sc 0)), .int (iI (sc 4)), .int (iI (sc 2)), .int (iI (sc 3)), .int (iI 0)])), rfl, ⟨sc, (upF fn 4 (spanF (fn 4) d n (fun _ => ib))), ⟨0, F, S, rn, rd, rm_, rz, ⟨(up_s _ _ _), (up_n (by decide) (up_n (by decide) h1)), (up_n (by decide) (up_n (by decide) h2)), (up_n (by decide) (up_n (by decide) h3)), (up_n (by decide) (up_n (by decide) h4)), (up_n (by decide) (up_n (by decide) h5)), (up_n (by decide) (up_n (by decide) h6)), (up_n (by decide) (up_s _ _ _)), (up_n (by decide) (up_n (by decide) h8)), (up_n (by decide) (up_n (by decide) h9)), (up_n (by decide) (up_n (by decide) h10)), (up_n (by decide) (up_n (by decide) h11)), (up_n (by decide) (up_n (by decide) h12)), (up_n (by decide) (up_n (by decide) h13)), (up_n (by decide) (up_n (by decide) h14)), (up_n (by decide) (up_n (by decide) h15)), (fun k9 hk9 => by have h9_ := (cv_keep (fn2 := (upF fn 4 (spanF (fn 4) d n (fun _ => ib)))) hcv rfl rfl (fun k => ⟨(upF_n (by omega)), (upF_n (by omega))⟩)) k9 hk9; have i9_ := hI.1.1; exact ⟨(up_n (by omega) (up_n (by omega) h9_.1)), (up_n (by omega) (up_n (by omega) h9_.2.1)), (up_n (by omega) (up_n (by omega) h9_.2.2))⟩), (fun k9 hk9 => by have h9_ := hms k9 hk9; have i9_ := hI.1.2.2.2.2; exact (up_n (by omega) (up_n (by omega) h9_)))⟩, (Or.inl rfl), hF, hS9⟩, (inv_4 hI (spanF_b hI.2.2.2.2.1 (fun j g1 g2 => by omega))), ⟨rfl, fun r hr => ⟨(up_n (by omega) (up_n (by omega) rfl)), rfl⟩⟩, ⟨rfl, rfl, by omega, rfl⟩⟩, by rw [ht]; exact hP, hD⟩, hS.F ht⟩) hS.2.2 dX5_freeze_59
        · skip
          refine lv_iload_n (pc := 50) hx hb dX5_freeze_50 rfl (lv_at hl 4 rfl) ?_
          refine lv_iload (pc := 51) hx hb dX5_freeze_51 (lv_at hl 1 rfl) ?_
          refine k_isub (pc := 53) hx hb dX5_freeze_53 ?_
          refine lv_goto (pc := 54) (tgt := 59) hx hb dX5_freeze_54 (by decide) ?_
          have he_59 : n - (cntT (fn 4) d n.toNat) = if ib = 0 then cntT (fn 4) d n.toNat else n - cntT (fn 4) d n.toNat := by first | rw [if_pos (by omega)] | rw [if_neg (by omega)]
          rw [he_59]
          rw [hQ9]
          exact W.iret (v := iI (if ib = 0 then cntT (fn 4) d n.toNat else n - cntT (fn 4) d n.toNat)) hx hb hret (fun t ht hW => ⟨⟨some (.int (iI (if ib = 0 then cntT (fn 4) d n.toNat else n - cntT (fn 4) d n.toNat))), ad, (up (up w 7 (eI (cA 1) 400 (spanF (fn 4) d n (fun _ => ib)))) 0 (oB 5 [.ref (ad 1), .ref (ad 2), .ref (ad 5), .ref (ad 6), .ref (ad 7), .ref (ad 8), .ref (ad 9), .ref (ad 12), .int (iI (sc 0)), .int (iI (sc 4)), .int (iI (sc 2)), .int (iI (sc 3)), .int (iI 0)])), rfl, ⟨sc, (upF fn 4 (spanF (fn 4) d n (fun _ => ib))), ⟨0, F, S, rn, rd, rm_, rz, ⟨(up_s _ _ _), (up_n (by decide) (up_n (by decide) h1)), (up_n (by decide) (up_n (by decide) h2)), (up_n (by decide) (up_n (by decide) h3)), (up_n (by decide) (up_n (by decide) h4)), (up_n (by decide) (up_n (by decide) h5)), (up_n (by decide) (up_n (by decide) h6)), (up_n (by decide) (up_s _ _ _)), (up_n (by decide) (up_n (by decide) h8)), (up_n (by decide) (up_n (by decide) h9)), (up_n (by decide) (up_n (by decide) h10)), (up_n (by decide) (up_n (by decide) h11)), (up_n (by decide) (up_n (by decide) h12)), (up_n (by decide) (up_n (by decide) h13)), (up_n (by decide) (up_n (by decide) h14)), (up_n (by decide) (up_n (by decide) h15)), (fun k9 hk9 => by have h9_ := (cv_keep (fn2 := (upF fn 4 (spanF (fn 4) d n (fun _ => ib)))) hcv rfl rfl (fun k => ⟨(upF_n (by omega)), (upF_n (by omega))⟩)) k9 hk9; have i9_ := hI.1.1; exact ⟨(up_n (by omega) (up_n (by omega) h9_.1)), (up_n (by omega) (up_n (by omega) h9_.2.1)), (up_n (by omega) (up_n (by omega) h9_.2.2))⟩), (fun k9 hk9 => by have h9_ := hms k9 hk9; have i9_ := hI.1.2.2.2.2; exact (up_n (by omega) (up_n (by omega) h9_)))⟩, (Or.inl rfl), hF, hS9⟩, (inv_4 hI (spanF_b hI.2.2.2.2.1 (fun j g1 g2 => by omega))), ⟨rfl, fun r hr => ⟨(up_n (by omega) (up_n (by omega) rfl)), rfl⟩⟩, ⟨rfl, rfl, by omega, rfl⟩⟩, by rw [ht]; exact hP, hD⟩, hS.F ht⟩) hS.2.2 dX5_freeze_59
      · skip
        refine lv_aload_n (pc := 25) hx hb dX5_freeze_25 rfl (lv_at hl 2 rfl) ?_
        refine k_get (pc := 26) (ci := 5) (C := RX5) (T := TX5) (N := 13) hx hb hts hi5 hown hK hP 0 (up_n (by decide) h0) rfl 4 (by decide) hf30 (fun _ h9 => h9) rfl dX5_freeze_26 ?_
        refine lv_iload_n (pc := 29) hx hb dX5_freeze_29 rfl (lv_at hl 3 rfl) ?_
        refine lv_iload (pc := 30) hx hb dX5_freeze_30 (lv_at hl 0 rfl) ?_
        refine k_iadd (pc := 32) hx hb dX5_freeze_32 ?_
        refine lv_iload_n (pc := 33) hx hb dX5_freeze_33 rfl (lv_at hl 5 rfl) ?_
        refine k_zast (pc := 34) (w1 := (up w 7 (eI (cA 1) 400 (updI (spanF (fn 4) d i (fun _ => ib)) (d + i) ib)))) hx hb hK hP hD hS 7 1 (up_s _ _ _) rfl (by omega) (by omega) (by omega) hib (up_up _ _ _ _) dX5_freeze_34 (fun H locs hP hD hS => ?_)
        refine lv_iinc (pc := 35) (v := iI (i + 1)) (lv' := [(5, .int (iI (i + 1))), (4, .int (iI (cntT (fn 4) d n.toNat))), (0, .ref (ad 0)), (1, .int (iI d)), (2, .int (iI n)), (3, .int (iI ib))]) hx hb dX5_freeze_35 hl (k := 0) rfl (iI_add _ _) (by decide) rfl (fun ls hl => ?_)
        refine lv_goto (pc := 38) (tgt := 19) hx hb dX5_freeze_38 (by decide) ?_
        have hW9 : ((up w 7 (eI (cA 1) 400 (updI (spanF (fn 4) d i (fun _ => ib)) (d + i) ib)))) = (up w 7 (eI (cA 1) 400 (spanF (fn 4) d (i + 1) (fun _ => ib)))) := by rw [spanF_s (fn 4) (fun _ => ib) (by omega) rfl]
        rw [hW9] at hP hD
        exact ih_19 (i + 1) (by omega) (by omega) H locs hP hD hS ls (lv_sub hl [0, 1, 2, 3, 4, 5] rfl)
  have hW9 : (w) = (up w 7 (eI (cA 1) 400 (spanF (fn 4) d 0 (fun _ => ib)))) := by rw [spanF_0, up_self h7]
  rw [hW9] at hP hD
  exact lp_19 _ 0 (by omega) (Nat.lt_succ_self _) H locs hP hD hS ls (lv_sub hl [0, 1, 2, 3, 4, 5] rfl)

abbrev rmX5_read_b : Room := { frames := 2, cells := 0, slots := 0, locals := 41 }
theorem hiX5_read_b_5 : ∀ w ∈ wsX50, w ∈ wsX5_read := by decide +kernel
set_option maxHeartbeats 4000000 in
set_option maxRecDepth 100000 in
theorem c_X5_read_b (l : Launch) (D : va_G) (cA : Nat → ClassId) (ad : Nat → Nat) (w : Nat → Option va_E) (sz : Nat) (sc : Nat → Int) (fn : Nat → Int → Int) (hI : bkInv sc fn) (hbk : bookS cA ad w sc fn) (d n : Int) (hd : (-2147483648 ≤ d ∧ d < 2147483648)) (hn : (-2147483648 ≤ n ∧ n < 2147483648)) (sg ri : Int) (hsg : (-2147483648 ≤ sg ∧ sg < 2147483648)) (hri : (-2147483648 ≤ ri ∧ ri < 2147483648)) (hok : ((0 ≤ d ∧ d < 400 ∧ 1 ≤ n ∧ d + n ≤ 400) ∧ (-500 ≤ sg ∧ sg ≤ 2000) ∧ (-500 ≤ sg + ri * (n - 1) ∧ sg + ri * (n - 1) ≤ 2000))) : Met l yX5_read wsX5_read rmX5_read_b (gV D cA ad w sz [.ref (ad 0), .int (iI d), .int (iI n), .int (iI sg), .int (iI ri)]) (gW D (fun v9 ad1 w1 => ∃ (sc2 : Nat → Int) (fn2 : Nat → Int → Int), bookS cA ad1 w1 sc2 fn2 ∧ bkInv sc2 fn2 ∧ keepR ad ad1 w w1 ∧ (sc2 = sc ∧ fn2 = (upF (upF fn 2 (spanF (fn 2) d n (fun j => sg + ri * (j - d)))) 3 (spanF (fn 3) d n (fun _ => 1))) ∧ ((0 ≤ d ∧ d < 400 ∧ 1 ≤ n ∧ d + n ≤ 400) ∧ (-500 ≤ sg ∧ sg ≤ 2000) ∧ (-500 ≤ sg + ri * (n - 1) ∧ sg + ri * (n - 1) ≤ 2000)) ∧ v9 = some (.int (iI (cntT (fn 3) d n.toNat))))) (gA ad w sz)) 0 0 (gA ad w sz) := by
  refine Met.ofW (cc := cX5_read) (maxL := 7) (ret := (some .int)) (by decide) rfl ?_
  intro p e s m args below meth c s₁ B hml hv
  obtain ⟨hav, hsz, hP, hD0, hK, hB, hZ⟩ := hv
  have hx := B.exec
  have hb := B.bytes
  have hret := B.returns
  have hts := atoms_spec (ws := wsX5_read) B.pre
  have hown : s.vm.findClass RX5 = some m.cls := findClass_of_methodNamed B.named
  have hlocks := B.notSynchronized
  subst hsz
  have hD := hD0.self (sz := s.heap.size)
  generalize hAe : gA ad w s.heap.size = A at hD hZ ⊢
  have hA : ∀ q : Nat, s.heap.size ≤ q → A q := fun q h => by rw [← hAe]; exact Or.inr h
  have hS : va_S A s.heap s.heap [] := va_S.rf
  have hi5 := hiX5_read_b_5
  have hf22 := hts (.fieldLink RX5 22 "GaugeBook" "stages" "[I") (by decide +kernel)
  have hf26 := hts (.fieldLink RX5 26 "GaugeBook" "hasStage" "[Z") (by decide +kernel)
  have hf82 := hts (.fieldLink RX5 82 "GaugeBook" "isReckoned" "Z") (by decide +kernel)
  have he9 : entryFrame m args 7 = F0 m 0 ((lg_sl ([.ref (ad 0), .int (iI d), .int (iI n), .int (iI sg), .int (iI ri)] : List Value) ++ List.replicate (7 - (lg_sl ([.ref (ad 0), .int (iI d), .int (iI n), .int (iI sg), .int (iI ri)] : List Value)).length) Slot.unset).toArray) [] := by rw [hav, lg_entry_eq]
  rw [he9]
  have hl := lv_entry ([.ref (ad 0), .int (iI d), .int (iI n), .int (iI sg), .int (iI ri)] : List Value) (n := 7) (Nat.le_of_ble_eq_true rfl)
  generalize (lg_sl ([.ref (ad 0), .int (iI d), .int (iI n), .int (iI sg), .int (iI ri)] : List Value) ++ List.replicate (7 - (lg_sl ([.ref (ad 0), .int (iI d), .int (iI n), .int (iI sg), .int (iI ri)] : List Value)).length) Slot.unset).toArray = ls at hl ⊢
  have hl : lv_has ls 7 [(0, .ref (ad 0)), (1, .int (iI d)), (2, .int (iI n)), (3, .int (iI sg)), (4, .int (iI ri))] := hl
  obtain ⟨Q9, hQ9⟩ : ∃ z, z = MQ below (gW D (fun v9 ad1 w1 => ∃ (sc2 : Nat → Int) (fn2 : Nat → Int → Int), bookS cA ad1 w1 sc2 fn2 ∧ bkInv sc2 fn2 ∧ keepR ad ad1 w w1 ∧ (sc2 = sc ∧ fn2 = (upF (upF fn 2 (spanF (fn 2) d n (fun j => sg + ri * (j - d)))) 3 (spanF (fn 3) d n (fun _ => 1))) ∧ ((0 ≤ d ∧ d < 400 ∧ 1 ≤ n ∧ d + n ≤ 400) ∧ (-500 ≤ sg ∧ sg ≤ 2000) ∧ (-500 ≤ sg + ri * (n - 1) ∧ sg + ri * (n - 1) ≤ 2000)) ∧ v9 = some (.int (iI (cntT (fn 3) d n.toNat))))) A) args s 0 0 A := ⟨_, rfl⟩
  rw [← hQ9]
  show W p l e rmX5_read_b s m args below meth c s.heap [] 0 0 Q9 (F0 m 0 ls [])
  obtain ⟨H, hHe⟩ : ∃ z, z = s.heap := ⟨_, rfl⟩
  obtain ⟨locs, hLe⟩ : ∃ z, z = ([] : List Loc) := ⟨_, rfl⟩
  have hP : gP D vwCl ad w H := by rw [hHe]; exact hP
  have hS : va_S A s.heap H locs := by rw [hHe, hLe]; exact va_S.rf
  rw [show W p l e rmX5_read_b s m args below meth c s.heap [] 0 0 Q9 (F0 m 0 ls []) = W p l e rmX5_read_b s m args below meth c H locs 0 0 Q9 (F0 m 0 ls []) by rw [hHe, hLe]]
  clear hHe hLe
  obtain ⟨rk, F, S, rn, rd, rm_, rz, ⟨h0, h1, h2, h3, h4, h5, h6, h7, h8, h9, h10, h11, h12, h13, h14, h15, hcv, hms⟩, hrk, hF, hS9⟩ := hbk
  have hI1 := hI.1
  refine lv_iload_n (pc := 0) hx hb dX5_read_0 rfl (lv_at hl 1 rfl) ?_
  refine lv_iload_n (pc := 1) hx hb dX5_read_1 rfl (lv_at hl 2 rfl) ?_
  refine k_call0 (pc := 2) (va_runS (As := [.int (iI d), .int (iI n)]) (rest := []) ⟨hx, hb, hml, hown, hts⟩ (c_X5_requireSpan_b l D cA ad w d n (by omega)) (va_cwS 2 hts gX5_read_X5_requireSpan rfl rfl rfl (by decide +kernel) ⟨Nat.le_of_ble_eq_true rfl, Nat.le_of_ble_eq_true rfl⟩) (gR_S hP hK hB) rfl rfl hl.1 rfl (lv_room (Nat.le_of_ble_eq_true rfl)) dX5_read_2 ⟨Nat.le_of_ble_eq_true rfl, Nat.le_of_ble_eq_true rfl⟩) (fun v_2 hv_2 => ?_)
  obtain ⟨hv1, hq_2⟩ := hv_2
  subst hv1
  refine W.eq (g2 := F0 m 5 ls []) rfl ?_
  refine lv_iload_n (pc := 5) hx hb dX5_read_5 rfl (lv_at hl 3 rfl) ?_
  refine k_i2l (pc := 6) hx hb ⟨by omega, by omega⟩ dX5_read_6 ?_
  refine k_call0 (pc := 7) (va_runS (As := [.long (lI sg)]) (rest := []) ⟨hx, hb, hml, hown, hts⟩ (c_X5_requireStage_b l D cA ad w sg (by omega)) (va_cwS 1 hts gX5_read_X5_requireStage rfl rfl rfl (by decide +kernel) ⟨Nat.le_of_ble_eq_true rfl, Nat.le_of_ble_eq_true rfl⟩) (gR_S hP hK hB) rfl rfl hl.1 rfl (lv_room (Nat.le_of_ble_eq_true rfl)) dX5_read_7 ⟨Nat.le_of_ble_eq_true rfl, Nat.le_of_ble_eq_true rfl⟩) (fun v_7 hv_7 => ?_)
  obtain ⟨hv1, hq_7⟩ := hv_7
  subst hv1
  refine W.eq (g2 := F0 m 10 ls []) rfl ?_
  refine lv_iload_n (pc := 10) hx hb dX5_read_10 rfl (lv_at hl 3 rfl) ?_
  refine k_i2l (pc := 11) hx hb ⟨by omega, by omega⟩ dX5_read_11 ?_
  refine lv_iload (pc := 12) hx hb dX5_read_12 (lv_at hl 4 rfl) ?_
  refine k_i2l (pc := 14) hx hb ⟨by omega, by omega⟩ dX5_read_14 ?_
  refine lv_iload_n (pc := 15) hx hb dX5_read_15 rfl (lv_at hl 2 rfl) ?_
  refine k_iconst (pc := 16) hx hb dX5_read_16 ?_
  refine k_isub (pc := 17) hx hb dX5_read_17 ?_
  refine k_i2l (pc := 18) hx hb ⟨by omega, by omega⟩ dX5_read_18 ?_
  refine k_lmul (pc := 19) hx hb dX5_read_19 ?_
  refine k_ladd (pc := 20) hx hb dX5_read_20 ?_
  refine k_call0 (pc := 21) (va_runS (As := [.long (lI (sg + (ri * (n - 1))))]) (rest := []) ⟨hx, hb, hml, hown, hts⟩ (c_X5_requireStage_b l D cA ad w (sg + (ri * (n - 1))) hok.2.2) (va_cwS 1 hts gX5_read_X5_requireStage rfl rfl rfl (by decide +kernel) ⟨Nat.le_of_ble_eq_true rfl, Nat.le_of_ble_eq_true rfl⟩) (gR_S hP hK hB) rfl rfl hl.1 rfl (lv_room (Nat.le_of_ble_eq_true rfl)) dX5_read_21 ⟨Nat.le_of_ble_eq_true rfl, Nat.le_of_ble_eq_true rfl⟩) (fun v_21 hv_21 => ?_)
  obtain ⟨hv1, hq_21⟩ := hv_21
  subst hv1
  refine W.eq (g2 := F0 m 24 ls []) rfl ?_
  refine lv_aload_n (pc := 24) hx hb dX5_read_24 rfl (lv_at hl 0 rfl) ?_
  refine k_get (pc := 25) (ci := 5) (C := RX5) (T := TX5) (N := 13) hx hb hts hi5 hown hK hP 0 h0 rfl 3 (by decide) hf26 (fun _ h9 => h9) rfl dX5_read_25 ?_
  refine lv_iload_n (pc := 28) hx hb dX5_read_28 rfl (lv_at hl 1 rfl) ?_
  refine lv_iload_n (pc := 29) hx hb dX5_read_29 rfl (lv_at hl 2 rfl) ?_
  refine k_call0 (pc := 30) (va_runS (As := [.ref (ad 6), .int (iI d), .int (iI n)]) (rest := []) ⟨hx, hb, hml, hown, hts⟩ (c_X5_countTrue l D cA ad w 6 (fn 3) d n h6 (fun j9 => by have h9_ := hI.2.2.2.1 j9; omega) (by omega)) (va_cwS 3 hts gX5_read_X5_countTrue rfl rfl rfl (by decide +kernel) ⟨Nat.le_of_ble_eq_true rfl, Nat.le_of_ble_eq_true rfl⟩) (gR_S hP hK hB) rfl rfl hl.1 rfl (lv_room (Nat.le_of_ble_eq_true rfl)) dX5_read_30 ⟨Nat.le_of_ble_eq_true rfl, Nat.le_of_ble_eq_true rfl⟩) (fun v_30 hv_30 => ?_)
  obtain ⟨z_30, rfl, hz_30, hy_30, hw_30⟩ := hv_30
  refine W.eq (g2 := F0 m 33 ls [.int (iI z_30)]) rfl ?_
  have he_33 : z_30 = cntT (fn 3) d n.toNat := by omega
  rw [he_33]
  refine lv_istore (pc := 33) (lv' := [(5, .int (iI (cntT (fn 3) d n.toNat))), (0, .ref (ad 0)), (1, .int (iI d)), (2, .int (iI n)), (3, .int (iI sg)), (4, .int (iI ri))]) hx hb dX5_read_33 hl (by decide) rfl (fun ls hl => ?_)
  refine k_iconst (pc := 35) hx hb dX5_read_35 ?_
  refine lv_istore (pc := 36) (lv' := [(6, .int (iI 0)), (5, .int (iI (cntT (fn 3) d n.toNat))), (0, .ref (ad 0)), (1, .int (iI d)), (2, .int (iI n)), (3, .int (iI sg)), (4, .int (iI ri))]) hx hb dX5_read_36 hl (by decide) rfl (fun ls hl => ?_)
  have lp_38 : ∀ (N9 : Nat) (i : Int), (0 ≤ i ∧ i ≤ n) → (n - i).toNat < N9 → ∀ (H : Heap) (locs : List Loc), gP D vwCl ad (up (up w 5 (eI (cA 0) 400 (spanF (fn 2) d i (fun j => sg + ri * (j - d))))) 6 (eI (cA 1) 400 (spanF (fn 3) d i (fun _ => 1)))) H → gD A ad (up (up w 5 (eI (cA 0) 400 (spanF (fn 2) d i (fun j => sg + ri * (j - d))))) 6 (eI (cA 1) 400 (spanF (fn 3) d i (fun _ => 1)))) → va_S A s.heap H locs → ∀ (ls : Array Slot), lv_has ls 7 [(6, .int (iI i)), (5, .int (iI (cntT (fn 3) d n.toNat))), (0, .ref (ad 0)), (1, .int (iI d)), (2, .int (iI n)), (3, .int (iI sg)), (4, .int (iI ri))] → W p l e rmX5_read_b s m args below meth c H locs 0 0 Q9 (F0 m 38 ls []) := by
    intro N9
    induction N9 with
    | zero => intro i i0 hmu; exact absurd hmu (Nat.not_lt_zero _)
    | succ N9 ih_38 =>
      intro i i0 hmu_38 H locs hP hD hS ls hl
      refine lv_iload (pc := 38) hx hb dX5_read_38 (lv_at hl 0 rfl) ?_
      refine lv_iload_n (pc := 40) hx hb dX5_read_40 rfl (lv_at hl 4 rfl) ?_
      refine k_icmp_ge (pc := 41) (tgt := 76) hx hb ⟨by omega, by omega⟩ ⟨by omega, by omega⟩ dX5_read_41 (by decide) (fun hc_41 => ?_) (fun hc_41 => ?_)
      · skip
        have hin_ : i = n := by omega
        rw [hin_] at hP hD
        refine lv_aload_n (pc := 76) hx hb dX5_read_76 rfl (lv_at hl 2 rfl) ?_
        refine k_iconst (pc := 77) hx hb dX5_read_77 ?_
        refine k_put (pc := 78) (ci := 5) (C := RX5) (T := TX5) (N := 13) (ty := .boolean) (v := .int (iI 0)) (w1 := (up (up (up w 5 (eI (cA 0) 400 (spanF (fn 2) d n (fun j => sg + ri * (j - d))))) 6 (eI (cA 1) 400 (spanF (fn 3) d n (fun _ => 1)))) 0 (oB 5 [.ref (ad 1), .ref (ad 2), .ref (ad 5), .ref (ad 6), .ref (ad 7), .ref (ad 8), .ref (ad 9), .ref (ad 12), .int (iI (sc 0)), .int (iI (sc 4)), .int (iI (sc 2)), .int (iI (sc 3)), .int (iI 0)]))) hx hb hts hi5 tyX5 tyX5_ok nmX5 hown hK hP hD hS 0 (up_n (by decide) (up_n (by decide) h0)) rfl 12 (by decide) hf82 (fun _ h9 => h9) rfl (by decide +kernel) (by decide +kernel) rfl (Nat.le_of_ble_eq_true rfl) rfl dX5_read_78 (fun H locs hP hD hS => ?_)
        refine lv_iload (pc := 81) hx hb dX5_read_81 (lv_at hl 1 rfl) ?_
        rw [hQ9]
        exact W.iret (v := iI (cntT (fn 3) d n.toNat)) hx hb hret (fun t ht hW => ⟨⟨some (.int (iI (cntT (fn 3) d n.toNat))), ad, (up (up (up w 5 (eI (cA 0) 400 (spanF (fn 2) d n (fun j => sg + ri * (j - d))))) 6 (eI (cA 1) 400 (spanF (fn 3) d n (fun _ => 1)))) 0 (oB 5 [.ref (ad 1), .ref (ad 2), .ref (ad 5), .ref (ad 6), .ref (ad 7), .ref (ad 8), .ref (ad 9), .ref (ad 12), .int (iI (sc 0)), .int (iI (sc 4)), .int (iI (sc 2)), .int (iI (sc 3)), .int (iI 0)])), rfl, ⟨sc, (upF (upF fn 2 (spanF (fn 2) d n (fun j => sg + ri * (j - d)))) 3 (spanF (fn 3) d n (fun _ => 1))), ⟨0, F, S, rn, rd, rm_, rz, ⟨(up_s _ _ _), (up_n (by decide) (up_n (by decide) (up_n (by decide) h1))), (up_n (by decide) (up_n (by decide) (up_n (by decide) h2))), (up_n (by decide) (up_n (by decide) (up_n (by decide) h3))), (up_n (by decide) (up_n (by decide) (up_n (by decide) h4))), (up_n (by decide) (up_n (by decide) (up_s _ _ _))), (up_n (by decide) (up_s _ _ _)), (up_n (by decide) (up_n (by decide) (up_n (by decide) h7))), (up_n (by decide) (up_n (by decide) (up_n (by decide) h8))), (up_n (by decide) (up_n (by decide) (up_n (by decide) h9))), (up_n (by decide) (up_n (by decide) (up_n (by decide) h10))), (up_n (by decide) (up_n (by decide) (up_n (by decide) h11))), (up_n (by decide) (up_n (by decide) (up_n (by decide) h12))), (up_n (by decide) (up_n (by decide) (up_n (by decide) h13))), (up_n (by decide) (up_n (by decide) (up_n (by decide) h14))), (up_n (by decide) (up_n (by decide) (up_n (by decide) h15))), (fun k9 hk9 => by have h9_ := (cv_keep (fn2 := (upF (upF fn 2 (spanF (fn 2) d n (fun j => sg + ri * (j - d)))) 3 (spanF (fn 3) d n (fun _ => 1)))) hcv rfl rfl (fun k => ⟨((upF_n (by omega)).trans (upF_n (by omega))), ((upF_n (by omega)).trans (upF_n (by omega)))⟩)) k9 hk9; have i9_ := hI.1.1; exact ⟨(up_n (by omega) (up_n (by omega) (up_n (by omega) h9_.1))), (up_n (by omega) (up_n (by omega) (up_n (by omega) h9_.2.1))), (up_n (by omega) (up_n (by omega) (up_n (by omega) h9_.2.2)))⟩), (fun k9 hk9 => by have h9_ := hms k9 hk9; have i9_ := hI.1.2.2.2.2; exact (up_n (by omega) (up_n (by omega) (up_n (by omega) h9_))))⟩, (Or.inl rfl), hF, hS9⟩, (inv_3 (inv_2 hI (spanF_b hI.2.2.1 (fun j g1 g2 => lin_bd (n := n) (i := j - d) (by omega) (by omega) (by omega)))) (spanF_b hI.2.2.2.1 (fun j g1 g2 => by omega))), ⟨rfl, fun r hr => ⟨(up_n (by omega) (up_n (by omega) (up_n (by omega) rfl))), rfl⟩⟩, ⟨rfl, rfl, ⟨by omega, by omega, by omega⟩, rfl⟩⟩, by rw [ht]; exact hP, hD⟩, hS.F ht⟩) hS.2.2 dX5_read_83
      · skip
        refine lv_aload_n (pc := 44) hx hb dX5_read_44 rfl (lv_at hl 2 rfl) ?_
        refine k_get (pc := 45) (ci := 5) (C := RX5) (T := TX5) (N := 13) hx hb hts hi5 hown hK hP 0 (up_n (by decide) (up_n (by decide) h0)) rfl 2 (by decide) hf22 (fun _ h9 => h9) rfl dX5_read_45 ?_
        refine lv_iload_n (pc := 48) hx hb dX5_read_48 rfl (lv_at hl 3 rfl) ?_
        refine lv_iload (pc := 49) hx hb dX5_read_49 (lv_at hl 0 rfl) ?_
        refine k_iadd (pc := 51) hx hb dX5_read_51 ?_
        refine lv_iload_n (pc := 52) hx hb dX5_read_52 rfl (lv_at hl 5 rfl) ?_
        refine lv_iload (pc := 53) hx hb dX5_read_53 (lv_at hl 6 rfl) ?_
        refine lv_iload (pc := 55) hx hb dX5_read_55 (lv_at hl 0 rfl) ?_
        refine k_imul (pc := 57) hx hb dX5_read_57 ?_
        refine k_iadd (pc := 58) hx hb dX5_read_58 ?_
        refine k_iast (pc := 59) (w1 := (up (up w 5 (eI (cA 0) 400 (updI (spanF (fn 2) d i (fun j => sg + ri * (j - d))) (d + i) (sg + (ri * i))))) 6 (eI (cA 1) 400 (spanF (fn 3) d i (fun _ => 1))))) hx hb hK hP hD hS 5 0 (up_n (by decide) (up_s _ _ _)) rfl (by omega) (by omega) (by omega) ((up_co _ _ _ (by decide)).trans (congrArg (fun u => up u 6 _) (up_up _ _ _ _))) dX5_read_59 (fun H locs hP hD hS => ?_)
        refine lv_aload_n (pc := 60) hx hb dX5_read_60 rfl (lv_at hl 2 rfl) ?_
        refine k_get (pc := 61) (ci := 5) (C := RX5) (T := TX5) (N := 13) hx hb hts hi5 hown hK hP 0 (up_n (by decide) (up_n (by decide) h0)) rfl 3 (by decide) hf26 (fun _ h9 => h9) rfl dX5_read_61 ?_
        refine lv_iload_n (pc := 64) hx hb dX5_read_64 rfl (lv_at hl 3 rfl) ?_
        refine lv_iload (pc := 65) hx hb dX5_read_65 (lv_at hl 0 rfl) ?_
        refine k_iadd (pc := 67) hx hb dX5_read_67 ?_
        refine k_iconst (pc := 68) hx hb dX5_read_68 ?_
        refine k_zast (pc := 69) (w1 := (up (up w 5 (eI (cA 0) 400 (updI (spanF (fn 2) d i (fun j => sg + ri * (j - d))) (d + i) (sg + (ri * i))))) 6 (eI (cA 1) 400 (updI (spanF (fn 3) d i (fun _ => 1)) (d + i) 1)))) hx hb hK hP hD hS 6 1 (up_s _ _ _) rfl (by omega) (by omega) (by omega) (Or.inr rfl) (up_up _ _ _ _) dX5_read_69 (fun H locs hP hD hS => ?_)
        refine lv_iinc (pc := 70) (v := iI (i + 1)) (lv' := [(6, .int (iI (i + 1))), (5, .int (iI (cntT (fn 3) d n.toNat))), (0, .ref (ad 0)), (1, .int (iI d)), (2, .int (iI n)), (3, .int (iI sg)), (4, .int (iI ri))]) hx hb dX5_read_70 hl (k := 0) rfl (iI_add _ _) (by decide) rfl (fun ls hl => ?_)
        refine lv_goto (pc := 73) (tgt := 38) hx hb dX5_read_73 (by decide) ?_
        have hW9 : ((up (up w 5 (eI (cA 0) 400 (updI (spanF (fn 2) d i (fun j => sg + ri * (j - d))) (d + i) (sg + (ri * i))))) 6 (eI (cA 1) 400 (updI (spanF (fn 3) d i (fun _ => 1)) (d + i) 1)))) = (up (up w 5 (eI (cA 0) 400 (spanF (fn 2) d (i + 1) (fun j => sg + ri * (j - d))))) 6 (eI (cA 1) 400 (spanF (fn 3) d (i + 1) (fun _ => 1)))) := by rw [spanF_s (fn 2) (fun j => sg + ri * (j - d)) (by omega) (show sg + ri * i = sg + ri * (d + i - d) by rw [show d + i - d = i by omega]), spanF_s (fn 3) (fun _ => 1) (by omega) rfl]
        rw [hW9] at hP hD
        exact ih_38 (i + 1) (by omega) (by omega) H locs hP hD hS ls (lv_sub hl [0, 1, 2, 3, 4, 5, 6] rfl)
  have hW9 : (w) = (up (up w 5 (eI (cA 0) 400 (spanF (fn 2) d 0 (fun j => sg + ri * (j - d))))) 6 (eI (cA 1) 400 (spanF (fn 3) d 0 (fun _ => 1)))) := by rw [spanF_0, spanF_0, up_self h5, up_self h6]
  rw [hW9] at hP hD
  exact lp_38 _ 0 (by omega) (Nat.lt_succ_self _) H locs hP hD hS ls (lv_sub hl [0, 1, 2, 3, 4, 5, 6] rfl)

abbrev rmX5_setRules_b : Room := { frames := 0, cells := 0, slots := 0, locals := 0 }
theorem hiX5_setRules_b_5 : ∀ w ∈ wsX50, w ∈ wsX5_setRules := by decide +kernel
set_option maxHeartbeats 4000000 in
set_option maxRecDepth 100000 in
theorem c_X5_setRules_b (l : Launch) (D : va_G) (cA : Nat → ClassId) (ad : Nat → Nat) (w : Nat → Option va_E) (sz : Nat) (sc : Nat → Int) (fn : Nat → Int → Int) (hI : bkInv sc fn) (hbk : bookS cA ad w sc fn) (fa li : Int) (hfa : (-2147483648 ≤ fa ∧ fa < 2147483648)) (hli : (-2147483648 ≤ li ∧ li < 2147483648)) (hok : ((0 ≤ fa ∧ fa ≤ 100) ∧ (0 ≤ li ∧ li ≤ 60))) : Met l yX5_setRules wsX5_setRules rmX5_setRules_b (gV D cA ad w sz [.ref (ad 0), .int (iI fa), .int (iI li)]) (gW D (fun v9 ad1 w1 => ∃ (sc2 : Nat → Int) (fn2 : Nat → Int → Int), bookS cA ad1 w1 sc2 fn2 ∧ bkInv sc2 fn2 ∧ keepR ad ad1 w w1 ∧ (sc2 = (upS (upS sc 2 fa) 3 li) ∧ fn2 = fn ∧ ((0 ≤ fa ∧ fa ≤ 100) ∧ (0 ≤ li ∧ li ≤ 60)) ∧ v9 = some (.int (iI (sc 2))))) (gA ad w sz)) 0 0 (gA ad w sz) := by
  refine Met.ofW (cc := cX5_setRules) (maxL := 4) (ret := (some .int)) (by decide) rfl ?_
  intro p e s m args below meth c s₁ B hml hv
  obtain ⟨hav, hsz, hP, hD0, hK, hB, hZ⟩ := hv
  have hx := B.exec
  have hb := B.bytes
  have hret := B.returns
  have hts := atoms_spec (ws := wsX5_setRules) B.pre
  have hown : s.vm.findClass RX5 = some m.cls := findClass_of_methodNamed B.named
  have hlocks := B.notSynchronized
  subst hsz
  have hD := hD0.self (sz := s.heap.size)
  generalize hAe : gA ad w s.heap.size = A at hD hZ ⊢
  have hA : ∀ q : Nat, s.heap.size ≤ q → A q := fun q h => by rw [← hAe]; exact Or.inr h
  have hS : va_S A s.heap s.heap [] := va_S.rf
  have hi5 := hiX5_setRules_b_5
  have hf53 := hts (.fieldLink RX5 53 "GaugeBook" "iceFactor" "I") (by decide +kernel)
  have hf57 := hts (.fieldLink RX5 57 "GaugeBook" "gapLimit" "I") (by decide +kernel)
  have hf82 := hts (.fieldLink RX5 82 "GaugeBook" "isReckoned" "Z") (by decide +kernel)
  have he9 : entryFrame m args 4 = F0 m 0 ((lg_sl ([.ref (ad 0), .int (iI fa), .int (iI li)] : List Value) ++ List.replicate (4 - (lg_sl ([.ref (ad 0), .int (iI fa), .int (iI li)] : List Value)).length) Slot.unset).toArray) [] := by rw [hav, lg_entry_eq]
  rw [he9]
  have hl := lv_entry ([.ref (ad 0), .int (iI fa), .int (iI li)] : List Value) (n := 4) (Nat.le_of_ble_eq_true rfl)
  generalize (lg_sl ([.ref (ad 0), .int (iI fa), .int (iI li)] : List Value) ++ List.replicate (4 - (lg_sl ([.ref (ad 0), .int (iI fa), .int (iI li)] : List Value)).length) Slot.unset).toArray = ls at hl ⊢
  have hl : lv_has ls 4 [(0, .ref (ad 0)), (1, .int (iI fa)), (2, .int (iI li))] := hl
  obtain ⟨Q9, hQ9⟩ : ∃ z, z = MQ below (gW D (fun v9 ad1 w1 => ∃ (sc2 : Nat → Int) (fn2 : Nat → Int → Int), bookS cA ad1 w1 sc2 fn2 ∧ bkInv sc2 fn2 ∧ keepR ad ad1 w w1 ∧ (sc2 = (upS (upS sc 2 fa) 3 li) ∧ fn2 = fn ∧ ((0 ≤ fa ∧ fa ≤ 100) ∧ (0 ≤ li ∧ li ≤ 60)) ∧ v9 = some (.int (iI (sc 2))))) A) args s 0 0 A := ⟨_, rfl⟩
  rw [← hQ9]
  show W p l e rmX5_setRules_b s m args below meth c s.heap [] 0 0 Q9 (F0 m 0 ls [])
  obtain ⟨H, hHe⟩ : ∃ z, z = s.heap := ⟨_, rfl⟩
  obtain ⟨locs, hLe⟩ : ∃ z, z = ([] : List Loc) := ⟨_, rfl⟩
  have hP : gP D vwCl ad w H := by rw [hHe]; exact hP
  have hS : va_S A s.heap H locs := by rw [hHe, hLe]; exact va_S.rf
  rw [show W p l e rmX5_setRules_b s m args below meth c s.heap [] 0 0 Q9 (F0 m 0 ls []) = W p l e rmX5_setRules_b s m args below meth c H locs 0 0 Q9 (F0 m 0 ls []) by rw [hHe, hLe]]
  clear hHe hLe
  obtain ⟨rk, F, S, rn, rd, rm_, rz, ⟨h0, h1, h2, h3, h4, h5, h6, h7, h8, h9, h10, h11, h12, h13, h14, h15, hcv, hms⟩, hrk, hF, hS9⟩ := hbk
  have hI1 := hI.1
  refine lv_iload_n (pc := 0) hx hb dX5_setRules_0 rfl (lv_at hl 1 rfl) ?_
  refine k_if_lt (pc := 1) (tgt := 10) hx hb ⟨by omega, by omega⟩ dX5_setRules_1 (by decide) (fun hc_1 => ?_) (fun hc_1 => ?_)
  · skip
    exfalso
    omega
  · skip
    refine lv_iload_n (pc := 4) hx hb dX5_setRules_4 rfl (lv_at hl 1 rfl) ?_
    refine k_bipush (pc := 5) hx hb dX5_setRules_5 (by decide +kernel) ?_
    refine k_icmp_le (pc := 7) (tgt := 20) hx hb ⟨by omega, by omega⟩ ⟨by omega, by omega⟩ dX5_setRules_7 (by decide) (fun hc_7 => ?_) (fun hc_7 => ?_)
    · skip
      refine lv_iload_n (pc := 20) hx hb dX5_setRules_20 rfl (lv_at hl 2 rfl) ?_
      refine k_if_lt (pc := 21) (tgt := 30) hx hb ⟨by omega, by omega⟩ dX5_setRules_21 (by decide) (fun hc_21 => ?_) (fun hc_21 => ?_)
      · skip
        exfalso
        omega
      · skip
        refine lv_iload_n (pc := 24) hx hb dX5_setRules_24 rfl (lv_at hl 2 rfl) ?_
        refine k_bipush (pc := 25) hx hb dX5_setRules_25 (by decide +kernel) ?_
        refine k_icmp_le (pc := 27) (tgt := 40) hx hb ⟨by omega, by omega⟩ ⟨by omega, by omega⟩ dX5_setRules_27 (by decide) (fun hc_27 => ?_) (fun hc_27 => ?_)
        · skip
          refine lv_aload_n (pc := 40) hx hb dX5_setRules_40 rfl (lv_at hl 0 rfl) ?_
          refine k_get (pc := 41) (ci := 5) (C := RX5) (T := TX5) (N := 13) hx hb hts hi5 hown hK hP 0 h0 rfl 10 (by decide) hf53 (fun _ h9 => h9) rfl dX5_setRules_41 ?_
          refine lv_istore_n (pc := 44) (lv' := [(3, .int (iI (sc 2))), (0, .ref (ad 0)), (1, .int (iI fa)), (2, .int (iI li))]) hx hb dX5_setRules_44 rfl hl (by decide) rfl (fun ls hl => ?_)
          refine lv_aload_n (pc := 45) hx hb dX5_setRules_45 rfl (lv_at hl 1 rfl) ?_
          refine lv_iload_n (pc := 46) hx hb dX5_setRules_46 rfl (lv_at hl 2 rfl) ?_
          refine k_put (pc := 47) (ci := 5) (C := RX5) (T := TX5) (N := 13) (ty := .int) (v := .int (iI fa)) (w1 := (up w 0 (oB 5 [.ref (ad 1), .ref (ad 2), .ref (ad 5), .ref (ad 6), .ref (ad 7), .ref (ad 8), .ref (ad 9), .ref (ad 12), .int (iI (sc 0)), .int (iI (sc 4)), .int (iI fa), .int (iI (sc 3)), .int (iI rk)]))) hx hb hts hi5 tyX5 tyX5_ok nmX5 hown hK hP hD hS 0 h0 rfl 10 (by decide) hf53 (fun _ h9 => h9) rfl (by decide +kernel) rfl rfl (Nat.le_of_ble_eq_true rfl) rfl dX5_setRules_47 (fun H locs hP hD hS => ?_)
          refine lv_aload_n (pc := 50) hx hb dX5_setRules_50 rfl (lv_at hl 1 rfl) ?_
          refine lv_iload_n (pc := 51) hx hb dX5_setRules_51 rfl (lv_at hl 3 rfl) ?_
          refine k_put (pc := 52) (ci := 5) (C := RX5) (T := TX5) (N := 13) (ty := .int) (v := .int (iI li)) (w1 := (up w 0 (oB 5 [.ref (ad 1), .ref (ad 2), .ref (ad 5), .ref (ad 6), .ref (ad 7), .ref (ad 8), .ref (ad 9), .ref (ad 12), .int (iI (sc 0)), .int (iI (sc 4)), .int (iI fa), .int (iI li), .int (iI rk)]))) hx hb hts hi5 tyX5 tyX5_ok nmX5 hown hK hP hD hS 0 (up_s _ _ _) rfl 11 (by decide) hf57 (fun _ h9 => h9) rfl (by decide +kernel) rfl rfl (Nat.le_of_ble_eq_true rfl) (up_up _ _ _ _) dX5_setRules_52 (fun H locs hP hD hS => ?_)
          refine lv_aload_n (pc := 55) hx hb dX5_setRules_55 rfl (lv_at hl 1 rfl) ?_
          refine k_iconst (pc := 56) hx hb dX5_setRules_56 ?_
          refine k_put (pc := 57) (ci := 5) (C := RX5) (T := TX5) (N := 13) (ty := .boolean) (v := .int (iI 0)) (w1 := (up w 0 (oB 5 [.ref (ad 1), .ref (ad 2), .ref (ad 5), .ref (ad 6), .ref (ad 7), .ref (ad 8), .ref (ad 9), .ref (ad 12), .int (iI (sc 0)), .int (iI (sc 4)), .int (iI fa), .int (iI li), .int (iI 0)]))) hx hb hts hi5 tyX5 tyX5_ok nmX5 hown hK hP hD hS 0 (up_s _ _ _) rfl 12 (by decide) hf82 (fun _ h9 => h9) rfl (by decide +kernel) (by decide +kernel) rfl (Nat.le_of_ble_eq_true rfl) (up_up _ _ _ _) dX5_setRules_57 (fun H locs hP hD hS => ?_)
          refine lv_iload_n (pc := 60) hx hb dX5_setRules_60 rfl (lv_at hl 0 rfl) ?_
          rw [hQ9]
          exact W.iret (v := iI (sc 2)) hx hb hret (fun t ht hW => ⟨⟨some (.int (iI (sc 2))), ad, (up w 0 (oB 5 [.ref (ad 1), .ref (ad 2), .ref (ad 5), .ref (ad 6), .ref (ad 7), .ref (ad 8), .ref (ad 9), .ref (ad 12), .int (iI (sc 0)), .int (iI (sc 4)), .int (iI fa), .int (iI li), .int (iI 0)])), rfl, ⟨(upS (upS sc 2 fa) 3 li), fn, ⟨0, F, S, rn, rd, rm_, rz, ⟨(up_s _ _ _), (up_n (by decide) h1), (up_n (by decide) h2), (up_n (by decide) h3), (up_n (by decide) h4), (up_n (by decide) h5), (up_n (by decide) h6), (up_n (by decide) h7), (up_n (by decide) h8), (up_n (by decide) h9), (up_n (by decide) h10), (up_n (by decide) h11), (up_n (by decide) h12), (up_n (by decide) h13), (up_n (by decide) h14), (up_n (by decide) h15), (fun k9 hk9 => by have h9_ := hcv k9 hk9; have i9_ := hI.1.1; exact ⟨(up_n (by omega) h9_.1), (up_n (by omega) h9_.2.1), (up_n (by omega) h9_.2.2)⟩), (fun k9 hk9 => by have h9_ := hms k9 hk9; have i9_ := hI.1.2.2.2.2; exact (up_n (by omega) h9_))⟩, (Or.inl rfl), hF, hS9⟩, (inv_ru hI (by omega) (by omega)), ⟨rfl, fun r hr => ⟨(up_n (by omega) rfl), rfl⟩⟩, ⟨rfl, rfl, by omega, rfl⟩⟩, by rw [ht]; exact hP, hD⟩, hS.F ht⟩) hS.2.2 dX5_setRules_61
        · skip
          exfalso
          omega
    · skip
      exfalso
      omega

abbrev rmX5_setShift_b : Room := { frames := 2, cells := 0, slots := 0, locals := 50 }
theorem hiX5_setShift_b_5 : ∀ w ∈ wsX50, w ∈ wsX5_setShift := by decide +kernel
set_option maxHeartbeats 4000000 in
set_option maxRecDepth 100000 in
theorem c_X5_setShift_b (l : Launch) (D : va_G) (cA : Nat → ClassId) (ad : Nat → Nat) (w : Nat → Option va_E) (sz : Nat) (sc : Nat → Int) (fn : Nat → Int → Int) (hI : bkInv sc fn) (hbk : bookS cA ad w sc fn) (d sv : Int) (hd : (-2147483648 ≤ d ∧ d < 2147483648)) (hsv : (-2147483648 ≤ sv ∧ sv < 2147483648)) (hok : ((0 ≤ d ∧ d < 400) ∧ (-200 ≤ sv ∧ sv ≤ 200))) (h20 : sc 1 < 20) : Met l yX5_setShift wsX5_setShift rmX5_setShift_b (gV D cA ad w sz [.ref (ad 0), .int (iI d), .int (iI sv)]) (gW D (fun v9 ad1 w1 => ∃ (sc2 : Nat → Int) (fn2 : Nat → Int → Int), bookS cA ad1 w1 sc2 fn2 ∧ bkInv sc2 fn2 ∧ keepR ad ad1 w w1 ∧ (∃ k : Int, clP (fn 0) (sc 1) d k ∧ ((0 ≤ d ∧ d < 400) ∧ (-200 ≤ sv ∧ sv ≤ 200)) ∧ ((sc2 = sc ∧ fn2 = upF fn 1 (updI (fn 1) k sv) ∧ k < sc 1 ∧ fn 0 k = d) ∨ (sc2 = upS sc 1 (sc 1 + 1) ∧ fn2 = upF (upF fn 0 (insF (fn 0) (sc 1) k d)) 1 (insF (fn 1) (sc 1) k sv) ∧ ¬ (k < sc 1 ∧ fn 0 k = d) ∧ sc 1 < 20)) ∧ v9 = some (.int (iI (sftF (fn 0) (fn 1) (sc 1) d))))) (gA ad w sz)) 0 0 (gA ad w sz) := by
  refine Met.ofW (cc := cX5_setShift) (maxL := 4) (ret := (some .int)) (by decide) rfl ?_
  intro p e s m args below meth c s₁ B hml hv
  obtain ⟨hav, hsz, hP, hD0, hK, hB, hZ⟩ := hv
  have hx := B.exec
  have hb := B.bytes
  have hret := B.returns
  have hts := atoms_spec (ws := wsX5_setShift) B.pre
  have hown : s.vm.findClass RX5 = some m.cls := findClass_of_methodNamed B.named
  have hlocks := B.notSynchronized
  subst hsz
  have hD := hD0.self (sz := s.heap.size)
  generalize hAe : gA ad w s.heap.size = A at hD hZ ⊢
  have hA : ∀ q : Nat, s.heap.size ≤ q → A q := fun q h => by rw [← hAe]; exact Or.inr h
  have hS : va_S A s.heap s.heap [] := va_S.rf
  have hi5 := hiX5_setShift_b_5
  have hf18 := hts (.fieldLink RX5 18 "GaugeBook" "shifts" "LGaugeBook$Shifts;") (by decide +kernel)
  have hf82 := hts (.fieldLink RX5 82 "GaugeBook" "isReckoned" "Z") (by decide +kernel)
  have he9 : entryFrame m args 4 = F0 m 0 ((lg_sl ([.ref (ad 0), .int (iI d), .int (iI sv)] : List Value) ++ List.replicate (4 - (lg_sl ([.ref (ad 0), .int (iI d), .int (iI sv)] : List Value)).length) Slot.unset).toArray) [] := by rw [hav, lg_entry_eq]
  rw [he9]
  have hl := lv_entry ([.ref (ad 0), .int (iI d), .int (iI sv)] : List Value) (n := 4) (Nat.le_of_ble_eq_true rfl)
  generalize (lg_sl ([.ref (ad 0), .int (iI d), .int (iI sv)] : List Value) ++ List.replicate (4 - (lg_sl ([.ref (ad 0), .int (iI d), .int (iI sv)] : List Value)).length) Slot.unset).toArray = ls at hl ⊢
  have hl : lv_has ls 4 [(0, .ref (ad 0)), (1, .int (iI d)), (2, .int (iI sv))] := hl
  obtain ⟨Q9, hQ9⟩ : ∃ z, z = MQ below (gW D (fun v9 ad1 w1 => ∃ (sc2 : Nat → Int) (fn2 : Nat → Int → Int), bookS cA ad1 w1 sc2 fn2 ∧ bkInv sc2 fn2 ∧ keepR ad ad1 w w1 ∧ (∃ k : Int, clP (fn 0) (sc 1) d k ∧ ((0 ≤ d ∧ d < 400) ∧ (-200 ≤ sv ∧ sv ≤ 200)) ∧ ((sc2 = sc ∧ fn2 = upF fn 1 (updI (fn 1) k sv) ∧ k < sc 1 ∧ fn 0 k = d) ∨ (sc2 = upS sc 1 (sc 1 + 1) ∧ fn2 = upF (upF fn 0 (insF (fn 0) (sc 1) k d)) 1 (insF (fn 1) (sc 1) k sv) ∧ ¬ (k < sc 1 ∧ fn 0 k = d) ∧ sc 1 < 20)) ∧ v9 = some (.int (iI (sftF (fn 0) (fn 1) (sc 1) d))))) A) args s 0 0 A := ⟨_, rfl⟩
  rw [← hQ9]
  show W p l e rmX5_setShift_b s m args below meth c s.heap [] 0 0 Q9 (F0 m 0 ls [])
  obtain ⟨H, hHe⟩ : ∃ z, z = s.heap := ⟨_, rfl⟩
  obtain ⟨locs, hLe⟩ : ∃ z, z = ([] : List Loc) := ⟨_, rfl⟩
  have hP : gP D vwCl ad w H := by rw [hHe]; exact hP
  have hS : va_S A s.heap H locs := by rw [hHe, hLe]; exact va_S.rf
  rw [show W p l e rmX5_setShift_b s m args below meth c s.heap [] 0 0 Q9 (F0 m 0 ls []) = W p l e rmX5_setShift_b s m args below meth c H locs 0 0 Q9 (F0 m 0 ls []) by rw [hHe, hLe]]
  clear hHe hLe
  obtain ⟨rk, F, S, rn, rd, rm_, rz, ⟨h0, h1, h2, h3, h4, h5, h6, h7, h8, h9, h10, h11, h12, h13, h14, h15, hcv, hms⟩, hrk, hF, hS9⟩ := hbk
  have hI1 := hI.1
  refine lv_iload_n (pc := 0) hx hb dX5_setShift_0 rfl (lv_at hl 1 rfl) ?_
  refine k_call0 (pc := 1) (va_runS (As := [.int (iI d)]) (rest := []) ⟨hx, hb, hml, hown, hts⟩ (c_X5_requireDay_b l D cA ad w d (by omega)) (va_cwS 1 hts gX5_setShift_X5_requireDay rfl rfl rfl (by decide +kernel) ⟨Nat.le_of_ble_eq_true rfl, Nat.le_of_ble_eq_true rfl⟩) (gR_S hP hK hB) rfl rfl hl.1 rfl (lv_room (Nat.le_of_ble_eq_true rfl)) dX5_setShift_1 ⟨Nat.le_of_ble_eq_true rfl, Nat.le_of_ble_eq_true rfl⟩) (fun v_1 hv_1 => ?_)
  obtain ⟨hv1, hq_1⟩ := hv_1
  subst hv1
  refine W.eq (g2 := F0 m 4 ls []) rfl ?_
  refine lv_iload_n (pc := 4) hx hb dX5_setShift_4 rfl (lv_at hl 2 rfl) ?_
  refine k_sipush (pc := 5) hx hb dX5_setShift_5 (by decide +kernel) ?_
  refine k_icmp_lt (pc := 8) (tgt := 18) hx hb ⟨by omega, by omega⟩ ⟨by omega, by omega⟩ dX5_setShift_8 (by decide) (fun hc_8 => ?_) (fun hc_8 => ?_)
  · skip
    exfalso
    omega
  · skip
    refine lv_iload_n (pc := 11) hx hb dX5_setShift_11 rfl (lv_at hl 2 rfl) ?_
    refine k_sipush (pc := 12) hx hb dX5_setShift_12 (by decide +kernel) ?_
    refine k_icmp_le (pc := 15) (tgt := 28) hx hb ⟨by omega, by omega⟩ ⟨by omega, by omega⟩ dX5_setShift_15 (by decide) (fun hc_15 => ?_) (fun hc_15 => ?_)
    · skip
      refine lv_aload_n (pc := 28) hx hb dX5_setShift_28 rfl (lv_at hl 0 rfl) ?_
      refine k_get (pc := 29) (ci := 5) (C := RX5) (T := TX5) (N := 13) hx hb hts hi5 hown hK hP 0 h0 rfl 1 (by decide) hf18 (fun _ h9 => h9) rfl dX5_setShift_29 ?_
      refine lv_iload_n (pc := 32) hx hb dX5_setShift_32 rfl (lv_at hl 1 rfl) ?_
      refine k_call0 (pc := 33) (va_runV (As := [.int (iI d)]) (rest := []) ⟨hx, hb, hml, hown, hts⟩ (c_X4_on l D cA ad w 2 3 4 (sc 1) (fn 0) (fn 1) h2 h3 h4 hI1.2.1 hI.2.1 d ⟨by omega, by omega⟩) (cwV 1 hts gX5_setShift_X4_on rfl rfl rfl (by decide +kernel) ⟨Nat.le_of_ble_eq_true rfl, Nat.le_of_ble_eq_true rfl⟩) (gR_V hP hK hB 2 (ci := 4) rfl h2) rfl rfl hl.1 rfl (lv_room (Nat.le_of_ble_eq_true rfl)) dX5_setShift_33 ⟨Nat.le_of_ble_eq_true rfl, Nat.le_of_ble_eq_true rfl⟩) (fun v_33 hv_33 => ?_)
      obtain ⟨z_33, rfl, hz_33, hy_33, hw_33⟩ := hv_33
      refine W.eq (g2 := F0 m 36 ls [.int (iI z_33)]) rfl ?_
      have he_36 : z_33 = sftF (fn 0) (fn 1) (sc 1) d := by omega
      rw [he_36]
      refine lv_istore_n (pc := 36) (lv' := [(3, .int (iI (sftF (fn 0) (fn 1) (sc 1) d))), (0, .ref (ad 0)), (1, .int (iI d)), (2, .int (iI sv))]) hx hb dX5_setShift_36 rfl hl (by decide) rfl (fun ls hl => ?_)
      refine lv_aload_n (pc := 37) hx hb dX5_setShift_37 rfl (lv_at hl 1 rfl) ?_
      refine k_get (pc := 38) (ci := 5) (C := RX5) (T := TX5) (N := 13) hx hb hts hi5 hown hK hP 0 h0 rfl 1 (by decide) hf18 (fun _ h9 => h9) rfl dX5_setShift_38 ?_
      refine lv_iload_n (pc := 41) hx hb dX5_setShift_41 rfl (lv_at hl 2 rfl) ?_
      refine lv_iload_n (pc := 42) hx hb dX5_setShift_42 rfl (lv_at hl 3 rfl) ?_
      refine k_call1 (pc := 43) (va_runV (As := [.int (iI d), .int (iI sv)]) (rest := []) ⟨hx, hb, hml, hown, hts⟩ (c_X4_tell l D cA ad w H.size 2 3 4 (sc 1) (fn 0) (fn 1) h2 h3 h4 hI1.2.1 hI.2.1 (by decide) (by decide) (by decide) d sv (by omega) (by omega)) (cwV 2 hts gX5_setShift_X4_tell rfl rfl rfl (by decide +kernel) ⟨Nat.le_of_ble_eq_true rfl, Nat.le_of_ble_eq_true rfl⟩) (gV_V hP hD hK hB hS hA hZ 2 (ci := 4) rfl h2) rfl rfl hl.1 rfl (lv_room (Nat.le_of_ble_eq_true rfl)) dX5_setShift_43 ⟨Nat.le_of_ble_eq_true rfl, Nat.le_of_ble_eq_true rfl⟩) hS (gA_sub hD hS hA) (fun v_43 ad_43 w_43 H locs hv_43 hP hD hS => ?_)
      obtain ⟨k_43, hk_43, hv2, ⟨he_43, hf_43, hv1, hv3⟩ | ⟨he_43, hf_43, hv1, hv3⟩ | ⟨he_43, hf_43, hv1, hv3⟩⟩ := hv_43
      · skip
        subst hv1
        rw [hv2, hv3] at hP hD
        refine W.eq (g2 := F0 m 46 ls [.int (iI 1)]) rfl ?_
        refine W.cs (cells' := 0) (slots' := 0) rfl rfl ?_
        refine k_if_ne (pc := 46) (tgt := 59) hx hb ⟨by omega, by omega⟩ dX5_setShift_46 (by decide) (fun hc_46 => ?_) (fun hc_46 => ?_)
        · skip
          refine lv_aload_n (pc := 59) hx hb dX5_setShift_59 rfl (lv_at hl 1 rfl) ?_
          refine k_iconst (pc := 60) hx hb dX5_setShift_60 ?_
          refine k_put (pc := 61) (ci := 5) (C := RX5) (T := TX5) (N := 13) (ty := .boolean) (v := .int (iI 0)) (w1 := (up (up w 4 (eI (cA 0) 20 (updI (fn 1) k_43 sv))) 0 (oB 5 [.ref (ad 1), .ref (ad 2), .ref (ad 5), .ref (ad 6), .ref (ad 7), .ref (ad 8), .ref (ad 9), .ref (ad 12), .int (iI (sc 0)), .int (iI (sc 4)), .int (iI (sc 2)), .int (iI (sc 3)), .int (iI 0)]))) hx hb hts hi5 tyX5 tyX5_ok nmX5 hown hK hP hD hS 0 (up_n (by decide) h0) rfl 12 (by decide) hf82 (fun _ h9 => h9) rfl (by decide +kernel) (by decide +kernel) rfl (Nat.le_of_ble_eq_true rfl) rfl dX5_setShift_61 (fun H locs hP hD hS => ?_)
          refine lv_iload_n (pc := 64) hx hb dX5_setShift_64 rfl (lv_at hl 0 rfl) ?_
          rw [hQ9]
          exact W.iret (v := iI (sftF (fn 0) (fn 1) (sc 1) d)) hx hb hret (fun t ht hW => ⟨⟨some (.int (iI (sftF (fn 0) (fn 1) (sc 1) d))), ad, (up (up w 4 (eI (cA 0) 20 (updI (fn 1) k_43 sv))) 0 (oB 5 [.ref (ad 1), .ref (ad 2), .ref (ad 5), .ref (ad 6), .ref (ad 7), .ref (ad 8), .ref (ad 9), .ref (ad 12), .int (iI (sc 0)), .int (iI (sc 4)), .int (iI (sc 2)), .int (iI (sc 3)), .int (iI 0)])), rfl, ⟨sc, (upF fn 1 (updI (fn 1) k_43 sv)), ⟨0, F, S, rn, rd, rm_, rz, ⟨(up_s _ _ _), (up_n (by decide) (up_n (by decide) h1)), (up_n (by decide) (up_n (by decide) h2)), (up_n (by decide) (up_n (by decide) h3)), (up_n (by decide) (up_s _ _ _)), (up_n (by decide) (up_n (by decide) h5)), (up_n (by decide) (up_n (by decide) h6)), (up_n (by decide) (up_n (by decide) h7)), (up_n (by decide) (up_n (by decide) h8)), (up_n (by decide) (up_n (by decide) h9)), (up_n (by decide) (up_n (by decide) h10)), (up_n (by decide) (up_n (by decide) h11)), (up_n (by decide) (up_n (by decide) h12)), (up_n (by decide) (up_n (by decide) h13)), (up_n (by decide) (up_n (by decide) h14)), (up_n (by decide) (up_n (by decide) h15)), (fun k9 hk9 => by have h9_ := (cv_keep (fn2 := (upF fn 1 (updI (fn 1) k_43 sv))) hcv rfl rfl (fun k => ⟨(upF_n (by omega)), (upF_n (by omega))⟩)) k9 hk9; have i9_ := hI.1.1; exact ⟨(up_n (by omega) (up_n (by omega) h9_.1)), (up_n (by omega) (up_n (by omega) h9_.2.1)), (up_n (by omega) (up_n (by omega) h9_.2.2))⟩), (fun k9 hk9 => by have h9_ := hms k9 hk9; have i9_ := hI.1.2.2.2.2; exact (up_n (by omega) (up_n (by omega) h9_)))⟩, (Or.inl rfl), hF, hS9⟩, (by have hx9 := inv_sh hI (g1 := fn 0) (g2 := updI (fn 1) k_43 sv) (n := sc 1) hI1.2.1 ⟨hI.2.1.1, hI.2.1.2.1, upd_b hI.2.1.2.2 (by omega)⟩; rw [upS_self rfl, upF_self rfl] at hx9; exact hx9), ⟨rfl, fun r hr => ⟨(up_n (by omega) (up_n (by omega) rfl)), rfl⟩⟩, ⟨k_43, hk_43, by omega, Or.inl ⟨rfl, rfl, he_43, hf_43⟩, rfl⟩⟩, by rw [ht]; exact hP, hD⟩, hS.F ht⟩) hS.2.2 dX5_setShift_65
        · skip
          exfalso
          omega
      · skip
        subst hv1
        rw [hv2, hv3] at hP hD
        refine W.eq (g2 := F0 m 46 ls [.int (iI 1)]) rfl ?_
        refine W.cs (cells' := 0) (slots' := 0) rfl rfl ?_
        refine k_if_ne (pc := 46) (tgt := 59) hx hb ⟨by omega, by omega⟩ dX5_setShift_46 (by decide) (fun hc_46 => ?_) (fun hc_46 => ?_)
        · skip
          refine lv_aload_n (pc := 59) hx hb dX5_setShift_59 rfl (lv_at hl 1 rfl) ?_
          refine k_iconst (pc := 60) hx hb dX5_setShift_60 ?_
          refine k_put (pc := 61) (ci := 5) (C := RX5) (T := TX5) (N := 13) (ty := .boolean) (v := .int (iI 0)) (w1 := (up (up (up (up w 3 (eI (cA 0) 20 (insF (fn 0) (sc 1) k_43 d))) 4 (eI (cA 0) 20 (insF (fn 1) (sc 1) k_43 sv))) 2 (oB 4 [.ref (ad 3), .ref (ad 4), .int (iI ((sc 1) + 1))])) 0 (oB 5 [.ref (ad 1), .ref (ad 2), .ref (ad 5), .ref (ad 6), .ref (ad 7), .ref (ad 8), .ref (ad 9), .ref (ad 12), .int (iI (sc 0)), .int (iI (sc 4)), .int (iI (sc 2)), .int (iI (sc 3)), .int (iI 0)]))) hx hb hts hi5 tyX5 tyX5_ok nmX5 hown hK hP hD hS 0 (up_n (by decide) (up_n (by decide) (up_n (by decide) h0))) rfl 12 (by decide) hf82 (fun _ h9 => h9) rfl (by decide +kernel) (by decide +kernel) rfl (Nat.le_of_ble_eq_true rfl) rfl dX5_setShift_61 (fun H locs hP hD hS => ?_)
          refine lv_iload_n (pc := 64) hx hb dX5_setShift_64 rfl (lv_at hl 0 rfl) ?_
          rw [hQ9]
          exact W.iret (v := iI (sftF (fn 0) (fn 1) (sc 1) d)) hx hb hret (fun t ht hW => ⟨⟨some (.int (iI (sftF (fn 0) (fn 1) (sc 1) d))), ad, (up (up (up (up w 3 (eI (cA 0) 20 (insF (fn 0) (sc 1) k_43 d))) 4 (eI (cA 0) 20 (insF (fn 1) (sc 1) k_43 sv))) 2 (oB 4 [.ref (ad 3), .ref (ad 4), .int (iI ((sc 1) + 1))])) 0 (oB 5 [.ref (ad 1), .ref (ad 2), .ref (ad 5), .ref (ad 6), .ref (ad 7), .ref (ad 8), .ref (ad 9), .ref (ad 12), .int (iI (sc 0)), .int (iI (sc 4)), .int (iI (sc 2)), .int (iI (sc 3)), .int (iI 0)])), rfl, ⟨(upS sc 1 (sc 1 + 1)), (upF (upF fn 0 (insF (fn 0) (sc 1) k_43 d)) 1 (insF (fn 1) (sc 1) k_43 sv)), ⟨0, F, S, rn, rd, rm_, rz, ⟨(up_s _ _ _), (up_n (by decide) (up_n (by decide) (up_n (by decide) (up_n (by decide) h1)))), (up_n (by decide) (up_s _ _ _)), (up_n (by decide) (up_n (by decide) (up_n (by decide) (up_s _ _ _)))), (up_n (by decide) (up_n (by decide) (up_s _ _ _))), (up_n (by decide) (up_n (by decide) (up_n (by decide) (up_n (by decide) h5)))), (up_n (by decide) (up_n (by decide) (up_n (by decide) (up_n (by decide) h6)))), (up_n (by decide) (up_n (by decide) (up_n (by decide) (up_n (by decide) h7)))), (up_n (by decide) (up_n (by decide) (up_n (by decide) (up_n (by decide) h8)))), (up_n (by decide) (up_n (by decide) (up_n (by decide) (up_n (by decide) h9)))), (up_n (by decide) (up_n (by decide) (up_n (by decide) (up_n (by decide) h10)))), (up_n (by decide) (up_n (by decide) (up_n (by decide) (up_n (by decide) h11)))), (up_n (by decide) (up_n (by decide) (up_n (by decide) (up_n (by decide) h12)))), (up_n (by decide) (up_n (by decide) (up_n (by decide) (up_n (by decide) h13)))), (up_n (by decide) (up_n (by decide) (up_n (by decide) (up_n (by decide) h14)))), (up_n (by decide) (up_n (by decide) (up_n (by decide) (up_n (by decide) h15)))), (fun k9 hk9 => by have h9_ := (cv_keep (fn2 := (upF (upF fn 0 (insF (fn 0) (sc 1) k_43 d)) 1 (insF (fn 1) (sc 1) k_43 sv))) hcv rfl rfl (fun k => ⟨((upF_n (by omega)).trans (upF_n (by omega))), ((upF_n (by omega)).trans (upF_n (by omega)))⟩)) k9 hk9; have i9_ := hI.1.1; exact ⟨(up_n (by omega) (up_n (by omega) (up_n (by omega) (up_n (by omega) h9_.1)))), (up_n (by omega) (up_n (by omega) (up_n (by omega) (up_n (by omega) h9_.2.1)))), (up_n (by omega) (up_n (by omega) (up_n (by omega) (up_n (by omega) h9_.2.2))))⟩), (fun k9 hk9 => by have h9_ := hms k9 hk9; have i9_ := hI.1.2.2.2.2; exact (up_n (by omega) (up_n (by omega) (up_n (by omega) (up_n (by omega) h9_)))))⟩, (Or.inl rfl), hF, hS9⟩, (inv_sh hI (by omega) (shOk_ins hI.2.1 (by omega) (by omega) hk_43 he_43)), ⟨rfl, fun r hr => ⟨(up_n (by omega) (up_n (by omega) (up_n (by omega) (up_n (by omega) rfl)))), rfl⟩⟩, ⟨k_43, hk_43, by omega, Or.inr ⟨rfl, rfl, he_43, hf_43⟩, rfl⟩⟩, by rw [ht]; exact hP, hD⟩, hS.F ht⟩) hS.2.2 dX5_setShift_65
        · skip
          exfalso
          omega
      · skip
        subst hv1
        rw [hv2, hv3] at hP hD
        refine W.eq (g2 := F0 m 46 ls [.int (iI 0)]) rfl ?_
        refine W.cs (cells' := 0) (slots' := 0) rfl rfl ?_
        refine k_if_ne (pc := 46) (tgt := 59) hx hb ⟨by omega, by omega⟩ dX5_setShift_46 (by decide) (fun hc_46 => ?_) (fun hc_46 => ?_)
        · skip
          exfalso
          omega
        · skip
          exfalso
          omega
    · skip
      exfalso
      omega

abbrev rmX5_addPoint_b : Room := { frames := 2, cells := 0, slots := 0, locals := 48 }
theorem hiX5_addPoint_b_5 : ∀ w ∈ wsX50, w ∈ wsX5_addPoint := by decide +kernel
set_option maxHeartbeats 4000000 in
set_option maxRecDepth 100000 in
theorem c_X5_addPoint_b (l : Launch) (D : va_G) (cA : Nat → ClassId) (ad : Nat → Nat) (w : Nat → Option va_E) (sz : Nat) (sc : Nat → Int) (fn : Nat → Int → Int) (hI : bkInv sc fn) (hbk : bookS cA ad w sc fn) (ci sg q : Int) (hci : (-2147483648 ≤ ci ∧ ci < 2147483648)) (hs_ : (-2147483648 ≤ sg ∧ sg < 2147483648)) (hq_ : (-2147483648 ≤ q ∧ q < 2147483648)) (hok : (0 ≤ ci ∧ ci < sc 0)) (hok2 : ((-500 ≤ sg ∧ sg ≤ 2000) ∧ (0 ≤ q ∧ q ≤ 1000000))) (hcan : ∀ (k : Nat) (p : Int), ci = (k : Int) → clP (fn (20 + k)) (fn 9 (k : Int)) sg p → canP (fn (20 + k)) (fn (30 + k)) (fn 9 (k : Int)) sg q p) : Met l yX5_addPoint wsX5_addPoint rmX5_addPoint_b (gV D cA ad w sz [.ref (ad 0), .int (iI ci), .int (iI sg), .int (iI q)]) (gW D (fun v9 ad1 w1 => ∃ (sc2 : Nat → Int) (fn2 : Nat → Int → Int), bookS cA ad1 w1 sc2 fn2 ∧ bkInv sc2 fn2 ∧ keepR ad ad1 w w1 ∧ (sc2 = sc ∧ ∃ (k : Nat) (p : Int), ci = (k : Int) ∧ (k : Int) < sc 0 ∧ fn2 = ptF fn k p sg q ∧ clP (fn (20 + k)) (fn 9 (k : Int)) sg p ∧ canP (fn (20 + k)) (fn (30 + k)) (fn 9 (k : Int)) sg q p ∧ ((-500 ≤ sg ∧ sg ≤ 2000) ∧ (0 ≤ q ∧ q ≤ 1000000)) ∧ v9 = some (.int (iI (fn 9 ci + 1))))) (gA ad w sz)) 0 0 (gA ad w sz) := by
  refine Met.ofW (cc := cX5_addPoint) (maxL := 5) (ret := (some .int)) (by decide) rfl ?_
  intro p e s m args below meth c s₁ B hml hv
  obtain ⟨hav, hsz, hP, hD0, hK, hB, hZ⟩ := hv
  have hx := B.exec
  have hb := B.bytes
  have hret := B.returns
  have hts := atoms_spec (ws := wsX5_addPoint) B.pre
  have hown : s.vm.findClass RX5 = some m.cls := findClass_of_methodNamed B.named
  have hlocks := B.notSynchronized
  subst hsz
  have hD := hD0.self (sz := s.heap.size)
  generalize hAe : gA ad w s.heap.size = A at hD hZ ⊢
  have hA : ∀ q : Nat, s.heap.size ≤ q → A q := fun q h => by rw [← hAe]; exact Or.inr h
  have hS : va_S A s.heap s.heap [] := va_S.rf
  have hi5 := hiX5_addPoint_b_5
  have hf82 := hts (.fieldLink RX5 82 "GaugeBook" "isReckoned" "Z") (by decide +kernel)
  have he9 : entryFrame m args 5 = F0 m 0 ((lg_sl ([.ref (ad 0), .int (iI ci), .int (iI sg), .int (iI q)] : List Value) ++ List.replicate (5 - (lg_sl ([.ref (ad 0), .int (iI ci), .int (iI sg), .int (iI q)] : List Value)).length) Slot.unset).toArray) [] := by rw [hav, lg_entry_eq]
  rw [he9]
  have hl := lv_entry ([.ref (ad 0), .int (iI ci), .int (iI sg), .int (iI q)] : List Value) (n := 5) (Nat.le_of_ble_eq_true rfl)
  generalize (lg_sl ([.ref (ad 0), .int (iI ci), .int (iI sg), .int (iI q)] : List Value) ++ List.replicate (5 - (lg_sl ([.ref (ad 0), .int (iI ci), .int (iI sg), .int (iI q)] : List Value)).length) Slot.unset).toArray = ls at hl ⊢
  have hl : lv_has ls 5 [(0, .ref (ad 0)), (1, .int (iI ci)), (2, .int (iI sg)), (3, .int (iI q))] := hl
  obtain ⟨Q9, hQ9⟩ : ∃ z, z = MQ below (gW D (fun v9 ad1 w1 => ∃ (sc2 : Nat → Int) (fn2 : Nat → Int → Int), bookS cA ad1 w1 sc2 fn2 ∧ bkInv sc2 fn2 ∧ keepR ad ad1 w w1 ∧ (sc2 = sc ∧ ∃ (k : Nat) (p : Int), ci = (k : Int) ∧ (k : Int) < sc 0 ∧ fn2 = ptF fn k p sg q ∧ clP (fn (20 + k)) (fn 9 (k : Int)) sg p ∧ canP (fn (20 + k)) (fn (30 + k)) (fn 9 (k : Int)) sg q p ∧ ((-500 ≤ sg ∧ sg ≤ 2000) ∧ (0 ≤ q ∧ q ≤ 1000000)) ∧ v9 = some (.int (iI (fn 9 ci + 1))))) A) args s 0 0 A := ⟨_, rfl⟩
  rw [← hQ9]
  show W p l e rmX5_addPoint_b s m args below meth c s.heap [] 0 0 Q9 (F0 m 0 ls [])
  obtain ⟨H, hHe⟩ : ∃ z, z = s.heap := ⟨_, rfl⟩
  obtain ⟨locs, hLe⟩ : ∃ z, z = ([] : List Loc) := ⟨_, rfl⟩
  have hP : gP D vwCl ad w H := by rw [hHe]; exact hP
  have hS : va_S A s.heap H locs := by rw [hHe, hLe]; exact va_S.rf
  rw [show W p l e rmX5_addPoint_b s m args below meth c s.heap [] 0 0 Q9 (F0 m 0 ls []) = W p l e rmX5_addPoint_b s m args below meth c H locs 0 0 Q9 (F0 m 0 ls []) by rw [hHe, hLe]]
  clear hHe hLe
  obtain ⟨rk, F, S, rn, rd, rm_, rz, ⟨h0, h1, h2, h3, h4, h5, h6, h7, h8, h9, h10, h11, h12, h13, h14, h15, hcv, hms⟩, hrk, hF, hS9⟩ := hbk
  have hI1 := hI.1
  refine lv_aload_n (pc := 0) hx hb dX5_addPoint_0 rfl (lv_at hl 0 rfl) ?_
  refine lv_iload_n (pc := 1) hx hb dX5_addPoint_1 rfl (lv_at hl 1 rfl) ?_
  refine k_call0 (pc := 2) (va_runV (As := [.int (iI ci)]) (rest := []) ⟨hx, hb, hml, hown, hts⟩ (c_X5_curveAt l D cA ad w sc fn rk hI h0 h1 ci ⟨by omega, by omega⟩) (cwV 1 hts gX5_addPoint_X5_curveAt rfl rfl rfl (by decide +kernel) ⟨Nat.le_of_ble_eq_true rfl, Nat.le_of_ble_eq_true rfl⟩) (gR_V hP hK hB 0 (ci := 5) rfl h0) rfl rfl hl.1 rfl (lv_room (Nat.le_of_ble_eq_true rfl)) dX5_addPoint_2 ⟨Nat.le_of_ble_eq_true rfl, Nat.le_of_ble_eq_true rfl⟩) (fun v_2 hv_2 => ?_)
  rcases hv_2 with ⟨k_2, hk_2, he_2, hv_2⟩ | ⟨he_2, hv_2⟩
  · skip
    subst hv_2
    refine W.eq (g2 := F0 m 5 ls [.ref (ad (30 + 3 * k_2))]) rfl ?_
    refine lv_astore (pc := 5) (lv' := [(4, .ref (ad (30 + 3 * k_2))), (0, .ref (ad 0)), (1, .int (iI ci)), (2, .int (iI sg)), (3, .int (iI q))]) hx hb dX5_addPoint_5 hl (by decide) rfl (fun ls hl => ?_)
    refine lv_aload (pc := 7) hx hb dX5_addPoint_7 (lv_at hl 0 rfl) ?_
    refine lv_ifnonnull (pc := 9) (tgt := 22) hx hb dX5_addPoint_9 (by decide) ?_
    refine lv_iload_n (pc := 22) hx hb dX5_addPoint_22 rfl (lv_at hl 3 rfl) ?_
    refine k_i2l (pc := 23) hx hb ⟨by omega, by omega⟩ dX5_addPoint_23 ?_
    refine k_call0 (pc := 24) (va_runS (As := [.long (lI sg)]) (rest := []) ⟨hx, hb, hml, hown, hts⟩ (c_X5_requireStage_b l D cA ad w sg (by omega)) (va_cwS 1 hts gX5_addPoint_X5_requireStage rfl rfl rfl (by decide +kernel) ⟨Nat.le_of_ble_eq_true rfl, Nat.le_of_ble_eq_true rfl⟩) (gR_S hP hK hB) rfl rfl hl.1 rfl (lv_room (Nat.le_of_ble_eq_true rfl)) dX5_addPoint_24 ⟨Nat.le_of_ble_eq_true rfl, Nat.le_of_ble_eq_true rfl⟩) (fun v_24 hv_24 => ?_)
    obtain ⟨hv1, hq_24⟩ := hv_24
    subst hv1
    refine W.eq (g2 := F0 m 27 ls []) rfl ?_
    refine lv_iload_n (pc := 27) hx hb dX5_addPoint_27 rfl (lv_at hl 4 rfl) ?_
    refine k_call0 (pc := 28) (va_runS (As := [.int (iI q)]) (rest := []) ⟨hx, hb, hml, hown, hts⟩ (c_X5_requireFlow_b l D cA ad w q (by omega)) (va_cwS 1 hts gX5_addPoint_X5_requireFlow rfl rfl rfl (by decide +kernel) ⟨Nat.le_of_ble_eq_true rfl, Nat.le_of_ble_eq_true rfl⟩) (gR_S hP hK hB) rfl rfl hl.1 rfl (lv_room (Nat.le_of_ble_eq_true rfl)) dX5_addPoint_28 ⟨Nat.le_of_ble_eq_true rfl, Nat.le_of_ble_eq_true rfl⟩) (fun v_28 hv_28 => ?_)
    obtain ⟨hv1, hq_28⟩ := hv_28
    subst hv1
    refine W.eq (g2 := F0 m 31 ls []) rfl ?_
    refine lv_aload (pc := 31) hx hb dX5_addPoint_31 (lv_at hl 0 rfl) ?_
    refine lv_iload_n (pc := 33) hx hb dX5_addPoint_33 rfl (lv_at hl 3 rfl) ?_
    refine lv_iload_n (pc := 34) hx hb dX5_addPoint_34 rfl (lv_at hl 4 rfl) ?_
    refine k_call1 (pc := 35) (va_runV (As := [.int (iI sg), .int (iI q)]) (rest := []) ⟨hx, hb, hml, hown, hts⟩ (c_X0_insert l D cA ad w H.size (30 + 3 * k_2) (31 + 3 * k_2) (32 + 3 * k_2) (fn 8 (k_2 : Int)) (fn 9 (k_2 : Int)) (fn (20 + k_2)) (fn (30 + k_2)) (hcv k_2 hk_2).1 (hcv k_2 hk_2).2.1 (hcv k_2 hk_2).2.2 (by have h9_ := hI.2.2.2.2.2.2.2.2.2.1 (k_2 : Int); omega) (hI.2.2.2.2.2.2.2.2.2.2 k_2 hk_2) (by omega) (by omega) (by omega) sg q (by omega) (by omega)) (cwV 2 hts gX5_addPoint_X0_insert rfl rfl rfl (by decide +kernel) ⟨Nat.le_of_ble_eq_true rfl, Nat.le_of_ble_eq_true rfl⟩) (gV_V hP hD hK hB hS hA hZ (30 + 3 * k_2) (ci := 0) rfl (hcv k_2 hk_2).1) rfl rfl hl.1 rfl (lv_room (Nat.le_of_ble_eq_true rfl)) dX5_addPoint_35 ⟨Nat.le_of_ble_eq_true rfl, Nat.le_of_ble_eq_true rfl⟩) hS (gA_sub hD hS hA) (fun v_35 ad_35 w_35 H locs hv_35 hP hD hS => ?_)
    obtain ⟨p_35, hp_35, hv2, ⟨hcp_35, hv1, hv3⟩ | ⟨hcp_35, hv1, hv3⟩⟩ := hv_35
    · skip
      subst hv1
      rw [hv2, hv3] at hP hD
      refine W.eq (g2 := F0 m 38 ls [.int (iI 1)]) rfl ?_
      refine W.cs (cells' := 0) (slots' := 0) rfl rfl ?_
      refine k_if_ne (pc := 38) (tgt := 51) hx hb ⟨by omega, by omega⟩ dX5_addPoint_38 (by decide) (fun hc_38 => ?_) (fun hc_38 => ?_)
      · skip
        refine lv_aload_n (pc := 51) hx hb dX5_addPoint_51 rfl (lv_at hl 1 rfl) ?_
        refine k_iconst (pc := 52) hx hb dX5_addPoint_52 ?_
        refine k_put (pc := 53) (ci := 5) (C := RX5) (T := TX5) (N := 13) (ty := .boolean) (v := .int (iI 0)) (w1 := (up (up (up (up w (31 + 3 * k_2) (eI (cA 0) 12 (insF (fn (20 + k_2)) (fn 9 (k_2 : Int)) p_35 sg))) (32 + 3 * k_2) (eI (cA 0) 12 (insF (fn (30 + k_2)) (fn 9 (k_2 : Int)) p_35 q))) (30 + 3 * k_2) (oB 0 [.int (iI (fn 8 (k_2 : Int))), .ref (ad (31 + 3 * k_2)), .ref (ad (32 + 3 * k_2)), .int (iI ((fn 9 (k_2 : Int)) + 1))])) 0 (oB 5 [.ref (ad 1), .ref (ad 2), .ref (ad 5), .ref (ad 6), .ref (ad 7), .ref (ad 8), .ref (ad 9), .ref (ad 12), .int (iI (sc 0)), .int (iI (sc 4)), .int (iI (sc 2)), .int (iI (sc 3)), .int (iI 0)]))) hx hb hts hi5 tyX5 tyX5_ok nmX5 hown hK hP hD hS 0 (up_n (by omega) (up_n (by omega) (up_n (by omega) h0))) rfl 12 (by decide) hf82 (fun _ h9 => h9) rfl (by decide +kernel) (by decide +kernel) rfl (Nat.le_of_ble_eq_true rfl) rfl dX5_addPoint_53 (fun H locs hP hD hS => ?_)
        refine lv_aload (pc := 56) hx hb dX5_addPoint_56 (lv_at hl 0 rfl) ?_
        refine k_call0 (pc := 58) (va_runV (As := []) (rest := []) ⟨hx, hb, hml, hown, hts⟩ (c_X0_size l D cA ad (up (up (up (up w (31 + 3 * k_2) (eI (cA 0) 12 (insF (fn (20 + k_2)) (fn 9 (k_2 : Int)) p_35 sg))) (32 + 3 * k_2) (eI (cA 0) 12 (insF (fn (30 + k_2)) (fn 9 (k_2 : Int)) p_35 q))) (30 + 3 * k_2) (oB 0 [.int (iI (fn 8 (k_2 : Int))), .ref (ad (31 + 3 * k_2)), .ref (ad (32 + 3 * k_2)), .int (iI ((fn 9 (k_2 : Int)) + 1))])) 0 (oB 5 [.ref (ad 1), .ref (ad 2), .ref (ad 5), .ref (ad 6), .ref (ad 7), .ref (ad 8), .ref (ad 9), .ref (ad 12), .int (iI (sc 0)), .int (iI (sc 4)), .int (iI (sc 2)), .int (iI (sc 3)), .int (iI 0)])) (30 + 3 * k_2) (31 + 3 * k_2) (32 + 3 * k_2) (fn 8 (k_2 : Int)) ((fn 9 (k_2 : Int)) + 1) (insF (fn (20 + k_2)) (fn 9 (k_2 : Int)) p_35 sg) (insF (fn (30 + k_2)) (fn 9 (k_2 : Int)) p_35 q) (up_n (by omega) (up_s _ _ _)) (up_n (by omega) (up_n (by omega) (up_n (by omega) (up_s _ _ _)))) (up_n (by omega) (up_n (by omega) (up_s _ _ _))) (by have h9_ := hI.2.2.2.2.2.2.2.2.2.1 (k_2 : Int); have g9_ := hcp_35.1; omega) (cvOk_ins (hI.2.2.2.2.2.2.2.2.2.2 k_2 hk_2) (hI.2.2.2.2.2.2.2.2.2.1 (k_2 : Int)).1 hq_24 hq_28 hp_35 hcp_35)) (cwV 0 hts gX5_addPoint_X0_size rfl rfl rfl (by decide +kernel) ⟨Nat.le_of_ble_eq_true rfl, Nat.le_of_ble_eq_true rfl⟩) (gR_V hP hK hB (30 + 3 * k_2) (ci := 0) rfl (up_n (by omega) (up_s _ _ _))) rfl rfl hl.1 rfl (lv_room (Nat.le_of_ble_eq_true rfl)) dX5_addPoint_58 ⟨Nat.le_of_ble_eq_true rfl, Nat.le_of_ble_eq_true rfl⟩) (fun v_58 hv_58 => ?_)
        obtain ⟨z_58, rfl, rfl⟩ := hv_58
        refine W.eq (g2 := F0 m 61 ls [.int (iI ((fn 9 (k_2 : Int)) + 1))]) rfl ?_
        have hbk2 : bookS cA ad (up (up (up (up w (31 + 3 * k_2) (eI (cA 0) 12 (insF (fn (20 + k_2)) (fn 9 (k_2 : Int)) p_35 sg))) (32 + 3 * k_2) (eI (cA 0) 12 (insF (fn (30 + k_2)) (fn 9 (k_2 : Int)) p_35 q))) (30 + 3 * k_2) (oB 0 [.int (iI (fn 8 (k_2 : Int))), .ref (ad (31 + 3 * k_2)), .ref (ad (32 + 3 * k_2)), .int (iI ((fn 9 (k_2 : Int)) + 1))])) 0 (oB 5 [.ref (ad 1), .ref (ad 2), .ref (ad 5), .ref (ad 6), .ref (ad 7), .ref (ad 8), .ref (ad 9), .ref (ad 12), .int (iI (sc 0)), .int (iI (sc 4)), .int (iI (sc 2)), .int (iI (sc 3)), .int (iI 0)])) sc (ptF fn k_2 p_35 sg q) := by refine ⟨0, F, S, rn, rd, rm_, rz, ?_, Or.inl rfl, hF, hS9⟩; unfold bookAt; rw [ptF_low (i := 0) (by omega)]; rw [ptF_low (i := 1) (by omega)]; rw [ptF_low (i := 2) (by omega)]; rw [ptF_low (i := 3) (by omega)]; rw [ptF_low (i := 4) (by omega)]; rw [ptF_low (i := 5) (by omega)]; rw [ptF_low (i := 6) (by omega)]; rw [ptF_low (i := 7) (by omega)]; exact ⟨(up_s _ _ _), (up_n (by decide) (up_n (by omega) (up_n (by omega) (up_n (by omega) h1)))), (up_n (by decide) (up_n (by omega) (up_n (by omega) (up_n (by omega) h2)))), (up_n (by decide) (up_n (by omega) (up_n (by omega) (up_n (by omega) h3)))), (up_n (by decide) (up_n (by omega) (up_n (by omega) (up_n (by omega) h4)))), (up_n (by decide) (up_n (by omega) (up_n (by omega) (up_n (by omega) h5)))), (up_n (by decide) (up_n (by omega) (up_n (by omega) (up_n (by omega) h6)))), (up_n (by decide) (up_n (by omega) (up_n (by omega) (up_n (by omega) h7)))), (up_n (by decide) (up_n (by omega) (up_n (by omega) (up_n (by omega) h8)))), (up_n (by decide) (up_n (by omega) (up_n (by omega) (up_n (by omega) h9)))), (up_n (by decide) (up_n (by omega) (up_n (by omega) (up_n (by omega) h10)))), (up_n (by decide) (up_n (by omega) (up_n (by omega) (up_n (by omega) h11)))), (up_n (by decide) (up_n (by omega) (up_n (by omega) (up_n (by omega) h12)))), (up_n (by decide) (up_n (by omega) (up_n (by omega) (up_n (by omega) h13)))), (up_n (by decide) (up_n (by omega) (up_n (by omega) (up_n (by omega) h14)))), (up_n (by decide) (up_n (by omega) (up_n (by omega) (up_n (by omega) h15)))), (cv_pt (by omega) hcv hk_2), (fun k9 hk9 => by have h9_ := hms k9 hk9; have i9_ := hI.1.2.2.2.2; exact (up_n (by omega) (up_n (by omega) (up_n (by omega) (up_n (by omega) h9_)))))⟩
        rw [hQ9]
        exact W.iret (v := iI ((fn 9 (k_2 : Int)) + 1)) hx hb hret (fun t ht hW => ⟨⟨some (.int (iI ((fn 9 (k_2 : Int)) + 1))), ad, (up (up (up (up w (31 + 3 * k_2) (eI (cA 0) 12 (insF (fn (20 + k_2)) (fn 9 (k_2 : Int)) p_35 sg))) (32 + 3 * k_2) (eI (cA 0) 12 (insF (fn (30 + k_2)) (fn 9 (k_2 : Int)) p_35 q))) (30 + 3 * k_2) (oB 0 [.int (iI (fn 8 (k_2 : Int))), .ref (ad (31 + 3 * k_2)), .ref (ad (32 + 3 * k_2)), .int (iI ((fn 9 (k_2 : Int)) + 1))])) 0 (oB 5 [.ref (ad 1), .ref (ad 2), .ref (ad 5), .ref (ad 6), .ref (ad 7), .ref (ad 8), .ref (ad 9), .ref (ad 12), .int (iI (sc 0)), .int (iI (sc 4)), .int (iI (sc 2)), .int (iI (sc 3)), .int (iI 0)])), rfl, ⟨sc, (ptF fn k_2 p_35 sg q), hbk2, (inv_pt hI hk_2 hq_24 hq_28 hp_35 hcp_35), ⟨rfl, fun r hr => ⟨(up_n (by omega) (up_n (by omega) (up_n (by omega) (up_n (by omega) rfl)))), rfl⟩⟩, ⟨rfl, k_2, p_35, he_2, hk_2, rfl, hp_35, hcp_35, ⟨hq_24, hq_28⟩, by rw [he_2]⟩⟩, by rw [ht]; exact hP, hD⟩, hS.F ht⟩) hS.2.2 dX5_addPoint_61
      · skip
        exfalso
        omega
    · skip
      subst hv1
      rw [hv2, hv3] at hP hD
      refine W.eq (g2 := F0 m 38 ls [.int (iI 0)]) rfl ?_
      refine W.cs (cells' := 0) (slots' := 0) rfl rfl ?_
      refine k_if_ne (pc := 38) (tgt := 51) hx hb ⟨by omega, by omega⟩ dX5_addPoint_38 (by decide) (fun hc_38 => ?_) (fun hc_38 => ?_)
      · skip
        exfalso
        omega
      · skip
        exfalso
        exact hcp_35 (hcan k_2 p_35 he_2 hp_35)
  · skip
    subst hv_2
    refine W.eq (g2 := F0 m 5 ls [.null]) rfl ?_
    refine lv_astoreN (pc := 5) (lv' := [(4, .null), (0, .ref (ad 0)), (1, .int (iI ci)), (2, .int (iI sg)), (3, .int (iI q))]) hx hb dX5_addPoint_5 hl (by decide) rfl (fun ls hl => ?_)
    refine lv_aloadN (pc := 7) hx hb dX5_addPoint_7 (lv_at hl 0 rfl) ?_
    refine lv_ifnonnullN (pc := 9) hx hb dX5_addPoint_9 ?_
    exfalso
    omega

abbrev rmX5_addCurve_b : Room := { frames := 3, cells := 3, slots := 28, locals := 68 }
theorem hiX5_addCurve_b_0 : ∀ w ∈ wsX00, w ∈ wsX5_addCurve := by decide +kernel
theorem hiX5_addCurve_b_5 : ∀ w ∈ wsX50, w ∈ wsX5_addCurve := by decide +kernel
set_option maxHeartbeats 4000000 in
set_option maxRecDepth 100000 in
theorem c_X5_addCurve_b (l : Launch) (D : va_G) (cA : Nat → ClassId) (ad : Nat → Nat) (w : Nat → Option va_E) (sz : Nat) (sc : Nat → Int) (fn : Nat → Int → Int) (hI : bkInv sc fn) (hbk : bookS cA ad w sc fn) (d : Int) (hd_ : (-2147483648 ≤ d ∧ d < 2147483648)) (hok : 0 ≤ d ∧ d < 400) (h6 : sc 0 < 6) (hno : ∀ j : Int, 0 ≤ j → j < sc 0 → fn 8 j ≠ d) : Met l yX5_addCurve wsX5_addCurve rmX5_addCurve_b (gV D cA ad w sz [.ref (ad 0), .int (iI d)]) (gW D (fun v9 ad1 w1 => ∃ (sc2 : Nat → Int) (fn2 : Nat → Int → Int), bookS cA ad1 w1 sc2 fn2 ∧ bkInv sc2 fn2 ∧ keepR ad ad1 w w1 ∧ (∃ c : Nat, sc 0 = (c : Int) ∧ sc2 = upS sc 0 (sc 0 + 1) ∧ fn2 = crF fn c d ∧ (0 ≤ d ∧ d < 400) ∧ sc 0 < 6 ∧ (∀ j : Int, 0 ≤ j → j < sc 0 → fn 8 j ≠ d) ∧ v9 = some (.int (iI (sc 0))))) (gA ad w sz)) 3 28 (gA ad w sz) := by
  refine Met.ofW (cc := cX5_addCurve) (maxL := 3) (ret := (some .int)) (by decide) rfl ?_
  intro p e s m args below meth c s₁ B hml hv
  obtain ⟨hav, hsz, hP, hD0, hK, hB, hZ⟩ := hv
  have hx := B.exec
  have hb := B.bytes
  have hret := B.returns
  have hts := atoms_spec (ws := wsX5_addCurve) B.pre
  have hown : s.vm.findClass RX5 = some m.cls := findClass_of_methodNamed B.named
  have hlocks := B.notSynchronized
  subst hsz
  have hD := hD0.self (sz := s.heap.size)
  generalize hAe : gA ad w s.heap.size = A at hD hZ ⊢
  have hA : ∀ q : Nat, s.heap.size ≤ q → A q := fun q h => by rw [← hAe]; exact Or.inr h
  have hS : va_S A s.heap s.heap [] := va_S.rf
  have hi0 := hiX5_addCurve_b_0
  have hi5 := hiX5_addCurve_b_5
  have hf11 := hts (.fieldLink RX5 11 "GaugeBook" "curves" "[LGaugeBook$Curve;") (by decide +kernel)
  have hf64 := hts (.fieldLink RX5 64 "GaugeBook" "curveTotal" "I") (by decide +kernel)
  have hf82 := hts (.fieldLink RX5 82 "GaugeBook" "isReckoned" "Z") (by decide +kernel)
  have he9 : entryFrame m args 3 = F0 m 0 ((lg_sl ([.ref (ad 0), .int (iI d)] : List Value) ++ List.replicate (3 - (lg_sl ([.ref (ad 0), .int (iI d)] : List Value)).length) Slot.unset).toArray) [] := by rw [hav, lg_entry_eq]
  rw [he9]
  have hl := lv_entry ([.ref (ad 0), .int (iI d)] : List Value) (n := 3) (Nat.le_of_ble_eq_true rfl)
  generalize (lg_sl ([.ref (ad 0), .int (iI d)] : List Value) ++ List.replicate (3 - (lg_sl ([.ref (ad 0), .int (iI d)] : List Value)).length) Slot.unset).toArray = ls at hl ⊢
  have hl : lv_has ls 3 [(0, .ref (ad 0)), (1, .int (iI d))] := hl
  obtain ⟨Q9, hQ9⟩ : ∃ z, z = MQ below (gW D (fun v9 ad1 w1 => ∃ (sc2 : Nat → Int) (fn2 : Nat → Int → Int), bookS cA ad1 w1 sc2 fn2 ∧ bkInv sc2 fn2 ∧ keepR ad ad1 w w1 ∧ (∃ c : Nat, sc 0 = (c : Int) ∧ sc2 = upS sc 0 (sc 0 + 1) ∧ fn2 = crF fn c d ∧ (0 ≤ d ∧ d < 400) ∧ sc 0 < 6 ∧ (∀ j : Int, 0 ≤ j → j < sc 0 → fn 8 j ≠ d) ∧ v9 = some (.int (iI (sc 0))))) A) args s 3 28 A := ⟨_, rfl⟩
  rw [← hQ9]
  show W p l e rmX5_addCurve_b s m args below meth c s.heap [] 0 0 Q9 (F0 m 0 ls [])
  obtain ⟨H, hHe⟩ : ∃ z, z = s.heap := ⟨_, rfl⟩
  obtain ⟨locs, hLe⟩ : ∃ z, z = ([] : List Loc) := ⟨_, rfl⟩
  have hP : gP D vwCl ad w H := by rw [hHe]; exact hP
  have hS : va_S A s.heap H locs := by rw [hHe, hLe]; exact va_S.rf
  rw [show W p l e rmX5_addCurve_b s m args below meth c s.heap [] 0 0 Q9 (F0 m 0 ls []) = W p l e rmX5_addCurve_b s m args below meth c H locs 0 0 Q9 (F0 m 0 ls []) by rw [hHe, hLe]]
  clear hHe hLe
  obtain ⟨rk, F, S, rn, rd, rm_, rz, ⟨h0, h1, h2, h3, h4, h5, h6, h7, h8, h9, h10, h11, h12, h13, h14, h15, hcv, hms⟩, hrk, hF, hS9⟩ := hbk
  have hI1 := hI.1
  refine lv_iload_n (pc := 0) hx hb dX5_addCurve_0 rfl (lv_at hl 1 rfl) ?_
  refine k_call0 (pc := 1) (va_runS (As := [.int (iI d)]) (rest := []) ⟨hx, hb, hml, hown, hts⟩ (c_X5_requireDay_b l D cA ad w d (by omega)) (va_cwS 1 hts gX5_addCurve_X5_requireDay rfl rfl rfl (by decide +kernel) ⟨Nat.le_of_ble_eq_true rfl, Nat.le_of_ble_eq_true rfl⟩) (gR_S hP hK hB) rfl rfl hl.1 rfl (lv_room (Nat.le_of_ble_eq_true rfl)) dX5_addCurve_1 ⟨Nat.le_of_ble_eq_true rfl, Nat.le_of_ble_eq_true rfl⟩) (fun v_1 hv_1 => ?_)
  obtain ⟨hv1, hq_1⟩ := hv_1
  subst hv1
  refine W.eq (g2 := F0 m 4 ls []) rfl ?_
  refine lv_aload_n (pc := 4) hx hb dX5_addCurve_4 rfl (lv_at hl 0 rfl) ?_
  refine k_get (pc := 5) (ci := 5) (C := RX5) (T := TX5) (N := 13) hx hb hts hi5 hown hK hP 0 h0 rfl 8 (by decide) hf64 (fun _ h9 => h9) rfl dX5_addCurve_5 ?_
  refine k_bipush (pc := 8) hx hb dX5_addCurve_8 (by decide +kernel) ?_
  refine k_icmp_lt (pc := 10) (tgt := 23) hx hb ⟨by omega, by omega⟩ ⟨by omega, by omega⟩ dX5_addCurve_10 (by decide) (fun hc_10 => ?_) (fun hc_10 => ?_)
  · skip
    refine lv_aload_n (pc := 23) hx hb dX5_addCurve_23 rfl (lv_at hl 0 rfl) ?_
    refine lv_iload_n (pc := 24) hx hb dX5_addCurve_24 rfl (lv_at hl 1 rfl) ?_
    refine k_call0 (pc := 25) (va_runV (As := [.int (iI d)]) (rest := []) ⟨hx, hb, hml, hown, hts⟩ (c_X5_hasCurveFrom l D cA ad w sc fn rk hI h0 h1 hcv d ⟨by omega, by omega⟩) (cwV 1 hts gX5_addCurve_X5_hasCurveFrom rfl rfl rfl (by decide +kernel) ⟨Nat.le_of_ble_eq_true rfl, Nat.le_of_ble_eq_true rfl⟩) (gR_V hP hK hB 0 (ci := 5) rfl h0) rfl rfl hl.1 rfl (lv_room (Nat.le_of_ble_eq_true rfl)) dX5_addCurve_25 ⟨Nat.le_of_ble_eq_true rfl, Nat.le_of_ble_eq_true rfl⟩) (fun v_25 hv_25 => ?_)
    obtain ⟨z_25, rfl, hz_25⟩ := hv_25
    refine W.eq (g2 := F0 m 28 ls [.int (iI z_25)]) rfl ?_
    refine k_if_eq (pc := 28) (tgt := 41) hx hb ⟨by omega, by omega⟩ dX5_addCurve_28 (by decide) (fun hc_28 => ?_) (fun hc_28 => ?_)
    · skip
      have hnc : ∀ j : Int, 0 ≤ j → j < sc 0 → fn 8 j ≠ d := by rcases hz_25 with ⟨a1, a2⟩ | ⟨a1, a2⟩; omega; exact a2
      obtain ⟨cc, hcc⟩ : ∃ cc : Nat, sc 0 = (cc : Int) := ⟨(sc 0).toNat, by omega⟩
      refine lv_aload_n (pc := 41) hx hb dX5_addCurve_41 rfl (lv_at hl 0 rfl) ?_
      refine k_get (pc := 42) (ci := 5) (C := RX5) (T := TX5) (N := 13) hx hb hts hi5 hown hK hP 0 h0 rfl 8 (by decide) hf64 (fun _ h9 => h9) rfl dX5_addCurve_42 ?_
      refine lv_istore_n (pc := 45) (lv' := [(2, .int (iI (sc 0))), (0, .ref (ad 0)), (1, .int (iI d))]) hx hb dX5_addCurve_45 rfl hl (by decide) rfl (fun ls hl => ?_)
      refine lv_aload_n (pc := 46) hx hb dX5_addCurve_46 rfl (lv_at hl 1 rfl) ?_
      refine k_get (pc := 47) (ci := 5) (C := RX5) (T := TX5) (N := 13) hx hb hts hi5 hown hK hP 0 h0 rfl 0 (by decide) hf11 (fun _ h9 => h9) rfl dX5_addCurve_47 ?_
      refine lv_iload_n (pc := 50) hx hb dX5_addCurve_50 rfl (lv_at hl 0 rfl) ?_
      refine k_new (pc := 51) (own := RX5) (C := RX0) (T := TX0) (N := 4) (ci := 0) hx hb hts hi0 tyX0 tyX0_ok hown (hts (.classLink RX5 9 RX0) (by decide +kernel)) (hts (.instantiable RX0 4) (by decide +kernel)) (hts (.initialized RX0) (by decide +kernel)) hK hP hD hS hA rfl (30 + 3 * cc) (fs := [.int (iI 0), .null, .null, .int (iI 0)]) (by intro j hj; rcases j with _ | _ | _ | _ | j <;> first | rfl | omega) (Nat.le_of_ble_eq_true rfl) (Nat.le_of_ble_eq_true rfl) dX5_addCurve_51 (fun q_51 H hP hD hS => ?_)
      obtain ⟨ad_51, hga_51⟩ : ∃ z9 : Nat → Nat, adN ad (30 + 3 * cc) q_51 = z9 := ⟨_, rfl⟩
      rw [hga_51] at hP hD
      have hnn_51 : ∀ j9 : Nat, j9 ≠ (30 + 3 * cc) → ad j9 = ad_51 j9 := fun j9 h9_ => by rw [← hga_51, adN_n _ _ h9_]
      rw [show q_51 = ad_51 (30 + 3 * cc) by rw [← hga_51, adN_s]]
      rw [hnn_51 1 (by omega)]
      rw [hnn_51 0 (by omega)] at hl
      have hm_51_0 : w 0 = some (oB 5 [.ref (ad_51 1), .ref (ad_51 2), .ref (ad_51 5), .ref (ad_51 6), .ref (ad_51 7), .ref (ad_51 8), .ref (ad_51 9), .ref (ad_51 12), .int (iI (sc 0)), .int (iI (sc 4)), .int (iI (sc 2)), .int (iI (sc 3)), .int (iI rk)]) := by rw [← hnn_51 1 (by omega), ← hnn_51 2 (by omega), ← hnn_51 5 (by omega), ← hnn_51 6 (by omega), ← hnn_51 7 (by omega), ← hnn_51 8 (by omega), ← hnn_51 9 (by omega), ← hnn_51 12 (by omega)]; exact h0
      have hm_51_2 : w 2 = some (oB 4 [.ref (ad_51 3), .ref (ad_51 4), .int (iI (sc 1))]) := by rw [← hnn_51 3 (by omega), ← hnn_51 4 (by omega)]; exact h2
      have hm_51_9 : w 9 = some (oB 1 [.ref (ad_51 10), .ref (ad_51 11)]) := by rw [← hnn_51 10 (by omega), ← hnn_51 11 (by omega)]; exact h9
      have hm_51_12 : w 12 = some (oB 3 [.ref (ad_51 13), .ref (ad_51 14), .ref (ad_51 15), .int (iI rn)]) := by rw [← hnn_51 13 (by omega), ← hnn_51 14 (by omega), ← hnn_51 15 (by omega)]; exact h12
      have hcv : ∀ k : Nat, (k : Int) < sc 0 → w (30 + 3 * k) = some (oB 0 [.int (iI (fn 8 (k : Int))), .ref (ad_51 (31 + 3 * k)), .ref (ad_51 (32 + 3 * k)), .int (iI (fn 9 (k : Int)))]) ∧ w (31 + 3 * k) = some (eI (cA 0) 12 (fn (20 + k))) ∧ w (32 + 3 * k) = some (eI (cA 0) 12 (fn (30 + k))) := fun k hk => by have i9_ := hI.1; have h9_ := hcv k hk; rw [hnn_51 (31 + 3 * k) (by omega), hnn_51 (32 + 3 * k) (by omega)] at h9_; exact h9_
      have h1 : w 1 = some (eQ (cA 4) 6 (fun j : Nat => if (j : Int) < sc 0 then some (ad_51 (30 + 3 * j)) else none)) := by rw [h1]; congr 2; funext j; by_cases e9 : (j : Int) < sc 0; have i9_ := hI.1; rw [if_pos e9, if_pos e9, hnn_51 (30 + 3 * j) (by omega)]; rw [if_neg e9, if_neg e9]
      have h8 : w 8 = some (eQ (cA 5) 40 (fun j : Nat => if (j : Int) < sc 4 then some (ad_51 (60 + j)) else none)) := by rw [h8]; congr 2; funext j; by_cases e9 : (j : Int) < sc 4; have i9_ := hI.1; rw [if_pos e9, if_pos e9, hnn_51 (60 + j) (by omega)]; rw [if_neg e9, if_neg e9]
      refine W.eq (g2 := F0 m 54 ls [.ref (ad_51 (30 + 3 * cc)), .int (iI (sc 0)), .ref (ad_51 1)]) rfl ?_
      refine W.cs (cells' := 1) (slots' := 4) rfl rfl ?_
      refine lv_dup (pc := 54) hx hb dX5_addCurve_54 rfl ?_
      refine lv_iload_n (pc := 55) hx hb dX5_addCurve_55 rfl (lv_at hl 2 rfl) ?_
      refine k_call1 (pc := 56) (va_runI (As := [.int (iI d)]) (rest := [.ref (ad_51 (30 + 3 * cc)), .int (iI (sc 0)), .ref (ad_51 1)]) ⟨hx, hb, hml, hown, hts⟩ (c_X0_init l D cA ad_51 (up w (30 + 3 * cc) (oB 0 [.int (iI 0), .null, .null, .int (iI 0)])) H.size (30 + 3 * cc) (31 + 3 * cc) (32 + 3 * cc) (up_s _ _ _) (by omega) (by omega) (by omega) d) (cwI 1 hts gX5_addCurve_X0_init rfl rfl rfl (hts (.initialized RX0) (by decide +kernel)) (hts (.methodLink RX5 80 yX0_init) (by decide +kernel)) (hts (.instanceMethod yX0_init) (by decide +kernel)) rfl (by decide +kernel) ⟨Nat.le_of_ble_eq_true rfl, Nat.le_of_ble_eq_true rfl⟩) (gV_S hP hD hK hB hS hA hZ) rfl rfl hl.1 rfl (lv_room (Nat.le_of_ble_eq_true rfl)) dX5_addCurve_56 ⟨Nat.le_of_ble_eq_true rfl, Nat.le_of_ble_eq_true rfl⟩) hS (gA_sub hD hS hA) (fun v_56 ad_56 w_56 H locs hv_56 hP hD hS => ?_)
      obtain ⟨hv1, hnn_56, hv3⟩ := hv_56
      subst hv1
      rw [hv3] at hP hD
      rw [hnn_56 (30 + 3 * cc) (by omega)]
      rw [hnn_56 1 (by omega)]
      rw [hnn_56 0 (by omega)] at hl
      have hm_56_0 : w 0 = some (oB 5 [.ref (ad_56 1), .ref (ad_56 2), .ref (ad_56 5), .ref (ad_56 6), .ref (ad_56 7), .ref (ad_56 8), .ref (ad_56 9), .ref (ad_56 12), .int (iI (sc 0)), .int (iI (sc 4)), .int (iI (sc 2)), .int (iI (sc 3)), .int (iI rk)]) := by rw [← hnn_56 1 (by omega), ← hnn_56 2 (by omega), ← hnn_56 5 (by omega), ← hnn_56 6 (by omega), ← hnn_56 7 (by omega), ← hnn_56 8 (by omega), ← hnn_56 9 (by omega), ← hnn_56 12 (by omega)]; exact hm_51_0
      have hm_56_2 : w 2 = some (oB 4 [.ref (ad_56 3), .ref (ad_56 4), .int (iI (sc 1))]) := by rw [← hnn_56 3 (by omega), ← hnn_56 4 (by omega)]; exact hm_51_2
      have hm_56_9 : w 9 = some (oB 1 [.ref (ad_56 10), .ref (ad_56 11)]) := by rw [← hnn_56 10 (by omega), ← hnn_56 11 (by omega)]; exact hm_51_9
      have hm_56_12 : w 12 = some (oB 3 [.ref (ad_56 13), .ref (ad_56 14), .ref (ad_56 15), .int (iI rn)]) := by rw [← hnn_56 13 (by omega), ← hnn_56 14 (by omega), ← hnn_56 15 (by omega)]; exact hm_51_12
      have hcv : ∀ k : Nat, (k : Int) < sc 0 → w (30 + 3 * k) = some (oB 0 [.int (iI (fn 8 (k : Int))), .ref (ad_56 (31 + 3 * k)), .ref (ad_56 (32 + 3 * k)), .int (iI (fn 9 (k : Int)))]) ∧ w (31 + 3 * k) = some (eI (cA 0) 12 (fn (20 + k))) ∧ w (32 + 3 * k) = some (eI (cA 0) 12 (fn (30 + k))) := fun k hk => by have i9_ := hI.1; have h9_ := hcv k hk; rw [hnn_56 (31 + 3 * k) (by omega), hnn_56 (32 + 3 * k) (by omega)] at h9_; exact h9_
      have h1 : w 1 = some (eQ (cA 4) 6 (fun j : Nat => if (j : Int) < sc 0 then some (ad_56 (30 + 3 * j)) else none)) := by rw [h1]; congr 2; funext j; by_cases e9 : (j : Int) < sc 0; have i9_ := hI.1; rw [if_pos e9, if_pos e9, hnn_56 (30 + 3 * j) (by omega)]; rw [if_neg e9, if_neg e9]
      have h8 : w 8 = some (eQ (cA 5) 40 (fun j : Nat => if (j : Int) < sc 4 then some (ad_56 (60 + j)) else none)) := by rw [h8]; congr 2; funext j; by_cases e9 : (j : Int) < sc 4; have i9_ := hI.1; rw [if_pos e9, if_pos e9, hnn_56 (60 + j) (by omega)]; rw [if_neg e9, if_neg e9]
      rw [show up ((up w (30 + 3 * cc) (oB 0 [.int (iI 0), .null, .null, .int (iI 0)]))) (30 + 3 * cc) (oB 0 [.int (iI d), .ref (ad_56 (31 + 3 * cc)), .ref (ad_56 (32 + 3 * cc)), .int (iI 0)]) = _ from (up_up _ _ _ _)] at hP hD
      refine W.eq (g2 := F0 m 59 ls [.ref (ad_56 (30 + 3 * cc)), .int (iI (sc 0)), .ref (ad_56 1)]) rfl ?_
      refine W.cs (cells' := 3) (slots' := 28) rfl rfl ?_
      have hn_all : ∀ j : Nat, j ≠ 30 + 3 * cc ∧ j ≠ 31 + 3 * cc ∧ j ≠ 32 + 3 * cc → ad j = ad_56 j := fun j h => (hnn_51 j h.1).trans (hnn_56 j h.2)
      refine k_aast (pc := 59) (w1 := (up (up (up (up w (30 + 3 * cc) (oB 0 [.int (iI d), .ref (ad_56 (31 + 3 * cc)), .ref (ad_56 (32 + 3 * cc)), .int (iI 0)])) (31 + 3 * cc) (eI (cA 0) 12 (fun _ => 0))) (32 + 3 * cc) (eI (cA 0) 12 (fun _ => 0))) 1 (eQ (cA 4) 6 (va_up (fun j : Nat => if (j : Int) < sc 0 then some (ad_56 (30 + 3 * j)) else none) (sc 0).toNat (some (ad_56 (30 + 3 * cc))))))) hx hb hK hP hD hS 1 4 (30 + 3 * cc) 0 (up_n (by omega) (up_n (by omega) (up_n (by omega) h1))) rfl (up_n (by omega) (up_n (by omega) (up_s _ _ _))) rfl (by omega) (by omega) (by omega) rfl dX5_addCurve_59 (fun H locs hP hD hS => ?_)
      refine lv_aload_n (pc := 60) hx hb dX5_addCurve_60 rfl (lv_at hl 1 rfl) ?_
      refine lv_iload_n (pc := 61) hx hb dX5_addCurve_61 rfl (lv_at hl 0 rfl) ?_
      refine k_iconst (pc := 62) hx hb dX5_addCurve_62 ?_
      refine k_iadd (pc := 63) hx hb dX5_addCurve_63 ?_
      refine k_put (pc := 64) (ci := 5) (C := RX5) (T := TX5) (N := 13) (ty := .int) (v := .int (iI ((sc 0) + 1))) (w1 := (up (up (up (up (up w (30 + 3 * cc) (oB 0 [.int (iI d), .ref (ad_56 (31 + 3 * cc)), .ref (ad_56 (32 + 3 * cc)), .int (iI 0)])) (31 + 3 * cc) (eI (cA 0) 12 (fun _ => 0))) (32 + 3 * cc) (eI (cA 0) 12 (fun _ => 0))) 1 (eQ (cA 4) 6 (va_up (fun j : Nat => if (j : Int) < sc 0 then some (ad_56 (30 + 3 * j)) else none) (sc 0).toNat (some (ad_56 (30 + 3 * cc)))))) 0 (oB 5 [.ref (ad_56 1), .ref (ad_56 2), .ref (ad_56 5), .ref (ad_56 6), .ref (ad_56 7), .ref (ad_56 8), .ref (ad_56 9), .ref (ad_56 12), .int (iI ((sc 0) + 1)), .int (iI (sc 4)), .int (iI (sc 2)), .int (iI (sc 3)), .int (iI rk)]))) hx hb hts hi5 tyX5 tyX5_ok nmX5 hown hK hP hD hS 0 (up_n (by decide) (up_n (by omega) (up_n (by omega) (up_n (by omega) hm_56_0)))) rfl 8 (by decide) hf64 (fun _ h9 => h9) rfl (by decide +kernel) rfl rfl (Nat.le_of_ble_eq_true rfl) rfl dX5_addCurve_64 (fun H locs hP hD hS => ?_)
      refine lv_aload_n (pc := 67) hx hb dX5_addCurve_67 rfl (lv_at hl 1 rfl) ?_
      refine k_iconst (pc := 68) hx hb dX5_addCurve_68 ?_
      refine k_put (pc := 69) (ci := 5) (C := RX5) (T := TX5) (N := 13) (ty := .boolean) (v := .int (iI 0)) (w1 := (up (up (up (up (up w (30 + 3 * cc) (oB 0 [.int (iI d), .ref (ad_56 (31 + 3 * cc)), .ref (ad_56 (32 + 3 * cc)), .int (iI 0)])) (31 + 3 * cc) (eI (cA 0) 12 (fun _ => 0))) (32 + 3 * cc) (eI (cA 0) 12 (fun _ => 0))) 1 (eQ (cA 4) 6 (va_up (fun j : Nat => if (j : Int) < sc 0 then some (ad_56 (30 + 3 * j)) else none) (sc 0).toNat (some (ad_56 (30 + 3 * cc)))))) 0 (oB 5 [.ref (ad_56 1), .ref (ad_56 2), .ref (ad_56 5), .ref (ad_56 6), .ref (ad_56 7), .ref (ad_56 8), .ref (ad_56 9), .ref (ad_56 12), .int (iI ((sc 0) + 1)), .int (iI (sc 4)), .int (iI (sc 2)), .int (iI (sc 3)), .int (iI 0)]))) hx hb hts hi5 tyX5 tyX5_ok nmX5 hown hK hP hD hS 0 (up_s _ _ _) rfl 12 (by decide) hf82 (fun _ h9 => h9) rfl (by decide +kernel) (by decide +kernel) rfl (Nat.le_of_ble_eq_true rfl) (up_up _ _ _ _) dX5_addCurve_69 (fun H locs hP hD hS => ?_)
      refine lv_iload_n (pc := 72) hx hb dX5_addCurve_72 rfl (lv_at hl 0 rfl) ?_
      have hbk2 : bookS cA ad_56 (up (up (up (up (up w (30 + 3 * cc) (oB 0 [.int (iI d), .ref (ad_56 (31 + 3 * cc)), .ref (ad_56 (32 + 3 * cc)), .int (iI 0)])) (31 + 3 * cc) (eI (cA 0) 12 (fun _ => 0))) (32 + 3 * cc) (eI (cA 0) 12 (fun _ => 0))) 1 (eQ (cA 4) 6 (va_up (fun j : Nat => if (j : Int) < sc 0 then some (ad_56 (30 + 3 * j)) else none) (sc 0).toNat (some (ad_56 (30 + 3 * cc)))))) 0 (oB 5 [.ref (ad_56 1), .ref (ad_56 2), .ref (ad_56 5), .ref (ad_56 6), .ref (ad_56 7), .ref (ad_56 8), .ref (ad_56 9), .ref (ad_56 12), .int (iI ((sc 0) + 1)), .int (iI (sc 4)), .int (iI (sc 2)), .int (iI (sc 3)), .int (iI 0)])) (upS sc 0 (sc 0 + 1)) (crF fn cc d) := by refine ⟨0, F, S, rn, rd, rm_, rz, ?_, Or.inl rfl, hF, hS9⟩; unfold bookAt; rw [crF_low (i := 0) (by omega)]; rw [crF_low (i := 1) (by omega)]; rw [crF_low (i := 2) (by omega)]; rw [crF_low (i := 3) (by omega)]; rw [crF_low (i := 4) (by omega)]; rw [crF_low (i := 5) (by omega)]; rw [crF_low (i := 6) (by omega)]; rw [crF_low (i := 7) (by omega)]; exact ⟨(up_s _ _ _), ((up_n (by decide) (up_s _ _ _)).trans (by rw [eq_cr hcc]; rfl)), (up_n (by decide) (up_n (by decide) (up_n (by omega) (up_n (by omega) (up_n (by omega) hm_56_2))))), (up_n (by decide) (up_n (by decide) (up_n (by omega) (up_n (by omega) (up_n (by omega) h3))))), (up_n (by decide) (up_n (by decide) (up_n (by omega) (up_n (by omega) (up_n (by omega) h4))))), (up_n (by decide) (up_n (by decide) (up_n (by omega) (up_n (by omega) (up_n (by omega) h5))))), (up_n (by decide) (up_n (by decide) (up_n (by omega) (up_n (by omega) (up_n (by omega) h6))))), (up_n (by decide) (up_n (by decide) (up_n (by omega) (up_n (by omega) (up_n (by omega) h7))))), (up_n (by decide) (up_n (by decide) (up_n (by omega) (up_n (by omega) (up_n (by omega) h8))))), (up_n (by decide) (up_n (by decide) (up_n (by omega) (up_n (by omega) (up_n (by omega) hm_56_9))))), (up_n (by decide) (up_n (by decide) (up_n (by omega) (up_n (by omega) (up_n (by omega) h10))))), (up_n (by decide) (up_n (by decide) (up_n (by omega) (up_n (by omega) (up_n (by omega) h11))))), (up_n (by decide) (up_n (by decide) (up_n (by omega) (up_n (by omega) (up_n (by omega) hm_56_12))))), (up_n (by decide) (up_n (by decide) (up_n (by omega) (up_n (by omega) (up_n (by omega) h13))))), (up_n (by decide) (up_n (by decide) (up_n (by omega) (up_n (by omega) (up_n (by omega) h14))))), (up_n (by decide) (up_n (by decide) (up_n (by omega) (up_n (by omega) (up_n (by omega) h15))))), (cv_cr hcc (by omega) (up_n (by omega) (up_n (by omega) (up_n (by omega) (up_n (by omega) (up_s _ _ _))))) (up_n (by omega) (up_n (by omega) (up_n (by omega) (up_s _ _ _)))) (up_n (by omega) (up_n (by omega) (up_s _ _ _))) (fun k9 hk9 => by have h9_ := hcv k9 hk9; have i9_ := hI.1; exact ⟨(up_n (by omega) (up_n (by omega) (up_n (by omega) (up_n (by omega) (up_n (by omega) h9_.1))))), (up_n (by omega) (up_n (by omega) (up_n (by omega) (up_n (by omega) (up_n (by omega) h9_.2.1))))), (up_n (by omega) (up_n (by omega) (up_n (by omega) (up_n (by omega) (up_n (by omega) h9_.2.2)))))⟩)), (fun k9 hk9 => by have h9_ := hms k9 hk9; have i9_ := hI.1.2.2.2.2; exact (up_n (by omega) (up_n (by omega) (up_n (by omega) (up_n (by omega) (up_n (by omega) h9_))))))⟩
      rw [hQ9]
      exact W.iret (v := iI (sc 0)) hx hb hret (fun t ht hW => ⟨⟨some (.int (iI (sc 0))), ad_56, (up (up (up (up (up w (30 + 3 * cc) (oB 0 [.int (iI d), .ref (ad_56 (31 + 3 * cc)), .ref (ad_56 (32 + 3 * cc)), .int (iI 0)])) (31 + 3 * cc) (eI (cA 0) 12 (fun _ => 0))) (32 + 3 * cc) (eI (cA 0) 12 (fun _ => 0))) 1 (eQ (cA 4) 6 (va_up (fun j : Nat => if (j : Int) < sc 0 then some (ad_56 (30 + 3 * j)) else none) (sc 0).toNat (some (ad_56 (30 + 3 * cc)))))) 0 (oB 5 [.ref (ad_56 1), .ref (ad_56 2), .ref (ad_56 5), .ref (ad_56 6), .ref (ad_56 7), .ref (ad_56 8), .ref (ad_56 9), .ref (ad_56 12), .int (iI ((sc 0) + 1)), .int (iI (sc 4)), .int (iI (sc 2)), .int (iI (sc 3)), .int (iI 0)])), rfl, ⟨_, _, hbk2, inv_cr hI hcc (by omega) (by omega), ⟨(hn_all 0 (by omega)).symm, fun r hr => ⟨(up_n (by omega) (up_n (by omega) (up_n (by omega) (up_n (by omega) (up_n (by omega) rfl))))), (hn_all r (by omega)).symm⟩⟩, ⟨cc, hcc, rfl, rfl, by omega, by omega, hnc, rfl⟩⟩, by rw [ht]; exact hP, hD⟩, hS.F ht⟩) hS.2.2 dX5_addCurve_73
    · skip
      have hex : ∃ j : Int, 0 ≤ j ∧ j < sc 0 ∧ fn 8 j = d := by rcases hz_25 with ⟨a1, a2⟩ | ⟨a1, a2⟩; exact a2; omega
      exfalso
      obtain ⟨j9, a9, b9, c9⟩ := hex; exact hno j9 a9 b9 c9
  · skip
    exfalso
    omega
