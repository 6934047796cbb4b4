theorem td_no {sc : Nat → Int} {fn : Nat → Int → Int} {d : Int} (h : ¬ isTold sc fn d) : tdF sc fn d = -1 ∧ tdS sc fn d = 0 := by
  unfold tdF tdS
  rw [if_neg h, if_neg h]
  exact ⟨rfl, rfl⟩
theorem td_ice {sc : Nat → Int} {fn : Nat → Int → Int} {d : Int} (h : isTold sc fn d) (h4 : fn 4 d ≠ 0) : tdF sc fn d = Int.tdiv (opF sc fn d * sc 2) 100 ∧ tdS sc fn d = 2 := by
  unfold tdF tdS
  rw [if_pos h, if_pos h, if_pos h4, if_pos h4]
  exact ⟨rfl, rfl⟩
theorem td_open {sc : Nat → Int} {fn : Nat → Int → Int} {d : Int} (h : isTold sc fn d) (h4 : ¬ fn 4 d ≠ 0) : tdF sc fn d = opF sc fn d ∧ tdS sc fn d = 1 := by
  unfold tdF tdS
  rw [if_pos h, if_pos h, if_neg h4, if_neg h4]
  exact ⟨rfl, rfl⟩
theorem td_op {sc : Nat → Int} {fn : Nat → Int → Int} {d : Int} {k : Nat} (h : cvno sc fn d = (k : Int)) : opF sc fn d = flowF (fn (20 + k)) (fn (30 + k)) (fn 9 (k : Int)) (fn 2 d - sftF (fn 0) (fn 1) (sc 1) d) := by
  unfold opF
  rw [h, Int.toNat_natCast]
theorem tb_set {D : va_G} {cl : List vw_C} {A : Nat → Prop} {ad : Nat → Nat} {w : Nat → Option va_E} {H : Heap} {r1 r2 : Nat} {c1 c2 : ClassId} {F S G T : Int → Int} (h12 : r1 ≠ r2) (hP : gP D cl ad (up (up w r1 (eJ c1 400 G)) r2 (eI c2 400 T)) H) (hD : gD A ad (up (up w r1 (eJ c1 400 G)) r2 (eI c2 400 T))) (h : ∀ j : Int, 0 ≤ j → j < 400 → G j = F j ∧ T j = S j) :
    gP D cl ad (up (up w r1 (eJ c1 400 F)) r2 (eI c2 400 S)) H ∧ gD A ad (up (up w r1 (eJ c1 400 F)) r2 (eI c2 400 S)) := by
  have a1 := gP_eI hP (g := S) (fun j h1 h2 => (h j h1 (by omega)).2)
  rw [up_co _ _ _ h12] at a1
  have a2 := gP_eJ a1 (g := F) (fun j h1 h2 => (h j h1 (by omega)).1)
  rw [← up_co _ _ _ h12] at a2
  have b1 : gD A ad (up (up w r1 (eJ c1 400 G)) r2 (eI c2 400 S)) := gD_re hD
  rw [up_co _ _ _ h12] at b1
  have b2 : gD A ad (up (up w r2 (eI c2 400 S)) r1 (eJ c1 400 F)) := gD_re b1
  rw [← up_co _ _ _ h12] at b2
  exact ⟨a2, b2⟩

abbrev rmX5_reckonDay : Room := { frames := 3, cells := 0, slots := 0, locals := 68 }
theorem hiX5_reckonDay_5 : ∀ w ∈ wsX50, w ∈ wsX5_reckonDay := by decide +kernel
set_option maxHeartbeats 4000000 in
set_option maxRecDepth 100000 in
theorem c_X5_reckonDay (l : Launch) (D : va_G) (cA : Nat → ClassId) (ad : Nat → Nat) (w : Nat → Option va_E) (sz : Nat) (sc : Nat → Int) (fn : Nat → Int → Int) (rk : Int) (F : Int → Int) (S : Int → Int) (hI : bkInv sc fn) (h0 : w 0 = some (oB 5 [.ref (ad 1), .ref (ad 2), .ref (ad 5), .ref (ad 6), .ref (ad 7), .ref (ad 8), .ref (ad 9), .ref (ad 12), .int (iI (sc 0)), .int (iI (sc 4)), .int (iI (sc 2)), .int (iI (sc 3)), .int (iI rk)])) (h1 : w 1 = some (eQ (cA 4) 6 (fun j : Nat => if (j : Int) < sc 0 then some (ad (30 + 3 * j)) else none))) (h2 : w 2 = some (oB 4 [.ref (ad 3), .ref (ad 4), .int (iI (sc 1))])) (h3 : w 3 = some (eI (cA 0) 20 (fn 0))) (h4 : w 4 = some (eI (cA 0) 20 (fn 1))) (h5 : w 5 = some (eI (cA 0) 400 (fn 2))) (h6 : w 6 = some (eI (cA 1) 400 (fn 3))) (h7 : w 7 = some (eI (cA 1) 400 (fn 4))) (h9 : w 9 = some (oB 1 [.ref (ad 10), .ref (ad 11)])) (h10 : w 10 = some (eJ (cA 2) 400 F)) (h11 : w 11 = some (eI (cA 0) 400 S)) (hcv : ∀ k : Nat, (k : Int) < sc 0 → w (30 + 3 * k) = some (oB 0 [.int (iI (fn 8 (k : Int))), .ref (ad (31 + 3 * k)), .ref (ad (32 + 3 * k)), .int (iI (fn 9 (k : Int)))]) ∧ w (31 + 3 * k) = some (eI (cA 0) 12 (fn (20 + k))) ∧ w (32 + 3 * k) = some (eI (cA 0) 12 (fn (30 + k)))) (hF : ∀ j : Int, -1 ≤ F j ∧ F j ≤ 1000000000000) (hS9 : ∀ j : Int, 0 ≤ S j ∧ S j ≤ 3) (d : Int) (hd : 0 ≤ d ∧ d < 400) : Met l yX5_reckonDay wsX5_reckonDay rmX5_reckonDay (gV D cA ad w sz [.ref (ad 0), .int (iI d)]) (gW D (fun v9 ad1 w1 => v9 = none ∧ ad1 = ad ∧ w1 = up (up w 10 (eJ (cA 2) 400 (updI F d (tdF sc fn d)))) 11 (eI (cA 0) 400 (updI S d (tdS sc fn d)))) (gA ad w sz)) 0 0 (gA ad w sz) := by
  refine Met.ofW (cc := cX5_reckonDay) (maxL := 5) (ret := none) (by decide) rfl ?_
  intro p e s m args below meth c s₁ B hml hv
  obtain ⟨hav, hsz, hP, hD0, hK, hB, hZ⟩ := hv
  have hx := B.exec
  have hb := B.bytes
  have hret := B.returns
  have hts := atoms_spec (ws := wsX5_reckonDay) B.pre
  have hown : s.vm.findClass RX5 = some m.cls := findClass_of_methodNamed B.named
  have hlocks := B.notSynchronized
  subst hsz
  have hD := hD0.self (sz := s.heap.size)
  generalize hAe : gA ad w s.heap.size = A at hD hZ ⊢
  have hA : ∀ q : Nat, s.heap.size ≤ q → A q := fun q h => by rw [← hAe]; exact Or.inr h
  have hS : va_S A s.heap s.heap [] := va_S.rf
  have hi5 := hiX5_reckonDay_5
  have hf18 := hts (.fieldLink RX5 18 "GaugeBook" "shifts" "LGaugeBook$Shifts;") (by decide +kernel)
  have hf22 := hts (.fieldLink RX5 22 "GaugeBook" "stages" "[I") (by decide +kernel)
  have hf26 := hts (.fieldLink RX5 26 "GaugeBook" "hasStage" "[Z") (by decide +kernel)
  have hf30 := hts (.fieldLink RX5 30 "GaugeBook" "ice" "[Z") (by decide +kernel)
  have hf42 := hts (.fieldLink RX5 42 "GaugeBook" "table" "LGaugeBook$FlowTable;") (by decide +kernel)
  have hf53 := hts (.fieldLink RX5 53 "GaugeBook" "iceFactor" "I") (by decide +kernel)
  have he9 : entryFrame m args 5 = F0 m 0 ((lg_sl ([.ref (ad 0), .int (iI d)] : List Value) ++ List.replicate (5 - (lg_sl ([.ref (ad 0), .int (iI d)] : List Value)).length) Slot.unset).toArray) [] := by rw [hav, lg_entry_eq]
  rw [he9]
  have hl := lv_entry ([.ref (ad 0), .int (iI d)] : List Value) (n := 5) (Nat.le_of_ble_eq_true rfl)
  generalize (lg_sl ([.ref (ad 0), .int (iI d)] : List Value) ++ List.replicate (5 - (lg_sl ([.ref (ad 0), .int (iI d)] : List Value)).length) Slot.unset).toArray = ls at hl ⊢
  have hl : lv_has ls 5 [(0, .ref (ad 0)), (1, .int (iI d))] := hl
  obtain ⟨Q9, hQ9⟩ : ∃ z, z = MQ below (gW D (fun v9 ad1 w1 => v9 = none ∧ ad1 = ad ∧ w1 = up (up w 10 (eJ (cA 2) 400 (updI F d (tdF sc fn d)))) 11 (eI (cA 0) 400 (updI S d (tdS sc fn d)))) A) args s 0 0 A := ⟨_, rfl⟩
  rw [← hQ9]
  show W p l e rmX5_reckonDay s m args below meth c s.heap [] 0 0 Q9 (F0 m 0 ls [])
  obtain ⟨H, hHe⟩ : ∃ z, z = s.heap := ⟨_, rfl⟩
  obtain ⟨locs, hLe⟩ : ∃ z, z = ([] : List Loc) := ⟨_, rfl⟩
  have hP : gP D vwCl ad w H := by rw [hHe]; exact hP
  have hS : va_S A s.heap H locs := by rw [hHe, hLe]; exact va_S.rf
  rw [show W p l e rmX5_reckonDay s m args below meth c s.heap [] 0 0 Q9 (F0 m 0 ls []) = W p l e rmX5_reckonDay s m args below meth c H locs 0 0 Q9 (F0 m 0 ls []) by rw [hHe, hLe]]
  clear hHe hLe
  have hI1 := hI.1
  refine lv_aload_n (pc := 0) hx hb dX5_reckonDay_0 rfl (lv_at hl 0 rfl) ?_
  refine k_get (pc := 1) (ci := 5) (C := RX5) (T := TX5) (N := 13) hx hb hts hi5 hown hK hP 0 h0 rfl 3 (by decide) hf26 (fun _ h9 => h9) rfl dX5_reckonDay_1 ?_
  refine lv_iload_n (pc := 4) hx hb dX5_reckonDay_4 rfl (lv_at hl 1 rfl) ?_
  refine k_zald (pc := 5) hx hb hK hP 6 1 h6 rfl (by omega) (by omega) (by omega) dX5_reckonDay_5 ?_
  have hq_5 := hI.2.2.2.1 d
  refine k_if_eq (pc := 6) (tgt := 17) hx hb ⟨by omega, by omega⟩ dX5_reckonDay_6 (by decide) (fun hc_6 => ?_) (fun hc_6 => ?_)
  · skip
    refine lv_null (pc := 17) hx hb dX5_reckonDay_17 ?_
    refine lv_astore_nN (pc := 18) (lv' := [(2, .null), (0, .ref (ad 0)), (1, .int (iI d))]) hx hb dX5_reckonDay_18 rfl hl (by decide) rfl (fun ls hl => ?_)
    refine lv_aload_nN (pc := 19) hx hb dX5_reckonDay_19 rfl (lv_at hl 0 rfl) ?_
    refine lv_ifnonnullN (pc := 20) hx hb dX5_reckonDay_20 ?_
    refine lv_aload_n (pc := 23) hx hb dX5_reckonDay_23 rfl (lv_at hl 1 rfl) ?_
    refine k_get (pc := 24) (ci := 5) (C := RX5) (T := TX5) (N := 13) hx hb hts hi5 hown hK hP 0 h0 rfl 6 (by decide) hf42 (fun _ h9 => h9) rfl dX5_reckonDay_24 ?_
    refine lv_iload_n (pc := 27) hx hb dX5_reckonDay_27 rfl (lv_at hl 2 rfl) ?_
    refine k_ldc2 (z := (-1)) (pc := 28) hx hb hown (hts (.constantLong RX5 278 (-1)) (by decide +kernel)) (by decide +kernel) dX5_reckonDay_28 ?_
    refine k_iconst (pc := 31) hx hb dX5_reckonDay_31 ?_
    refine k_call1 (pc := 32) (va_runV (As := [.int (iI d), .long (lI (-1)), .int (iI 0)]) (rest := []) ⟨hx, hb, hml, hown, hts⟩ (c_X1_put l D cA ad w H.size 9 10 11 F S h9 h10 h11 hF hS9 (by decide) (by decide) (by decide) d (-1) 0 (by omega)) (cwV 3 hts gX5_reckonDay_X1_put rfl rfl rfl (by decide +kernel) ⟨Nat.le_of_ble_eq_true rfl, Nat.le_of_ble_eq_true rfl⟩) (gV_V hP hD hK hB hS hA hZ 9 (ci := 1) rfl h9) rfl rfl hl.1 rfl (lv_room (Nat.le_of_ble_eq_true rfl)) dX5_reckonDay_32 ⟨Nat.le_of_ble_eq_true rfl, Nat.le_of_ble_eq_true rfl⟩) hS (gA_sub hD hS hA) (fun v_32 ad_32 w_32 H locs hv_32 hP hD hS => ?_)
    obtain ⟨hv1, hv2, hv3⟩ := hv_32
    subst hv1
    rw [hv2, hv3] at hP hD
    refine W.eq (g2 := F0 m 35 ls []) rfl ?_
    refine W.cs (cells' := 0) (slots' := 0) rfl rfl ?_
    have hno := td_no (sc := sc) (fn := fn) (d := d) (fun z => by first | exact he_11 ⟨z.2.1, z.2.2⟩ | exact z.1 hc_6)
    rw [hQ9]
    exact W.vret hx hb hret (fun t ht hW => ⟨⟨none, ad, (up (up w 10 (eJ (cA 2) 400 (updI F d (-1)))) 11 (eI (cA 0) 400 (updI S d 0))), rfl, ⟨rfl, rfl, by rw [hno.1, hno.2]⟩, by rw [ht]; exact hP, hD⟩, hS.F ht⟩) hS.2.2 dX5_reckonDay_35
  · skip
    refine lv_aload_n (pc := 9) hx hb dX5_reckonDay_9 rfl (lv_at hl 0 rfl) ?_
    refine lv_iload_n (pc := 10) hx hb dX5_reckonDay_10 rfl (lv_at hl 1 rfl) ?_
    refine k_call0 (pc := 11) (va_runV (As := [.int (iI d)]) (rest := []) ⟨hx, hb, hml, hown, hts⟩ (c_X5_completeCurveOn l D cA ad w sc fn rk hI h0 h1 hcv d ⟨by omega, by omega⟩) (cwV 1 hts gX5_reckonDay_X5_completeCurveOn rfl rfl rfl (by decide +kernel) ⟨Nat.le_of_ble_eq_true rfl, Nat.le_of_ble_eq_true rfl⟩) (gR_V hP hK hB 0 (ci := 5) rfl h0) rfl rfl hl.1 rfl (lv_room (Nat.le_of_ble_eq_true rfl)) dX5_reckonDay_11 ⟨Nat.le_of_ble_eq_true rfl, Nat.le_of_ble_eq_true rfl⟩) (fun v_11 hv_11 => ?_)
    rcases hv_11 with ⟨k_11, hk_11, he_11, hf_11, hv_11⟩ | ⟨he_11, hv_11⟩
    · skip
      subst hv_11
      refine W.eq (g2 := F0 m 14 ls [.ref (ad (30 + 3 * k_11))]) rfl ?_
      refine lv_goto (pc := 14) (tgt := 18) hx hb dX5_reckonDay_14 (by decide) ?_
      refine lv_astore_n (pc := 18) (lv' := [(2, .ref (ad (30 + 3 * k_11))), (0, .ref (ad 0)), (1, .int (iI d))]) hx hb dX5_reckonDay_18 rfl hl (by decide) rfl (fun ls hl => ?_)
      refine lv_aload_n (pc := 19) hx hb dX5_reckonDay_19 rfl (lv_at hl 0 rfl) ?_
      refine lv_ifnonnull (pc := 20) (tgt := 36) hx hb dX5_reckonDay_20 (by decide) ?_
      refine lv_aload_n (pc := 36) hx hb dX5_reckonDay_36 rfl (lv_at hl 0 rfl) ?_
      refine lv_aload_n (pc := 37) hx hb dX5_reckonDay_37 rfl (lv_at hl 1 rfl) ?_
      refine k_get (pc := 38) (ci := 5) (C := RX5) (T := TX5) (N := 13) hx hb hts hi5 hown hK hP 0 h0 rfl 2 (by decide) hf22 (fun _ h9 => h9) rfl dX5_reckonDay_38 ?_
      refine lv_iload_n (pc := 41) hx hb dX5_reckonDay_41 rfl (lv_at hl 2 rfl) ?_
      refine k_iald (pc := 42) hx hb hK hP 5 0 h5 rfl (by omega) (by omega) (by omega) dX5_reckonDay_42 ?_
      have hq_42 := hI.2.2.1 d
      refine lv_aload_n (pc := 43) hx hb dX5_reckonDay_43 rfl (lv_at hl 1 rfl) ?_
      refine k_get (pc := 44) (ci := 5) (C := RX5) (T := TX5) (N := 13) hx hb hts hi5 hown hK hP 0 h0 rfl 1 (by decide) hf18 (fun _ h9 => h9) rfl dX5_reckonDay_44 ?_
      refine lv_iload_n (pc := 47) hx hb dX5_reckonDay_47 rfl (lv_at hl 2 rfl) ?_
      refine k_call0 (pc := 48) (va_runV (As := [.int (iI d)]) (rest := [.int (iI ((fn 2) d)), .ref (ad (30 + 3 * k_11))]) ⟨hx, hb, hml, hown, hts⟩ (c_X4_on l D cA ad w 2 3 4 (sc 1) (fn 0) (fn 1) h2 h3 h4 hI1.2.1 hI.2.1 d ⟨by omega, by omega⟩) (cwV 1 hts gX5_reckonDay_X4_on rfl rfl rfl (by decide +kernel) ⟨Nat.le_of_ble_eq_true rfl, Nat.le_of_ble_eq_true rfl⟩) (gR_V hP hK hB 2 (ci := 4) rfl h2) rfl rfl hl.1 rfl (lv_room (Nat.le_of_ble_eq_true rfl)) dX5_reckonDay_48 ⟨Nat.le_of_ble_eq_true rfl, Nat.le_of_ble_eq_true rfl⟩) (fun v_48 hv_48 => ?_)
      obtain ⟨z_48, rfl, hz_48, hy_48, hw_48⟩ := hv_48
      refine W.eq (g2 := F0 m 51 ls [.int (iI z_48), .int (iI ((fn 2) d)), .ref (ad (30 + 3 * k_11))]) rfl ?_
      refine k_isub (pc := 51) hx hb dX5_reckonDay_51 ?_
      refine k_call0 (pc := 52) (va_runV (As := [.int (iI (((fn 2) d) - z_48))]) (rest := []) ⟨hx, hb, hml, hown, hts⟩ (c_X0_flowAt l D cA ad w (30 + 3 * k_11) (31 + 3 * k_11) (32 + 3 * k_11) (fn 8 (k_11 : Int)) (fn 9 (k_11 : Int)) (fn (20 + k_11)) (fn (30 + k_11)) (hcv k_11 hk_11).1 (hcv k_11 hk_11).2.1 (hcv k_11 hk_11).2.2 (by have h9_ := hI.2.2.2.2.2.2.2.2.2.1 (k_11 : Int); omega) (hI.2.2.2.2.2.2.2.2.2.2 k_11 hk_11) (((fn 2) d) - z_48) (by omega) ⟨by omega, by omega⟩) (cwV 1 hts gX5_reckonDay_X0_flowAt rfl rfl rfl (by decide +kernel) ⟨Nat.le_of_ble_eq_true rfl, Nat.le_of_ble_eq_true rfl⟩) (gR_V hP hK hB (30 + 3 * k_11) (ci := 0) rfl (hcv k_11 hk_11).1) rfl rfl hl.1 rfl (lv_room (Nat.le_of_ble_eq_true rfl)) dX5_reckonDay_52 ⟨Nat.le_of_ble_eq_true rfl, Nat.le_of_ble_eq_true rfl⟩) (fun v_52 hv_52 => ?_)
      obtain ⟨z_52, rfl, rfl⟩ := hv_52
      refine W.eq (g2 := F0 m 55 ls [.long (lI (flowF (fn (20 + k_11)) (fn (30 + k_11)) (fn 9 (k_11 : Int)) (((fn 2) d) - z_48)))]) rfl ?_
      have hop : flowF (fn (20 + k_11)) (fn (30 + k_11)) (fn 9 (k_11 : Int)) (((fn 2) d) - z_48) = opF sc fn d := by rw [hz_48, td_op he_11]
      rw [hop]
      have htd : isTold sc fn d := ⟨hc_6, by rw [he_11]; omega, by rw [he_11]; exact hf_11⟩
      have hob := opF_bd hI htd
      have h80 : -9223372036854775808 ≤ opF sc fn d * sc 2 ∧ opF sc fn d * sc 2 < 9223372036854775808 := by
        have h9 := mulB (a := opF sc fn d) (b := sc 2) (M := 10000000000) (N := 100) ⟨by omega, by omega⟩ ⟨by omega, by omega⟩
        constructor <;> omega
      refine lv_lstore_n (pc := 55) (lv' := [(3, .long (lI (opF sc fn d))), (2, .ref (ad (30 + 3 * k_11))), (0, .ref (ad 0)), (1, .int (iI d))]) hx hb dX5_reckonDay_55 rfl hl (by decide) rfl (fun ls hl => ?_)
      refine lv_aload_n (pc := 56) hx hb dX5_reckonDay_56 rfl (lv_at hl 2 rfl) ?_
      refine k_get (pc := 57) (ci := 5) (C := RX5) (T := TX5) (N := 13) hx hb hts hi5 hown hK hP 0 h0 rfl 4 (by decide) hf30 (fun _ h9 => h9) rfl dX5_reckonDay_57 ?_
      refine lv_iload_n (pc := 60) hx hb dX5_reckonDay_60 rfl (lv_at hl 3 rfl) ?_
      refine k_zald (pc := 61) hx hb hK hP 7 1 h7 rfl (by omega) (by omega) (by omega) dX5_reckonDay_61 ?_
      have hq_61 := hI.2.2.2.2.1 d
      refine k_if_eq (pc := 62) (tgt := 88) hx hb ⟨by omega, by omega⟩ dX5_reckonDay_62 (by decide) (fun hc_62 => ?_) (fun hc_62 => ?_)
      · skip
        refine lv_aload_n (pc := 88) hx hb dX5_reckonDay_88 rfl (lv_at hl 2 rfl) ?_
        refine k_get (pc := 89) (ci := 5) (C := RX5) (T := TX5) (N := 13) hx hb hts hi5 hown hK hP 0 h0 rfl 6 (by decide) hf42 (fun _ h9 => h9) rfl dX5_reckonDay_89 ?_
        refine lv_iload_n (pc := 92) hx hb dX5_reckonDay_92 rfl (lv_at hl 3 rfl) ?_
        refine lv_lload_n (pc := 93) hx hb dX5_reckonDay_93 rfl (lv_at hl 0 rfl) ?_
        refine k_iconst (pc := 94) hx hb dX5_reckonDay_94 ?_
        refine k_call1 (pc := 95) (va_runV (As := [.int (iI d), .long (lI (opF sc fn d)), .int (iI 1)]) (rest := []) ⟨hx, hb, hml, hown, hts⟩ (c_X1_put l D cA ad w H.size 9 10 11 F S h9 h10 h11 hF hS9 (by decide) (by decide) (by decide) d (opF sc fn d) 1 (by omega)) (cwV 3 hts gX5_reckonDay_X1_put rfl rfl rfl (by decide +kernel) ⟨Nat.le_of_ble_eq_true rfl, Nat.le_of_ble_eq_true rfl⟩) (gV_V hP hD hK hB hS hA hZ 9 (ci := 1) rfl h9) rfl rfl hl.1 rfl (lv_room (Nat.le_of_ble_eq_true rfl)) dX5_reckonDay_95 ⟨Nat.le_of_ble_eq_true rfl, Nat.le_of_ble_eq_true rfl⟩) hS (gA_sub hD hS hA) (fun v_95 ad_95 w_95 H locs hv_95 hP hD hS => ?_)
        obtain ⟨hv1, hv2, hv3⟩ := hv_95
        subst hv1
        rw [hv2, hv3] at hP hD
        refine W.eq (g2 := F0 m 98 ls []) rfl ?_
        refine W.cs (cells' := 0) (slots' := 0) rfl rfl ?_
        have htt := td_open htd (by omega)
        rw [hQ9]
        exact W.vret hx hb hret (fun t ht hW => ⟨⟨none, ad, (up (up w 10 (eJ (cA 2) 400 (updI F d (opF sc fn d)))) 11 (eI (cA 0) 400 (updI S d 1))), rfl, ⟨rfl, rfl, by rw [htt.1, htt.2]⟩, by rw [ht]; exact hP, hD⟩, hS.F ht⟩) hS.2.2 dX5_reckonDay_98
      · skip
        refine lv_aload_n (pc := 65) hx hb dX5_reckonDay_65 rfl (lv_at hl 2 rfl) ?_
        refine k_get (pc := 66) (ci := 5) (C := RX5) (T := TX5) (N := 13) hx hb hts hi5 hown hK hP 0 h0 rfl 6 (by decide) hf42 (fun _ h9 => h9) rfl dX5_reckonDay_66 ?_
        refine lv_iload_n (pc := 69) hx hb dX5_reckonDay_69 rfl (lv_at hl 3 rfl) ?_
        refine lv_lload_n (pc := 70) hx hb dX5_reckonDay_70 rfl (lv_at hl 0 rfl) ?_
        refine lv_aload_n (pc := 71) hx hb dX5_reckonDay_71 rfl (lv_at hl 2 rfl) ?_
        refine k_get (pc := 72) (ci := 5) (C := RX5) (T := TX5) (N := 13) hx hb hts hi5 hown hK hP 0 h0 rfl 10 (by decide) hf53 (fun _ h9 => h9) rfl dX5_reckonDay_72 ?_
        refine k_i2l (pc := 75) hx hb ⟨by omega, by omega⟩ dX5_reckonDay_75 ?_
        refine k_lmul (pc := 76) hx hb dX5_reckonDay_76 ?_
        refine k_ldc2 (z := 100) (pc := 77) hx hb hown (hts (.constantLong RX5 284 (100)) (by decide +kernel)) (by decide +kernel) dX5_reckonDay_77 ?_
        refine k_ldiv (pc := 80) hx hb h80 (by decide) (by decide) dX5_reckonDay_80 ?_
        refine k_iconst (pc := 81) hx hb dX5_reckonDay_81 ?_
        refine k_call1 (pc := 82) (va_runV (As := [.int (iI d), .long (lI (Int.tdiv ((opF sc fn d) * (sc 2)) 100)), .int (iI 2)]) (rest := []) ⟨hx, hb, hml, hown, hts⟩ (c_X1_put l D cA ad w H.size 9 10 11 F S h9 h10 h11 hF hS9 (by decide) (by decide) (by decide) d (Int.tdiv ((opF sc fn d) * (sc 2)) 100) 2 (by omega)) (cwV 3 hts gX5_reckonDay_X1_put rfl rfl rfl (by decide +kernel) ⟨Nat.le_of_ble_eq_true rfl, Nat.le_of_ble_eq_true rfl⟩) (gV_V hP hD hK hB hS hA hZ 9 (ci := 1) rfl h9) rfl rfl hl.1 rfl (lv_room (Nat.le_of_ble_eq_true rfl)) dX5_reckonDay_82 ⟨Nat.le_of_ble_eq_true rfl, Nat.le_of_ble_eq_true rfl⟩) hS (gA_sub hD hS hA) (fun v_82 ad_82 w_82 H locs hv_82 hP hD hS => ?_)
        obtain ⟨hv1, hv2, hv3⟩ := hv_82
        subst hv1
        rw [hv2, hv3] at hP hD
        refine W.eq (g2 := F0 m 85 ls []) rfl ?_
        refine W.cs (cells' := 0) (slots' := 0) rfl rfl ?_
        refine lv_goto (pc := 85) (tgt := 98) hx hb dX5_reckonDay_85 (by decide) ?_
        have htt := td_ice htd (by omega)
        rw [hQ9]
        exact W.vret hx hb hret (fun t ht hW => ⟨⟨none, ad, (up (up w 10 (eJ (cA 2) 400 (updI F d (Int.tdiv ((opF sc fn d) * (sc 2)) 100)))) 11 (eI (cA 0) 400 (updI S d 2))), rfl, ⟨rfl, rfl, by rw [htt.1, htt.2]⟩, by rw [ht]; exact hP, hD⟩, hS.F ht⟩) hS.2.2 dX5_reckonDay_98
    · skip
      subst hv_11
      refine W.eq (g2 := F0 m 14 ls [.null]) rfl ?_
      refine lv_goto (pc := 14) (tgt := 18) hx hb dX5_reckonDay_14 (by decide) ?_
      refine lv_astore_nN (pc := 18) (lv' := [(2, .null), (0, .ref (ad 0)), (1, .int (iI d))]) hx hb dX5_reckonDay_18 rfl hl (by decide) rfl (fun ls hl => ?_)
      refine lv_aload_nN (pc := 19) hx hb dX5_reckonDay_19 rfl (lv_at hl 0 rfl) ?_
      refine lv_ifnonnullN (pc := 20) hx hb dX5_reckonDay_20 ?_
      refine lv_aload_n (pc := 23) hx hb dX5_reckonDay_23 rfl (lv_at hl 1 rfl) ?_
      refine k_get (pc := 24) (ci := 5) (C := RX5) (T := TX5) (N := 13) hx hb hts hi5 hown hK hP 0 h0 rfl 6 (by decide) hf42 (fun _ h9 => h9) rfl dX5_reckonDay_24 ?_
      refine lv_iload_n (pc := 27) hx hb dX5_reckonDay_27 rfl (lv_at hl 2 rfl) ?_
      refine k_ldc2 (z := (-1)) (pc := 28) hx hb hown (hts (.constantLong RX5 278 (-1)) (by decide +kernel)) (by decide +kernel) dX5_reckonDay_28 ?_
      refine k_iconst (pc := 31) hx hb dX5_reckonDay_31 ?_
      refine k_call1 (pc := 32) (va_runV (As := [.int (iI d), .long (lI (-1)), .int (iI 0)]) (rest := []) ⟨hx, hb, hml, hown, hts⟩ (c_X1_put l D cA ad w H.size 9 10 11 F S h9 h10 h11 hF hS9 (by decide) (by decide) (by decide) d (-1) 0 (by omega)) (cwV 3 hts gX5_reckonDay_X1_put rfl rfl rfl (by decide +kernel) ⟨Nat.le_of_ble_eq_true rfl, Nat.le_of_ble_eq_true rfl⟩) (gV_V hP hD hK hB hS hA hZ 9 (ci := 1) rfl h9) rfl rfl hl.1 rfl (lv_room (Nat.le_of_ble_eq_true rfl)) dX5_reckonDay_32 ⟨Nat.le_of_ble_eq_true rfl, Nat.le_of_ble_eq_true rfl⟩) hS (gA_sub hD hS hA) (fun v_32 ad_32 w_32 H locs hv_32 hP hD hS => ?_)
      obtain ⟨hv1, hv2, hv3⟩ := hv_32
      subst hv1
      rw [hv2, hv3] at hP hD
      refine W.eq (g2 := F0 m 35 ls []) rfl ?_
      refine W.cs (cells' := 0) (slots' := 0) rfl rfl ?_
      have hno := td_no (sc := sc) (fn := fn) (d := d) (fun z => by first | exact he_11 ⟨z.2.1, z.2.2⟩ | exact z.1 hc_6)
      rw [hQ9]
      exact W.vret hx hb hret (fun t ht hW => ⟨⟨none, ad, (up (up w 10 (eJ (cA 2) 400 (updI F d (-1)))) 11 (eI (cA 0) 400 (updI S d 0))), rfl, ⟨rfl, rfl, by rw [hno.1, hno.2]⟩, by rw [ht]; exact hP, hD⟩, hS.F ht⟩) hS.2.2 dX5_reckonDay_35

abbrev rmX5_reckon : Room := { frames := 4, cells := 0, slots := 0, locals := 92 }
theorem hiX5_reckon_5 : ∀ w ∈ wsX50, w ∈ wsX5_reckon := by decide +kernel
set_option maxHeartbeats 4000000 in
set_option maxRecDepth 100000 in
theorem c_X5_reckon (l : Launch) (D : va_G) (cA : Nat → ClassId) (ad : Nat → Nat) (w : Nat → Option va_E) (sz : Nat) (sc : Nat → Int) (fn : Nat → Int → Int) (rk : Int) (F : Int → Int) (S : Int → Int) (hI : bkInv sc fn) (h0 : w 0 = some (oB 5 [.ref (ad 1), .ref (ad 2), .ref (ad 5), .ref (ad 6), .ref (ad 7), .ref (ad 8), .ref (ad 9), .ref (ad 12), .int (iI (sc 0)), .int (iI (sc 4)), .int (iI (sc 2)), .int (iI (sc 3)), .int (iI rk)])) (h1 : w 1 = some (eQ (cA 4) 6 (fun j : Nat => if (j : Int) < sc 0 then some (ad (30 + 3 * j)) else none))) (h2 : w 2 = some (oB 4 [.ref (ad 3), .ref (ad 4), .int (iI (sc 1))])) (h3 : w 3 = some (eI (cA 0) 20 (fn 0))) (h4 : w 4 = some (eI (cA 0) 20 (fn 1))) (h5 : w 5 = some (eI (cA 0) 400 (fn 2))) (h6 : w 6 = some (eI (cA 1) 400 (fn 3))) (h7 : w 7 = some (eI (cA 1) 400 (fn 4))) (h9 : w 9 = some (oB 1 [.ref (ad 10), .ref (ad 11)])) (h10 : w 10 = some (eJ (cA 2) 400 F)) (h11 : w 11 = some (eI (cA 0) 400 S)) (hcv : ∀ k : Nat, (k : Int) < sc 0 → w (30 + 3 * k) = some (oB 0 [.int (iI (fn 8 (k : Int))), .ref (ad (31 + 3 * k)), .ref (ad (32 + 3 * k)), .int (iI (fn 9 (k : Int)))]) ∧ w (31 + 3 * k) = some (eI (cA 0) 12 (fn (20 + k))) ∧ w (32 + 3 * k) = some (eI (cA 0) 12 (fn (30 + k)))) (hF : ∀ j : Int, -1 ≤ F j ∧ F j ≤ 1000000000000) (hS9 : ∀ j : Int, 0 ≤ S j ∧ S j ≤ 3) (hrk : rk = 0 ∨ (rk = 1 ∧ F = tbF sc fn ∧ S = tbS sc fn)) : Met l yX5_reckon wsX5_reckon rmX5_reckon (gV D cA ad w sz [.ref (ad 0)]) (gW D (fun v9 ad1 w1 => v9 = none ∧ ad1 = ad ∧ w1 = up (up (up w 10 (eJ (cA 2) 400 (tbF sc fn))) 11 (eI (cA 0) 400 (tbS sc fn))) 0 (oB 5 [.ref (ad 1), .ref (ad 2), .ref (ad 5), .ref (ad 6), .ref (ad 7), .ref (ad 8), .ref (ad 9), .ref (ad 12), .int (iI (sc 0)), .int (iI (sc 4)), .int (iI (sc 2)), .int (iI (sc 3)), .int (iI 1)])) (gA ad w sz)) 0 0 (gA ad w sz) := by
  refine Met.ofW (cc := cX5_reckon) (maxL := 2) (ret := none) (by decide) rfl ?_
  intro p e s m args below meth c s₁ B hml hv
  obtain ⟨hav, hsz, hP, hD0, hK, hB, hZ⟩ := hv
  have hx := B.exec
  have hb := B.bytes
  have hret := B.returns
  have hts := atoms_spec (ws := wsX5_reckon) B.pre
  have hown : s.vm.findClass RX5 = some m.cls := findClass_of_methodNamed B.named
  have hlocks := B.notSynchronized
  subst hsz
  have hD := hD0.self (sz := s.heap.size)
  generalize hAe : gA ad w s.heap.size = A at hD hZ ⊢
  have hA : ∀ q : Nat, s.heap.size ≤ q → A q := fun q h => by rw [← hAe]; exact Or.inr h
  have hS : va_S A s.heap s.heap [] := va_S.rf
  have hi5 := hiX5_reckon_5
  have hf42 := hts (.fieldLink RX5 42 "GaugeBook" "table" "LGaugeBook$FlowTable;") (by decide +kernel)
  have hf57 := hts (.fieldLink RX5 57 "GaugeBook" "gapLimit" "I") (by decide +kernel)
  have hf82 := hts (.fieldLink RX5 82 "GaugeBook" "isReckoned" "Z") (by decide +kernel)
  have he9 : entryFrame m args 2 = F0 m 0 ((lg_sl ([.ref (ad 0)] : List Value) ++ List.replicate (2 - (lg_sl ([.ref (ad 0)] : List Value)).length) Slot.unset).toArray) [] := by rw [hav, lg_entry_eq]
  rw [he9]
  have hl := lv_entry ([.ref (ad 0)] : List Value) (n := 2) (Nat.le_of_ble_eq_true rfl)
  generalize (lg_sl ([.ref (ad 0)] : List Value) ++ List.replicate (2 - (lg_sl ([.ref (ad 0)] : List Value)).length) Slot.unset).toArray = ls at hl ⊢
  have hl : lv_has ls 2 [(0, .ref (ad 0))] := hl
  obtain ⟨Q9, hQ9⟩ : ∃ z, z = MQ below (gW D (fun v9 ad1 w1 => v9 = none ∧ ad1 = ad ∧ w1 = up (up (up w 10 (eJ (cA 2) 400 (tbF sc fn))) 11 (eI (cA 0) 400 (tbS sc fn))) 0 (oB 5 [.ref (ad 1), .ref (ad 2), .ref (ad 5), .ref (ad 6), .ref (ad 7), .ref (ad 8), .ref (ad 9), .ref (ad 12), .int (iI (sc 0)), .int (iI (sc 4)), .int (iI (sc 2)), .int (iI (sc 3)), .int (iI 1)])) A) args s 0 0 A := ⟨_, rfl⟩
  rw [← hQ9]
  show W p l e rmX5_reckon s m args below meth c s.heap [] 0 0 Q9 (F0 m 0 ls [])
  obtain ⟨H, hHe⟩ : ∃ z, z = s.heap := ⟨_, rfl⟩
  obtain ⟨locs, hLe⟩ : ∃ z, z = ([] : List Loc) := ⟨_, rfl⟩
  have hP : gP D vwCl ad w H := by rw [hHe]; exact hP
  have hS : va_S A s.heap H locs := by rw [hHe, hLe]; exact va_S.rf
  rw [show W p l e rmX5_reckon s m args below meth c s.heap [] 0 0 Q9 (F0 m 0 ls []) = W p l e rmX5_reckon s m args below meth c H locs 0 0 Q9 (F0 m 0 ls []) by rw [hHe, hLe]]
  clear hHe hLe
  have hI1 := hI.1
  refine lv_aload_n (pc := 0) hx hb dX5_reckon_0 rfl (lv_at hl 0 rfl) ?_
  refine k_get (pc := 1) (ci := 5) (C := RX5) (T := TX5) (N := 13) hx hb hts hi5 hown hK hP 0 h0 rfl 12 (by decide) hf82 (fun _ h9 => h9) rfl dX5_reckon_1 ?_
  refine k_if_eq (pc := 4) (tgt := 8) hx hb ⟨by omega, by omega⟩ dX5_reckon_4 (by decide) (fun hc_4 => ?_) (fun hc_4 => ?_)
  · skip
    refine k_iconst (pc := 8) hx hb dX5_reckon_8 ?_
    refine lv_istore_n (pc := 9) (lv' := [(1, .int (iI 0)), (0, .ref (ad 0))]) hx hb dX5_reckon_9 rfl hl (by decide) rfl (fun ls hl => ?_)
    have lp_10 : ∀ (N9 : Nat) (d : Int) (G : Int → Int) (T : Int → Int), (0 ≤ d ∧ d ≤ 400) → (∀ j : Int, -1 ≤ G j ∧ G j ≤ 1000000000000) → (∀ j : Int, 0 ≤ T j ∧ T j ≤ 3) → (∀ j : Int, 0 ≤ j → j < d → G j = tdF sc fn j ∧ T j = tdS sc fn j) → (400 - d).toNat < N9 → ∀ (H : Heap) (locs : List Loc), gP D vwCl ad (up (up w 10 (eJ (cA 2) 400 G)) 11 (eI (cA 0) 400 T)) H → gD A ad (up (up w 10 (eJ (cA 2) 400 G)) 11 (eI (cA 0) 400 T)) → va_S A s.heap H locs → ∀ (ls : Array Slot), lv_has ls 2 [(1, .int (iI d)), (0, .ref (ad 0))] → W p l e rmX5_reckon s m args below meth c H locs 0 0 Q9 (F0 m 10 ls []) := by
      intro N9
      induction N9 with
      | zero => intro d G T i0 iG iT iX hmu; exact absurd hmu (Nat.not_lt_zero _)
      | succ N9 ih_10 =>
        intro d G T i0 iG iT iX hmu_10 H locs hP hD hS ls hl
        refine lv_iload_n (pc := 10) hx hb dX5_reckon_10 rfl (lv_at hl 0 rfl) ?_
        refine k_sipush (pc := 11) hx hb dX5_reckon_11 (by decide +kernel) ?_
        refine k_icmp_ge (pc := 14) (tgt := 28) hx hb ⟨by omega, by omega⟩ ⟨by omega, by omega⟩ dX5_reckon_14 (by decide) (fun hc_14 => ?_) (fun hc_14 => ?_)
        · skip
          obtain ⟨hP, hD⟩ := tb_set (F := tdF sc fn) (S := tdS sc fn) (by decide) hP hD (fun j g1 g2 => iX j g1 (by omega))
          refine lv_aload_n (pc := 28) hx hb dX5_reckon_28 rfl (lv_at hl 1 rfl) ?_
          refine k_get (pc := 29) (ci := 5) (C := RX5) (T := TX5) (N := 13) hx hb hts hi5 hown hK hP 0 (up_n (by decide) (up_n (by decide) h0)) rfl 6 (by decide) hf42 (fun _ h9 => h9) rfl dX5_reckon_29 ?_
          refine lv_aload_n (pc := 32) hx hb dX5_reckon_32 rfl (lv_at hl 1 rfl) ?_
          refine k_get (pc := 33) (ci := 5) (C := RX5) (T := TX5) (N := 13) hx hb hts hi5 hown hK hP 0 (up_n (by decide) (up_n (by decide) h0)) rfl 11 (by decide) hf57 (fun _ h9 => h9) rfl dX5_reckon_33 ?_
          refine k_call1 (pc := 36) (va_runV (As := [.int (iI (sc 3))]) (rest := []) ⟨hx, hb, hml, hown, hts⟩ (c_X1_fillGaps l D cA ad (up (up w 10 (eJ (cA 2) 400 (tdF sc fn))) 11 (eI (cA 0) 400 (tdS sc fn))) H.size 9 10 11 (tdF sc fn) (tdS sc fn) (up_n (by decide) (up_n (by decide) h9)) (up_n (by decide) (up_s _ _ _)) (up_s _ _ _) (tbOk_td hI).1 (tbOk_td hI).2.1 (by decide) (by decide) (by decide) (tbOk_td hI) (sc 3) ⟨by omega, by omega⟩) (cwV 1 hts gX5_reckon_X1_fillGaps rfl rfl rfl (by decide +kernel) ⟨Nat.le_of_ble_eq_true rfl, Nat.le_of_ble_eq_true rfl⟩) (gV_V hP hD hK hB hS hA hZ 9 (ci := 1) rfl (up_n (by decide) (up_n (by decide) h9))) rfl rfl hl.1 rfl (lv_room (Nat.le_of_ble_eq_true rfl)) dX5_reckon_36 ⟨Nat.le_of_ble_eq_true rfl, Nat.le_of_ble_eq_true rfl⟩) hS (gA_sub hD hS hA) (fun v_36 ad_36 w_36 H locs hv_36 hP hD hS => ?_)
          obtain ⟨hv1, hv2, hv3⟩ := hv_36
          subst hv1
          rw [hv2, hv3, show finF (tdF sc fn) (tdS sc fn) (sc 3) = tbF sc fn from rfl, show finS (tdF sc fn) (tdS sc fn) (sc 3) = tbS sc fn from rfl] at hP hD
          rw [show up ((up (up w 10 (eJ (cA 2) 400 (tdF sc fn))) 11 (eI (cA 0) 400 (tdS sc fn)))) 10 (eJ (cA 2) 400 (tbF sc fn)) = _ from ((up_co _ _ _ (by decide)).trans (congrArg (fun u => up u 11 _) (up_up _ _ _ _)))] at hP hD
          rw [show up ((up (up w 10 (eJ (cA 2) 400 (tbF sc fn))) 11 (eI (cA 0) 400 (tdS sc fn)))) 11 (eI (cA 0) 400 (tbS sc fn)) = _ from (up_up _ _ _ _)] at hP hD
          refine W.eq (g2 := F0 m 39 ls []) rfl ?_
          refine W.cs (cells' := 0) (slots' := 0) rfl rfl ?_
          refine lv_aload_n (pc := 39) hx hb dX5_reckon_39 rfl (lv_at hl 1 rfl) ?_
          refine k_iconst (pc := 40) hx hb dX5_reckon_40 ?_
          refine k_put (pc := 41) (ci := 5) (C := RX5) (T := TX5) (N := 13) (ty := .boolean) (v := .int (iI 1)) (w1 := (up (up (up w 10 (eJ (cA 2) 400 (tbF sc fn))) 11 (eI (cA 0) 400 (tbS sc fn))) 0 (oB 5 [.ref (ad 1), .ref (ad 2), .ref (ad 5), .ref (ad 6), .ref (ad 7), .ref (ad 8), .ref (ad 9), .ref (ad 12), .int (iI (sc 0)), .int (iI (sc 4)), .int (iI (sc 2)), .int (iI (sc 3)), .int (iI 1)]))) hx hb hts hi5 tyX5 tyX5_ok nmX5 hown hK hP hD hS 0 (up_n (by decide) (up_n (by decide) h0)) rfl 12 (by decide) hf82 (fun _ h9 => h9) rfl (by decide +kernel) (by decide +kernel) rfl (Nat.le_of_ble_eq_true rfl) rfl dX5_reckon_41 (fun H locs hP hD hS => ?_)
          rw [hQ9]
          exact W.vret hx hb hret (fun t ht hW => ⟨⟨none, ad, (up (up (up w 10 (eJ (cA 2) 400 (tbF sc fn))) 11 (eI (cA 0) 400 (tbS sc fn))) 0 (oB 5 [.ref (ad 1), .ref (ad 2), .ref (ad 5), .ref (ad 6), .ref (ad 7), .ref (ad 8), .ref (ad 9), .ref (ad 12), .int (iI (sc 0)), .int (iI (sc 4)), .int (iI (sc 2)), .int (iI (sc 3)), .int (iI 1)])), rfl, ⟨rfl, rfl, rfl⟩, by rw [ht]; exact hP, hD⟩, hS.F ht⟩) hS.2.2 dX5_reckon_44
        · skip
          refine lv_aload_n (pc := 17) hx hb dX5_reckon_17 rfl (lv_at hl 1 rfl) ?_
          refine lv_iload_n (pc := 18) hx hb dX5_reckon_18 rfl (lv_at hl 0 rfl) ?_
          refine k_call1 (pc := 19) (va_runV (As := [.int (iI d)]) (rest := []) ⟨hx, hb, hml, hown, hts⟩ (c_X5_reckonDay l D cA ad (up (up w 10 (eJ (cA 2) 400 G)) 11 (eI (cA 0) 400 T)) H.size sc fn rk G T hI (up_n (by decide) (up_n (by decide) h0)) (up_n (by decide) (up_n (by decide) h1)) (up_n (by decide) (up_n (by decide) h2)) (up_n (by decide) (up_n (by decide) h3)) (up_n (by decide) (up_n (by decide) h4)) (up_n (by decide) (up_n (by decide) h5)) (up_n (by decide) (up_n (by decide) h6)) (up_n (by decide) (up_n (by decide) h7)) (up_n (by decide) (up_n (by decide) h9)) (up_n (by decide) (up_s _ _ _)) (up_s _ _ _) (fun k9 hk9 => by have h9_ := hcv k9 hk9; have i9_ := hI.1.1; exact ⟨(up_n (by omega) (up_n (by omega) h9_.1)), (up_n (by omega) (up_n (by omega) h9_.2.1)), (up_n (by omega) (up_n (by omega) h9_.2.2))⟩) iG iT d (by omega)) (cwV 1 hts gX5_reckon_X5_reckonDay rfl rfl rfl (by decide +kernel) ⟨Nat.le_of_ble_eq_true rfl, Nat.le_of_ble_eq_true rfl⟩) (gV_V hP hD hK hB hS hA hZ 0 (ci := 5) rfl (up_n (by decide) (up_n (by decide) h0))) rfl rfl hl.1 rfl (lv_room (Nat.le_of_ble_eq_true rfl)) dX5_reckon_19 ⟨Nat.le_of_ble_eq_true rfl, Nat.le_of_ble_eq_true rfl⟩) hS (gA_sub hD hS hA) (fun v_19 ad_19 w_19 H locs hv_19 hP hD hS => ?_)
          obtain ⟨hv1, hv2, hv3⟩ := hv_19
          subst hv1
          rw [hv2, hv3] at hP hD
          rw [show up ((up (up w 10 (eJ (cA 2) 400 G)) 11 (eI (cA 0) 400 T))) 10 (eJ (cA 2) 400 (updI G d (tdF sc fn d))) = _ from ((up_co _ _ _ (by decide)).trans (congrArg (fun u => up u 11 _) (up_up _ _ _ _)))] at hP hD
          rw [show up ((up (up w 10 (eJ (cA 2) 400 (updI G d (tdF sc fn d)))) 11 (eI (cA 0) 400 T))) 11 (eI (cA 0) 400 (updI T d (tdS sc fn d))) = _ from (up_up _ _ _ _)] at hP hD
          refine W.eq (g2 := F0 m 22 ls []) rfl ?_
          refine W.cs (cells' := 0) (slots' := 0) rfl rfl ?_
          refine lv_iinc (pc := 22) (v := iI (d + 1)) (lv' := [(1, .int (iI (d + 1))), (0, .ref (ad 0))]) hx hb dX5_reckon_22 hl (k := 0) rfl (iI_add _ _) (by decide) rfl (fun ls hl => ?_)
          refine lv_goto (pc := 25) (tgt := 10) hx hb dX5_reckon_25 (by decide) ?_
          exact ih_10 (d + 1) (updI G d (tdF sc fn d)) (updI T d (tdS sc fn d)) (by omega) (upd_b iG ((tbOk_td hI).1 d)) (upd_b iT ((tbOk_td hI).2.1 d)) (fun j g1 g2 => by unfold updI; by_cases h8 : j = d; rw [if_pos h8, if_pos h8, h8]; exact ⟨rfl, rfl⟩; rw [if_neg h8, if_neg h8]; exact iX j g1 (by omega)) (by omega) H locs hP hD hS ls (lv_sub hl [0, 1] rfl)
    have hW9 : (w) = (up (up w 10 (eJ (cA 2) 400 F)) 11 (eI (cA 0) 400 S)) := by rw [up_self h10, up_self h11]
    rw [hW9] at hP hD
    exact lp_10 _ 0 F S (by omega) hF hS9 (fun j g1 g2 => by omega) (Nat.lt_succ_self _) H locs hP hD hS ls (lv_sub hl [0, 1] rfl)
  · skip
    have hrk1 : rk = 1 ∧ F = tbF sc fn ∧ S = tbS sc fn := hrk.resolve_left (by omega)
    rw [hQ9]
    exact W.vret hx hb hret (fun t ht hW => ⟨⟨none, ad, w, rfl, ⟨rfl, rfl, by rw [← hrk1.2.1, ← hrk1.2.2, up_self h10, up_self h11, ← hrk1.1, up_self h0]⟩, by rw [ht]; exact hP, hD⟩, hS.F ht⟩) hS.2.2 dX5_reckon_7

abbrev rmX5_requireDay : Room := { frames := 6, cells := 1, slots := 6, locals := 82 }
theorem hxwX5_requireDay_xIA_116 : ∀ w ∈ (vx_atS RX5 116 xIA ["java/lang/RuntimeException", "java/lang/Exception"]).filter goodWord, w ∈ wsX5_requireDay := by decide +kernel
set_option maxHeartbeats 4000000 in
set_option maxRecDepth 100000 in
theorem c_X5_requireDay (l : Launch) (hl0 : l.stackTraces = false) (D : va_G) (cA : Nat → ClassId) (ad : Nat → Nat) (w : Nat → Option va_E) (sz : Nat) (d : Int) (hd : (-2147483648 ≤ d ∧ d < 2147483648)) : vx_Met l yX5_requireDay wsX5_requireDay rmX5_requireDay (gV D cA ad w sz [.int (iI d)]) (gW D (fun v9 ad1 w1 => v9 = none ∧ ad1 = ad ∧ w1 = w ∧ (0 ≤ d ∧ d < 400)) (gA ad w sz)) (gX D (fun E => E = xIA ∧ ¬ (0 ≤ d ∧ d < 400)) ad w (gA ad w sz)) 1 6 (gA ad w sz) := by
  refine vx_ofW (cc := cX5_requireDay) (maxL := 1) (ret := none) (by decide) rfl ?_
  intro p e s m args below meth c s₁ B hml hE hv
  obtain ⟨hav, hsz, hP, hD0, hK, hB, hZ⟩ := hv
  have hx := B.exec
  have hb := B.bytes
  have hret := B.returns
  have hts := atoms_spec (ws := wsX5_requireDay) B.pre
  have hown : s.vm.findClass RX5 = some m.cls := findClass_of_methodNamed B.named
  have hlocks := B.notSynchronized
  subst hsz
  have hD := hD0.self (sz := s.heap.size)
  generalize hAe : gA ad w s.heap.size = A at hD hZ ⊢
  have hA : ∀ q : Nat, s.heap.size ≤ q → A q := fun q h => by rw [← hAe]; exact Or.inr h
  have hS : va_S A s.heap s.heap [] := va_S.rf
  have hxw_xIA_116 := hxwX5_requireDay_xIA_116
  have he9 : entryFrame m args 1 = F0 m 0 ((lg_sl ([.int (iI d)] : List Value) ++ List.replicate (1 - (lg_sl ([.int (iI d)] : List Value)).length) Slot.unset).toArray) [] := by rw [hav, lg_entry_eq]
  rw [he9]
  have hl := lv_entry ([.int (iI d)] : List Value) (n := 1) (Nat.le_of_ble_eq_true rfl)
  generalize (lg_sl ([.int (iI d)] : List Value) ++ List.replicate (1 - (lg_sl ([.int (iI d)] : List Value)).length) Slot.unset).toArray = ls at hl ⊢
  have hl : lv_has ls 1 [(0, .int (iI d))] := hl
  obtain ⟨Q9, hQ9⟩ : ∃ z, z = vx_MQ below (gW D (fun v9 ad1 w1 => v9 = none ∧ ad1 = ad ∧ w1 = w ∧ (0 ≤ d ∧ d < 400)) A) (gX D (fun E => E = xIA ∧ ¬ (0 ≤ d ∧ d < 400)) ad w A) args s 1 6 A := ⟨_, rfl⟩
  rw [← hQ9]
  show W p l e rmX5_requireDay s m args below meth c s.heap [] 0 0 Q9 (F0 m 0 ls [])
  obtain ⟨H, hHe⟩ : ∃ z, z = s.heap := ⟨_, rfl⟩
  obtain ⟨locs, hLe⟩ : ∃ z, z = ([] : List Loc) := ⟨_, rfl⟩
  have hP : gP D vwCl ad w H := by rw [hHe]; exact hP
  have hS : va_S A s.heap H locs := by rw [hHe, hLe]; exact va_S.rf
  rw [show W p l e rmX5_requireDay s m args below meth c s.heap [] 0 0 Q9 (F0 m 0 ls []) = W p l e rmX5_requireDay s m args below meth c H locs 0 0 Q9 (F0 m 0 ls []) by rw [hHe, hLe]]
  clear hHe hLe
  refine lv_iload_n (pc := 0) hx hb dX5_requireDay_0 rfl (lv_at hl 0 rfl) ?_
  refine k_if_lt (pc := 1) (tgt := 11) hx hb ⟨by omega, by omega⟩ dX5_requireDay_1 (by decide) (fun hc_1 => ?_) (fun hc_1 => ?_)
  · skip
    obtain ⟨sa_11, hsa_11⟩ := ns_250 hB
    rw [hQ9]
    exact vx_throwS (pc := 11) (own := RX5) (cls := xIA) (names := ["java/lang/RuntimeException", "java/lang/Exception"]) (ik := 112) (is := 250) (ic := 116) (A := A) hx hb hl0 hown (by decide +kernel) (by decide +kernel) (hts (.classLink RX5 112 "java/lang/IllegalArgumentException") (by decide +kernel)) (hts (.initialized "java/lang/IllegalArgumentException") (by decide +kernel)) hsa_11 (gx_hat hB (E := xIA) (i := 0) rfl (fun w h => hts w (hxw_xIA_116 w h)) (by decide +kernel)) (by decide +kernel) hZ.1 hZ.2 hS (hl.1.trans hml.symm) dX5_requireDay_11 dX5_requireDay_14 dX5_requireDay_15 dX5_requireDay_17 dX5_requireDay_20 (fun x h => (hE x h).elim) (Nat.le_of_ble_eq_true rfl) (Nat.le_of_ble_eq_true rfl) (Nat.le_of_ble_eq_true rfl) (Nat.le_of_ble_eq_true rfl) hlocks (fun t hW hz hk => ⟨⟨rfl, by omega⟩, fun r x hr => (hP r x hr).kept (hk _ (hP r x hr).lt), hD, Nat.le_trans hS.1 hz, fun q h1 h2 => (hk q (Nat.lt_of_lt_of_le h1 hS.1)).trans (hS.2.1 q h1 h2)⟩) hS.2.2 (Nat.le_of_ble_eq_true rfl) (Nat.le_of_ble_eq_true rfl)
  · skip
    refine lv_iload_n (pc := 4) hx hb dX5_requireDay_4 rfl (lv_at hl 0 rfl) ?_
    refine k_sipush (pc := 5) hx hb dX5_requireDay_5 (by decide +kernel) ?_
    refine k_icmp_lt (pc := 8) (tgt := 21) hx hb ⟨by omega, by omega⟩ ⟨by omega, by omega⟩ dX5_requireDay_8 (by decide) (fun hc_8 => ?_) (fun hc_8 => ?_)
    · skip
      rw [hQ9]
      refine vx_ret ?_
      refine W.widen (k := 1) (n := 6) (by decide) (by decide) ?_
      exact W.vret hx hb hret (fun t ht hW => ⟨⟨none, ad, w, rfl, ⟨rfl, rfl, rfl, by omega⟩, by rw [ht]; exact hP, hD⟩, hS.F ht⟩) hS.2.2 dX5_requireDay_21
    · skip
      obtain ⟨sa_11, hsa_11⟩ := ns_250 hB
      rw [hQ9]
      exact vx_throwS (pc := 11) (own := RX5) (cls := xIA) (names := ["java/lang/RuntimeException", "java/lang/Exception"]) (ik := 112) (is := 250) (ic := 116) (A := A) hx hb hl0 hown (by decide +kernel) (by decide +kernel) (hts (.classLink RX5 112 "java/lang/IllegalArgumentException") (by decide +kernel)) (hts (.initialized "java/lang/IllegalArgumentException") (by decide +kernel)) hsa_11 (gx_hat hB (E := xIA) (i := 0) rfl (fun w h => hts w (hxw_xIA_116 w h)) (by decide +kernel)) (by decide +kernel) hZ.1 hZ.2 hS (hl.1.trans hml.symm) dX5_requireDay_11 dX5_requireDay_14 dX5_requireDay_15 dX5_requireDay_17 dX5_requireDay_20 (fun x h => (hE x h).elim) (Nat.le_of_ble_eq_true rfl) (Nat.le_of_ble_eq_true rfl) (Nat.le_of_ble_eq_true rfl) (Nat.le_of_ble_eq_true rfl) hlocks (fun t hW hz hk => ⟨⟨rfl, by omega⟩, fun r x hr => (hP r x hr).kept (hk _ (hP r x hr).lt), hD, Nat.le_trans hS.1 hz, fun q h1 h2 => (hk q (Nat.lt_of_lt_of_le h1 hS.1)).trans (hS.2.1 q h1 h2)⟩) hS.2.2 (Nat.le_of_ble_eq_true rfl) (Nat.le_of_ble_eq_true rfl)
