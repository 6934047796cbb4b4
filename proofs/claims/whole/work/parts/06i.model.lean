abbrev rmX6_init : Room := { frames := 1, cells := 12, slots := 3476, locals := 12 }
theorem hiX6_init_6 : ∀ w ∈ wsX60, w ∈ wsX6_init := by decide +kernel
set_option maxHeartbeats 4000000 in
set_option maxRecDepth 100000 in
theorem c_X6_init (l : Launch) (D : va_G) (cA : Nat → ClassId) (ad : Nat → Nat) (w : Nat → Option va_E) (sz : Nat) (h0 : w 200 = some (oB 6 [.int (iI 0), .int (iI 0), .null, .null, .null, .null, .int (iI 0), .null, .null, .null, .null, .null, .int (iI 0), .int (iI 0), .int (iI 0), .null, .int (iI 0), .null, .null])) : Met l yX6_init wsX6_init rmX6_init (gV D cA ad w sz [.ref (ad 200)]) (gW D (fun v9 ad1 w1 => mdS cA ad1 w1 0 sc00 fn00 ∧ keepM ad ad1 w w1 ∧ v9 = none) (gA ad w sz)) 12 3476 (gA ad w sz) := by
  refine Met.ofW (cc := cX6_init) (maxL := 1) (ret := none) (by decide) rfl ?_
  intro p e s m args below meth c s₁ B hml hv
  obtain ⟨hav, hsz, hP, hD0, hK, hB, hZ⟩ := hv
  have hx := B.exec
  have hb := B.bytes
  have hret := B.returns
  have hts := atoms_spec (ws := wsX6_init) B.pre
  have hown : s.vm.findClass RX6 = some m.cls := findClass_of_methodNamed B.named
  have hlocks := B.notSynchronized
  have hin : meth.name = "<init>" := (name_of_methodNamed B.named B.method).1
  subst hsz
  have hD := hD0.self (sz := s.heap.size)
  generalize hAe : gA ad w s.heap.size = A at hD hZ ⊢
  have hA : ∀ q : Nat, s.heap.size ≤ q → A q := fun q h => by rw [← hAe]; exact Or.inr h
  have hS : va_S A s.heap s.heap [] := va_S.rf
  have hi6 := hiX6_init_6
  have hf9 := hts (.fieldLink RX6 9 "GaugeBookModel" "since" "[I") (by decide +kernel)
  have hf13 := hts (.fieldLink RX6 13 "GaugeBookModel" "many" "[I") (by decide +kernel)
  have hf16 := hts (.fieldLink RX6 16 "GaugeBookModel" "stages" "[I") (by decide +kernel)
  have hf19 := hts (.fieldLink RX6 19 "GaugeBookModel" "flows" "[I") (by decide +kernel)
  have hf22 := hts (.fieldLink RX6 22 "GaugeBookModel" "hasShift" "[Z") (by decide +kernel)
  have hf26 := hts (.fieldLink RX6 26 "GaugeBookModel" "shiftTold" "[I") (by decide +kernel)
  have hf29 := hts (.fieldLink RX6 29 "GaugeBookModel" "hasStage" "[Z") (by decide +kernel)
  have hf32 := hts (.fieldLink RX6 32 "GaugeBookModel" "stageRead" "[I") (by decide +kernel)
  have hf35 := hts (.fieldLink RX6 35 "GaugeBookModel" "isIce" "[Z") (by decide +kernel)
  have hf38 := hts (.fieldLink RX6 38 "GaugeBookModel" "factor" "I") (by decide +kernel)
  have hf42 := hts (.fieldLink RX6 42 "GaugeBookModel" "limit" "I") (by decide +kernel)
  have hf45 := hts (.fieldLink RX6 45 "GaugeBookModel" "table" "[I") (by decide +kernel)
  have hf48 := hts (.fieldLink RX6 48 "GaugeBookModel" "states" "[I") (by decide +kernel)
  have hf51 := hts (.fieldLink RX6 51 "GaugeBookModel" "worked" "[J") (by decide +kernel)
  have he9 : entryFrame m args 1 = F0 m 0 ((lg_sl ([.ref (ad 200)] : List Value) ++ List.replicate (1 - (lg_sl ([.ref (ad 200)] : List Value)).length) Slot.unset).toArray) [] := by rw [hav, lg_entry_eq]
  rw [he9]
  have hl := lv_entry ([.ref (ad 200)] : List Value) (n := 1) (Nat.le_of_ble_eq_true rfl)
  generalize (lg_sl ([.ref (ad 200)] : List Value) ++ List.replicate (1 - (lg_sl ([.ref (ad 200)] : List Value)).length) Slot.unset).toArray = ls at hl ⊢
  have hl : lv_has ls 1 [(0, .ref (ad 200))] := hl
  obtain ⟨Q9, hQ9⟩ : ∃ z, z = MQ below (gW D (fun v9 ad1 w1 => mdS cA ad1 w1 0 sc00 fn00 ∧ keepM ad ad1 w w1 ∧ v9 = none) A) args s 12 3476 A := ⟨_, rfl⟩
  rw [← hQ9]
  show W p l e rmX6_init s m args below meth c s.heap [] 0 0 Q9 (F0 m 0 ls [])
  obtain ⟨H, hHe⟩ : ∃ z, z = s.heap := ⟨_, rfl⟩
  obtain ⟨locs, hLe⟩ : ∃ z, z = ([] : List Loc) := ⟨_, rfl⟩
  have hP : gP D vwCl ad w H := by rw [hHe]; exact hP
  have hS : va_S A s.heap H locs := by rw [hHe, hLe]; exact va_S.rf
  rw [show W p l e rmX6_init s m args below meth c s.heap [] 0 0 Q9 (F0 m 0 ls []) = W p l e rmX6_init s m args below meth c H locs 0 0 Q9 (F0 m 0 ls []) by rw [hHe, hLe]]
  clear hHe hLe
  refine lv_aload_n (pc := 0) hx hb dX6_init_0 rfl (lv_at hl 0 rfl) ?_
  refine W.eq (g2 := F0 m 1 ls [.ref (ad 200)]) rfl ?_
  refine W.objInit hx hb hown (hts (.methodLink RX6 1 objectInit) (by decide +kernel)) (hts (.instanceMethod objectInit) (by decide +kernel)) (hts (.code objectInit ⟨#[0xb1]⟩ 1 none) (by decide +kernel)) rfl (by rw [hml]; exact hl.1) rfl dX6_init_1 (Nat.le_of_ble_eq_true rfl) (Nat.le_of_ble_eq_true rfl) ?_
  refine W.eq (g2 := F0 m 4 ls []) rfl ?_
  refine lv_aload_n (pc := 4) hx hb dX6_init_4 rfl (lv_at hl 0 rfl) ?_
  refine k_bipush (pc := 5) hx hb dX6_init_5 (by decide +kernel) ?_
  refine k_newI (pc := 7) hx hb (hts (.arrayClass .int) (by decide +kernel)) hK hP hD hS hA 201 0 rfl 6 rfl (by decide) (Nat.le_of_ble_eq_true rfl) (Nat.le_of_ble_eq_true rfl) dX6_init_7 (fun q_7 H hP hD hS => ?_)
  obtain ⟨ad_7, hga_7⟩ : ∃ z9 : Nat → Nat, adN ad 201 q_7 = z9 := ⟨_, rfl⟩
  rw [hga_7] at hP hD
  have hnn_7 : ∀ j9 : Nat, j9 ≠ 201 → ad j9 = ad_7 j9 := fun j9 h9_ => by rw [← hga_7, adN_n _ _ h9_]
  rw [show q_7 = ad_7 201 by rw [← hga_7, adN_s]]
  rw [hnn_7 200 (by omega)]
  rw [hnn_7 200 (by omega)] at hl
  refine W.eq (g2 := F0 m 9 ls [.ref (ad_7 201), .ref (ad_7 200)]) rfl ?_
  refine W.cs (cells' := 1) (slots' := 6) rfl rfl ?_
  refine k_putF (pc := 9) (ci := 6) (C := RX6) (T := TX6) (N := 19) (ty := .array .int) (v := .ref (ad_7 201)) (w1 := (up (up w 201 (eI (cA 0) 6 (fun _ => 0))) 200 (oB 6 [.int (iI 0), .int (iI 0), .ref (ad_7 201), .null, .null, .null, .int (iI 0), .null, .null, .null, .null, .null, .int (iI 0), .int (iI 0), .int (iI 0), .null, .int (iI 0), .null, .null]))) hx hb hts hi6 tyX6 tyX6_ok nmX6 hown hK hP hD hS 200 (up_n (by decide) h0) rfl 2 (by decide) hf9 (fun _ h9 => h9) rfl hin rfl (by decide +kernel) rfl rfl (Nat.le_of_ble_eq_true rfl) rfl dX6_init_9 (fun H locs hP hD hS => ?_)
  refine lv_aload_n (pc := 12) hx hb dX6_init_12 rfl (lv_at hl 0 rfl) ?_
  refine k_bipush (pc := 13) hx hb dX6_init_13 (by decide +kernel) ?_
  refine k_newI (pc := 15) hx hb (hts (.arrayClass .int) (by decide +kernel)) hK hP hD hS hA 202 0 rfl 6 rfl (by decide) (Nat.le_of_ble_eq_true rfl) (Nat.le_of_ble_eq_true rfl) dX6_init_15 (fun q_15 H hP hD hS => ?_)
  obtain ⟨ad_15, hga_15⟩ : ∃ z9 : Nat → Nat, adN ad_7 202 q_15 = z9 := ⟨_, rfl⟩
  rw [hga_15] at hP hD
  have hnn_15 : ∀ j9 : Nat, j9 ≠ 202 → ad_7 j9 = ad_15 j9 := fun j9 h9_ => by rw [← hga_15, adN_n _ _ h9_]
  rw [show q_15 = ad_15 202 by rw [← hga_15, adN_s]]
  rw [hnn_15 201 (by omega)] at hP hD
  rw [hnn_15 200 (by omega)]
  rw [hnn_15 200 (by omega)] at hl
  refine W.eq (g2 := F0 m 17 ls [.ref (ad_15 202), .ref (ad_15 200)]) rfl ?_
  refine W.cs (cells' := 2) (slots' := 12) rfl rfl ?_
  refine k_putF (pc := 17) (ci := 6) (C := RX6) (T := TX6) (N := 19) (ty := .array .int) (v := .ref (ad_15 202)) (w1 := (up (up (up w 201 (eI (cA 0) 6 (fun _ => 0))) 200 (oB 6 [.int (iI 0), .int (iI 0), .ref (ad_15 201), .ref (ad_15 202), .null, .null, .int (iI 0), .null, .null, .null, .null, .null, .int (iI 0), .int (iI 0), .int (iI 0), .null, .int (iI 0), .null, .null])) 202 (eI (cA 0) 6 (fun _ => 0)))) hx hb hts hi6 tyX6 tyX6_ok nmX6 hown hK hP hD hS 200 (up_n (by decide) (up_s _ _ _)) rfl 3 (by decide) hf13 (fun _ h9 => h9) rfl hin rfl (by decide +kernel) rfl rfl (Nat.le_of_ble_eq_true rfl) ((up_co _ _ _ (by decide)).trans (congrArg (fun u => up u 202 _) (up_up _ _ _ _))) dX6_init_17 (fun H locs hP hD hS => ?_)
  refine lv_aload_n (pc := 20) hx hb dX6_init_20 rfl (lv_at hl 0 rfl) ?_
  refine k_bipush (pc := 21) hx hb dX6_init_21 (by decide +kernel) ?_
  refine k_newI (pc := 23) hx hb (hts (.arrayClass .int) (by decide +kernel)) hK hP hD hS hA 203 0 rfl 72 rfl (by decide) (Nat.le_of_ble_eq_true rfl) (Nat.le_of_ble_eq_true rfl) dX6_init_23 (fun q_23 H hP hD hS => ?_)
  obtain ⟨ad_23, hga_23⟩ : ∃ z9 : Nat → Nat, adN ad_15 203 q_23 = z9 := ⟨_, rfl⟩
  rw [hga_23] at hP hD
  have hnn_23 : ∀ j9 : Nat, j9 ≠ 203 → ad_15 j9 = ad_23 j9 := fun j9 h9_ => by rw [← hga_23, adN_n _ _ h9_]
  rw [show q_23 = ad_23 203 by rw [← hga_23, adN_s]]
  rw [hnn_23 201 (by omega)] at hP hD
  rw [hnn_23 202 (by omega)] at hP hD
  rw [hnn_23 200 (by omega)]
  rw [hnn_23 200 (by omega)] at hl
  refine W.eq (g2 := F0 m 25 ls [.ref (ad_23 203), .ref (ad_23 200)]) rfl ?_
  refine W.cs (cells' := 3) (slots' := 84) rfl rfl ?_
  refine k_putF (pc := 25) (ci := 6) (C := RX6) (T := TX6) (N := 19) (ty := .array .int) (v := .ref (ad_23 203)) (w1 := (up (up (up (up w 201 (eI (cA 0) 6 (fun _ => 0))) 200 (oB 6 [.int (iI 0), .int (iI 0), .ref (ad_23 201), .ref (ad_23 202), .ref (ad_23 203), .null, .int (iI 0), .null, .null, .null, .null, .null, .int (iI 0), .int (iI 0), .int (iI 0), .null, .int (iI 0), .null, .null])) 202 (eI (cA 0) 6 (fun _ => 0))) 203 (eI (cA 0) 72 (fun _ => 0)))) hx hb hts hi6 tyX6 tyX6_ok nmX6 hown hK hP hD hS 200 (up_n (by decide) (up_n (by decide) (up_s _ _ _))) rfl 4 (by decide) hf16 (fun _ h9 => h9) rfl hin rfl (by decide +kernel) rfl rfl (Nat.le_of_ble_eq_true rfl) ((up_co _ _ _ (by decide)).trans (congrArg (fun u => up u 203 _) ((up_co _ _ _ (by decide)).trans (congrArg (fun u => up u 202 _) (up_up _ _ _ _))))) dX6_init_25 (fun H locs hP hD hS => ?_)
  refine lv_aload_n (pc := 28) hx hb dX6_init_28 rfl (lv_at hl 0 rfl) ?_
  refine k_bipush (pc := 29) hx hb dX6_init_29 (by decide +kernel) ?_
  refine k_newI (pc := 31) hx hb (hts (.arrayClass .int) (by decide +kernel)) hK hP hD hS hA 204 0 rfl 72 rfl (by decide) (Nat.le_of_ble_eq_true rfl) (Nat.le_of_ble_eq_true rfl) dX6_init_31 (fun q_31 H hP hD hS => ?_)
  obtain ⟨ad_31, hga_31⟩ : ∃ z9 : Nat → Nat, adN ad_23 204 q_31 = z9 := ⟨_, rfl⟩
  rw [hga_31] at hP hD
  have hnn_31 : ∀ j9 : Nat, j9 ≠ 204 → ad_23 j9 = ad_31 j9 := fun j9 h9_ => by rw [← hga_31, adN_n _ _ h9_]
  rw [show q_31 = ad_31 204 by rw [← hga_31, adN_s]]
  rw [hnn_31 201 (by omega)] at hP hD
  rw [hnn_31 202 (by omega)] at hP hD
  rw [hnn_31 203 (by omega)] at hP hD
  rw [hnn_31 200 (by omega)]
  rw [hnn_31 200 (by omega)] at hl
  refine W.eq (g2 := F0 m 33 ls [.ref (ad_31 204), .ref (ad_31 200)]) rfl ?_
  refine W.cs (cells' := 4) (slots' := 156) rfl rfl ?_
  refine k_putF (pc := 33) (ci := 6) (C := RX6) (T := TX6) (N := 19) (ty := .array .int) (v := .ref (ad_31 204)) (w1 := (up (up (up (up (up w 201 (eI (cA 0) 6 (fun _ => 0))) 200 (oB 6 [.int (iI 0), .int (iI 0), .ref (ad_31 201), .ref (ad_31 202), .ref (ad_31 203), .ref (ad_31 204), .int (iI 0), .null, .null, .null, .null, .null, .int (iI 0), .int (iI 0), .int (iI 0), .null, .int (iI 0), .null, .null])) 202 (eI (cA 0) 6 (fun _ => 0))) 203 (eI (cA 0) 72 (fun _ => 0))) 204 (eI (cA 0) 72 (fun _ => 0)))) hx hb hts hi6 tyX6 tyX6_ok nmX6 hown hK hP hD hS 200 (up_n (by decide) (up_n (by decide) (up_n (by decide) (up_s _ _ _)))) rfl 5 (by decide) hf19 (fun _ h9 => h9) rfl hin rfl (by decide +kernel) rfl rfl (Nat.le_of_ble_eq_true rfl) ((up_co _ _ _ (by decide)).trans (congrArg (fun u => up u 204 _) ((up_co _ _ _ (by decide)).trans (congrArg (fun u => up u 203 _) ((up_co _ _ _ (by decide)).trans (congrArg (fun u => up u 202 _) (up_up _ _ _ _))))))) dX6_init_33 (fun H locs hP hD hS => ?_)
  refine lv_aload_n (pc := 36) hx hb dX6_init_36 rfl (lv_at hl 0 rfl) ?_
  refine k_sipush (pc := 37) hx hb dX6_init_37 (by decide +kernel) ?_
  refine k_newZ (pc := 40) hx hb (hts (.arrayClass .boolean) (by decide +kernel)) hK hP hD hS hA 205 1 rfl 400 rfl (by decide) (Nat.le_of_ble_eq_true rfl) (Nat.le_of_ble_eq_true rfl) dX6_init_40 (fun q_40 H hP hD hS => ?_)
  obtain ⟨ad_40, hga_40⟩ : ∃ z9 : Nat → Nat, adN ad_31 205 q_40 = z9 := ⟨_, rfl⟩
  rw [hga_40] at hP hD
  have hnn_40 : ∀ j9 : Nat, j9 ≠ 205 → ad_31 j9 = ad_40 j9 := fun j9 h9_ => by rw [← hga_40, adN_n _ _ h9_]
  rw [show q_40 = ad_40 205 by rw [← hga_40, adN_s]]
  rw [hnn_40 201 (by omega)] at hP hD
  rw [hnn_40 202 (by omega)] at hP hD
  rw [hnn_40 203 (by omega)] at hP hD
  rw [hnn_40 204 (by omega)] at hP hD
  rw [hnn_40 200 (by omega)]
  rw [hnn_40 200 (by omega)] at hl
  refine W.eq (g2 := F0 m 42 ls [.ref (ad_40 205), .ref (ad_40 200)]) rfl ?_
  refine W.cs (cells' := 5) (slots' := 556) rfl rfl ?_
  refine k_putF (pc := 42) (ci := 6) (C := RX6) (T := TX6) (N := 19) (ty := .array .boolean) (v := .ref (ad_40 205)) (w1 := (up (up (up (up (up (up w 201 (eI (cA 0) 6 (fun _ => 0))) 200 (oB 6 [.int (iI 0), .int (iI 0), .ref (ad_40 201), .ref (ad_40 202), .ref (ad_40 203), .ref (ad_40 204), .int (iI 0), .ref (ad_40 205), .null, .null, .null, .null, .int (iI 0), .int (iI 0), .int (iI 0), .null, .int (iI 0), .null, .null])) 202 (eI (cA 0) 6 (fun _ => 0))) 203 (eI (cA 0) 72 (fun _ => 0))) 204 (eI (cA 0) 72 (fun _ => 0))) 205 (eI (cA 1) 400 (fun _ => 0)))) hx hb hts hi6 tyX6 tyX6_ok nmX6 hown hK hP hD hS 200 (up_n (by decide) (up_n (by decide) (up_n (by decide) (up_n (by decide) (up_s _ _ _))))) rfl 7 (by decide) hf22 (fun _ h9 => h9) rfl hin rfl (by decide +kernel) rfl rfl (Nat.le_of_ble_eq_true rfl) ((up_co _ _ _ (by decide)).trans (congrArg (fun u => up u 205 _) ((up_co _ _ _ (by decide)).trans (congrArg (fun u => up u 204 _) ((up_co _ _ _ (by decide)).trans (congrArg (fun u => up u 203 _) ((up_co _ _ _ (by decide)).trans (congrArg (fun u => up u 202 _) (up_up _ _ _ _))))))))) dX6_init_42 (fun H locs hP hD hS => ?_)
  refine lv_aload_n (pc := 45) hx hb dX6_init_45 rfl (lv_at hl 0 rfl) ?_
  refine k_sipush (pc := 46) hx hb dX6_init_46 (by decide +kernel) ?_
  refine k_newI (pc := 49) hx hb (hts (.arrayClass .int) (by decide +kernel)) hK hP hD hS hA 206 0 rfl 400 rfl (by decide) (Nat.le_of_ble_eq_true rfl) (Nat.le_of_ble_eq_true rfl) dX6_init_49 (fun q_49 H hP hD hS => ?_)
  obtain ⟨ad_49, hga_49⟩ : ∃ z9 : Nat → Nat, adN ad_40 206 q_49 = z9 := ⟨_, rfl⟩
  rw [hga_49] at hP hD
  have hnn_49 : ∀ j9 : Nat, j9 ≠ 206 → ad_40 j9 = ad_49 j9 := fun j9 h9_ => by rw [← hga_49, adN_n _ _ h9_]
  rw [show q_49 = ad_49 206 by rw [← hga_49, adN_s]]
  rw [hnn_49 201 (by omega)] at hP hD
  rw [hnn_49 202 (by omega)] at hP hD
  rw [hnn_49 203 (by omega)] at hP hD
  rw [hnn_49 204 (by omega)] at hP hD
  rw [hnn_49 205 (by omega)] at hP hD
  rw [hnn_49 200 (by omega)]
  rw [hnn_49 200 (by omega)] at hl
  refine W.eq (g2 := F0 m 51 ls [.ref (ad_49 206), .ref (ad_49 200)]) rfl ?_
  refine W.cs (cells' := 6) (slots' := 956) rfl rfl ?_
  refine k_putF (pc := 51) (ci := 6) (C := RX6) (T := TX6) (N := 19) (ty := .array .int) (v := .ref (ad_49 206)) (w1 := (up (up (up (up (up (up (up w 201 (eI (cA 0) 6 (fun _ => 0))) 200 (oB 6 [.int (iI 0), .int (iI 0), .ref (ad_49 201), .ref (ad_49 202), .ref (ad_49 203), .ref (ad_49 204), .int (iI 0), .ref (ad_49 205), .ref (ad_49 206), .null, .null, .null, .int (iI 0), .int (iI 0), .int (iI 0), .null, .int (iI 0), .null, .null])) 202 (eI (cA 0) 6 (fun _ => 0))) 203 (eI (cA 0) 72 (fun _ => 0))) 204 (eI (cA 0) 72 (fun _ => 0))) 205 (eI (cA 1) 400 (fun _ => 0))) 206 (eI (cA 0) 400 (fun _ => 0)))) hx hb hts hi6 tyX6 tyX6_ok nmX6 hown hK hP hD hS 200 (up_n (by decide) (up_n (by decide) (up_n (by decide) (up_n (by decide) (up_n (by decide) (up_s _ _ _)))))) rfl 8 (by decide) hf26 (fun _ h9 => h9) rfl hin rfl (by decide +kernel) rfl rfl (Nat.le_of_ble_eq_true rfl) ((up_co _ _ _ (by decide)).trans (congrArg (fun u => up u 206 _) ((up_co _ _ _ (by decide)).trans (congrArg (fun u => up u 205 _) ((up_co _ _ _ (by decide)).trans (congrArg (fun u => up u 204 _) ((up_co _ _ _ (by decide)).trans (congrArg (fun u => up u 203 _) ((up_co _ _ _ (by decide)).trans (congrArg (fun u => up u 202 _) (up_up _ _ _ _))))))))))) dX6_init_51 (fun H locs hP hD hS => ?_)
  refine lv_aload_n (pc := 54) hx hb dX6_init_54 rfl (lv_at hl 0 rfl) ?_
  refine k_sipush (pc := 55) hx hb dX6_init_55 (by decide +kernel) ?_
  refine k_newZ (pc := 58) hx hb (hts (.arrayClass .boolean) (by decide +kernel)) hK hP hD hS hA 207 1 rfl 400 rfl (by decide) (Nat.le_of_ble_eq_true rfl) (Nat.le_of_ble_eq_true rfl) dX6_init_58 (fun q_58 H hP hD hS => ?_)
  obtain ⟨ad_58, hga_58⟩ : ∃ z9 : Nat → Nat, adN ad_49 207 q_58 = z9 := ⟨_, rfl⟩
  rw [hga_58] at hP hD
  have hnn_58 : ∀ j9 : Nat, j9 ≠ 207 → ad_49 j9 = ad_58 j9 := fun j9 h9_ => by rw [← hga_58, adN_n _ _ h9_]
  rw [show q_58 = ad_58 207 by rw [← hga_58, adN_s]]
  rw [hnn_58 201 (by omega)] at hP hD
  rw [hnn_58 202 (by omega)] at hP hD
  rw [hnn_58 203 (by omega)] at hP hD
  rw [hnn_58 204 (by omega)] at hP hD
  rw [hnn_58 205 (by omega)] at hP hD
  rw [hnn_58 206 (by omega)] at hP hD
  rw [hnn_58 200 (by omega)]
  rw [hnn_58 200 (by omega)] at hl
  refine W.eq (g2 := F0 m 60 ls [.ref (ad_58 207), .ref (ad_58 200)]) rfl ?_
  refine W.cs (cells' := 7) (slots' := 1356) rfl rfl ?_
  refine k_putF (pc := 60) (ci := 6) (C := RX6) (T := TX6) (N := 19) (ty := .array .boolean) (v := .ref (ad_58 207)) (w1 := (up (up (up (up (up (up (up (up w 201 (eI (cA 0) 6 (fun _ => 0))) 200 (oB 6 [.int (iI 0), .int (iI 0), .ref (ad_58 201), .ref (ad_58 202), .ref (ad_58 203), .ref (ad_58 204), .int (iI 0), .ref (ad_58 205), .ref (ad_58 206), .ref (ad_58 207), .null, .null, .int (iI 0), .int (iI 0), .int (iI 0), .null, .int (iI 0), .null, .null])) 202 (eI (cA 0) 6 (fun _ => 0))) 203 (eI (cA 0) 72 (fun _ => 0))) 204 (eI (cA 0) 72 (fun _ => 0))) 205 (eI (cA 1) 400 (fun _ => 0))) 206 (eI (cA 0) 400 (fun _ => 0))) 207 (eI (cA 1) 400 (fun _ => 0)))) hx hb hts hi6 tyX6 tyX6_ok nmX6 hown hK hP hD hS 200 (up_n (by decide) (up_n (by decide) (up_n (by decide) (up_n (by decide) (up_n (by decide) (up_n (by decide) (up_s _ _ _))))))) rfl 9 (by decide) hf29 (fun _ h9 => h9) rfl hin rfl (by decide +kernel) rfl rfl (Nat.le_of_ble_eq_true rfl) ((up_co _ _ _ (by decide)).trans (congrArg (fun u => up u 207 _) ((up_co _ _ _ (by decide)).trans (congrArg (fun u => up u 206 _) ((up_co _ _ _ (by decide)).trans (congrArg (fun u => up u 205 _) ((up_co _ _ _ (by decide)).trans (congrArg (fun u => up u 204 _) ((up_co _ _ _ (by decide)).trans (congrArg (fun u => up u 203 _) ((up_co _ _ _ (by decide)).trans (congrArg (fun u => up u 202 _) (up_up _ _ _ _))))))))))))) dX6_init_60 (fun H locs hP hD hS => ?_)
  refine lv_aload_n (pc := 63) hx hb dX6_init_63 rfl (lv_at hl 0 rfl) ?_
  refine k_sipush (pc := 64) hx hb dX6_init_64 (by decide +kernel) ?_
  refine k_newI (pc := 67) hx hb (hts (.arrayClass .int) (by decide +kernel)) hK hP hD hS hA 208 0 rfl 400 rfl (by decide) (Nat.le_of_ble_eq_true rfl) (Nat.le_of_ble_eq_true rfl) dX6_init_67 (fun q_67 H hP hD hS => ?_)
  obtain ⟨ad_67, hga_67⟩ : ∃ z9 : Nat → Nat, adN ad_58 208 q_67 = z9 := ⟨_, rfl⟩
  rw [hga_67] at hP hD
  have hnn_67 : ∀ j9 : Nat, j9 ≠ 208 → ad_58 j9 = ad_67 j9 := fun j9 h9_ => by rw [← hga_67, adN_n _ _ h9_]
  rw [show q_67 = ad_67 208 by rw [← hga_67, adN_s]]
  rw [hnn_67 201 (by omega)] at hP hD
  rw [hnn_67 202 (by omega)] at hP hD
  rw [hnn_67 203 (by omega)] at hP hD
  rw [hnn_67 204 (by omega)] at hP hD
  rw [hnn_67 205 (by omega)] at hP hD
  rw [hnn_67 206 (by omega)] at hP hD
  rw [hnn_67 207 (by omega)] at hP hD
  rw [hnn_67 200 (by omega)]
  rw [hnn_67 200 (by omega)] at hl
  refine W.eq (g2 := F0 m 69 ls [.ref (ad_67 208), .ref (ad_67 200)]) rfl ?_
  refine W.cs (cells' := 8) (slots' := 1756) rfl rfl ?_
  refine k_putF (pc := 69) (ci := 6) (C := RX6) (T := TX6) (N := 19) (ty := .array .int) (v := .ref (ad_67 208)) (w1 := (up (up (up (up (up (up (up (up (up w 201 (eI (cA 0) 6 (fun _ => 0))) 200 (oB 6 [.int (iI 0), .int (iI 0), .ref (ad_67 201), .ref (ad_67 202), .ref (ad_67 203), .ref (ad_67 204), .int (iI 0), .ref (ad_67 205), .ref (ad_67 206), .ref (ad_67 207), .ref (ad_67 208), .null, .int (iI 0), .int (iI 0), .int (iI 0), .null, .int (iI 0), .null, .null])) 202 (eI (cA 0) 6 (fun _ => 0))) 203 (eI (cA 0) 72 (fun _ => 0))) 204 (eI (cA 0) 72 (fun _ => 0))) 205 (eI (cA 1) 400 (fun _ => 0))) 206 (eI (cA 0) 400 (fun _ => 0))) 207 (eI (cA 1) 400 (fun _ => 0))) 208 (eI (cA 0) 400 (fun _ => 0)))) hx hb hts hi6 tyX6 tyX6_ok nmX6 hown hK hP hD hS 200 (up_n (by decide) (up_n (by decide) (up_n (by decide) (up_n (by decide) (up_n (by decide) (up_n (by decide) (up_n (by decide) (up_s _ _ _)))))))) rfl 10 (by decide) hf32 (fun _ h9 => h9) rfl hin rfl (by decide +kernel) rfl rfl (Nat.le_of_ble_eq_true rfl) ((up_co _ _ _ (by decide)).trans (congrArg (fun u => up u 208 _) ((up_co _ _ _ (by decide)).trans (congrArg (fun u => up u 207 _) ((up_co _ _ _ (by decide)).trans (congrArg (fun u => up u 206 _) ((up_co _ _ _ (by decide)).trans (congrArg (fun u => up u 205 _) ((up_co _ _ _ (by decide)).trans (congrArg (fun u => up u 204 _) ((up_co _ _ _ (by decide)).trans (congrArg (fun u => up u 203 _) ((up_co _ _ _ (by decide)).trans (congrArg (fun u => up u 202 _) (up_up _ _ _ _))))))))))))))) dX6_init_69 (fun H locs hP hD hS => ?_)
  refine lv_aload_n (pc := 72) hx hb dX6_init_72 rfl (lv_at hl 0 rfl) ?_
  refine k_sipush (pc := 73) hx hb dX6_init_73 (by decide +kernel) ?_
  refine k_newZ (pc := 76) hx hb (hts (.arrayClass .boolean) (by decide +kernel)) hK hP hD hS hA 209 1 rfl 400 rfl (by decide) (Nat.le_of_ble_eq_true rfl) (Nat.le_of_ble_eq_true rfl) dX6_init_76 (fun q_76 H hP hD hS => ?_)
  obtain ⟨ad_76, hga_76⟩ : ∃ z9 : Nat → Nat, adN ad_67 209 q_76 = z9 := ⟨_, rfl⟩
  rw [hga_76] at hP hD
  have hnn_76 : ∀ j9 : Nat, j9 ≠ 209 → ad_67 j9 = ad_76 j9 := fun j9 h9_ => by rw [← hga_76, adN_n _ _ h9_]
  rw [show q_76 = ad_76 209 by rw [← hga_76, adN_s]]
  rw [hnn_76 201 (by omega)] at hP hD
  rw [hnn_76 202 (by omega)] at hP hD
  rw [hnn_76 203 (by omega)] at hP hD
  rw [hnn_76 204 (by omega)] at hP hD
  rw [hnn_76 205 (by omega)] at hP hD
  rw [hnn_76 206 (by omega)] at hP hD
  rw [hnn_76 207 (by omega)] at hP hD
  rw [hnn_76 208 (by omega)] at hP hD
  rw [hnn_76 200 (by omega)]
  rw [hnn_76 200 (by omega)] at hl
  refine W.eq (g2 := F0 m 78 ls [.ref (ad_76 209), .ref (ad_76 200)]) rfl ?_
  refine W.cs (cells' := 9) (slots' := 2156) rfl rfl ?_
  refine k_putF (pc := 78) (ci := 6) (C := RX6) (T := TX6) (N := 19) (ty := .array .boolean) (v := .ref (ad_76 209)) (w1 := (up (up (up (up (up (up (up (up (up (up w 201 (eI (cA 0) 6 (fun _ => 0))) 200 (oB 6 [.int (iI 0), .int (iI 0), .ref (ad_76 201), .ref (ad_76 202), .ref (ad_76 203), .ref (ad_76 204), .int (iI 0), .ref (ad_76 205), .ref (ad_76 206), .ref (ad_76 207), .ref (ad_76 208), .ref (ad_76 209), .int (iI 0), .int (iI 0), .int (iI 0), .null, .int (iI 0), .null, .null])) 202 (eI (cA 0) 6 (fun _ => 0))) 203 (eI (cA 0) 72 (fun _ => 0))) 204 (eI (cA 0) 72 (fun _ => 0))) 205 (eI (cA 1) 400 (fun _ => 0))) 206 (eI (cA 0) 400 (fun _ => 0))) 207 (eI (cA 1) 400 (fun _ => 0))) 208 (eI (cA 0) 400 (fun _ => 0))) 209 (eI (cA 1) 400 (fun _ => 0)))) hx hb hts hi6 tyX6 tyX6_ok nmX6 hown hK hP hD hS 200 (up_n (by decide) (up_n (by decide) (up_n (by decide) (up_n (by decide) (up_n (by decide) (up_n (by decide) (up_n (by decide) (up_n (by decide) (up_s _ _ _))))))))) rfl 11 (by decide) hf35 (fun _ h9 => h9) rfl hin rfl (by decide +kernel) rfl rfl (Nat.le_of_ble_eq_true rfl) ((up_co _ _ _ (by decide)).trans (congrArg (fun u => up u 209 _) ((up_co _ _ _ (by decide)).trans (congrArg (fun u => up u 208 _) ((up_co _ _ _ (by decide)).trans (congrArg (fun u => up u 207 _) ((up_co _ _ _ (by decide)).trans (congrArg (fun u => up u 206 _) ((up_co _ _ _ (by decide)).trans (congrArg (fun u => up u 205 _) ((up_co _ _ _ (by decide)).trans (congrArg (fun u => up u 204 _) ((up_co _ _ _ (by decide)).trans (congrArg (fun u => up u 203 _) ((up_co _ _ _ (by decide)).trans (congrArg (fun u => up u 202 _) (up_up _ _ _ _))))))))))))))))) dX6_init_78 (fun H locs hP hD hS => ?_)
  refine lv_aload_n (pc := 81) hx hb dX6_init_81 rfl (lv_at hl 0 rfl) ?_
  refine k_bipush (pc := 82) hx hb dX6_init_82 (by decide +kernel) ?_
  refine k_put (pc := 84) (ci := 6) (C := RX6) (T := TX6) (N := 19) (ty := .int) (v := .int (iI 60)) (w1 := (up (up (up (up (up (up (up (up (up (up w 201 (eI (cA 0) 6 (fun _ => 0))) 200 (oB 6 [.int (iI 0), .int (iI 0), .ref (ad_76 201), .ref (ad_76 202), .ref (ad_76 203), .ref (ad_76 204), .int (iI 0), .ref (ad_76 205), .ref (ad_76 206), .ref (ad_76 207), .ref (ad_76 208), .ref (ad_76 209), .int (iI 60), .int (iI 0), .int (iI 0), .null, .int (iI 0), .null, .null])) 202 (eI (cA 0) 6 (fun _ => 0))) 203 (eI (cA 0) 72 (fun _ => 0))) 204 (eI (cA 0) 72 (fun _ => 0))) 205 (eI (cA 1) 400 (fun _ => 0))) 206 (eI (cA 0) 400 (fun _ => 0))) 207 (eI (cA 1) 400 (fun _ => 0))) 208 (eI (cA 0) 400 (fun _ => 0))) 209 (eI (cA 1) 400 (fun _ => 0)))) hx hb hts hi6 tyX6 tyX6_ok nmX6 hown hK hP hD hS 200 (up_n (by decide) (up_n (by decide) (up_n (by decide) (up_n (by decide) (up_n (by decide) (up_n (by decide) (up_n (by decide) (up_n (by decide) (up_s _ _ _))))))))) rfl 12 (by decide) hf38 (fun _ h9 => h9) rfl (by decide +kernel) rfl rfl (Nat.le_of_ble_eq_true rfl) ((up_co _ _ _ (by decide)).trans (congrArg (fun u => up u 209 _) ((up_co _ _ _ (by decide)).trans (congrArg (fun u => up u 208 _) ((up_co _ _ _ (by decide)).trans (congrArg (fun u => up u 207 _) ((up_co _ _ _ (by decide)).trans (congrArg (fun u => up u 206 _) ((up_co _ _ _ (by decide)).trans (congrArg (fun u => up u 205 _) ((up_co _ _ _ (by decide)).trans (congrArg (fun u => up u 204 _) ((up_co _ _ _ (by decide)).trans (congrArg (fun u => up u 203 _) ((up_co _ _ _ (by decide)).trans (congrArg (fun u => up u 202 _) (up_up _ _ _ _))))))))))))))))) dX6_init_84 (fun H locs hP hD hS => ?_)
  refine lv_aload_n (pc := 87) hx hb dX6_init_87 rfl (lv_at hl 0 rfl) ?_
  refine k_iconst (pc := 88) hx hb dX6_init_88 ?_
  refine k_put (pc := 89) (ci := 6) (C := RX6) (T := TX6) (N := 19) (ty := .int) (v := .int (iI 5)) (w1 := (up (up (up (up (up (up (up (up (up (up w 201 (eI (cA 0) 6 (fun _ => 0))) 200 (oB 6 [.int (iI 0), .int (iI 0), .ref (ad_76 201), .ref (ad_76 202), .ref (ad_76 203), .ref (ad_76 204), .int (iI 0), .ref (ad_76 205), .ref (ad_76 206), .ref (ad_76 207), .ref (ad_76 208), .ref (ad_76 209), .int (iI 60), .int (iI 5), .int (iI 0), .null, .int (iI 0), .null, .null])) 202 (eI (cA 0) 6 (fun _ => 0))) 203 (eI (cA 0) 72 (fun _ => 0))) 204 (eI (cA 0) 72 (fun _ => 0))) 205 (eI (cA 1) 400 (fun _ => 0))) 206 (eI (cA 0) 400 (fun _ => 0))) 207 (eI (cA 1) 400 (fun _ => 0))) 208 (eI (cA 0) 400 (fun _ => 0))) 209 (eI (cA 1) 400 (fun _ => 0)))) hx hb hts hi6 tyX6 tyX6_ok nmX6 hown hK hP hD hS 200 (up_n (by decide) (up_n (by decide) (up_n (by decide) (up_n (by decide) (up_n (by decide) (up_n (by decide) (up_n (by decide) (up_n (by decide) (up_s _ _ _))))))))) rfl 13 (by decide) hf42 (fun _ h9 => h9) rfl (by decide +kernel) rfl rfl (Nat.le_of_ble_eq_true rfl) ((up_co _ _ _ (by decide)).trans (congrArg (fun u => up u 209 _) ((up_co _ _ _ (by decide)).trans (congrArg (fun u => up u 208 _) ((up_co _ _ _ (by decide)).trans (congrArg (fun u => up u 207 _) ((up_co _ _ _ (by decide)).trans (congrArg (fun u => up u 206 _) ((up_co _ _ _ (by decide)).trans (congrArg (fun u => up u 205 _) ((up_co _ _ _ (by decide)).trans (congrArg (fun u => up u 204 _) ((up_co _ _ _ (by decide)).trans (congrArg (fun u => up u 203 _) ((up_co _ _ _ (by decide)).trans (congrArg (fun u => up u 202 _) (up_up _ _ _ _))))))))))))))))) dX6_init_89 (fun H locs hP hD hS => ?_)
  refine lv_aload_n (pc := 92) hx hb dX6_init_92 rfl (lv_at hl 0 rfl) ?_
  refine k_bipush (pc := 93) hx hb dX6_init_93 (by decide +kernel) ?_
  refine k_newI (pc := 95) hx hb (hts (.arrayClass .int) (by decide +kernel)) hK hP hD hS hA 210 0 rfl 120 rfl (by decide) (Nat.le_of_ble_eq_true rfl) (Nat.le_of_ble_eq_true rfl) dX6_init_95 (fun q_95 H hP hD hS => ?_)
  obtain ⟨ad_95, hga_95⟩ : ∃ z9 : Nat → Nat, adN ad_76 210 q_95 = z9 := ⟨_, rfl⟩
  rw [hga_95] at hP hD
  have hnn_95 : ∀ j9 : Nat, j9 ≠ 210 → ad_76 j9 = ad_95 j9 := fun j9 h9_ => by rw [← hga_95, adN_n _ _ h9_]
  rw [show q_95 = ad_95 210 by rw [← hga_95, adN_s]]
  rw [hnn_95 201 (by omega)] at hP hD
  rw [hnn_95 202 (by omega)] at hP hD
  rw [hnn_95 203 (by omega)] at hP hD
  rw [hnn_95 204 (by omega)] at hP hD
  rw [hnn_95 205 (by omega)] at hP hD
  rw [hnn_95 206 (by omega)] at hP hD
  rw [hnn_95 207 (by omega)] at hP hD
  rw [hnn_95 208 (by omega)] at hP hD
  rw [hnn_95 209 (by omega)] at hP hD
  rw [hnn_95 200 (by omega)]
  rw [hnn_95 200 (by omega)] at hl
  refine W.eq (g2 := F0 m 97 ls [.ref (ad_95 210), .ref (ad_95 200)]) rfl ?_
  refine W.cs (cells' := 10) (slots' := 2276) rfl rfl ?_
  refine k_putF (pc := 97) (ci := 6) (C := RX6) (T := TX6) (N := 19) (ty := .array .int) (v := .ref (ad_95 210)) (w1 := (up (up (up (up (up (up (up (up (up (up (up w 201 (eI (cA 0) 6 (fun _ => 0))) 200 (oB 6 [.int (iI 0), .int (iI 0), .ref (ad_95 201), .ref (ad_95 202), .ref (ad_95 203), .ref (ad_95 204), .int (iI 0), .ref (ad_95 205), .ref (ad_95 206), .ref (ad_95 207), .ref (ad_95 208), .ref (ad_95 209), .int (iI 60), .int (iI 5), .int (iI 0), .ref (ad_95 210), .int (iI 0), .null, .null])) 202 (eI (cA 0) 6 (fun _ => 0))) 203 (eI (cA 0) 72 (fun _ => 0))) 204 (eI (cA 0) 72 (fun _ => 0))) 205 (eI (cA 1) 400 (fun _ => 0))) 206 (eI (cA 0) 400 (fun _ => 0))) 207 (eI (cA 1) 400 (fun _ => 0))) 208 (eI (cA 0) 400 (fun _ => 0))) 209 (eI (cA 1) 400 (fun _ => 0))) 210 (eI (cA 0) 120 (fun _ => 0)))) hx hb hts hi6 tyX6 tyX6_ok nmX6 hown hK hP hD hS 200 (up_n (by decide) (up_n (by decide) (up_n (by decide) (up_n (by decide) (up_n (by decide) (up_n (by decide) (up_n (by decide) (up_n (by decide) (up_n (by decide) (up_s _ _ _)))))))))) rfl 15 (by decide) hf45 (fun _ h9 => h9) rfl hin rfl (by decide +kernel) rfl rfl (Nat.le_of_ble_eq_true rfl) ((up_co _ _ _ (by decide)).trans (congrArg (fun u => up u 210 _) ((up_co _ _ _ (by decide)).trans (congrArg (fun u => up u 209 _) ((up_co _ _ _ (by decide)).trans (congrArg (fun u => up u 208 _) ((up_co _ _ _ (by decide)).trans (congrArg (fun u => up u 207 _) ((up_co _ _ _ (by decide)).trans (congrArg (fun u => up u 206 _) ((up_co _ _ _ (by decide)).trans (congrArg (fun u => up u 205 _) ((up_co _ _ _ (by decide)).trans (congrArg (fun u => up u 204 _) ((up_co _ _ _ (by decide)).trans (congrArg (fun u => up u 203 _) ((up_co _ _ _ (by decide)).trans (congrArg (fun u => up u 202 _) (up_up _ _ _ _))))))))))))))))))) dX6_init_97 (fun H locs hP hD hS => ?_)
  refine lv_aload_n (pc := 100) hx hb dX6_init_100 rfl (lv_at hl 0 rfl) ?_
  refine k_sipush (pc := 101) hx hb dX6_init_101 (by decide +kernel) ?_
  refine k_newI (pc := 104) hx hb (hts (.arrayClass .int) (by decide +kernel)) hK hP hD hS hA 211 0 rfl 400 rfl (by decide) (Nat.le_of_ble_eq_true rfl) (Nat.le_of_ble_eq_true rfl) dX6_init_104 (fun q_104 H hP hD hS => ?_)
  obtain ⟨ad_104, hga_104⟩ : ∃ z9 : Nat → Nat, adN ad_95 211 q_104 = z9 := ⟨_, rfl⟩
  rw [hga_104] at hP hD
  have hnn_104 : ∀ j9 : Nat, j9 ≠ 211 → ad_95 j9 = ad_104 j9 := fun j9 h9_ => by rw [← hga_104, adN_n _ _ h9_]
  rw [show q_104 = ad_104 211 by rw [← hga_104, adN_s]]
  rw [hnn_104 201 (by omega)] at hP hD
  rw [hnn_104 202 (by omega)] at hP hD
  rw [hnn_104 203 (by omega)] at hP hD
  rw [hnn_104 204 (by omega)] at hP hD
  rw [hnn_104 205 (by omega)] at hP hD
  rw [hnn_104 206 (by omega)] at hP hD
  rw [hnn_104 207 (by omega)] at hP hD
  rw [hnn_104 208 (by omega)] at hP hD
  rw [hnn_104 209 (by omega)] at hP hD
  rw [hnn_104 210 (by omega)] at hP hD
  rw [hnn_104 200 (by omega)]
  rw [hnn_104 200 (by omega)] at hl
  refine W.eq (g2 := F0 m 106 ls [.ref (ad_104 211), .ref (ad_104 200)]) rfl ?_
  refine W.cs (cells' := 11) (slots' := 2676) rfl rfl ?_
  refine k_putF (pc := 106) (ci := 6) (C := RX6) (T := TX6) (N := 19) (ty := .array .int) (v := .ref (ad_104 211)) (w1 := (up (up (up (up (up (up (up (up (up (up (up (up w 201 (eI (cA 0) 6 (fun _ => 0))) 200 (oB 6 [.int (iI 0), .int (iI 0), .ref (ad_104 201), .ref (ad_104 202), .ref (ad_104 203), .ref (ad_104 204), .int (iI 0), .ref (ad_104 205), .ref (ad_104 206), .ref (ad_104 207), .ref (ad_104 208), .ref (ad_104 209), .int (iI 60), .int (iI 5), .int (iI 0), .ref (ad_104 210), .int (iI 0), .ref (ad_104 211), .null])) 202 (eI (cA 0) 6 (fun _ => 0))) 203 (eI (cA 0) 72 (fun _ => 0))) 204 (eI (cA 0) 72 (fun _ => 0))) 205 (eI (cA 1) 400 (fun _ => 0))) 206 (eI (cA 0) 400 (fun _ => 0))) 207 (eI (cA 1) 400 (fun _ => 0))) 208 (eI (cA 0) 400 (fun _ => 0))) 209 (eI (cA 1) 400 (fun _ => 0))) 210 (eI (cA 0) 120 (fun _ => 0))) 211 (eI (cA 0) 400 (fun _ => 0)))) hx hb hts hi6 tyX6 tyX6_ok nmX6 hown hK hP hD hS 200 (up_n (by decide) (up_n (by decide) (up_n (by decide) (up_n (by decide) (up_n (by decide) (up_n (by decide) (up_n (by decide) (up_n (by decide) (up_n (by decide) (up_n (by decide) (up_s _ _ _))))))))))) rfl 17 (by decide) hf48 (fun _ h9 => h9) rfl hin rfl (by decide +kernel) rfl rfl (Nat.le_of_ble_eq_true rfl) ((up_co _ _ _ (by decide)).trans (congrArg (fun u => up u 211 _) ((up_co _ _ _ (by decide)).trans (congrArg (fun u => up u 210 _) ((up_co _ _ _ (by decide)).trans (congrArg (fun u => up u 209 _) ((up_co _ _ _ (by decide)).trans (congrArg (fun u => up u 208 _) ((up_co _ _ _ (by decide)).trans (congrArg (fun u => up u 207 _) ((up_co _ _ _ (by decide)).trans (congrArg (fun u => up u 206 _) ((up_co _ _ _ (by decide)).trans (congrArg (fun u => up u 205 _) ((up_co _ _ _ (by decide)).trans (congrArg (fun u => up u 204 _) ((up_co _ _ _ (by decide)).trans (congrArg (fun u => up u 203 _) ((up_co _ _ _ (by decide)).trans (congrArg (fun u => up u 202 _) (up_up _ _ _ _))))))))))))))))))))) dX6_init_106 (fun H locs hP hD hS => ?_)
  refine lv_aload_n (pc := 109) hx hb dX6_init_109 rfl (lv_at hl 0 rfl) ?_
  refine k_sipush (pc := 110) hx hb dX6_init_110 (by decide +kernel) ?_
  refine k_newJ (pc := 113) hx hb (hts (.arrayClass .long) (by decide +kernel)) hK hP hD hS hA 212 2 rfl 400 rfl (by decide) (Nat.le_of_ble_eq_true rfl) (Nat.le_of_ble_eq_true rfl) dX6_init_113 (fun q_113 H hP hD hS => ?_)
  obtain ⟨ad_113, hga_113⟩ : ∃ z9 : Nat → Nat, adN ad_104 212 q_113 = z9 := ⟨_, rfl⟩
  rw [hga_113] at hP hD
  have hnn_113 : ∀ j9 : Nat, j9 ≠ 212 → ad_104 j9 = ad_113 j9 := fun j9 h9_ => by rw [← hga_113, adN_n _ _ h9_]
  rw [show q_113 = ad_113 212 by rw [← hga_113, adN_s]]
  rw [hnn_113 201 (by omega)] at hP hD
  rw [hnn_113 202 (by omega)] at hP hD
  rw [hnn_113 203 (by omega)] at hP hD
  rw [hnn_113 204 (by omega)] at hP hD
  rw [hnn_113 205 (by omega)] at hP hD
  rw [hnn_113 206 (by omega)] at hP hD
  rw [hnn_113 207 (by omega)] at hP hD
  rw [hnn_113 208 (by omega)] at hP hD
  rw [hnn_113 209 (by omega)] at hP hD
  rw [hnn_113 210 (by omega)] at hP hD
  rw [hnn_113 211 (by omega)] at hP hD
  rw [hnn_113 200 (by omega)]
  rw [hnn_113 200 (by omega)] at hl
  refine W.eq (g2 := F0 m 115 ls [.ref (ad_113 212), .ref (ad_113 200)]) rfl ?_
  refine W.cs (cells' := 12) (slots' := 3076) rfl rfl ?_
  refine k_putF (pc := 115) (ci := 6) (C := RX6) (T := TX6) (N := 19) (ty := .array .long) (v := .ref (ad_113 212)) (w1 := (up (up (up (up (up (up (up (up (up (up (up (up (up w 201 (eI (cA 0) 6 (fun _ => 0))) 200 (oB 6 [.int (iI 0), .int (iI 0), .ref (ad_113 201), .ref (ad_113 202), .ref (ad_113 203), .ref (ad_113 204), .int (iI 0), .ref (ad_113 205), .ref (ad_113 206), .ref (ad_113 207), .ref (ad_113 208), .ref (ad_113 209), .int (iI 60), .int (iI 5), .int (iI 0), .ref (ad_113 210), .int (iI 0), .ref (ad_113 211), .ref (ad_113 212)])) 202 (eI (cA 0) 6 (fun _ => 0))) 203 (eI (cA 0) 72 (fun _ => 0))) 204 (eI (cA 0) 72 (fun _ => 0))) 205 (eI (cA 1) 400 (fun _ => 0))) 206 (eI (cA 0) 400 (fun _ => 0))) 207 (eI (cA 1) 400 (fun _ => 0))) 208 (eI (cA 0) 400 (fun _ => 0))) 209 (eI (cA 1) 400 (fun _ => 0))) 210 (eI (cA 0) 120 (fun _ => 0))) 211 (eI (cA 0) 400 (fun _ => 0))) 212 (eJ (cA 2) 400 (fun _ => 0)))) hx hb hts hi6 tyX6 tyX6_ok nmX6 hown hK hP hD hS 200 (up_n (by decide) (up_n (by decide) (up_n (by decide) (up_n (by decide) (up_n (by decide) (up_n (by decide) (up_n (by decide) (up_n (by decide) (up_n (by decide) (up_n (by decide) (up_n (by decide) (up_s _ _ _)))))))))))) rfl 18 (by decide) hf51 (fun _ h9 => h9) rfl hin rfl (by decide +kernel) rfl rfl (Nat.le_of_ble_eq_true rfl) ((up_co _ _ _ (by decide)).trans (congrArg (fun u => up u 212 _) ((up_co _ _ _ (by decide)).trans (congrArg (fun u => up u 211 _) ((up_co _ _ _ (by decide)).trans (congrArg (fun u => up u 210 _) ((up_co _ _ _ (by decide)).trans (congrArg (fun u => up u 209 _) ((up_co _ _ _ (by decide)).trans (congrArg (fun u => up u 208 _) ((up_co _ _ _ (by decide)).trans (congrArg (fun u => up u 207 _) ((up_co _ _ _ (by decide)).trans (congrArg (fun u => up u 206 _) ((up_co _ _ _ (by decide)).trans (congrArg (fun u => up u 205 _) ((up_co _ _ _ (by decide)).trans (congrArg (fun u => up u 204 _) ((up_co _ _ _ (by decide)).trans (congrArg (fun u => up u 203 _) ((up_co _ _ _ (by decide)).trans (congrArg (fun u => up u 202 _) (up_up _ _ _ _))))))))))))))))))))))) dX6_init_115 (fun H locs hP hD hS => ?_)
  have hmd2 : mdS cA ad_113 (up (up (up (up (up (up (up (up (up (up (up (up (up w 201 (eI (cA 0) 6 (fun _ => 0))) 200 (oB 6 [.int (iI 0), .int (iI 0), .ref (ad_113 201), .ref (ad_113 202), .ref (ad_113 203), .ref (ad_113 204), .int (iI 0), .ref (ad_113 205), .ref (ad_113 206), .ref (ad_113 207), .ref (ad_113 208), .ref (ad_113 209), .int (iI 60), .int (iI 5), .int (iI 0), .ref (ad_113 210), .int (iI 0), .ref (ad_113 211), .ref (ad_113 212)])) 202 (eI (cA 0) 6 (fun _ => 0))) 203 (eI (cA 0) 72 (fun _ => 0))) 204 (eI (cA 0) 72 (fun _ => 0))) 205 (eI (cA 1) 400 (fun _ => 0))) 206 (eI (cA 0) 400 (fun _ => 0))) 207 (eI (cA 1) 400 (fun _ => 0))) 208 (eI (cA 0) 400 (fun _ => 0))) 209 (eI (cA 1) 400 (fun _ => 0))) 210 (eI (cA 0) 120 (fun _ => 0))) 211 (eI (cA 0) 400 (fun _ => 0))) 212 (eJ (cA 2) 400 (fun _ => 0))) 0 sc00 fn00 := ⟨0, (fun _ => 0), (fun _ => 0), (fun _ => 0), (fun _ => 0), (fun _ => 0), (fun _ => 0), (fun _ => 0), ⟨(up_n (by decide) (up_n (by decide) (up_n (by decide) (up_n (by decide) (up_n (by decide) (up_n (by decide) (up_n (by decide) (up_n (by decide) (up_n (by decide) (up_n (by decide) (up_n (by decide) (up_s _ _ _)))))))))))), (up_n (by decide) (up_n (by decide) (up_n (by decide) (up_n (by decide) (up_n (by decide) (up_n (by decide) (up_n (by decide) (up_n (by decide) (up_n (by decide) (up_n (by decide) (up_n (by decide) (up_n (by decide) (up_s _ _ _))))))))))))), (up_n (by decide) (up_n (by decide) (up_n (by decide) (up_n (by decide) (up_n (by decide) (up_n (by decide) (up_n (by decide) (up_n (by decide) (up_n (by decide) (up_n (by decide) (up_s _ _ _))))))))))), (up_n (by decide) (up_n (by decide) (up_n (by decide) (up_n (by decide) (up_n (by decide) (up_n (by decide) (up_n (by decide) (up_n (by decide) (up_n (by decide) (up_s _ _ _)))))))))), (up_n (by decide) (up_n (by decide) (up_n (by decide) (up_n (by decide) (up_n (by decide) (up_n (by decide) (up_n (by decide) (up_n (by decide) (up_s _ _ _))))))))), (up_n (by decide) (up_n (by decide) (up_n (by decide) (up_n (by decide) (up_n (by decide) (up_n (by decide) (up_n (by decide) (up_s _ _ _)))))))), (up_n (by decide) (up_n (by decide) (up_n (by decide) (up_n (by decide) (up_n (by decide) (up_n (by decide) (up_s _ _ _))))))), (up_n (by decide) (up_n (by decide) (up_n (by decide) (up_n (by decide) (up_n (by decide) (up_s _ _ _)))))), (up_n (by decide) (up_n (by decide) (up_n (by decide) (up_n (by decide) (up_s _ _ _))))), (up_n (by decide) (up_n (by decide) (up_n (by decide) (up_s _ _ _)))), (up_n (by decide) (up_n (by decide) (up_s _ _ _))), (up_n (by decide) (up_s _ _ _)), (up_s _ _ _)⟩, (fun _ => (show (-500 : Int) ≤ 0 ∧ (0 : Int) ≤ 2000 by omega)), (fun _ => (show (0 : Int) ≤ 0 ∧ (0 : Int) ≤ 1000000 by omega)), (fun _ => (show (0 : Int) ≤ 0 ∧ (0 : Int) ≤ 1 by omega)), (fun _ => (show (-200 : Int) ≤ 0 ∧ (0 : Int) ≤ 200 by omega)), (fun _ => (show (-500 : Int) ≤ 0 ∧ (0 : Int) ≤ 1000000 by omega)), (fun _ => (show (0 : Int) ≤ 0 ∧ (0 : Int) ≤ 3 by omega)), (fun _ => (show (-1 : Int) ≤ 0 ∧ (0 : Int) ≤ 1000000000000 by omega)), (fun k j a1 a2 a3 a4 => ⟨fun _ => ⟨rfl, rfl⟩, fun _ => ⟨rfl, rfl⟩⟩), ⟨fun e a1 a2 a3 => absurd rfl a3, fun i a1 a2 => by have a2 : i < 0 := a2; omega⟩, (fun j a1 a2 => by have a2 : j < 0 := a2; omega), Or.inl rfl⟩
  have hn_all : ∀ j : Nat, (j ≤ 200 ∨ 230 ≤ j) → ad j = ad_113 j := fun j h => by rw [hnn_7 j (by omega), hnn_15 j (by omega), hnn_23 j (by omega), hnn_31 j (by omega), hnn_40 j (by omega), hnn_49 j (by omega), hnn_58 j (by omega), hnn_67 j (by omega), hnn_76 j (by omega), hnn_95 j (by omega), hnn_104 j (by omega), hnn_113 j (by omega)]
  rw [hQ9]
  refine W.widen (k := 12) (n := 3476) (by decide) (by decide) ?_
  exact W.vret hx hb hret (fun t ht hW => ⟨⟨none, ad_113, (up (up (up (up (up (up (up (up (up (up (up (up (up w 201 (eI (cA 0) 6 (fun _ => 0))) 200 (oB 6 [.int (iI 0), .int (iI 0), .ref (ad_113 201), .ref (ad_113 202), .ref (ad_113 203), .ref (ad_113 204), .int (iI 0), .ref (ad_113 205), .ref (ad_113 206), .ref (ad_113 207), .ref (ad_113 208), .ref (ad_113 209), .int (iI 60), .int (iI 5), .int (iI 0), .ref (ad_113 210), .int (iI 0), .ref (ad_113 211), .ref (ad_113 212)])) 202 (eI (cA 0) 6 (fun _ => 0))) 203 (eI (cA 0) 72 (fun _ => 0))) 204 (eI (cA 0) 72 (fun _ => 0))) 205 (eI (cA 1) 400 (fun _ => 0))) 206 (eI (cA 0) 400 (fun _ => 0))) 207 (eI (cA 1) 400 (fun _ => 0))) 208 (eI (cA 0) 400 (fun _ => 0))) 209 (eI (cA 1) 400 (fun _ => 0))) 210 (eI (cA 0) 120 (fun _ => 0))) 211 (eI (cA 0) 400 (fun _ => 0))) 212 (eJ (cA 2) 400 (fun _ => 0))), rfl, ⟨hmd2, ⟨(hn_all 200 (by omega)).symm, fun r hr => ⟨(up_n (by omega) (up_n (by omega) (up_n (by omega) (up_n (by omega) (up_n (by omega) (up_n (by omega) (up_n (by omega) (up_n (by omega) (up_n (by omega) (up_n (by omega) (up_n (by omega) (up_n (by omega) (up_n (by omega) rfl))))))))))))), (hn_all r (by omega)).symm⟩⟩, rfl⟩, by rw [ht]; exact hP, hD⟩, hS.F ht⟩) hS.2.2 dX6_init_118
