theorem zbI : ∀ j : Int, 0 ≤ (fun _ : Int => (0 : Int)) j ∧ (fun _ : Int => (0 : Int)) j ≤ 0 := fun _ => ⟨Int.le_refl _, Int.le_refl _⟩
def sc00 : Nat → Int := fun i => if i = 2 then 60 else if i = 3 then 5 else 0
def fn00 : Nat → Int → Int := fun _ _ => 0
theorem inv_00 : bkInv sc00 fn00 :=
  ⟨⟨by decide, by decide, by decide, by decide, by decide⟩, ⟨fun i j h1 h2 h3 => by have : j < 0 := h3; omega, fun j => by show (0 : Int) ≤ 0 ∧ (0 : Int) ≤ 399; omega, fun j => by show (-200 : Int) ≤ 0 ∧ (0 : Int) ≤ 200; omega⟩, fun j => by show (-500 : Int) ≤ 0 ∧ (0 : Int) ≤ 2000; omega, fun j => by show (0 : Int) ≤ 0 ∧ (0 : Int) ≤ 1; omega, fun j => by show (0 : Int) ≤ 0 ∧ (0 : Int) ≤ 1; omega, fun j => by show (0 : Int) ≤ 0 ∧ (0 : Int) ≤ 399; omega, fun j => by show (-500 : Int) ≤ 0 ∧ (0 : Int) ≤ 2000; omega, fun j => by show (0 : Int) ≤ 0 ∧ (0 : Int) ≤ 1000000; omega, fun j => by show (0 : Int) ≤ 0 ∧ (0 : Int) ≤ 399; omega, fun j => by show (0 : Int) ≤ 0 ∧ (0 : Int) ≤ 12; omega, fun k hk => by have : (k : Int) < 0 := hk; omega⟩
theorem none6 (ad : Nat → Nat) : (fun _ : Nat => (none : Option Nat)) = fun j : Nat => if (j : Int) < sc00 0 then some (ad (30 + 3 * j)) else none := by
  funext j
  rw [if_neg (by show ¬ (j : Int) < 0; omega)]
theorem none40 (ad : Nat → Nat) : (fun _ : Nat => (none : Option Nat)) = fun j : Nat => if (j : Int) < sc00 4 then some (ad (60 + j)) else none := by
  funext j
  rw [if_neg (by show ¬ (j : Int) < 0; omega)]
theorem ad_t {a b c : Nat → Nat} {P Q : Nat → Prop} (h : ∀ j : Nat, P j → a j = b j) (k : ∀ j : Nat, Q j → b j = c j) : ∀ j : Nat, P j ∧ Q j → a j = c j := fun j g => (h j g.1).trans (k j g.2)

abbrev rmX0_init : Room := { frames := 1, cells := 2, slots := 24, locals := 12 }
theorem hiX0_init_0 : ∀ w ∈ wsX00, w ∈ wsX0_init := by decide +kernel
set_option maxHeartbeats 4000000 in
set_option maxRecDepth 100000 in
theorem c_X0_init (l : Launch) (D : va_G) (cA : Nat → ClassId) (ad : Nat → Nat) (w : Nat → Option va_E) (sz : Nat) (r0 r1 r2 : Nat) (h0 : w r0 = some (oB 0 [.int (iI 0), .null, .null, .int (iI 0)])) (h01 : r0 ≠ r1) (h02 : r0 ≠ r2) (h12 : r1 ≠ r2) (fd : Int) : Met l yX0_init wsX0_init rmX0_init (gV D cA ad w sz [.ref (ad r0), .int (iI fd)]) (gW D (fun v9 ad1 w1 => v9 = none ∧ (∀ j : Nat, j ≠ r1 ∧ j ≠ r2 → ad j = ad1 j) ∧ w1 = up (up (up w r0 (oB 0 [.int (iI fd), .ref (ad1 r1), .ref (ad1 r2), .int (iI 0)])) r1 (eI (cA 0) 12 (fun _ => 0))) r2 (eI (cA 0) 12 (fun _ => 0))) (gA ad w sz)) 2 24 (gA ad w sz) := by
  refine Met.ofW (cc := cX0_init) (maxL := 2) (ret := none) (by decide) rfl ?_
  intro p e s m args below meth c s₁ B hml hv
  obtain ⟨hav, hsz, hP, hD0, hK, hB, hZ⟩ := hv
  have hx := B.exec
  have hb := B.bytes
  have hret := B.returns
  have hts := atoms_spec (ws := wsX0_init) B.pre
  have hown : s.vm.findClass RX0 = some m.cls := findClass_of_methodNamed B.named
  have hlocks := B.notSynchronized
  have hin : meth.name = "<init>" := (name_of_methodNamed B.named B.method).1
  subst hsz
  have hD := hD0.self (sz := s.heap.size)
  generalize hAe : gA ad w s.heap.size = A at hD hZ ⊢
  have hA : ∀ q : Nat, s.heap.size ≤ q → A q := fun q h => by rw [← hAe]; exact Or.inr h
  have hS : va_S A s.heap s.heap [] := va_S.rf
  have hi0 := hiX0_init_0
  have hf9 := hts (.fieldLink RX0 9 "GaugeBook$Curve" "firstDay" "I") (by decide +kernel)
  have hf15 := hts (.fieldLink RX0 15 "GaugeBook$Curve" "pointStages" "[I") (by decide +kernel)
  have hf19 := hts (.fieldLink RX0 19 "GaugeBook$Curve" "pointFlows" "[I") (by decide +kernel)
  have he9 : entryFrame m args 2 = F0 m 0 ((lg_sl ([.ref (ad r0), .int (iI fd)] : List Value) ++ List.replicate (2 - (lg_sl ([.ref (ad r0), .int (iI fd)] : List Value)).length) Slot.unset).toArray) [] := by rw [hav, lg_entry_eq]
  rw [he9]
  have hl := lv_entry ([.ref (ad r0), .int (iI fd)] : List Value) (n := 2) (Nat.le_of_ble_eq_true rfl)
  generalize (lg_sl ([.ref (ad r0), .int (iI fd)] : List Value) ++ List.replicate (2 - (lg_sl ([.ref (ad r0), .int (iI fd)] : List Value)).length) Slot.unset).toArray = ls at hl ⊢
  have hl : lv_has ls 2 [(0, .ref (ad r0)), (1, .int (iI fd))] := hl
  obtain ⟨Q9, hQ9⟩ : ∃ z, z = MQ below (gW D (fun v9 ad1 w1 => v9 = none ∧ (∀ j : Nat, j ≠ r1 ∧ j ≠ r2 → ad j = ad1 j) ∧ w1 = up (up (up w r0 (oB 0 [.int (iI fd), .ref (ad1 r1), .ref (ad1 r2), .int (iI 0)])) r1 (eI (cA 0) 12 (fun _ => 0))) r2 (eI (cA 0) 12 (fun _ => 0))) A) args s 2 24 A := ⟨_, rfl⟩
  rw [← hQ9]
  show W p l e rmX0_init s m args below meth c s.heap [] 0 0 Q9 (F0 m 0 ls [])
  obtain ⟨H, hHe⟩ : ∃ z, z = s.heap := ⟨_, rfl⟩
  obtain ⟨locs, hLe⟩ : ∃ z, z = ([] : List Loc) := ⟨_, rfl⟩
  have hP : gP D vwCl ad w H := by rw [hHe]; exact hP
  have hS : va_S A s.heap H locs := by rw [hHe, hLe]; exact va_S.rf
  rw [show W p l e rmX0_init s m args below meth c s.heap [] 0 0 Q9 (F0 m 0 ls []) = W p l e rmX0_init s m args below meth c H locs 0 0 Q9 (F0 m 0 ls []) by rw [hHe, hLe]]
  clear hHe hLe
  refine lv_aload_n (pc := 0) hx hb dX0_init_0 rfl (lv_at hl 0 rfl) ?_
  refine W.eq (g2 := F0 m 1 ls [.ref (ad r0)]) rfl ?_
  refine W.objInit hx hb hown (hts (.methodLink RX0 3 objectInit) (by decide +kernel)) (hts (.instanceMethod objectInit) (by decide +kernel)) (hts (.code objectInit ⟨#[0xb1]⟩ 1 none) (by decide +kernel)) rfl (by rw [hml]; exact hl.1) rfl dX0_init_1 (Nat.le_of_ble_eq_true rfl) (Nat.le_of_ble_eq_true rfl) ?_
  refine W.eq (g2 := F0 m 4 ls []) rfl ?_
  refine lv_aload_n (pc := 4) hx hb dX0_init_4 rfl (lv_at hl 0 rfl) ?_
  refine lv_iload_n (pc := 5) hx hb dX0_init_5 rfl (lv_at hl 1 rfl) ?_
  refine k_putF (pc := 6) (ci := 0) (C := RX0) (T := TX0) (N := 4) (ty := .int) (v := .int (iI fd)) (w1 := (up w r0 (oB 0 [.int (iI fd), .null, .null, .int (iI 0)]))) hx hb hts hi0 tyX0 tyX0_ok nmX0 hown hK hP hD hS r0 h0 rfl 0 (by decide) hf9 (fun _ h9 => h9) rfl hin rfl (by decide +kernel) rfl rfl (Nat.le_of_ble_eq_true rfl) rfl dX0_init_6 (fun H locs hP hD hS => ?_)
  refine lv_aload_n (pc := 9) hx hb dX0_init_9 rfl (lv_at hl 0 rfl) ?_
  refine k_bipush (pc := 10) hx hb dX0_init_10 (by decide +kernel) ?_
  refine k_newI (pc := 12) hx hb (hts (.arrayClass .int) (by decide +kernel)) hK hP hD hS hA r1 0 rfl 12 rfl (by decide) (Nat.le_of_ble_eq_true rfl) (Nat.le_of_ble_eq_true rfl) dX0_init_12 (fun q_12 H hP hD hS => ?_)
  obtain ⟨ad_12, hga_12⟩ : ∃ z9 : Nat → Nat, adN ad r1 q_12 = z9 := ⟨_, rfl⟩
  rw [hga_12] at hP hD
  have hnn_12 : ∀ j9 : Nat, j9 ≠ r1 → ad j9 = ad_12 j9 := fun j9 h9_ => by rw [← hga_12, adN_n _ _ h9_]
  rw [show q_12 = ad_12 r1 by rw [← hga_12, adN_s]]
  rw [hnn_12 r0 (by omega)]
  rw [hnn_12 r0 (by omega)] at hl
  refine W.eq (g2 := F0 m 14 ls [.ref (ad_12 r1), .ref (ad_12 r0)]) rfl ?_
  refine W.cs (cells' := 1) (slots' := 12) rfl rfl ?_
  refine k_putF (pc := 14) (ci := 0) (C := RX0) (T := TX0) (N := 4) (ty := .array .int) (v := .ref (ad_12 r1)) (w1 := (up (up w r0 (oB 0 [.int (iI fd), .ref (ad_12 r1), .null, .int (iI 0)])) r1 (eI (cA 0) 12 (fun _ => 0)))) hx hb hts hi0 tyX0 tyX0_ok nmX0 hown hK hP hD hS r0 (up_n (by omega) (up_s _ _ _)) rfl 1 (by decide) hf15 (fun _ h9 => h9) rfl hin rfl (by decide +kernel) rfl rfl (Nat.le_of_ble_eq_true rfl) ((up_co _ _ _ (by omega)).trans (congrArg (fun u => up u r1 _) (up_up _ _ _ _))) dX0_init_14 (fun H locs hP hD hS => ?_)
  refine lv_aload_n (pc := 17) hx hb dX0_init_17 rfl (lv_at hl 0 rfl) ?_
  refine k_bipush (pc := 18) hx hb dX0_init_18 (by decide +kernel) ?_
  refine k_newI (pc := 20) hx hb (hts (.arrayClass .int) (by decide +kernel)) hK hP hD hS hA r2 0 rfl 12 rfl (by decide) (Nat.le_of_ble_eq_true rfl) (Nat.le_of_ble_eq_true rfl) dX0_init_20 (fun q_20 H hP hD hS => ?_)
  obtain ⟨ad_20, hga_20⟩ : ∃ z9 : Nat → Nat, adN ad_12 r2 q_20 = z9 := ⟨_, rfl⟩
  rw [hga_20] at hP hD
  have hnn_20 : ∀ j9 : Nat, j9 ≠ r2 → ad_12 j9 = ad_20 j9 := fun j9 h9_ => by rw [← hga_20, adN_n _ _ h9_]
  rw [show q_20 = ad_20 r2 by rw [← hga_20, adN_s]]
  rw [hnn_20 r1 (by omega)] at hP hD
  rw [hnn_20 r0 (by omega)]
  rw [hnn_20 r0 (by omega)] at hl
  refine W.eq (g2 := F0 m 22 ls [.ref (ad_20 r2), .ref (ad_20 r0)]) rfl ?_
  refine W.cs (cells' := 2) (slots' := 24) rfl rfl ?_
  refine k_putF (pc := 22) (ci := 0) (C := RX0) (T := TX0) (N := 4) (ty := .array .int) (v := .ref (ad_20 r2)) (w1 := (up (up (up w r0 (oB 0 [.int (iI fd), .ref (ad_20 r1), .ref (ad_20 r2), .int (iI 0)])) r1 (eI (cA 0) 12 (fun _ => 0))) r2 (eI (cA 0) 12 (fun _ => 0)))) hx hb hts hi0 tyX0 tyX0_ok nmX0 hown hK hP hD hS r0 (up_n (by omega) (up_n (by omega) (up_s _ _ _))) rfl 2 (by decide) hf19 (fun _ h9 => h9) rfl hin rfl (by decide +kernel) rfl rfl (Nat.le_of_ble_eq_true rfl) ((up_co _ _ _ (by omega)).trans (congrArg (fun u => up u r2 _) ((up_co _ _ _ (by omega)).trans (congrArg (fun u => up u r1 _) (up_up _ _ _ _))))) dX0_init_22 (fun H locs hP hD hS => ?_)
  rw [hQ9]
  exact W.vret hx hb hret (fun t ht hW => ⟨⟨none, ad_20, (up (up (up w r0 (oB 0 [.int (iI fd), .ref (ad_20 r1), .ref (ad_20 r2), .int (iI 0)])) r1 (eI (cA 0) 12 (fun _ => 0))) r2 (eI (cA 0) 12 (fun _ => 0))), rfl, ⟨rfl, (ad_t hnn_12 hnn_20), rfl⟩, by rw [ht]; exact hP, hD⟩, hS.F ht⟩) hS.2.2 dX0_init_25

abbrev rmX1_init : Room := { frames := 1, cells := 2, slots := 800, locals := 12 }
theorem hiX1_init_1 : ∀ w ∈ wsX10, w ∈ wsX1_init := by decide +kernel
set_option maxHeartbeats 4000000 in
set_option maxRecDepth 100000 in
theorem c_X1_init (l : Launch) (D : va_G) (cA : Nat → ClassId) (ad : Nat → Nat) (w : Nat → Option va_E) (sz : Nat) (r0 r1 r2 : Nat) (h0 : w r0 = some (oB 1 [.null, .null])) (h01 : r0 ≠ r1) (h02 : r0 ≠ r2) (h12 : r1 ≠ r2) : Met l yX1_init wsX1_init rmX1_init (gV D cA ad w sz [.ref (ad r0)]) (gW D (fun v9 ad1 w1 => v9 = none ∧ (∀ j : Nat, j ≠ r1 ∧ j ≠ r2 → ad j = ad1 j) ∧ w1 = up (up (up w r1 (eJ (cA 2) 400 (fun _ => 0))) r0 (oB 1 [.ref (ad1 r1), .ref (ad1 r2)])) r2 (eI (cA 0) 400 (fun _ => 0))) (gA ad w sz)) 2 800 (gA ad w sz) := by
  refine Met.ofW (cc := cX1_init) (maxL := 1) (ret := none) (by decide) rfl ?_
  intro p e s m args below meth c s₁ B hml hv
  obtain ⟨hav, hsz, hP, hD0, hK, hB, hZ⟩ := hv
  have hx := B.exec
  have hb := B.bytes
  have hret := B.returns
  have hts := atoms_spec (ws := wsX1_init) B.pre
  have hown : s.vm.findClass RX1 = some m.cls := findClass_of_methodNamed B.named
  have hlocks := B.notSynchronized
  have hin : meth.name = "<init>" := (name_of_methodNamed B.named B.method).1
  subst hsz
  have hD := hD0.self (sz := s.heap.size)
  generalize hAe : gA ad w s.heap.size = A at hD hZ ⊢
  have hA : ∀ q : Nat, s.heap.size ≤ q → A q := fun q h => by rw [← hAe]; exact Or.inr h
  have hS : va_S A s.heap s.heap [] := va_S.rf
  have hi1 := hiX1_init_1
  have hf9 := hts (.fieldLink RX1 9 "GaugeBook$FlowTable" "flows" "[J") (by decide +kernel)
  have hf15 := hts (.fieldLink RX1 15 "GaugeBook$FlowTable" "states" "[I") (by decide +kernel)
  have he9 : entryFrame m args 1 = F0 m 0 ((lg_sl ([.ref (ad r0)] : List Value) ++ List.replicate (1 - (lg_sl ([.ref (ad r0)] : List Value)).length) Slot.unset).toArray) [] := by rw [hav, lg_entry_eq]
  rw [he9]
  have hl := lv_entry ([.ref (ad r0)] : List Value) (n := 1) (Nat.le_of_ble_eq_true rfl)
  generalize (lg_sl ([.ref (ad r0)] : List Value) ++ List.replicate (1 - (lg_sl ([.ref (ad r0)] : List Value)).length) Slot.unset).toArray = ls at hl ⊢
  have hl : lv_has ls 1 [(0, .ref (ad r0))] := hl
  obtain ⟨Q9, hQ9⟩ : ∃ z, z = MQ below (gW D (fun v9 ad1 w1 => v9 = none ∧ (∀ j : Nat, j ≠ r1 ∧ j ≠ r2 → ad j = ad1 j) ∧ w1 = up (up (up w r1 (eJ (cA 2) 400 (fun _ => 0))) r0 (oB 1 [.ref (ad1 r1), .ref (ad1 r2)])) r2 (eI (cA 0) 400 (fun _ => 0))) A) args s 2 800 A := ⟨_, rfl⟩
  rw [← hQ9]
  show W p l e rmX1_init s m args below meth c s.heap [] 0 0 Q9 (F0 m 0 ls [])
  obtain ⟨H, hHe⟩ : ∃ z, z = s.heap := ⟨_, rfl⟩
  obtain ⟨locs, hLe⟩ : ∃ z, z = ([] : List Loc) := ⟨_, rfl⟩
  have hP : gP D vwCl ad w H := by rw [hHe]; exact hP
  have hS : va_S A s.heap H locs := by rw [hHe, hLe]; exact va_S.rf
  rw [show W p l e rmX1_init s m args below meth c s.heap [] 0 0 Q9 (F0 m 0 ls []) = W p l e rmX1_init s m args below meth c H locs 0 0 Q9 (F0 m 0 ls []) by rw [hHe, hLe]]
  clear hHe hLe
  refine lv_aload_n (pc := 0) hx hb dX1_init_0 rfl (lv_at hl 0 rfl) ?_
  refine W.eq (g2 := F0 m 1 ls [.ref (ad r0)]) rfl ?_
  refine W.objInit hx hb hown (hts (.methodLink RX1 3 objectInit) (by decide +kernel)) (hts (.instanceMethod objectInit) (by decide +kernel)) (hts (.code objectInit ⟨#[0xb1]⟩ 1 none) (by decide +kernel)) rfl (by rw [hml]; exact hl.1) rfl dX1_init_1 (Nat.le_of_ble_eq_true rfl) (Nat.le_of_ble_eq_true rfl) ?_
  refine W.eq (g2 := F0 m 4 ls []) rfl ?_
  refine lv_aload_n (pc := 4) hx hb dX1_init_4 rfl (lv_at hl 0 rfl) ?_
  refine k_sipush (pc := 5) hx hb dX1_init_5 (by decide +kernel) ?_
  refine k_newJ (pc := 8) hx hb (hts (.arrayClass .long) (by decide +kernel)) hK hP hD hS hA r1 2 rfl 400 rfl (by decide) (Nat.le_of_ble_eq_true rfl) (Nat.le_of_ble_eq_true rfl) dX1_init_8 (fun q_8 H hP hD hS => ?_)
  obtain ⟨ad_8, hga_8⟩ : ∃ z9 : Nat → Nat, adN ad r1 q_8 = z9 := ⟨_, rfl⟩
  rw [hga_8] at hP hD
  have hnn_8 : ∀ j9 : Nat, j9 ≠ r1 → ad j9 = ad_8 j9 := fun j9 h9_ => by rw [← hga_8, adN_n _ _ h9_]
  rw [show q_8 = ad_8 r1 by rw [← hga_8, adN_s]]
  rw [hnn_8 r0 (by omega)]
  rw [hnn_8 r0 (by omega)] at hl
  refine W.eq (g2 := F0 m 10 ls [.ref (ad_8 r1), .ref (ad_8 r0)]) rfl ?_
  refine W.cs (cells' := 1) (slots' := 400) rfl rfl ?_
  refine k_putF (pc := 10) (ci := 1) (C := RX1) (T := TX1) (N := 2) (ty := .array .long) (v := .ref (ad_8 r1)) (w1 := (up (up w r1 (eJ (cA 2) 400 (fun _ => 0))) r0 (oB 1 [.ref (ad_8 r1), .null]))) hx hb hts hi1 tyX1 tyX1_ok nmX1 hown hK hP hD hS r0 (up_n (by omega) h0) rfl 0 (by decide) hf9 (fun _ h9 => h9) rfl hin rfl (by decide +kernel) rfl rfl (Nat.le_of_ble_eq_true rfl) rfl dX1_init_10 (fun H locs hP hD hS => ?_)
  refine lv_aload_n (pc := 13) hx hb dX1_init_13 rfl (lv_at hl 0 rfl) ?_
  refine k_sipush (pc := 14) hx hb dX1_init_14 (by decide +kernel) ?_
  refine k_newI (pc := 17) hx hb (hts (.arrayClass .int) (by decide +kernel)) hK hP hD hS hA r2 0 rfl 400 rfl (by decide) (Nat.le_of_ble_eq_true rfl) (Nat.le_of_ble_eq_true rfl) dX1_init_17 (fun q_17 H hP hD hS => ?_)
  obtain ⟨ad_17, hga_17⟩ : ∃ z9 : Nat → Nat, adN ad_8 r2 q_17 = z9 := ⟨_, rfl⟩
  rw [hga_17] at hP hD
  have hnn_17 : ∀ j9 : Nat, j9 ≠ r2 → ad_8 j9 = ad_17 j9 := fun j9 h9_ => by rw [← hga_17, adN_n _ _ h9_]
  rw [show q_17 = ad_17 r2 by rw [← hga_17, adN_s]]
  rw [hnn_17 r1 (by omega)] at hP hD
  rw [hnn_17 r0 (by omega)]
  rw [hnn_17 r0 (by omega)] at hl
  refine W.eq (g2 := F0 m 19 ls [.ref (ad_17 r2), .ref (ad_17 r0)]) rfl ?_
  refine W.cs (cells' := 2) (slots' := 800) rfl rfl ?_
  refine k_putF (pc := 19) (ci := 1) (C := RX1) (T := TX1) (N := 2) (ty := .array .int) (v := .ref (ad_17 r2)) (w1 := (up (up (up w r1 (eJ (cA 2) 400 (fun _ => 0))) r0 (oB 1 [.ref (ad_17 r1), .ref (ad_17 r2)])) r2 (eI (cA 0) 400 (fun _ => 0)))) hx hb hts hi1 tyX1 tyX1_ok nmX1 hown hK hP hD hS r0 (up_n (by omega) (up_s _ _ _)) rfl 1 (by decide) hf15 (fun _ h9 => h9) rfl hin rfl (by decide +kernel) rfl rfl (Nat.le_of_ble_eq_true rfl) ((up_co _ _ _ (by omega)).trans (congrArg (fun u => up u r2 _) (up_up _ _ _ _))) dX1_init_19 (fun H locs hP hD hS => ?_)
  rw [hQ9]
  exact W.vret hx hb hret (fun t ht hW => ⟨⟨none, ad_17, (up (up (up w r1 (eJ (cA 2) 400 (fun _ => 0))) r0 (oB 1 [.ref (ad_17 r1), .ref (ad_17 r2)])) r2 (eI (cA 0) 400 (fun _ => 0))), rfl, ⟨rfl, (ad_t hnn_8 hnn_17), rfl⟩, by rw [ht]; exact hP, hD⟩, hS.F ht⟩) hS.2.2 dX1_init_22


abbrev rmX3_init : Room := { frames := 1, cells := 3, slots := 1200, locals := 12 }
theorem hiX3_init_3 : ∀ w ∈ wsX30, w ∈ wsX3_init := by decide +kernel
set_option maxHeartbeats 4000000 in
set_option maxRecDepth 100000 in
theorem c_X3_init (l : Launch) (D : va_G) (cA : Nat → ClassId) (ad : Nat → Nat) (w : Nat → Option va_E) (sz : Nat) (r0 r1 r2 r3 : Nat) (h0 : w r0 = some (oB 3 [.null, .null, .null, .int (iI 0)])) (h01 : r0 ≠ r1) (h02 : r0 ≠ r2) (h03 : r0 ≠ r3) (h12 : r1 ≠ r2) (h13 : r1 ≠ r3) (h23 : r2 ≠ r3) : Met l yX3_init wsX3_init rmX3_init (gV D cA ad w sz [.ref (ad r0)]) (gW D (fun v9 ad1 w1 => v9 = none ∧ (∀ j : Nat, j ≠ r1 ∧ j ≠ r2 ∧ j ≠ r3 → ad j = ad1 j) ∧ w1 = up (up (up (up w r1 (eI (cA 0) 400 (fun _ => 0))) r0 (oB 3 [.ref (ad1 r1), .ref (ad1 r2), .ref (ad1 r3), .int (iI 0)])) r2 (eI (cA 0) 400 (fun _ => 0))) r3 (eI (cA 1) 400 (fun _ => 0))) (gA ad w sz)) 3 1200 (gA ad w sz) := by
  refine Met.ofW (cc := cX3_init) (maxL := 1) (ret := none) (by decide) rfl ?_
  intro p e s m args below meth c s₁ B hml hv
  obtain ⟨hav, hsz, hP, hD0, hK, hB, hZ⟩ := hv
  have hx := B.exec
  have hb := B.bytes
  have hret := B.returns
  have hts := atoms_spec (ws := wsX3_init) B.pre
  have hown : s.vm.findClass RX3 = some m.cls := findClass_of_methodNamed B.named
  have hlocks := B.notSynchronized
  have hin : meth.name = "<init>" := (name_of_methodNamed B.named B.method).1
  subst hsz
  have hD := hD0.self (sz := s.heap.size)
  generalize hAe : gA ad w s.heap.size = A at hD hZ ⊢
  have hA : ∀ q : Nat, s.heap.size ≤ q → A q := fun q h => by rw [← hAe]; exact Or.inr h
  have hS : va_S A s.heap s.heap [] := va_S.rf
  have hi3 := hiX3_init_3
  have hf9 := hts (.fieldLink RX3 9 "GaugeBook$Ranking" "days" "[I") (by decide +kernel)
  have hf15 := hts (.fieldLink RX3 15 "GaugeBook$Ranking" "merged" "[I") (by decide +kernel)
  have hf18 := hts (.fieldLink RX3 18 "GaugeBook$Ranking" "isNearPeak" "[Z") (by decide +kernel)
  have he9 : entryFrame m args 1 = F0 m 0 ((lg_sl ([.ref (ad r0)] : List Value) ++ List.replicate (1 - (lg_sl ([.ref (ad r0)] : List Value)).length) Slot.unset).toArray) [] := by rw [hav, lg_entry_eq]
  rw [he9]
  have hl := lv_entry ([.ref (ad r0)] : List Value) (n := 1) (Nat.le_of_ble_eq_true rfl)
  generalize (lg_sl ([.ref (ad r0)] : List Value) ++ List.replicate (1 - (lg_sl ([.ref (ad r0)] : List Value)).length) Slot.unset).toArray = ls at hl ⊢
  have hl : lv_has ls 1 [(0, .ref (ad r0))] := hl
  obtain ⟨Q9, hQ9⟩ : ∃ z, z = MQ below (gW D (fun v9 ad1 w1 => v9 = none ∧ (∀ j : Nat, j ≠ r1 ∧ j ≠ r2 ∧ j ≠ r3 → ad j = ad1 j) ∧ w1 = up (up (up (up w r1 (eI (cA 0) 400 (fun _ => 0))) r0 (oB 3 [.ref (ad1 r1), .ref (ad1 r2), .ref (ad1 r3), .int (iI 0)])) r2 (eI (cA 0) 400 (fun _ => 0))) r3 (eI (cA 1) 400 (fun _ => 0))) A) args s 3 1200 A := ⟨_, rfl⟩
  rw [← hQ9]
  show W p l e rmX3_init s m args below meth c s.heap [] 0 0 Q9 (F0 m 0 ls [])
  obtain ⟨H, hHe⟩ : ∃ z, z = s.heap := ⟨_, rfl⟩
  obtain ⟨locs, hLe⟩ : ∃ z, z = ([] : List Loc) := ⟨_, rfl⟩
  have hP : gP D vwCl ad w H := by rw [hHe]; exact hP
  have hS : va_S A s.heap H locs := by rw [hHe, hLe]; exact va_S.rf
  rw [show W p l e rmX3_init s m args below meth c s.heap [] 0 0 Q9 (F0 m 0 ls []) = W p l e rmX3_init s m args below meth c H locs 0 0 Q9 (F0 m 0 ls []) by rw [hHe, hLe]]
  clear hHe hLe
  refine lv_aload_n (pc := 0) hx hb dX3_init_0 rfl (lv_at hl 0 rfl) ?_
  refine W.eq (g2 := F0 m 1 ls [.ref (ad r0)]) rfl ?_
  refine W.objInit hx hb hown (hts (.methodLink RX3 3 objectInit) (by decide +kernel)) (hts (.instanceMethod objectInit) (by decide +kernel)) (hts (.code objectInit ⟨#[0xb1]⟩ 1 none) (by decide +kernel)) rfl (by rw [hml]; exact hl.1) rfl dX3_init_1 (Nat.le_of_ble_eq_true rfl) (Nat.le_of_ble_eq_true rfl) ?_
  refine W.eq (g2 := F0 m 4 ls []) rfl ?_
  refine lv_aload_n (pc := 4) hx hb dX3_init_4 rfl (lv_at hl 0 rfl) ?_
  refine k_sipush (pc := 5) hx hb dX3_init_5 (by decide +kernel) ?_
  refine k_newI (pc := 8) hx hb (hts (.arrayClass .int) (by decide +kernel)) hK hP hD hS hA r1 0 rfl 400 rfl (by decide) (Nat.le_of_ble_eq_true rfl) (Nat.le_of_ble_eq_true rfl) dX3_init_8 (fun q_8 H hP hD hS => ?_)
  obtain ⟨ad_8, hga_8⟩ : ∃ z9 : Nat → Nat, adN ad r1 q_8 = z9 := ⟨_, rfl⟩
  rw [hga_8] at hP hD
  have hnn_8 : ∀ j9 : Nat, j9 ≠ r1 → ad j9 = ad_8 j9 := fun j9 h9_ => by rw [← hga_8, adN_n _ _ h9_]
  rw [show q_8 = ad_8 r1 by rw [← hga_8, adN_s]]
  rw [hnn_8 r0 (by omega)]
  rw [hnn_8 r0 (by omega)] at hl
  refine W.eq (g2 := F0 m 10 ls [.ref (ad_8 r1), .ref (ad_8 r0)]) rfl ?_
  refine W.cs (cells' := 1) (slots' := 400) rfl rfl ?_
  refine k_putF (pc := 10) (ci := 3) (C := RX3) (T := TX3) (N := 4) (ty := .array .int) (v := .ref (ad_8 r1)) (w1 := (up (up w r1 (eI (cA 0) 400 (fun _ => 0))) r0 (oB 3 [.ref (ad_8 r1), .null, .null, .int (iI 0)]))) hx hb hts hi3 tyX3 tyX3_ok nmX3 hown hK hP hD hS r0 (up_n (by omega) h0) rfl 0 (by decide) hf9 (fun _ h9 => h9) rfl hin rfl (by decide +kernel) rfl rfl (Nat.le_of_ble_eq_true rfl) rfl dX3_init_10 (fun H locs hP hD hS => ?_)
  refine lv_aload_n (pc := 13) hx hb dX3_init_13 rfl (lv_at hl 0 rfl) ?_
  refine k_sipush (pc := 14) hx hb dX3_init_14 (by decide +kernel) ?_
  refine k_newI (pc := 17) hx hb (hts (.arrayClass .int) (by decide +kernel)) hK hP hD hS hA r2 0 rfl 400 rfl (by decide) (Nat.le_of_ble_eq_true rfl) (Nat.le_of_ble_eq_true rfl) dX3_init_17 (fun q_17 H hP hD hS => ?_)
  obtain ⟨ad_17, hga_17⟩ : ∃ z9 : Nat → Nat, adN ad_8 r2 q_17 = z9 := ⟨_, rfl⟩
  rw [hga_17] at hP hD
  have hnn_17 : ∀ j9 : Nat, j9 ≠ r2 → ad_8 j9 = ad_17 j9 := fun j9 h9_ => by rw [← hga_17, adN_n _ _ h9_]
  rw [show q_17 = ad_17 r2 by rw [← hga_17, adN_s]]
  rw [hnn_17 r1 (by omega)] at hP hD
  rw [hnn_17 r0 (by omega)]
  rw [hnn_17 r0 (by omega)] at hl
  refine W.eq (g2 := F0 m 19 ls [.ref (ad_17 r2), .ref (ad_17 r0)]) rfl ?_
  refine W.cs (cells' := 2) (slots' := 800) rfl rfl ?_
  refine k_putF (pc := 19) (ci := 3) (C := RX3) (T := TX3) (N := 4) (ty := .array .int) (v := .ref (ad_17 r2)) (w1 := (up (up (up w r1 (eI (cA 0) 400 (fun _ => 0))) r0 (oB 3 [.ref (ad_17 r1), .ref (ad_17 r2), .null, .int (iI 0)])) r2 (eI (cA 0) 400 (fun _ => 0)))) hx hb hts hi3 tyX3 tyX3_ok nmX3 hown hK hP hD hS r0 (up_n (by omega) (up_s _ _ _)) rfl 1 (by decide) hf15 (fun _ h9 => h9) rfl hin rfl (by decide +kernel) rfl rfl (Nat.le_of_ble_eq_true rfl) ((up_co _ _ _ (by omega)).trans (congrArg (fun u => up u r2 _) (up_up _ _ _ _))) dX3_init_19 (fun H locs hP hD hS => ?_)
  refine lv_aload_n (pc := 22) hx hb dX3_init_22 rfl (lv_at hl 0 rfl) ?_
  refine k_sipush (pc := 23) hx hb dX3_init_23 (by decide +kernel) ?_
  refine k_newZ (pc := 26) hx hb (hts (.arrayClass .boolean) (by decide +kernel)) hK hP hD hS hA r3 1 rfl 400 rfl (by decide) (Nat.le_of_ble_eq_true rfl) (Nat.le_of_ble_eq_true rfl) dX3_init_26 (fun q_26 H hP hD hS => ?_)
  obtain ⟨ad_26, hga_26⟩ : ∃ z9 : Nat → Nat, adN ad_17 r3 q_26 = z9 := ⟨_, rfl⟩
  rw [hga_26] at hP hD
  have hnn_26 : ∀ j9 : Nat, j9 ≠ r3 → ad_17 j9 = ad_26 j9 := fun j9 h9_ => by rw [← hga_26, adN_n _ _ h9_]
  rw [show q_26 = ad_26 r3 by rw [← hga_26, adN_s]]
  rw [hnn_26 r1 (by omega)] at hP hD
  rw [hnn_26 r2 (by omega)] at hP hD
  rw [hnn_26 r0 (by omega)]
  rw [hnn_26 r0 (by omega)] at hl
  refine W.eq (g2 := F0 m 28 ls [.ref (ad_26 r3), .ref (ad_26 r0)]) rfl ?_
  refine W.cs (cells' := 3) (slots' := 1200) rfl rfl ?_
  refine k_putF (pc := 28) (ci := 3) (C := RX3) (T := TX3) (N := 4) (ty := .array .boolean) (v := .ref (ad_26 r3)) (w1 := (up (up (up (up w r1 (eI (cA 0) 400 (fun _ => 0))) r0 (oB 3 [.ref (ad_26 r1), .ref (ad_26 r2), .ref (ad_26 r3), .int (iI 0)])) r2 (eI (cA 0) 400 (fun _ => 0))) r3 (eI (cA 1) 400 (fun _ => 0)))) hx hb hts hi3 tyX3 tyX3_ok nmX3 hown hK hP hD hS r0 (up_n (by omega) (up_n (by omega) (up_s _ _ _))) rfl 2 (by decide) hf18 (fun _ h9 => h9) rfl hin rfl (by decide +kernel) rfl rfl (Nat.le_of_ble_eq_true rfl) ((up_co _ _ _ (by omega)).trans (congrArg (fun u => up u r3 _) ((up_co _ _ _ (by omega)).trans (congrArg (fun u => up u r2 _) (up_up _ _ _ _))))) dX3_init_28 (fun H locs hP hD hS => ?_)
  rw [hQ9]
  exact W.vret hx hb hret (fun t ht hW => ⟨⟨none, ad_26, (up (up (up (up w r1 (eI (cA 0) 400 (fun _ => 0))) r0 (oB 3 [.ref (ad_26 r1), .ref (ad_26 r2), .ref (ad_26 r3), .int (iI 0)])) r2 (eI (cA 0) 400 (fun _ => 0))) r3 (eI (cA 1) 400 (fun _ => 0))), rfl, ⟨rfl, (fun j g => (hnn_8 j g.1).trans ((hnn_17 j g.2.1).trans (hnn_26 j g.2.2))), rfl⟩, by rw [ht]; exact hP, hD⟩, hS.F ht⟩) hS.2.2 dX3_init_31

abbrev rmX4_init : Room := { frames := 1, cells := 2, slots := 40, locals := 12 }
theorem hiX4_init_4 : ∀ w ∈ wsX40, w ∈ wsX4_init := by decide +kernel
set_option maxHeartbeats 4000000 in
set_option maxRecDepth 100000 in
theorem c_X4_init (l : Launch) (D : va_G) (cA : Nat → ClassId) (ad : Nat → Nat) (w : Nat → Option va_E) (sz : Nat) (r0 r1 r2 : Nat) (h0 : w r0 = some (oB 4 [.null, .null, .int (iI 0)])) (h01 : r0 ≠ r1) (h02 : r0 ≠ r2) (h12 : r1 ≠ r2) : Met l yX4_init wsX4_init rmX4_init (gV D cA ad w sz [.ref (ad r0)]) (gW D (fun v9 ad1 w1 => v9 = none ∧ (∀ j : Nat, j ≠ r1 ∧ j ≠ r2 → ad j = ad1 j) ∧ w1 = up (up (up w r1 (eI (cA 0) 20 (fun _ => 0))) r0 (oB 4 [.ref (ad1 r1), .ref (ad1 r2), .int (iI 0)])) r2 (eI (cA 0) 20 (fun _ => 0))) (gA ad w sz)) 2 40 (gA ad w sz) := by
  refine Met.ofW (cc := cX4_init) (maxL := 1) (ret := none) (by decide) rfl ?_
  intro p e s m args below meth c s₁ B hml hv
  obtain ⟨hav, hsz, hP, hD0, hK, hB, hZ⟩ := hv
  have hx := B.exec
  have hb := B.bytes
  have hret := B.returns
  have hts := atoms_spec (ws := wsX4_init) B.pre
  have hown : s.vm.findClass RX4 = some m.cls := findClass_of_methodNamed B.named
  have hlocks := B.notSynchronized
  have hin : meth.name = "<init>" := (name_of_methodNamed B.named B.method).1
  subst hsz
  have hD := hD0.self (sz := s.heap.size)
  generalize hAe : gA ad w s.heap.size = A at hD hZ ⊢
  have hA : ∀ q : Nat, s.heap.size ≤ q → A q := fun q h => by rw [← hAe]; exact Or.inr h
  have hS : va_S A s.heap s.heap [] := va_S.rf
  have hi4 := hiX4_init_4
  have hf9 := hts (.fieldLink RX4 9 "GaugeBook$Shifts" "toldDays" "[I") (by decide +kernel)
  have hf13 := hts (.fieldLink RX4 13 "GaugeBook$Shifts" "toldShifts" "[I") (by decide +kernel)
  have he9 : entryFrame m args 1 = F0 m 0 ((lg_sl ([.ref (ad r0)] : List Value) ++ List.replicate (1 - (lg_sl ([.ref (ad r0)] : List Value)).length) Slot.unset).toArray) [] := by rw [hav, lg_entry_eq]
  rw [he9]
  have hl := lv_entry ([.ref (ad r0)] : List Value) (n := 1) (Nat.le_of_ble_eq_true rfl)
  generalize (lg_sl ([.ref (ad r0)] : List Value) ++ List.replicate (1 - (lg_sl ([.ref (ad r0)] : List Value)).length) Slot.unset).toArray = ls at hl ⊢
  have hl : lv_has ls 1 [(0, .ref (ad r0))] := hl
  obtain ⟨Q9, hQ9⟩ : ∃ z, z = MQ below (gW D (fun v9 ad1 w1 => v9 = none ∧ (∀ j : Nat, j ≠ r1 ∧ j ≠ r2 → ad j = ad1 j) ∧ w1 = up (up (up w r1 (eI (cA 0) 20 (fun _ => 0))) r0 (oB 4 [.ref (ad1 r1), .ref (ad1 r2), .int (iI 0)])) r2 (eI (cA 0) 20 (fun _ => 0))) A) args s 2 40 A := ⟨_, rfl⟩
  rw [← hQ9]
  show W p l e rmX4_init s m args below meth c s.heap [] 0 0 Q9 (F0 m 0 ls [])
  obtain ⟨H, hHe⟩ : ∃ z, z = s.heap := ⟨_, rfl⟩
  obtain ⟨locs, hLe⟩ : ∃ z, z = ([] : List Loc) := ⟨_, rfl⟩
  have hP : gP D vwCl ad w H := by rw [hHe]; exact hP
  have hS : va_S A s.heap H locs := by rw [hHe, hLe]; exact va_S.rf
  rw [show W p l e rmX4_init s m args below meth c s.heap [] 0 0 Q9 (F0 m 0 ls []) = W p l e rmX4_init s m args below meth c H locs 0 0 Q9 (F0 m 0 ls []) by rw [hHe, hLe]]
  clear hHe hLe
  refine lv_aload_n (pc := 0) hx hb dX4_init_0 rfl (lv_at hl 0 rfl) ?_
  refine W.eq (g2 := F0 m 1 ls [.ref (ad r0)]) rfl ?_
  refine W.objInit hx hb hown (hts (.methodLink RX4 1 objectInit) (by decide +kernel)) (hts (.instanceMethod objectInit) (by decide +kernel)) (hts (.code objectInit ⟨#[0xb1]⟩ 1 none) (by decide +kernel)) rfl (by rw [hml]; exact hl.1) rfl dX4_init_1 (Nat.le_of_ble_eq_true rfl) (Nat.le_of_ble_eq_true rfl) ?_
  refine W.eq (g2 := F0 m 4 ls []) rfl ?_
  refine lv_aload_n (pc := 4) hx hb dX4_init_4 rfl (lv_at hl 0 rfl) ?_
  refine k_bipush (pc := 5) hx hb dX4_init_5 (by decide +kernel) ?_
  refine k_newI (pc := 7) hx hb (hts (.arrayClass .int) (by decide +kernel)) hK hP hD hS hA r1 0 rfl 20 rfl (by decide) (Nat.le_of_ble_eq_true rfl) (Nat.le_of_ble_eq_true rfl) dX4_init_7 (fun q_7 H hP hD hS => ?_)
  obtain ⟨ad_7, hga_7⟩ : ∃ z9 : Nat → Nat, adN ad r1 q_7 = z9 := ⟨_, rfl⟩
  rw [hga_7] at hP hD
  have hnn_7 : ∀ j9 : Nat, j9 ≠ r1 → ad j9 = ad_7 j9 := fun j9 h9_ => by rw [← hga_7, adN_n _ _ h9_]
  rw [show q_7 = ad_7 r1 by rw [← hga_7, adN_s]]
  rw [hnn_7 r0 (by omega)]
  rw [hnn_7 r0 (by omega)] at hl
  refine W.eq (g2 := F0 m 9 ls [.ref (ad_7 r1), .ref (ad_7 r0)]) rfl ?_
  refine W.cs (cells' := 1) (slots' := 20) rfl rfl ?_
  refine k_putF (pc := 9) (ci := 4) (C := RX4) (T := TX4) (N := 3) (ty := .array .int) (v := .ref (ad_7 r1)) (w1 := (up (up w r1 (eI (cA 0) 20 (fun _ => 0))) r0 (oB 4 [.ref (ad_7 r1), .null, .int (iI 0)]))) hx hb hts hi4 tyX4 tyX4_ok nmX4 hown hK hP hD hS r0 (up_n (by omega) h0) rfl 0 (by decide) hf9 (fun _ h9 => h9) rfl hin rfl (by decide +kernel) rfl rfl (Nat.le_of_ble_eq_true rfl) rfl dX4_init_9 (fun H locs hP hD hS => ?_)
  refine lv_aload_n (pc := 12) hx hb dX4_init_12 rfl (lv_at hl 0 rfl) ?_
  refine k_bipush (pc := 13) hx hb dX4_init_13 (by decide +kernel) ?_
  refine k_newI (pc := 15) hx hb (hts (.arrayClass .int) (by decide +kernel)) hK hP hD hS hA r2 0 rfl 20 rfl (by decide) (Nat.le_of_ble_eq_true rfl) (Nat.le_of_ble_eq_true rfl) dX4_init_15 (fun q_15 H hP hD hS => ?_)
  obtain ⟨ad_15, hga_15⟩ : ∃ z9 : Nat → Nat, adN ad_7 r2 q_15 = z9 := ⟨_, rfl⟩
  rw [hga_15] at hP hD
  have hnn_15 : ∀ j9 : Nat, j9 ≠ r2 → ad_7 j9 = ad_15 j9 := fun j9 h9_ => by rw [← hga_15, adN_n _ _ h9_]
  rw [show q_15 = ad_15 r2 by rw [← hga_15, adN_s]]
  rw [hnn_15 r1 (by omega)] at hP hD
  rw [hnn_15 r0 (by omega)]
  rw [hnn_15 r0 (by omega)] at hl
  refine W.eq (g2 := F0 m 17 ls [.ref (ad_15 r2), .ref (ad_15 r0)]) rfl ?_
  refine W.cs (cells' := 2) (slots' := 40) rfl rfl ?_
  refine k_putF (pc := 17) (ci := 4) (C := RX4) (T := TX4) (N := 3) (ty := .array .int) (v := .ref (ad_15 r2)) (w1 := (up (up (up w r1 (eI (cA 0) 20 (fun _ => 0))) r0 (oB 4 [.ref (ad_15 r1), .ref (ad_15 r2), .int (iI 0)])) r2 (eI (cA 0) 20 (fun _ => 0)))) hx hb hts hi4 tyX4 tyX4_ok nmX4 hown hK hP hD hS r0 (up_n (by omega) (up_s _ _ _)) rfl 1 (by decide) hf13 (fun _ h9 => h9) rfl hin rfl (by decide +kernel) rfl rfl (Nat.le_of_ble_eq_true rfl) ((up_co _ _ _ (by omega)).trans (congrArg (fun u => up u r2 _) (up_up _ _ _ _))) dX4_init_17 (fun H locs hP hD hS => ?_)
  rw [hQ9]
  exact W.vret hx hb hret (fun t ht hW => ⟨⟨none, ad_15, (up (up (up w r1 (eI (cA 0) 20 (fun _ => 0))) r0 (oB 4 [.ref (ad_15 r1), .ref (ad_15 r2), .int (iI 0)])) r2 (eI (cA 0) 20 (fun _ => 0))), rfl, ⟨rfl, (ad_t hnn_7 hnn_15), rfl⟩, by rw [ht]; exact hP, hD⟩, hS.F ht⟩) hS.2.2 dX4_init_20
