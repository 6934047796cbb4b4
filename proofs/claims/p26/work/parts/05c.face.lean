/-- the class's cells at their roles: 0 the book, 1 its curves, 2..4 shifts, 5..7 stages, read, ice, 8 measurements, 9..11 table, 12..15 ranking; 30 + 3 k.. the curves, 60 + k the measurements -/
def bookAt (cA : Nat → ClassId) (ad : Nat → Nat) (w : Nat → Option va_E) (sc : Nat → Int) (fn : Nat → Int → Int) (rk : Int) (F S : Int → Int) (rn : Int) (rd rm_ rz : Int → Int) : Prop :=
  (w 0 = some (oB 5 [.ref (ad 1), .ref (ad 2), .ref (ad 5), .ref (ad 6), .ref (ad 7), .ref (ad 8), .ref (ad 9), .ref (ad 12), .int (iI (sc 0)), .int (iI (sc 4)), .int (iI (sc 2)), .int (iI (sc 3)), .int (iI rk)])) ∧
  (w 1 = some (eQ (cA 4) 6 (fun j : Nat => if (j : Int) < sc 0 then some (ad (30 + 3 * j)) else none))) ∧
  (w 2 = some (oB 4 [.ref (ad 3), .ref (ad 4), .int (iI (sc 1))])) ∧
  (w 3 = some (eI (cA 0) 20 (fn 0))) ∧
  (w 4 = some (eI (cA 0) 20 (fn 1))) ∧
  (w 5 = some (eI (cA 0) 400 (fn 2))) ∧
  (w 6 = some (eI (cA 1) 400 (fn 3))) ∧
  (w 7 = some (eI (cA 1) 400 (fn 4))) ∧
  (w 8 = some (eQ (cA 5) 40 (fun j : Nat => if (j : Int) < sc 4 then some (ad (60 + j)) else none))) ∧
  (w 9 = some (oB 1 [.ref (ad 10), .ref (ad 11)])) ∧
  (w 10 = some (eJ (cA 2) 400 F)) ∧
  (w 11 = some (eI (cA 0) 400 S)) ∧
  (w 12 = some (oB 3 [.ref (ad 13), .ref (ad 14), .ref (ad 15), .int (iI rn)])) ∧
  (w 13 = some (eI (cA 0) 400 rd)) ∧
  (w 14 = some (eI (cA 0) 400 rm_)) ∧
  (w 15 = some (eI (cA 1) 400 rz)) ∧
  (∀ k : Nat, (k : Int) < sc 0 → w (30 + 3 * k) = some (oB 0 [.int (iI (fn 8 (k : Int))), .ref (ad (31 + 3 * k)), .ref (ad (32 + 3 * k)), .int (iI (fn 9 (k : Int)))]) ∧ w (31 + 3 * k) = some (eI (cA 0) 12 (fn (20 + k))) ∧ w (32 + 3 * k) = some (eI (cA 0) 12 (fn (30 + k)))) ∧
  (∀ k : Nat, (k : Int) < sc 4 → w (60 + k) = some (oB 2 [.int (iI (fn 5 (k : Int))), .int (iI (fn 6 (k : Int))), .int (iI (fn 7 (k : Int)))]))
/-- a book with the state (sc, fn) -/
def bookS (cA : Nat → ClassId) (ad : Nat → Nat) (w : Nat → Option va_E) (sc : Nat → Int) (fn : Nat → Int → Int) : Prop := ∃ (rk : Int) (F S : Int → Int) (rn : Int) (rd rm_ rz : Int → Int), bookAt cA ad w sc fn rk F S rn rd rm_ rz ∧ (rk = 0 ∨ (rk = 1 ∧ F = tbF sc fn ∧ S = tbS sc fn)) ∧ (∀ j : Int, -1 ≤ F j ∧ F j ≤ 1000000000000) ∧ ∀ j : Int, 0 ≤ S j ∧ S j ≤ 3
def upS (sc : Nat → Int) (i : Nat) (v : Int) : Nat → Int := fun j => if j = i then v else sc j
def upF (fn : Nat → Int → Int) (i : Nat) (g : Int → Int) : Nat → Int → Int := fun j => if j = i then g else fn j
theorem upF_n {fn : Nat → Int → Int} {i j : Nat} {g : Int → Int} (h : j ≠ i) : upF fn i g j = fn j := by simp [upF, h]
theorem upF_s (fn : Nat → Int → Int) (i : Nat) (g : Int → Int) : upF fn i g i = g := by simp [upF]
/-- the rest of the world stays -/
def keepR (ad ad1 : Nat → Nat) (w w1 : Nat → Option va_E) : Prop := ad1 0 = ad 0 ∧ ∀ r : Nat, 200 ≤ r → w1 r = w r ∧ ad1 r = ad r
theorem cv_keep {cA : Nat → ClassId} {ad : Nat → Nat} {w : Nat → Option va_E} {sc : Nat → Int} {fn fn2 : Nat → Int → Int} (hcv : ∀ k : Nat, (k : Int) < sc 0 → w (30 + 3 * k) = some (oB 0 [.int (iI (fn 8 (k : Int))), .ref (ad (31 + 3 * k)), .ref (ad (32 + 3 * k)), .int (iI (fn 9 (k : Int)))]) ∧ w (31 + 3 * k) = some (eI (cA 0) 12 (fn (20 + k))) ∧ w (32 + 3 * k) = some (eI (cA 0) 12 (fn (30 + k)))) (h8 : fn2 8 = fn 8) (h9 : fn2 9 = fn 9) (h2 : ∀ k : Nat, fn2 (20 + k) = fn (20 + k) ∧ fn2 (30 + k) = fn (30 + k)) : ∀ k : Nat, (k : Int) < sc 0 → w (30 + 3 * k) = some (oB 0 [.int (iI (fn2 8 (k : Int))), .ref (ad (31 + 3 * k)), .ref (ad (32 + 3 * k)), .int (iI (fn2 9 (k : Int)))]) ∧ w (31 + 3 * k) = some (eI (cA 0) 12 (fn2 (20 + k))) ∧ w (32 + 3 * k) = some (eI (cA 0) 12 (fn2 (30 + k))) := by
  intro k hk
  have h := hcv k hk
  rw [h8, h9, (h2 k).1, (h2 k).2]
  exact h

abbrev rmX5_requireRange : Room := { frames := 6, cells := 1, slots := 6, locals := 82 }
theorem hxwX5_requireRange_xIA_116 : ∀ w ∈ (vx_atS RX5 116 xIA ["java/lang/RuntimeException", "java/lang/Exception"]).filter goodWord, w ∈ wsX5_requireRange := by decide +kernel
set_option maxHeartbeats 4000000 in
set_option maxRecDepth 100000 in
theorem c_X5_requireRange (l : Launch) (hl0 : l.stackTraces = false) (D : va_G) (cA : Nat → ClassId) (ad : Nat → Nat) (w : Nat → Option va_E) (sz : Nat) (fr to_ : Int) (h1 : (-2147483648 ≤ fr ∧ fr < 2147483648)) (h2 : (-2147483648 ≤ to_ ∧ to_ < 2147483648)) : vx_Met l yX5_requireRange wsX5_requireRange rmX5_requireRange (gV D cA ad w sz [.int (iI fr), .int (iI to_)]) (gW D (fun v9 ad1 w1 => v9 = none ∧ ad1 = ad ∧ w1 = w ∧ (0 ≤ fr ∧ fr ≤ to_ ∧ to_ < 400)) (gA ad w sz)) (gX D (fun E => E = xIA ∧ ¬ (0 ≤ fr ∧ fr ≤ to_ ∧ to_ < 400)) ad w (gA ad w sz)) 1 6 (gA ad w sz) := by
  refine vx_ofW (cc := cX5_requireRange) (maxL := 2) (ret := none) (by decide) rfl ?_
  intro p e s m args below meth c s₁ B hml hE hv
  obtain ⟨hav, hsz, hP, hD0, hK, hB, hZ⟩ := hv
  have hx := B.exec
  have hb := B.bytes
  have hret := B.returns
  have hts := atoms_spec (ws := wsX5_requireRange) B.pre
  have hown : s.vm.findClass RX5 = some m.cls := findClass_of_methodNamed B.named
  have hlocks := B.notSynchronized
  subst hsz
  have hD := hD0.self (sz := s.heap.size)
  generalize hAe : gA ad w s.heap.size = A at hD hZ ⊢
  have hA : ∀ q : Nat, s.heap.size ≤ q → A q := fun q h => by rw [← hAe]; exact Or.inr h
  have hS : va_S A s.heap s.heap [] := va_S.rf
  have hxw_xIA_116 := hxwX5_requireRange_xIA_116
  have he9 : entryFrame m args 2 = F0 m 0 ((lg_sl ([.int (iI fr), .int (iI to_)] : List Value) ++ List.replicate (2 - (lg_sl ([.int (iI fr), .int (iI to_)] : List Value)).length) Slot.unset).toArray) [] := by rw [hav, lg_entry_eq]
  rw [he9]
  have hl := lv_entry ([.int (iI fr), .int (iI to_)] : List Value) (n := 2) (Nat.le_of_ble_eq_true rfl)
  generalize (lg_sl ([.int (iI fr), .int (iI to_)] : List Value) ++ List.replicate (2 - (lg_sl ([.int (iI fr), .int (iI to_)] : List Value)).length) Slot.unset).toArray = ls at hl ⊢
  have hl : lv_has ls 2 [(0, .int (iI fr)), (1, .int (iI to_))] := hl
  obtain ⟨Q9, hQ9⟩ : ∃ z, z = vx_MQ below (gW D (fun v9 ad1 w1 => v9 = none ∧ ad1 = ad ∧ w1 = w ∧ (0 ≤ fr ∧ fr ≤ to_ ∧ to_ < 400)) A) (gX D (fun E => E = xIA ∧ ¬ (0 ≤ fr ∧ fr ≤ to_ ∧ to_ < 400)) ad w A) args s 1 6 A := ⟨_, rfl⟩
  rw [← hQ9]
  show W p l e rmX5_requireRange s m args below meth c s.heap [] 0 0 Q9 (F0 m 0 ls [])
  obtain ⟨H, hHe⟩ : ∃ z, z = s.heap := ⟨_, rfl⟩
  obtain ⟨locs, hLe⟩ : ∃ z, z = ([] : List Loc) := ⟨_, rfl⟩
  have hP : gP D vwCl ad w H := by rw [hHe]; exact hP
  have hS : va_S A s.heap H locs := by rw [hHe, hLe]; exact va_S.rf
  rw [show W p l e rmX5_requireRange s m args below meth c s.heap [] 0 0 Q9 (F0 m 0 ls []) = W p l e rmX5_requireRange s m args below meth c H locs 0 0 Q9 (F0 m 0 ls []) by rw [hHe, hLe]]
  clear hHe hLe
  refine lv_iload_n (pc := 0) hx hb dX5_requireRange_0 rfl (lv_at hl 0 rfl) ?_
  refine k_if_lt (pc := 1) (tgt := 16) hx hb ⟨by omega, by omega⟩ dX5_requireRange_1 (by decide) (fun hc_1 => ?_) (fun hc_1 => ?_)
  · skip
    obtain ⟨sa_16, hsa_16⟩ := ns_256 hB
    rw [hQ9]
    exact vx_throwSW (pc := 16) (own := RX5) (cls := xIA) (names := ["java/lang/RuntimeException", "java/lang/Exception"]) (ik := 112) (is := 256) (ic := 116) (A := A) hx hb hl0 hown (by decide +kernel) (by decide +kernel) (hts (.classLink RX5 112 "java/lang/IllegalArgumentException") (by decide +kernel)) (hts (.initialized "java/lang/IllegalArgumentException") (by decide +kernel)) hsa_16 (gx_hat hB (E := xIA) (i := 0) rfl (fun w h => hts w (hxw_xIA_116 w h)) (by decide +kernel)) (by decide +kernel) hZ.1 hZ.2 hS (hl.1.trans hml.symm) dX5_requireRange_16 dX5_requireRange_19 dX5_requireRange_20 dX5_requireRange_23 dX5_requireRange_26 (fun x h => (hE x h).elim) (Nat.le_of_ble_eq_true rfl) (Nat.le_of_ble_eq_true rfl) (Nat.le_of_ble_eq_true rfl) (Nat.le_of_ble_eq_true rfl) hlocks (fun t hW hz hk => ⟨⟨rfl, by omega⟩, fun r x hr => (hP r x hr).kept (hk _ (hP r x hr).lt), hD, Nat.le_trans hS.1 hz, fun q h1 h2 => (hk q (Nat.lt_of_lt_of_le h1 hS.1)).trans (hS.2.1 q h1 h2)⟩) hS.2.2 (Nat.le_of_ble_eq_true rfl) (Nat.le_of_ble_eq_true rfl)
  · skip
    refine lv_iload_n (pc := 4) hx hb dX5_requireRange_4 rfl (lv_at hl 0 rfl) ?_
    refine lv_iload_n (pc := 5) hx hb dX5_requireRange_5 rfl (lv_at hl 1 rfl) ?_
    refine k_icmp_gt (pc := 6) (tgt := 16) hx hb ⟨by omega, by omega⟩ ⟨by omega, by omega⟩ dX5_requireRange_6 (by decide) (fun hc_6 => ?_) (fun hc_6 => ?_)
    · skip
      obtain ⟨sa_16, hsa_16⟩ := ns_256 hB
      rw [hQ9]
      exact vx_throwSW (pc := 16) (own := RX5) (cls := xIA) (names := ["java/lang/RuntimeException", "java/lang/Exception"]) (ik := 112) (is := 256) (ic := 116) (A := A) hx hb hl0 hown (by decide +kernel) (by decide +kernel) (hts (.classLink RX5 112 "java/lang/IllegalArgumentException") (by decide +kernel)) (hts (.initialized "java/lang/IllegalArgumentException") (by decide +kernel)) hsa_16 (gx_hat hB (E := xIA) (i := 0) rfl (fun w h => hts w (hxw_xIA_116 w h)) (by decide +kernel)) (by decide +kernel) hZ.1 hZ.2 hS (hl.1.trans hml.symm) dX5_requireRange_16 dX5_requireRange_19 dX5_requireRange_20 dX5_requireRange_23 dX5_requireRange_26 (fun x h => (hE x h).elim) (Nat.le_of_ble_eq_true rfl) (Nat.le_of_ble_eq_true rfl) (Nat.le_of_ble_eq_true rfl) (Nat.le_of_ble_eq_true rfl) hlocks (fun t hW hz hk => ⟨⟨rfl, by omega⟩, fun r x hr => (hP r x hr).kept (hk _ (hP r x hr).lt), hD, Nat.le_trans hS.1 hz, fun q h1 h2 => (hk q (Nat.lt_of_lt_of_le h1 hS.1)).trans (hS.2.1 q h1 h2)⟩) hS.2.2 (Nat.le_of_ble_eq_true rfl) (Nat.le_of_ble_eq_true rfl)
    · skip
      refine lv_iload_n (pc := 9) hx hb dX5_requireRange_9 rfl (lv_at hl 1 rfl) ?_
      refine k_sipush (pc := 10) hx hb dX5_requireRange_10 (by decide +kernel) ?_
      refine k_icmp_lt (pc := 13) (tgt := 27) hx hb ⟨by omega, by omega⟩ ⟨by omega, by omega⟩ dX5_requireRange_13 (by decide) (fun hc_13 => ?_) (fun hc_13 => ?_)
      · skip
        rw [hQ9]
        refine vx_ret ?_
        refine W.widen (k := 1) (n := 6) (by decide) (by decide) ?_
        exact W.vret hx hb hret (fun t ht hW => ⟨⟨none, ad, w, rfl, ⟨rfl, rfl, rfl, by omega⟩, by rw [ht]; exact hP, hD⟩, hS.F ht⟩) hS.2.2 dX5_requireRange_27
      · skip
        obtain ⟨sa_16, hsa_16⟩ := ns_256 hB
        rw [hQ9]
        exact vx_throwSW (pc := 16) (own := RX5) (cls := xIA) (names := ["java/lang/RuntimeException", "java/lang/Exception"]) (ik := 112) (is := 256) (ic := 116) (A := A) hx hb hl0 hown (by decide +kernel) (by decide +kernel) (hts (.classLink RX5 112 "java/lang/IllegalArgumentException") (by decide +kernel)) (hts (.initialized "java/lang/IllegalArgumentException") (by decide +kernel)) hsa_16 (gx_hat hB (E := xIA) (i := 0) rfl (fun w h => hts w (hxw_xIA_116 w h)) (by decide +kernel)) (by decide +kernel) hZ.1 hZ.2 hS (hl.1.trans hml.symm) dX5_requireRange_16 dX5_requireRange_19 dX5_requireRange_20 dX5_requireRange_23 dX5_requireRange_26 (fun x h => (hE x h).elim) (Nat.le_of_ble_eq_true rfl) (Nat.le_of_ble_eq_true rfl) (Nat.le_of_ble_eq_true rfl) (Nat.le_of_ble_eq_true rfl) hlocks (fun t hW hz hk => ⟨⟨rfl, by omega⟩, fun r x hr => (hP r x hr).kept (hk _ (hP r x hr).lt), hD, Nat.le_trans hS.1 hz, fun q h1 h2 => (hk q (Nat.lt_of_lt_of_le h1 hS.1)).trans (hS.2.1 q h1 h2)⟩) hS.2.2 (Nat.le_of_ble_eq_true rfl) (Nat.le_of_ble_eq_true rfl)

abbrev rmX5_requireStage : Room := { frames := 6, cells := 1, slots := 6, locals := 82 }
theorem hxwX5_requireStage_xIA_116 : ∀ w ∈ (vx_atS RX5 116 xIA ["java/lang/RuntimeException", "java/lang/Exception"]).filter goodWord, w ∈ wsX5_requireStage := by decide +kernel
set_option maxHeartbeats 4000000 in
set_option maxRecDepth 100000 in
theorem c_X5_requireStage (l : Launch) (hl0 : l.stackTraces = false) (D : va_G) (cA : Nat → ClassId) (ad : Nat → Nat) (w : Nat → Option va_E) (sz : Nat) (sg : Int) (h1 : (-9223372036854775808 ≤ sg ∧ sg < 9223372036854775808)) : vx_Met l yX5_requireStage wsX5_requireStage rmX5_requireStage (gV D cA ad w sz [.long (lI sg)]) (gW D (fun v9 ad1 w1 => v9 = none ∧ ad1 = ad ∧ w1 = w ∧ (-500 ≤ sg ∧ sg ≤ 2000)) (gA ad w sz)) (gX D (fun E => E = xIA ∧ ¬ (-500 ≤ sg ∧ sg ≤ 2000)) ad w (gA ad w sz)) 1 6 (gA ad w sz) := by
  refine vx_ofW (cc := cX5_requireStage) (maxL := 2) (ret := none) (by decide) rfl ?_
  intro p e s m args below meth c s₁ B hml hE hv
  obtain ⟨hav, hsz, hP, hD0, hK, hB, hZ⟩ := hv
  have hx := B.exec
  have hb := B.bytes
  have hret := B.returns
  have hts := atoms_spec (ws := wsX5_requireStage) B.pre
  have hown : s.vm.findClass RX5 = some m.cls := findClass_of_methodNamed B.named
  have hlocks := B.notSynchronized
  subst hsz
  have hD := hD0.self (sz := s.heap.size)
  generalize hAe : gA ad w s.heap.size = A at hD hZ ⊢
  have hA : ∀ q : Nat, s.heap.size ≤ q → A q := fun q h => by rw [← hAe]; exact Or.inr h
  have hS : va_S A s.heap s.heap [] := va_S.rf
  have hxw_xIA_116 := hxwX5_requireStage_xIA_116
  have he9 : entryFrame m args 2 = F0 m 0 ((lg_sl ([.long (lI sg)] : List Value) ++ List.replicate (2 - (lg_sl ([.long (lI sg)] : List Value)).length) Slot.unset).toArray) [] := by rw [hav, lg_entry_eq]
  rw [he9]
  have hl := lv_entry ([.long (lI sg)] : List Value) (n := 2) (Nat.le_of_ble_eq_true rfl)
  generalize (lg_sl ([.long (lI sg)] : List Value) ++ List.replicate (2 - (lg_sl ([.long (lI sg)] : List Value)).length) Slot.unset).toArray = ls at hl ⊢
  have hl : lv_has ls 2 [(0, .long (lI sg))] := hl
  obtain ⟨Q9, hQ9⟩ : ∃ z, z = vx_MQ below (gW D (fun v9 ad1 w1 => v9 = none ∧ ad1 = ad ∧ w1 = w ∧ (-500 ≤ sg ∧ sg ≤ 2000)) A) (gX D (fun E => E = xIA ∧ ¬ (-500 ≤ sg ∧ sg ≤ 2000)) ad w A) args s 1 6 A := ⟨_, rfl⟩
  rw [← hQ9]
  show W p l e rmX5_requireStage s m args below meth c s.heap [] 0 0 Q9 (F0 m 0 ls [])
  obtain ⟨H, hHe⟩ : ∃ z, z = s.heap := ⟨_, rfl⟩
  obtain ⟨locs, hLe⟩ : ∃ z, z = ([] : List Loc) := ⟨_, rfl⟩
  have hP : gP D vwCl ad w H := by rw [hHe]; exact hP
  have hS : va_S A s.heap H locs := by rw [hHe, hLe]; exact va_S.rf
  rw [show W p l e rmX5_requireStage s m args below meth c s.heap [] 0 0 Q9 (F0 m 0 ls []) = W p l e rmX5_requireStage s m args below meth c H locs 0 0 Q9 (F0 m 0 ls []) by rw [hHe, hLe]]
  clear hHe hLe
  refine lv_lload_n (pc := 0) hx hb dX5_requireStage_0 rfl (lv_at hl 0 rfl) ?_
  refine k_ldc2 (z := (-500)) (pc := 1) hx hb hown (hts (.constantLong RX5 258 (-500)) (by decide +kernel)) (by decide +kernel) dX5_requireStage_1 ?_
  refine k_lcmp_lt (pc := 4) (tgt := 16) hx hb ⟨by omega, by omega⟩ ⟨by omega, by omega⟩ dX5_requireStage_4 dX5_requireStage_5 (by decide) (fun hc_4 => ?_) (fun hc_4 => ?_)
  · skip
    obtain ⟨sa_16, hsa_16⟩ := ns_262 hB
    rw [hQ9]
    exact vx_throwSW (pc := 16) (own := RX5) (cls := xIA) (names := ["java/lang/RuntimeException", "java/lang/Exception"]) (ik := 112) (is := 262) (ic := 116) (A := A) hx hb hl0 hown (by decide +kernel) (by decide +kernel) (hts (.classLink RX5 112 "java/lang/IllegalArgumentException") (by decide +kernel)) (hts (.initialized "java/lang/IllegalArgumentException") (by decide +kernel)) hsa_16 (gx_hat hB (E := xIA) (i := 0) rfl (fun w h => hts w (hxw_xIA_116 w h)) (by decide +kernel)) (by decide +kernel) hZ.1 hZ.2 hS (hl.1.trans hml.symm) dX5_requireStage_16 dX5_requireStage_19 dX5_requireStage_20 dX5_requireStage_23 dX5_requireStage_26 (fun x h => (hE x h).elim) (Nat.le_of_ble_eq_true rfl) (Nat.le_of_ble_eq_true rfl) (Nat.le_of_ble_eq_true rfl) (Nat.le_of_ble_eq_true rfl) hlocks (fun t hW hz hk => ⟨⟨rfl, by omega⟩, fun r x hr => (hP r x hr).kept (hk _ (hP r x hr).lt), hD, Nat.le_trans hS.1 hz, fun q h1 h2 => (hk q (Nat.lt_of_lt_of_le h1 hS.1)).trans (hS.2.1 q h1 h2)⟩) hS.2.2 (Nat.le_of_ble_eq_true rfl) (Nat.le_of_ble_eq_true rfl)
  · skip
    refine lv_lload_n (pc := 8) hx hb dX5_requireStage_8 rfl (lv_at hl 0 rfl) ?_
    refine k_ldc2 (z := 2000) (pc := 9) hx hb hown (hts (.constantLong RX5 260 (2000)) (by decide +kernel)) (by decide +kernel) dX5_requireStage_9 ?_
    refine k_lcmp_le (pc := 12) (tgt := 27) hx hb ⟨by omega, by omega⟩ ⟨by omega, by omega⟩ dX5_requireStage_12 dX5_requireStage_13 (by decide) (fun hc_12 => ?_) (fun hc_12 => ?_)
    · skip
      rw [hQ9]
      refine vx_ret ?_
      refine W.widen (k := 1) (n := 6) (by decide) (by decide) ?_
      exact W.vret hx hb hret (fun t ht hW => ⟨⟨none, ad, w, rfl, ⟨rfl, rfl, rfl, by omega⟩, by rw [ht]; exact hP, hD⟩, hS.F ht⟩) hS.2.2 dX5_requireStage_27
    · skip
      obtain ⟨sa_16, hsa_16⟩ := ns_262 hB
      rw [hQ9]
      exact vx_throwSW (pc := 16) (own := RX5) (cls := xIA) (names := ["java/lang/RuntimeException", "java/lang/Exception"]) (ik := 112) (is := 262) (ic := 116) (A := A) hx hb hl0 hown (by decide +kernel) (by decide +kernel) (hts (.classLink RX5 112 "java/lang/IllegalArgumentException") (by decide +kernel)) (hts (.initialized "java/lang/IllegalArgumentException") (by decide +kernel)) hsa_16 (gx_hat hB (E := xIA) (i := 0) rfl (fun w h => hts w (hxw_xIA_116 w h)) (by decide +kernel)) (by decide +kernel) hZ.1 hZ.2 hS (hl.1.trans hml.symm) dX5_requireStage_16 dX5_requireStage_19 dX5_requireStage_20 dX5_requireStage_23 dX5_requireStage_26 (fun x h => (hE x h).elim) (Nat.le_of_ble_eq_true rfl) (Nat.le_of_ble_eq_true rfl) (Nat.le_of_ble_eq_true rfl) (Nat.le_of_ble_eq_true rfl) hlocks (fun t hW hz hk => ⟨⟨rfl, by omega⟩, fun r x hr => (hP r x hr).kept (hk _ (hP r x hr).lt), hD, Nat.le_trans hS.1 hz, fun q h1 h2 => (hk q (Nat.lt_of_lt_of_le h1 hS.1)).trans (hS.2.1 q h1 h2)⟩) hS.2.2 (Nat.le_of_ble_eq_true rfl) (Nat.le_of_ble_eq_true rfl)

abbrev rmX5_requireFlow : Room := { frames := 6, cells := 1, slots := 6, locals := 82 }
theorem hxwX5_requireFlow_xIA_116 : ∀ w ∈ (vx_atS RX5 116 xIA ["java/lang/RuntimeException", "java/lang/Exception"]).filter goodWord, w ∈ wsX5_requireFlow := by decide +kernel
set_option maxHeartbeats 4000000 in
set_option maxRecDepth 100000 in
theorem c_X5_requireFlow (l : Launch) (hl0 : l.stackTraces = false) (D : va_G) (cA : Nat → ClassId) (ad : Nat → Nat) (w : Nat → Option va_E) (sz : Nat) (q : Int) (h1 : (-2147483648 ≤ q ∧ q < 2147483648)) : vx_Met l yX5_requireFlow wsX5_requireFlow rmX5_requireFlow (gV D cA ad w sz [.int (iI q)]) (gW D (fun v9 ad1 w1 => v9 = none ∧ ad1 = ad ∧ w1 = w ∧ (0 ≤ q ∧ q ≤ 1000000)) (gA ad w sz)) (gX D (fun E => E = xIA ∧ ¬ (0 ≤ q ∧ q ≤ 1000000)) ad w (gA ad w sz)) 1 6 (gA ad w sz) := by
  refine vx_ofW (cc := cX5_requireFlow) (maxL := 1) (ret := none) (by decide) rfl ?_
  intro p e s m args below meth c s₁ B hml hE hv
  obtain ⟨hav, hsz, hP, hD0, hK, hB, hZ⟩ := hv
  have hx := B.exec
  have hb := B.bytes
  have hret := B.returns
  have hts := atoms_spec (ws := wsX5_requireFlow) B.pre
  have hown : s.vm.findClass RX5 = some m.cls := findClass_of_methodNamed B.named
  have hlocks := B.notSynchronized
  subst hsz
  have hD := hD0.self (sz := s.heap.size)
  generalize hAe : gA ad w s.heap.size = A at hD hZ ⊢
  have hA : ∀ q : Nat, s.heap.size ≤ q → A q := fun q h => by rw [← hAe]; exact Or.inr h
  have hS : va_S A s.heap s.heap [] := va_S.rf
  have hxw_xIA_116 := hxwX5_requireFlow_xIA_116
  have he9 : entryFrame m args 1 = F0 m 0 ((lg_sl ([.int (iI q)] : List Value) ++ List.replicate (1 - (lg_sl ([.int (iI q)] : List Value)).length) Slot.unset).toArray) [] := by rw [hav, lg_entry_eq]
  rw [he9]
  have hl := lv_entry ([.int (iI q)] : List Value) (n := 1) (Nat.le_of_ble_eq_true rfl)
  generalize (lg_sl ([.int (iI q)] : List Value) ++ List.replicate (1 - (lg_sl ([.int (iI q)] : List Value)).length) Slot.unset).toArray = ls at hl ⊢
  have hl : lv_has ls 1 [(0, .int (iI q))] := hl
  obtain ⟨Q9, hQ9⟩ : ∃ z, z = vx_MQ below (gW D (fun v9 ad1 w1 => v9 = none ∧ ad1 = ad ∧ w1 = w ∧ (0 ≤ q ∧ q ≤ 1000000)) A) (gX D (fun E => E = xIA ∧ ¬ (0 ≤ q ∧ q ≤ 1000000)) ad w A) args s 1 6 A := ⟨_, rfl⟩
  rw [← hQ9]
  show W p l e rmX5_requireFlow s m args below meth c s.heap [] 0 0 Q9 (F0 m 0 ls [])
  obtain ⟨H, hHe⟩ : ∃ z, z = s.heap := ⟨_, rfl⟩
  obtain ⟨locs, hLe⟩ : ∃ z, z = ([] : List Loc) := ⟨_, rfl⟩
  have hP : gP D vwCl ad w H := by rw [hHe]; exact hP
  have hS : va_S A s.heap H locs := by rw [hHe, hLe]; exact va_S.rf
  rw [show W p l e rmX5_requireFlow s m args below meth c s.heap [] 0 0 Q9 (F0 m 0 ls []) = W p l e rmX5_requireFlow s m args below meth c H locs 0 0 Q9 (F0 m 0 ls []) by rw [hHe, hLe]]
  clear hHe hLe
  refine lv_iload_n (pc := 0) hx hb dX5_requireFlow_0 rfl (lv_at hl 0 rfl) ?_
  refine k_if_lt (pc := 1) (tgt := 11) hx hb ⟨by omega, by omega⟩ dX5_requireFlow_1 (by decide) (fun hc_1 => ?_) (fun hc_1 => ?_)
  · skip
    obtain ⟨sa_11, hsa_11⟩ := ns_265 hB
    rw [hQ9]
    exact vx_throwSW (pc := 11) (own := RX5) (cls := xIA) (names := ["java/lang/RuntimeException", "java/lang/Exception"]) (ik := 112) (is := 265) (ic := 116) (A := A) hx hb hl0 hown (by decide +kernel) (by decide +kernel) (hts (.classLink RX5 112 "java/lang/IllegalArgumentException") (by decide +kernel)) (hts (.initialized "java/lang/IllegalArgumentException") (by decide +kernel)) hsa_11 (gx_hat hB (E := xIA) (i := 0) rfl (fun w h => hts w (hxw_xIA_116 w h)) (by decide +kernel)) (by decide +kernel) hZ.1 hZ.2 hS (hl.1.trans hml.symm) dX5_requireFlow_11 dX5_requireFlow_14 dX5_requireFlow_15 dX5_requireFlow_18 dX5_requireFlow_21 (fun x h => (hE x h).elim) (Nat.le_of_ble_eq_true rfl) (Nat.le_of_ble_eq_true rfl) (Nat.le_of_ble_eq_true rfl) (Nat.le_of_ble_eq_true rfl) hlocks (fun t hW hz hk => ⟨⟨rfl, by omega⟩, fun r x hr => (hP r x hr).kept (hk _ (hP r x hr).lt), hD, Nat.le_trans hS.1 hz, fun q h1 h2 => (hk q (Nat.lt_of_lt_of_le h1 hS.1)).trans (hS.2.1 q h1 h2)⟩) hS.2.2 (Nat.le_of_ble_eq_true rfl) (Nat.le_of_ble_eq_true rfl)
  · skip
    refine lv_iload_n (pc := 4) hx hb dX5_requireFlow_4 rfl (lv_at hl 0 rfl) ?_
    refine k_ldcw (z := 1000000) (pc := 5) hx hb hown (hts (.constant RX5 264 (1000000)) (by decide +kernel)) (by decide +kernel) dX5_requireFlow_5 ?_
    refine k_icmp_le (pc := 8) (tgt := 22) hx hb ⟨by omega, by omega⟩ ⟨by omega, by omega⟩ dX5_requireFlow_8 (by decide) (fun hc_8 => ?_) (fun hc_8 => ?_)
    · skip
      rw [hQ9]
      refine vx_ret ?_
      refine W.widen (k := 1) (n := 6) (by decide) (by decide) ?_
      exact W.vret hx hb hret (fun t ht hW => ⟨⟨none, ad, w, rfl, ⟨rfl, rfl, rfl, by omega⟩, by rw [ht]; exact hP, hD⟩, hS.F ht⟩) hS.2.2 dX5_requireFlow_22
    · skip
      obtain ⟨sa_11, hsa_11⟩ := ns_265 hB
      rw [hQ9]
      exact vx_throwSW (pc := 11) (own := RX5) (cls := xIA) (names := ["java/lang/RuntimeException", "java/lang/Exception"]) (ik := 112) (is := 265) (ic := 116) (A := A) hx hb hl0 hown (by decide +kernel) (by decide +kernel) (hts (.classLink RX5 112 "java/lang/IllegalArgumentException") (by decide +kernel)) (hts (.initialized "java/lang/IllegalArgumentException") (by decide +kernel)) hsa_11 (gx_hat hB (E := xIA) (i := 0) rfl (fun w h => hts w (hxw_xIA_116 w h)) (by decide +kernel)) (by decide +kernel) hZ.1 hZ.2 hS (hl.1.trans hml.symm) dX5_requireFlow_11 dX5_requireFlow_14 dX5_requireFlow_15 dX5_requireFlow_18 dX5_requireFlow_21 (fun x h => (hE x h).elim) (Nat.le_of_ble_eq_true rfl) (Nat.le_of_ble_eq_true rfl) (Nat.le_of_ble_eq_true rfl) (Nat.le_of_ble_eq_true rfl) hlocks (fun t hW hz hk => ⟨⟨rfl, by omega⟩, fun r x hr => (hP r x hr).kept (hk _ (hP r x hr).lt), hD, Nat.le_trans hS.1 hz, fun q h1 h2 => (hk q (Nat.lt_of_lt_of_le h1 hS.1)).trans (hS.2.1 q h1 h2)⟩) hS.2.2 (Nat.le_of_ble_eq_true rfl) (Nat.le_of_ble_eq_true rfl)

abbrev rmX5_requireLimit : Room := { frames := 6, cells := 1, slots := 6, locals := 82 }
theorem hxwX5_requireLimit_xIA_116 : ∀ w ∈ (vx_atS RX5 116 xIA ["java/lang/RuntimeException", "java/lang/Exception"]).filter goodWord, w ∈ wsX5_requireLimit := by decide +kernel
set_option maxHeartbeats 4000000 in
set_option maxRecDepth 100000 in
theorem c_X5_requireLimit (l : Launch) (hl0 : l.stackTraces = false) (D : va_G) (cA : Nat → ClassId) (ad : Nat → Nat) (w : Nat → Option va_E) (sz : Nat) (q : Int) (h1 : (-9223372036854775808 ≤ q ∧ q < 9223372036854775808)) : vx_Met l yX5_requireLimit wsX5_requireLimit rmX5_requireLimit (gV D cA ad w sz [.long (lI q)]) (gW D (fun v9 ad1 w1 => v9 = none ∧ ad1 = ad ∧ w1 = w ∧ (0 ≤ q)) (gA ad w sz)) (gX D (fun E => E = xIA ∧ ¬ (0 ≤ q)) ad w (gA ad w sz)) 1 6 (gA ad w sz) := by
  refine vx_ofW (cc := cX5_requireLimit) (maxL := 2) (ret := none) (by decide) rfl ?_
  intro p e s m args below meth c s₁ B hml hE hv
  obtain ⟨hav, hsz, hP, hD0, hK, hB, hZ⟩ := hv
  have hx := B.exec
  have hb := B.bytes
  have hret := B.returns
  have hts := atoms_spec (ws := wsX5_requireLimit) B.pre
  have hown : s.vm.findClass RX5 = some m.cls := findClass_of_methodNamed B.named
  have hlocks := B.notSynchronized
  subst hsz
  have hD := hD0.self (sz := s.heap.size)
  generalize hAe : gA ad w s.heap.size = A at hD hZ ⊢
  have hA : ∀ q : Nat, s.heap.size ≤ q → A q := fun q h => by rw [← hAe]; exact Or.inr h
  have hS : va_S A s.heap s.heap [] := va_S.rf
  have hxw_xIA_116 := hxwX5_requireLimit_xIA_116
  have he9 : entryFrame m args 2 = F0 m 0 ((lg_sl ([.long (lI q)] : List Value) ++ List.replicate (2 - (lg_sl ([.long (lI q)] : List Value)).length) Slot.unset).toArray) [] := by rw [hav, lg_entry_eq]
  rw [he9]
  have hl := lv_entry ([.long (lI q)] : List Value) (n := 2) (Nat.le_of_ble_eq_true rfl)
  generalize (lg_sl ([.long (lI q)] : List Value) ++ List.replicate (2 - (lg_sl ([.long (lI q)] : List Value)).length) Slot.unset).toArray = ls at hl ⊢
  have hl : lv_has ls 2 [(0, .long (lI q))] := hl
  obtain ⟨Q9, hQ9⟩ : ∃ z, z = vx_MQ below (gW D (fun v9 ad1 w1 => v9 = none ∧ ad1 = ad ∧ w1 = w ∧ (0 ≤ q)) A) (gX D (fun E => E = xIA ∧ ¬ (0 ≤ q)) ad w A) args s 1 6 A := ⟨_, rfl⟩
  rw [← hQ9]
  show W p l e rmX5_requireLimit s m args below meth c s.heap [] 0 0 Q9 (F0 m 0 ls [])
  obtain ⟨H, hHe⟩ : ∃ z, z = s.heap := ⟨_, rfl⟩
  obtain ⟨locs, hLe⟩ : ∃ z, z = ([] : List Loc) := ⟨_, rfl⟩
  have hP : gP D vwCl ad w H := by rw [hHe]; exact hP
  have hS : va_S A s.heap H locs := by rw [hHe, hLe]; exact va_S.rf
  rw [show W p l e rmX5_requireLimit s m args below meth c s.heap [] 0 0 Q9 (F0 m 0 ls []) = W p l e rmX5_requireLimit s m args below meth c H locs 0 0 Q9 (F0 m 0 ls []) by rw [hHe, hLe]]
  clear hHe hLe
  refine lv_lload_n (pc := 0) hx hb dX5_requireLimit_0 rfl (lv_at hl 0 rfl) ?_
  refine k_lconst0 (pc := 1) hx hb dX5_requireLimit_1 ?_
  refine k_lcmp_ge (pc := 2) (tgt := 17) hx hb ⟨by omega, by omega⟩ ⟨by omega, by omega⟩ dX5_requireLimit_2 dX5_requireLimit_3 (by decide) (fun hc_2 => ?_) (fun hc_2 => ?_)
  · skip
    rw [hQ9]
    refine vx_ret ?_
    refine W.widen (k := 1) (n := 6) (by decide) (by decide) ?_
    exact W.vret hx hb hret (fun t ht hW => ⟨⟨none, ad, w, rfl, ⟨rfl, rfl, rfl, by omega⟩, by rw [ht]; exact hP, hD⟩, hS.F ht⟩) hS.2.2 dX5_requireLimit_17
  · skip
    obtain ⟨sa_6, hsa_6⟩ := ns_267 hB
    rw [hQ9]
    exact vx_throwSW (pc := 6) (own := RX5) (cls := xIA) (names := ["java/lang/RuntimeException", "java/lang/Exception"]) (ik := 112) (is := 267) (ic := 116) (A := A) hx hb hl0 hown (by decide +kernel) (by decide +kernel) (hts (.classLink RX5 112 "java/lang/IllegalArgumentException") (by decide +kernel)) (hts (.initialized "java/lang/IllegalArgumentException") (by decide +kernel)) hsa_6 (gx_hat hB (E := xIA) (i := 0) rfl (fun w h => hts w (hxw_xIA_116 w h)) (by decide +kernel)) (by decide +kernel) hZ.1 hZ.2 hS (hl.1.trans hml.symm) dX5_requireLimit_6 dX5_requireLimit_9 dX5_requireLimit_10 dX5_requireLimit_13 dX5_requireLimit_16 (fun x h => (hE x h).elim) (Nat.le_of_ble_eq_true rfl) (Nat.le_of_ble_eq_true rfl) (Nat.le_of_ble_eq_true rfl) (Nat.le_of_ble_eq_true rfl) hlocks (fun t hW hz hk => ⟨⟨rfl, by omega⟩, fun r x hr => (hP r x hr).kept (hk _ (hP r x hr).lt), hD, Nat.le_trans hS.1 hz, fun q h1 h2 => (hk q (Nat.lt_of_lt_of_le h1 hS.1)).trans (hS.2.1 q h1 h2)⟩) hS.2.2 (Nat.le_of_ble_eq_true rfl) (Nat.le_of_ble_eq_true rfl)

abbrev rmX5_requireSpan : Room := { frames := 7, cells := 2, slots := 12, locals := 102 }
theorem hxwX5_requireSpan_xIA_116 : ∀ w ∈ (vx_atS RX5 116 xIA ["java/lang/RuntimeException", "java/lang/Exception"]).filter goodWord, w ∈ wsX5_requireSpan := by decide +kernel
set_option maxHeartbeats 4000000 in
set_option maxRecDepth 100000 in
theorem c_X5_requireSpan (l : Launch) (hl0 : l.stackTraces = false) (D : va_G) (cA : Nat → ClassId) (ad : Nat → Nat) (w : Nat → Option va_E) (sz : Nat) (d n : Int) (h1 : (-2147483648 ≤ d ∧ d < 2147483648)) (h2 : (-2147483648 ≤ n ∧ n < 2147483648)) : vx_Met l yX5_requireSpan wsX5_requireSpan rmX5_requireSpan (gV D cA ad w sz [.int (iI d), .int (iI n)]) (gW D (fun v9 ad1 w1 => v9 = none ∧ ad1 = ad ∧ w1 = w ∧ (0 ≤ d ∧ d < 400 ∧ 1 ≤ n ∧ d + n ≤ 400)) (gA ad w sz)) (gX D (fun E => E = xIA ∧ ¬ (0 ≤ d ∧ d < 400 ∧ 1 ≤ n ∧ d + n ≤ 400)) ad w (gA ad w sz)) 2 12 (gA ad w sz) := by
  refine vx_ofW (cc := cX5_requireSpan) (maxL := 2) (ret := none) (by decide) rfl ?_
  intro p e s m args below meth c s₁ B hml hE hv
  obtain ⟨hav, hsz, hP, hD0, hK, hB, hZ⟩ := hv
  have hx := B.exec
  have hb := B.bytes
  have hret := B.returns
  have hts := atoms_spec (ws := wsX5_requireSpan) B.pre
  have hown : s.vm.findClass RX5 = some m.cls := findClass_of_methodNamed B.named
  have hlocks := B.notSynchronized
  subst hsz
  have hD := hD0.self (sz := s.heap.size)
  generalize hAe : gA ad w s.heap.size = A at hD hZ ⊢
  have hA : ∀ q : Nat, s.heap.size ≤ q → A q := fun q h => by rw [← hAe]; exact Or.inr h
  have hS : va_S A s.heap s.heap [] := va_S.rf
  have hxw_xIA_116 := hxwX5_requireSpan_xIA_116
  have he9 : entryFrame m args 2 = F0 m 0 ((lg_sl ([.int (iI d), .int (iI n)] : List Value) ++ List.replicate (2 - (lg_sl ([.int (iI d), .int (iI n)] : List Value)).length) Slot.unset).toArray) [] := by rw [hav, lg_entry_eq]
  rw [he9]
  have hl := lv_entry ([.int (iI d), .int (iI n)] : List Value) (n := 2) (Nat.le_of_ble_eq_true rfl)
  generalize (lg_sl ([.int (iI d), .int (iI n)] : List Value) ++ List.replicate (2 - (lg_sl ([.int (iI d), .int (iI n)] : List Value)).length) Slot.unset).toArray = ls at hl ⊢
  have hl : lv_has ls 2 [(0, .int (iI d)), (1, .int (iI n))] := hl
  obtain ⟨Q9, hQ9⟩ : ∃ z, z = vx_MQ below (gW D (fun v9 ad1 w1 => v9 = none ∧ ad1 = ad ∧ w1 = w ∧ (0 ≤ d ∧ d < 400 ∧ 1 ≤ n ∧ d + n ≤ 400)) A) (gX D (fun E => E = xIA ∧ ¬ (0 ≤ d ∧ d < 400 ∧ 1 ≤ n ∧ d + n ≤ 400)) ad w A) args s 2 12 A := ⟨_, rfl⟩
  rw [← hQ9]
  show W p l e rmX5_requireSpan s m args below meth c s.heap [] 0 0 Q9 (F0 m 0 ls [])
  obtain ⟨H, hHe⟩ : ∃ z, z = s.heap := ⟨_, rfl⟩
  obtain ⟨locs, hLe⟩ : ∃ z, z = ([] : List Loc) := ⟨_, rfl⟩
  have hP : gP D vwCl ad w H := by rw [hHe]; exact hP
  have hS : va_S A s.heap H locs := by rw [hHe, hLe]; exact va_S.rf
  rw [show W p l e rmX5_requireSpan s m args below meth c s.heap [] 0 0 Q9 (F0 m 0 ls []) = W p l e rmX5_requireSpan s m args below meth c H locs 0 0 Q9 (F0 m 0 ls []) by rw [hHe, hLe]]
  clear hHe hLe
  refine lv_iload_n (pc := 0) hx hb dX5_requireSpan_0 rfl (lv_at hl 0 rfl) ?_
  refine k_callx (pc := 1) (vx_runS (As := [.int (iI d)]) (rest := []) ⟨hx, hb, hml, hown, hts⟩ (c_X5_requireDay l hl0 D cA ad w H.size d ⟨by omega, by omega⟩) (va_cwS 1 hts gX5_requireSpan_X5_requireDay rfl rfl rfl (by decide +kernel) ⟨Nat.le_of_ble_eq_true rfl, Nat.le_of_ble_eq_true rfl⟩) (gV_S hP hD hK hB hS hA hZ) rfl rfl hl.1 rfl (lv_room (Nat.le_of_ble_eq_true rfl)) dX5_requireSpan_1 ⟨Nat.le_of_ble_eq_true rfl, Nat.le_of_ble_eq_true rfl⟩) hS (gA_sub hD hS hA) (fun E_1 ce_1 q_1 H locs hpx_1 hP hD hS hce_1 hcv_1 hcl_1 => ?_) (fun v_1 ad_1 w_1 H locs hv_1 hP hD hS => ?_)
  · skip
    rw [hQ9]
    exact vx_out (fun x h => (hE x h).elim) hlocks hce_1 hcv_1 hcl_1 (fun t ht hW => ⟨⟨hpx_1.1, by omega⟩, by rw [ht]; exact hP, hD, hS.F ht⟩) hS.2.2 (by decide) (by decide)
  · skip
    obtain ⟨hv1, hv2, hv3, hq_1⟩ := hv_1
    subst hv1
    rw [hv2, hv3] at hP hD
    refine W.eq (g2 := F0 m 4 ls []) rfl ?_
    refine W.cs (cells' := 1) (slots' := 6) rfl rfl ?_
    refine lv_iload_n (pc := 4) hx hb dX5_requireSpan_4 rfl (lv_at hl 1 rfl) ?_
    refine k_iconst (pc := 5) hx hb dX5_requireSpan_5 ?_
    refine k_icmp_lt (pc := 6) (tgt := 16) hx hb ⟨by omega, by omega⟩ ⟨by omega, by omega⟩ dX5_requireSpan_6 (by decide) (fun hc_6 => ?_) (fun hc_6 => ?_)
    · skip
      obtain ⟨sa_16, hsa_16⟩ := ns_252 hB
      rw [hQ9]
      exact vx_throwS (pc := 16) (own := RX5) (cls := xIA) (names := ["java/lang/RuntimeException", "java/lang/Exception"]) (ik := 112) (is := 252) (ic := 116) (A := A) hx hb hl0 hown (by decide +kernel) (by decide +kernel) (hts (.classLink RX5 112 "java/lang/IllegalArgumentException") (by decide +kernel)) (hts (.initialized "java/lang/IllegalArgumentException") (by decide +kernel)) hsa_16 (gx_hat hB (E := xIA) (i := 0) rfl (fun w h => hts w (hxw_xIA_116 w h)) (by decide +kernel)) (by decide +kernel) hZ.1 hZ.2 hS (hl.1.trans hml.symm) dX5_requireSpan_16 dX5_requireSpan_19 dX5_requireSpan_20 dX5_requireSpan_22 dX5_requireSpan_25 (fun x h => (hE x h).elim) (Nat.le_of_ble_eq_true rfl) (Nat.le_of_ble_eq_true rfl) (Nat.le_of_ble_eq_true rfl) (Nat.le_of_ble_eq_true rfl) hlocks (fun t hW hz hk => ⟨⟨rfl, by omega⟩, fun r x hr => (hP r x hr).kept (hk _ (hP r x hr).lt), hD, Nat.le_trans hS.1 hz, fun q h1 h2 => (hk q (Nat.lt_of_lt_of_le h1 hS.1)).trans (hS.2.1 q h1 h2)⟩) hS.2.2 (Nat.le_of_ble_eq_true rfl) (Nat.le_of_ble_eq_true rfl)
    · skip
      refine lv_iload_n (pc := 9) hx hb dX5_requireSpan_9 rfl (lv_at hl 1 rfl) ?_
      refine k_sipush (pc := 10) hx hb dX5_requireSpan_10 (by decide +kernel) ?_
      refine k_icmp_le (pc := 13) (tgt := 26) hx hb ⟨by omega, by omega⟩ ⟨by omega, by omega⟩ dX5_requireSpan_13 (by decide) (fun hc_13 => ?_) (fun hc_13 => ?_)
      · skip
        refine lv_iload_n (pc := 26) hx hb dX5_requireSpan_26 rfl (lv_at hl 0 rfl) ?_
        refine lv_iload_n (pc := 27) hx hb dX5_requireSpan_27 rfl (lv_at hl 1 rfl) ?_
        refine k_iadd (pc := 28) hx hb dX5_requireSpan_28 ?_
        refine k_sipush (pc := 29) hx hb dX5_requireSpan_29 (by decide +kernel) ?_
        refine k_icmp_le (pc := 32) (tgt := 45) hx hb ⟨by omega, by omega⟩ ⟨by omega, by omega⟩ dX5_requireSpan_32 (by decide) (fun hc_32 => ?_) (fun hc_32 => ?_)
        · skip
          rw [hQ9]
          refine vx_ret ?_
          refine W.widen (k := 2) (n := 12) (by decide) (by decide) ?_
          exact W.vret hx hb hret (fun t ht hW => ⟨⟨none, ad, w, rfl, ⟨rfl, rfl, rfl, by omega⟩, by rw [ht]; exact hP, hD⟩, hS.F ht⟩) hS.2.2 dX5_requireSpan_45
        · skip
          obtain ⟨sa_35, hsa_35⟩ := ns_254 hB
          rw [hQ9]
          exact vx_throwS (pc := 35) (own := RX5) (cls := xIA) (names := ["java/lang/RuntimeException", "java/lang/Exception"]) (ik := 112) (is := 254) (ic := 116) (A := A) hx hb hl0 hown (by decide +kernel) (by decide +kernel) (hts (.classLink RX5 112 "java/lang/IllegalArgumentException") (by decide +kernel)) (hts (.initialized "java/lang/IllegalArgumentException") (by decide +kernel)) hsa_35 (gx_hat hB (E := xIA) (i := 0) rfl (fun w h => hts w (hxw_xIA_116 w h)) (by decide +kernel)) (by decide +kernel) hZ.1 hZ.2 hS (hl.1.trans hml.symm) dX5_requireSpan_35 dX5_requireSpan_38 dX5_requireSpan_39 dX5_requireSpan_41 dX5_requireSpan_44 (fun x h => (hE x h).elim) (Nat.le_of_ble_eq_true rfl) (Nat.le_of_ble_eq_true rfl) (Nat.le_of_ble_eq_true rfl) (Nat.le_of_ble_eq_true rfl) hlocks (fun t hW hz hk => ⟨⟨rfl, by omega⟩, fun r x hr => (hP r x hr).kept (hk _ (hP r x hr).lt), hD, Nat.le_trans hS.1 hz, fun q h1 h2 => (hk q (Nat.lt_of_lt_of_le h1 hS.1)).trans (hS.2.1 q h1 h2)⟩) hS.2.2 (Nat.le_of_ble_eq_true rfl) (Nat.le_of_ble_eq_true rfl)
      · skip
        obtain ⟨sa_16, hsa_16⟩ := ns_252 hB
        rw [hQ9]
        exact vx_throwS (pc := 16) (own := RX5) (cls := xIA) (names := ["java/lang/RuntimeException", "java/lang/Exception"]) (ik := 112) (is := 252) (ic := 116) (A := A) hx hb hl0 hown (by decide +kernel) (by decide +kernel) (hts (.classLink RX5 112 "java/lang/IllegalArgumentException") (by decide +kernel)) (hts (.initialized "java/lang/IllegalArgumentException") (by decide +kernel)) hsa_16 (gx_hat hB (E := xIA) (i := 0) rfl (fun w h => hts w (hxw_xIA_116 w h)) (by decide +kernel)) (by decide +kernel) hZ.1 hZ.2 hS (hl.1.trans hml.symm) dX5_requireSpan_16 dX5_requireSpan_19 dX5_requireSpan_20 dX5_requireSpan_22 dX5_requireSpan_25 (fun x h => (hE x h).elim) (Nat.le_of_ble_eq_true rfl) (Nat.le_of_ble_eq_true rfl) (Nat.le_of_ble_eq_true rfl) (Nat.le_of_ble_eq_true rfl) hlocks (fun t hW hz hk => ⟨⟨rfl, by omega⟩, fun r x hr => (hP r x hr).kept (hk _ (hP r x hr).lt), hD, Nat.le_trans hS.1 hz, fun q h1 h2 => (hk q (Nat.lt_of_lt_of_le h1 hS.1)).trans (hS.2.1 q h1 h2)⟩) hS.2.2 (Nat.le_of_ble_eq_true rfl) (Nat.le_of_ble_eq_true rfl)

/-- how many of the places fr to fr + k - 1 aren't 0 -/
theorem cntT_0 (S : Int → Int) (fr : Int) : cntT S fr 0 = 0 := rfl

abbrev rmX5_countTrue : Room := { frames := 0, cells := 0, slots := 0, locals := 0 }
set_option maxHeartbeats 4000000 in
set_option maxRecDepth 100000 in
theorem c_X5_countTrue (l : Launch) (D : va_G) (cA : Nat → ClassId) (ad : Nat → Nat) (w : Nat → Option va_E) (r : Nat) (f : Int → Int) (fr n : Int) (hr : w r = some (eI (cA 1) 400 f)) (hf : ∀ j : Int, 0 ≤ f j ∧ f j ≤ 1) (hn : 0 ≤ fr ∧ 0 ≤ n ∧ fr + n ≤ 400) : Met l yX5_countTrue wsX5_countTrue rmX5_countTrue (gR D cA ad w [.ref (ad r), .int (iI fr), .int (iI n)]) (gR0 (fun v9 => ∃ z : Int, v9 = some (.int (iI z)) ∧ z = cntT f fr n.toNat ∧ 0 ≤ z ∧ z ≤ n)) 0 0 (fun _ => False) := by
  refine Met.ofW (cc := cX5_countTrue) (maxL := 5) (ret := (some .int)) (by decide) rfl ?_
  intro p e s m args below meth c s₁ B hml hv
  obtain ⟨hav, hP, hK, hB⟩ := hv
  have hx := B.exec
  have hb := B.bytes
  have hret := B.returns
  have hts := atoms_spec (ws := wsX5_countTrue) B.pre
  have hown : s.vm.findClass RX5 = some m.cls := findClass_of_methodNamed B.named
  have hlocks := B.notSynchronized
  have hS : va_S (fun _ => False) s.heap s.heap [] := va_S.rf
  have he9 : entryFrame m args 5 = F0 m 0 ((lg_sl ([.ref (ad r), .int (iI fr), .int (iI n)] : List Value) ++ List.replicate (5 - (lg_sl ([.ref (ad r), .int (iI fr), .int (iI n)] : List Value)).length) Slot.unset).toArray) [] := by rw [hav, lg_entry_eq]
  rw [he9]
  have hl := lv_entry ([.ref (ad r), .int (iI fr), .int (iI n)] : List Value) (n := 5) (Nat.le_of_ble_eq_true rfl)
  generalize (lg_sl ([.ref (ad r), .int (iI fr), .int (iI n)] : List Value) ++ List.replicate (5 - (lg_sl ([.ref (ad r), .int (iI fr), .int (iI n)] : List Value)).length) Slot.unset).toArray = ls at hl ⊢
  have hl : lv_has ls 5 [(0, .ref (ad r)), (1, .int (iI fr)), (2, .int (iI n))] := hl
  obtain ⟨Q9, hQ9⟩ : ∃ z, z = MQ below (gR0 (fun v9 => ∃ z : Int, v9 = some (.int (iI z)) ∧ z = cntT f fr n.toNat ∧ 0 ≤ z ∧ z ≤ n)) args s 0 0 (fun _ => False) := ⟨_, rfl⟩
  rw [← hQ9]
  show W p l e rmX5_countTrue s m args below meth c s.heap [] 0 0 Q9 (F0 m 0 ls [])
  refine k_iconst (pc := 0) hx hb dX5_countTrue_0 ?_
  refine lv_istore_n (pc := 1) (lv' := [(3, .int (iI 0)), (0, .ref (ad r)), (1, .int (iI fr)), (2, .int (iI n))]) hx hb dX5_countTrue_1 rfl hl (by decide) rfl (fun ls hl => ?_)
  refine lv_iload_n (pc := 2) hx hb dX5_countTrue_2 rfl (lv_at hl 2 rfl) ?_
  refine lv_istore (pc := 3) (lv' := [(4, .int (iI fr)), (3, .int (iI 0)), (0, .ref (ad r)), (1, .int (iI fr)), (2, .int (iI n))]) hx hb dX5_countTrue_3 hl (by decide) rfl (fun ls hl => ?_)
  have lp_5 : ∀ (N9 : Nat) (d : Int) (x : Int), (fr ≤ d ∧ d ≤ fr + n) → (x = cntT f fr (d - fr).toNat) → (fr + n - d).toNat < N9 → ∀ (ls : Array Slot), lv_has ls 5 [(4, .int (iI d)), (3, .int (iI x)), (0, .ref (ad r)), (1, .int (iI fr)), (2, .int (iI n))] → W p l e rmX5_countTrue s m args below meth c s.heap [] 0 0 Q9 (F0 m 5 ls []) := by
    intro N9
    induction N9 with
    | zero => intro d x i0 iC hmu; exact absurd hmu (Nat.not_lt_zero _)
    | succ N9 ih_5 =>
      intro d x i0 iC hmu_5 ls hl
      refine lv_iload (pc := 5) hx hb dX5_countTrue_5 (lv_at hl 0 rfl) ?_
      refine lv_iload_n (pc := 7) hx hb dX5_countTrue_7 rfl (lv_at hl 3 rfl) ?_
      refine lv_iload_n (pc := 8) hx hb dX5_countTrue_8 rfl (lv_at hl 4 rfl) ?_
      refine k_iadd (pc := 9) hx hb dX5_countTrue_9 ?_
      refine k_icmp_ge (pc := 10) (tgt := 36) hx hb ⟨by omega, by omega⟩ ⟨by omega, by omega⟩ dX5_countTrue_10 (by decide) (fun hc_10 => ?_) (fun hc_10 => ?_)
      · skip
        refine lv_iload_n (pc := 36) hx hb dX5_countTrue_36 rfl (lv_at hl 1 rfl) ?_
        have hcb := cntT_b f fr (d - fr).toNat
        have hdd : d - fr = n := by omega
        rw [hQ9]
        exact W.iret (v := iI x) hx hb hret (fun t ht hW => ⟨some (.int (iI x)), rfl, ⟨x, rfl, ⟨by rw [iC, hdd], by omega, by omega⟩⟩, ht⟩) (fun q hq => by cases hq) dX5_countTrue_37
      · skip
        refine lv_iload (pc := 13) hx hb dX5_countTrue_13 (lv_at hl 0 rfl) ?_
        refine lv_aload_n (pc := 15) hx hb dX5_countTrue_15 rfl (lv_at hl 2 rfl) ?_
        refine k_alen (pc := 16) (z := ((400 : Nat) : Int)) hx hb hK hP r 1 hr rfl rfl dX5_countTrue_16 ?_
        refine k_icmp_ge (pc := 17) (tgt := 36) hx hb ⟨by omega, by omega⟩ ⟨by omega, by omega⟩ dX5_countTrue_17 (by decide) (fun hc_17 => ?_) (fun hc_17 => ?_)
        · skip
          exfalso
          omega
        · skip
          refine lv_aload_n (pc := 20) hx hb dX5_countTrue_20 rfl (lv_at hl 2 rfl) ?_
          refine lv_iload (pc := 21) hx hb dX5_countTrue_21 (lv_at hl 0 rfl) ?_
          refine k_zald (pc := 23) hx hb hK hP r 1 hr rfl (by omega) (by omega) (by omega) dX5_countTrue_23 ?_
          have hq_23 := hf d
          refine k_if_eq (pc := 24) (tgt := 30) hx hb ⟨by omega, by omega⟩ dX5_countTrue_24 (by decide) (fun hc_24 => ?_) (fun hc_24 => ?_)
          · skip
            refine lv_iinc (pc := 30) (v := iI (d + 1)) (lv' := [(4, .int (iI (d + 1))), (3, .int (iI x)), (0, .ref (ad r)), (1, .int (iI fr)), (2, .int (iI n))]) hx hb dX5_countTrue_30 hl (k := 0) rfl (iI_add _ _) (by decide) rfl (fun ls hl => ?_)
            refine lv_goto (pc := 33) (tgt := 5) hx hb dX5_countTrue_33 (by decide) ?_
            exact ih_5 (d + 1) x (by omega) (by rw [cntT_s f (by omega)]; first | (rw [if_pos (by omega)]; omega) | (rw [if_neg (by omega)]; omega)) (by omega) ls (lv_sub hl [0, 1, 2, 3, 4] rfl)
          · skip
            refine lv_iinc (pc := 27) (v := iI (x + 1)) (lv' := [(3, .int (iI (x + 1))), (4, .int (iI d)), (0, .ref (ad r)), (1, .int (iI fr)), (2, .int (iI n))]) hx hb dX5_countTrue_27 hl (k := 1) rfl (iI_add _ _) (by decide) rfl (fun ls hl => ?_)
            refine lv_iinc (pc := 30) (v := iI (d + 1)) (lv' := [(4, .int (iI (d + 1))), (3, .int (iI (x + 1))), (0, .ref (ad r)), (1, .int (iI fr)), (2, .int (iI n))]) hx hb dX5_countTrue_30 hl (k := 1) rfl (iI_add _ _) (by decide) rfl (fun ls hl => ?_)
            refine lv_goto (pc := 33) (tgt := 5) hx hb dX5_countTrue_33 (by decide) ?_
            exact ih_5 (d + 1) (x + 1) (by omega) (by rw [cntT_s f (by omega)]; first | (rw [if_pos (by omega)]; omega) | (rw [if_neg (by omega)]; omega)) (by omega) ls (lv_sub hl [0, 1, 2, 3, 4] rfl)
  exact lp_5 _ fr 0 (by omega) (by rw [show (fr - fr).toNat = 0 by omega]; rfl) (Nat.lt_succ_self _) ls (lv_sub hl [0, 1, 2, 3, 4] rfl)


abbrev rmX5_state : Room := { frames := 7, cells := 1, slots := 6, locals := 113 }
theorem hiX5_state_5 : ∀ w ∈ wsX50, w ∈ wsX5_state := by decide +kernel
set_option maxHeartbeats 4000000 in
set_option maxRecDepth 100000 in
theorem c_X5_state (l : Launch) (hl0 : l.stackTraces = false) (D : va_G) (cA : Nat → ClassId) (ad : Nat → Nat) (w : Nat → Option va_E) (sz : Nat) (sc : Nat → Int) (fn : Nat → Int → Int) (hI : bkInv sc fn) (hbk : bookS cA ad w sc fn) (d : Int) (hd : (-2147483648 ≤ d ∧ d < 2147483648)) : vx_Met l yX5_state wsX5_state rmX5_state (gV D cA ad w sz [.ref (ad 0), .int (iI d)]) (gW D (fun v9 ad1 w1 => ∃ (sc2 : Nat → Int) (fn2 : Nat → Int → Int), bookS cA ad1 w1 sc2 fn2 ∧ bkInv sc2 fn2 ∧ keepR ad ad1 w w1 ∧ (sc2 = sc ∧ fn2 = fn ∧ 0 ≤ d ∧ d < 400 ∧ v9 = some (.int (iI (tbS sc fn d))))) (gA ad w sz)) (gX D (fun E => E = xIA ∧ ¬ (0 ≤ d ∧ d < 400)) ad w (gA ad w sz)) 1 6 (gA ad w sz) := by
  refine vx_ofW (cc := cX5_state) (maxL := 2) (ret := (some .int)) (by decide) rfl ?_
  intro p e s m args below meth c s₁ B hml hE hv
  obtain ⟨hav, hsz, hP, hD0, hK, hB, hZ⟩ := hv
  have hx := B.exec
  have hb := B.bytes
  have hret := B.returns
  have hts := atoms_spec (ws := wsX5_state) B.pre
  have hown : s.vm.findClass RX5 = some m.cls := findClass_of_methodNamed B.named
  have hlocks := B.notSynchronized
  subst hsz
  have hD := hD0.self (sz := s.heap.size)
  generalize hAe : gA ad w s.heap.size = A at hD hZ ⊢
  have hA : ∀ q : Nat, s.heap.size ≤ q → A q := fun q h => by rw [← hAe]; exact Or.inr h
  have hS : va_S A s.heap s.heap [] := va_S.rf
  have hi5 := hiX5_state_5
  have hf42 := hts (.fieldLink RX5 42 "GaugeBook" "table" "LGaugeBook$FlowTable;") (by decide +kernel)
  have he9 : entryFrame m args 2 = F0 m 0 ((lg_sl ([.ref (ad 0), .int (iI d)] : List Value) ++ List.replicate (2 - (lg_sl ([.ref (ad 0), .int (iI d)] : List Value)).length) Slot.unset).toArray) [] := by rw [hav, lg_entry_eq]
  rw [he9]
  have hl := lv_entry ([.ref (ad 0), .int (iI d)] : List Value) (n := 2) (Nat.le_of_ble_eq_true rfl)
  generalize (lg_sl ([.ref (ad 0), .int (iI d)] : List Value) ++ List.replicate (2 - (lg_sl ([.ref (ad 0), .int (iI d)] : List Value)).length) Slot.unset).toArray = ls at hl ⊢
  have hl : lv_has ls 2 [(0, .ref (ad 0)), (1, .int (iI d))] := hl
  obtain ⟨Q9, hQ9⟩ : ∃ z, z = vx_MQ below (gW D (fun v9 ad1 w1 => ∃ (sc2 : Nat → Int) (fn2 : Nat → Int → Int), bookS cA ad1 w1 sc2 fn2 ∧ bkInv sc2 fn2 ∧ keepR ad ad1 w w1 ∧ (sc2 = sc ∧ fn2 = fn ∧ 0 ≤ d ∧ d < 400 ∧ v9 = some (.int (iI (tbS sc fn d))))) A) (gX D (fun E => E = xIA ∧ ¬ (0 ≤ d ∧ d < 400)) ad w A) args s 1 6 A := ⟨_, rfl⟩
  rw [← hQ9]
  show W p l e rmX5_state s m args below meth c s.heap [] 0 0 Q9 (F0 m 0 ls [])
  obtain ⟨H, hHe⟩ : ∃ z, z = s.heap := ⟨_, rfl⟩
  obtain ⟨locs, hLe⟩ : ∃ z, z = ([] : List Loc) := ⟨_, rfl⟩
  have hP : gP D vwCl ad w H := by rw [hHe]; exact hP
  have hS : va_S A s.heap H locs := by rw [hHe, hLe]; exact va_S.rf
  rw [show W p l e rmX5_state s m args below meth c s.heap [] 0 0 Q9 (F0 m 0 ls []) = W p l e rmX5_state s m args below meth c H locs 0 0 Q9 (F0 m 0 ls []) by rw [hHe, hLe]]
  clear hHe hLe
  obtain ⟨rk, F, S, rn, rd, rm_, rz, ⟨h0, h1, h2, h3, h4, h5, h6, h7, h8, h9, h10, h11, h12, h13, h14, h15, hcv, hms⟩, hrk, hF, hS9⟩ := hbk
  have hI1 := hI.1
  refine lv_iload_n (pc := 0) hx hb dX5_state_0 rfl (lv_at hl 1 rfl) ?_
  refine k_callx (pc := 1) (vx_runS (As := [.int (iI d)]) (rest := []) ⟨hx, hb, hml, hown, hts⟩ (c_X5_requireDay l hl0 D cA ad w H.size d ⟨by omega, by omega⟩) (va_cwS 1 hts gX5_state_X5_requireDay rfl rfl rfl (by decide +kernel) ⟨Nat.le_of_ble_eq_true rfl, Nat.le_of_ble_eq_true rfl⟩) (gV_S hP hD hK hB hS hA hZ) rfl rfl hl.1 rfl (lv_room (Nat.le_of_ble_eq_true rfl)) dX5_state_1 ⟨Nat.le_of_ble_eq_true rfl, Nat.le_of_ble_eq_true rfl⟩) hS (gA_sub hD hS hA) (fun E_1 ce_1 q_1 H locs hpx_1 hP hD hS hce_1 hcv_1 hcl_1 => ?_) (fun v_1 ad_1 w_1 H locs hv_1 hP hD hS => ?_)
  · skip
    rw [hQ9]
    exact vx_out (fun x h => (hE x h).elim) hlocks hce_1 hcv_1 hcl_1 (fun t ht hW => ⟨hpx_1, by rw [ht]; exact hP, hD, hS.F ht⟩) hS.2.2 (by decide) (by decide)
  · skip
    obtain ⟨hv1, hv2, hv3, hq_1⟩ := hv_1
    subst hv1
    rw [hv2, hv3] at hP hD
    refine W.eq (g2 := F0 m 4 ls []) rfl ?_
    refine W.cs (cells' := 1) (slots' := 6) rfl rfl ?_
    refine lv_aload_n (pc := 4) hx hb dX5_state_4 rfl (lv_at hl 0 rfl) ?_
    refine k_call1 (pc := 5) (va_runV (As := []) (rest := []) ⟨hx, hb, hml, hown, hts⟩ (c_X5_reckon l D cA ad w H.size sc fn rk F S hI h0 h1 h2 h3 h4 h5 h6 h7 h9 h10 h11 hcv hF hS9 hrk) (cwV 0 hts gX5_state_X5_reckon rfl rfl rfl (by decide +kernel) ⟨Nat.le_of_ble_eq_true rfl, Nat.le_of_ble_eq_true rfl⟩) (gV_V hP hD hK hB hS hA hZ 0 (ci := 5) rfl h0) rfl rfl hl.1 rfl (lv_room (Nat.le_of_ble_eq_true rfl)) dX5_state_5 ⟨Nat.le_of_ble_eq_true rfl, Nat.le_of_ble_eq_true rfl⟩) hS (gA_sub hD hS hA) (fun v_5 ad_5 w_5 H locs hv_5 hP hD hS => ?_)
    obtain ⟨hv1, hv2, hv3⟩ := hv_5
    subst hv1
    rw [hv2, hv3] at hP hD
    refine W.eq (g2 := F0 m 8 ls []) rfl ?_
    refine W.cs (cells' := 1) (slots' := 6) rfl rfl ?_
    refine lv_aload_n (pc := 8) hx hb dX5_state_8 rfl (lv_at hl 0 rfl) ?_
    refine k_get (pc := 9) (ci := 5) (C := RX5) (T := TX5) (N := 13) hx hb hts hi5 hown hK hP 0 (up_s _ _ _) rfl 6 (by decide) hf42 (fun _ h9 => h9) rfl dX5_state_9 ?_
    refine lv_iload_n (pc := 12) hx hb dX5_state_12 rfl (lv_at hl 1 rfl) ?_
    refine k_call0 (pc := 13) (va_runV (As := [.int (iI d)]) (rest := []) ⟨hx, hb, hml, hown, hts⟩ (c_X1_stateOn l D cA ad (up (up (up w 10 (eJ (cA 2) 400 (tbF sc fn))) 11 (eI (cA 0) 400 (tbS sc fn))) 0 (oB 5 [.ref (ad 1), .ref (ad 2), .ref (ad 5), .ref (ad 6), .ref (ad 7), .ref (ad 8), .ref (ad 9), .ref (ad 12), .int (iI (sc 0)), .int (iI (sc 4)), .int (iI (sc 2)), .int (iI (sc 3)), .int (iI 1)])) 9 10 11 (tbF sc fn) (tbS sc fn) (up_n (by decide) (up_n (by decide) (up_n (by decide) h9))) (up_n (by decide) (up_n (by decide) (up_s _ _ _))) (up_n (by decide) (up_s _ _ _)) (tbOk_tb hI).1 (tbOk_tb hI).2.1 d ⟨by omega, by omega⟩) (cwV 1 hts gX5_state_X1_stateOn rfl rfl rfl (by decide +kernel) ⟨Nat.le_of_ble_eq_true rfl, Nat.le_of_ble_eq_true rfl⟩) (gR_V hP hK hB 9 (ci := 1) rfl (up_n (by decide) (up_n (by decide) (up_n (by decide) h9)))) rfl rfl hl.1 rfl (lv_room (Nat.le_of_ble_eq_true rfl)) dX5_state_13 ⟨Nat.le_of_ble_eq_true rfl, Nat.le_of_ble_eq_true rfl⟩) (fun v_13 hv_13 => ?_)
    obtain ⟨z_13, rfl, hz_13⟩ := hv_13
    have hb_13 := (tbOk_tb hI).2.1 d
    refine W.eq (g2 := F0 m 16 ls [.int (iI z_13)]) rfl ?_
    have he_16 : z_13 = tbS sc fn d := by omega
    rw [he_16]
    rw [hQ9]
    refine vx_ret ?_
    exact W.iret (v := iI (tbS sc fn d)) hx hb hret (fun t ht hW => ⟨⟨some (.int (iI (tbS sc fn d))), ad, (up (up (up w 10 (eJ (cA 2) 400 (tbF sc fn))) 11 (eI (cA 0) 400 (tbS sc fn))) 0 (oB 5 [.ref (ad 1), .ref (ad 2), .ref (ad 5), .ref (ad 6), .ref (ad 7), .ref (ad 8), .ref (ad 9), .ref (ad 12), .int (iI (sc 0)), .int (iI (sc 4)), .int (iI (sc 2)), .int (iI (sc 3)), .int (iI 1)])), rfl, ⟨sc, fn, ⟨1, (tbF sc fn), (tbS sc fn), rn, rd, rm_, rz, ⟨(up_s _ _ _), (up_n (by decide) (up_n (by decide) (up_n (by decide) h1))), (up_n (by decide) (up_n (by decide) (up_n (by decide) h2))), (up_n (by decide) (up_n (by decide) (up_n (by decide) h3))), (up_n (by decide) (up_n (by decide) (up_n (by decide) h4))), (up_n (by decide) (up_n (by decide) (up_n (by decide) h5))), (up_n (by decide) (up_n (by decide) (up_n (by decide) h6))), (up_n (by decide) (up_n (by decide) (up_n (by decide) h7))), (up_n (by decide) (up_n (by decide) (up_n (by decide) h8))), (up_n (by decide) (up_n (by decide) (up_n (by decide) h9))), (up_n (by decide) (up_n (by decide) (up_s _ _ _))), (up_n (by decide) (up_s _ _ _)), (up_n (by decide) (up_n (by decide) (up_n (by decide) h12))), (up_n (by decide) (up_n (by decide) (up_n (by decide) h13))), (up_n (by decide) (up_n (by decide) (up_n (by decide) h14))), (up_n (by decide) (up_n (by decide) (up_n (by decide) h15))), (fun k9 hk9 => by have h9_ := hcv k9 hk9; have i9_ := hI.1.1; exact ⟨(up_n (by omega) (up_n (by omega) (up_n (by omega) h9_.1))), (up_n (by omega) (up_n (by omega) (up_n (by omega) h9_.2.1))), (up_n (by omega) (up_n (by omega) (up_n (by omega) h9_.2.2)))⟩), (fun k9 hk9 => by have h9_ := hms k9 hk9; have i9_ := hI.1.2.2.2.2; exact (up_n (by omega) (up_n (by omega) (up_n (by omega) h9_))))⟩, (Or.inr ⟨rfl, rfl, rfl⟩), (tbOk_tb hI).1, (tbOk_tb hI).2.1⟩, hI, ⟨rfl, fun r hr => ⟨(up_n (by omega) (up_n (by omega) (up_n (by omega) rfl))), rfl⟩⟩, ⟨rfl, rfl, by omega, by omega, rfl⟩⟩, by rw [ht]; exact hP, hD⟩, hS.F ht⟩) hS.2.2 dX5_state_16

abbrev rmX5_flow : Room := { frames := 7, cells := 1, slots := 6, locals := 113 }
theorem hiX5_flow_5 : ∀ w ∈ wsX50, w ∈ wsX5_flow := by decide +kernel
set_option maxHeartbeats 4000000 in
set_option maxRecDepth 100000 in
theorem c_X5_flow (l : Launch) (hl0 : l.stackTraces = false) (D : va_G) (cA : Nat → ClassId) (ad : Nat → Nat) (w : Nat → Option va_E) (sz : Nat) (sc : Nat → Int) (fn : Nat → Int → Int) (hI : bkInv sc fn) (hbk : bookS cA ad w sc fn) (d : Int) (hd : (-2147483648 ≤ d ∧ d < 2147483648)) : vx_Met l yX5_flow wsX5_flow rmX5_flow (gV D cA ad w sz [.ref (ad 0), .int (iI d)]) (gW D (fun v9 ad1 w1 => ∃ (sc2 : Nat → Int) (fn2 : Nat → Int → Int), bookS cA ad1 w1 sc2 fn2 ∧ bkInv sc2 fn2 ∧ keepR ad ad1 w w1 ∧ (sc2 = sc ∧ fn2 = fn ∧ 0 ≤ d ∧ d < 400 ∧ v9 = some (.long (lI (tbF sc fn d))))) (gA ad w sz)) (gX D (fun E => E = xIA ∧ ¬ (0 ≤ d ∧ d < 400)) ad w (gA ad w sz)) 1 6 (gA ad w sz) := by
  refine vx_ofW (cc := cX5_flow) (maxL := 2) (ret := (some .long)) (by decide) rfl ?_
  intro p e s m args below meth c s₁ B hml hE hv
  obtain ⟨hav, hsz, hP, hD0, hK, hB, hZ⟩ := hv
  have hx := B.exec
  have hb := B.bytes
  have hret := B.returns
  have hts := atoms_spec (ws := wsX5_flow) B.pre
  have hown : s.vm.findClass RX5 = some m.cls := findClass_of_methodNamed B.named
  have hlocks := B.notSynchronized
  subst hsz
  have hD := hD0.self (sz := s.heap.size)
  generalize hAe : gA ad w s.heap.size = A at hD hZ ⊢
  have hA : ∀ q : Nat, s.heap.size ≤ q → A q := fun q h => by rw [← hAe]; exact Or.inr h
  have hS : va_S A s.heap s.heap [] := va_S.rf
  have hi5 := hiX5_flow_5
  have hf42 := hts (.fieldLink RX5 42 "GaugeBook" "table" "LGaugeBook$FlowTable;") (by decide +kernel)
  have he9 : entryFrame m args 2 = F0 m 0 ((lg_sl ([.ref (ad 0), .int (iI d)] : List Value) ++ List.replicate (2 - (lg_sl ([.ref (ad 0), .int (iI d)] : List Value)).length) Slot.unset).toArray) [] := by rw [hav, lg_entry_eq]
  rw [he9]
  have hl := lv_entry ([.ref (ad 0), .int (iI d)] : List Value) (n := 2) (Nat.le_of_ble_eq_true rfl)
  generalize (lg_sl ([.ref (ad 0), .int (iI d)] : List Value) ++ List.replicate (2 - (lg_sl ([.ref (ad 0), .int (iI d)] : List Value)).length) Slot.unset).toArray = ls at hl ⊢
  have hl : lv_has ls 2 [(0, .ref (ad 0)), (1, .int (iI d))] := hl
  obtain ⟨Q9, hQ9⟩ : ∃ z, z = vx_MQ below (gW D (fun v9 ad1 w1 => ∃ (sc2 : Nat → Int) (fn2 : Nat → Int → Int), bookS cA ad1 w1 sc2 fn2 ∧ bkInv sc2 fn2 ∧ keepR ad ad1 w w1 ∧ (sc2 = sc ∧ fn2 = fn ∧ 0 ≤ d ∧ d < 400 ∧ v9 = some (.long (lI (tbF sc fn d))))) A) (gX D (fun E => E = xIA ∧ ¬ (0 ≤ d ∧ d < 400)) ad w A) args s 1 6 A := ⟨_, rfl⟩
  rw [← hQ9]
  show W p l e rmX5_flow s m args below meth c s.heap [] 0 0 Q9 (F0 m 0 ls [])
  obtain ⟨H, hHe⟩ : ∃ z, z = s.heap := ⟨_, rfl⟩
  obtain ⟨locs, hLe⟩ : ∃ z, z = ([] : List Loc) := ⟨_, rfl⟩
  have hP : gP D vwCl ad w H := by rw [hHe]; exact hP
  have hS : va_S A s.heap H locs := by rw [hHe, hLe]; exact va_S.rf
  rw [show W p l e rmX5_flow s m args below meth c s.heap [] 0 0 Q9 (F0 m 0 ls []) = W p l e rmX5_flow s m args below meth c H locs 0 0 Q9 (F0 m 0 ls []) by rw [hHe, hLe]]
  clear hHe hLe
  obtain ⟨rk, F, S, rn, rd, rm_, rz, ⟨h0, h1, h2, h3, h4, h5, h6, h7, h8, h9, h10, h11, h12, h13, h14, h15, hcv, hms⟩, hrk, hF, hS9⟩ := hbk
  have hI1 := hI.1
  refine lv_iload_n (pc := 0) hx hb dX5_flow_0 rfl (lv_at hl 1 rfl) ?_
  refine k_callx (pc := 1) (vx_runS (As := [.int (iI d)]) (rest := []) ⟨hx, hb, hml, hown, hts⟩ (c_X5_requireDay l hl0 D cA ad w H.size d ⟨by omega, by omega⟩) (va_cwS 1 hts gX5_flow_X5_requireDay rfl rfl rfl (by decide +kernel) ⟨Nat.le_of_ble_eq_true rfl, Nat.le_of_ble_eq_true rfl⟩) (gV_S hP hD hK hB hS hA hZ) rfl rfl hl.1 rfl (lv_room (Nat.le_of_ble_eq_true rfl)) dX5_flow_1 ⟨Nat.le_of_ble_eq_true rfl, Nat.le_of_ble_eq_true rfl⟩) hS (gA_sub hD hS hA) (fun E_1 ce_1 q_1 H locs hpx_1 hP hD hS hce_1 hcv_1 hcl_1 => ?_) (fun v_1 ad_1 w_1 H locs hv_1 hP hD hS => ?_)
  · skip
    rw [hQ9]
    exact vx_out (fun x h => (hE x h).elim) hlocks hce_1 hcv_1 hcl_1 (fun t ht hW => ⟨hpx_1, by rw [ht]; exact hP, hD, hS.F ht⟩) hS.2.2 (by decide) (by decide)
  · skip
    obtain ⟨hv1, hv2, hv3, hq_1⟩ := hv_1
    subst hv1
    rw [hv2, hv3] at hP hD
    refine W.eq (g2 := F0 m 4 ls []) rfl ?_
    refine W.cs (cells' := 1) (slots' := 6) rfl rfl ?_
    refine lv_aload_n (pc := 4) hx hb dX5_flow_4 rfl (lv_at hl 0 rfl) ?_
    refine k_call1 (pc := 5) (va_runV (As := []) (rest := []) ⟨hx, hb, hml, hown, hts⟩ (c_X5_reckon l D cA ad w H.size sc fn rk F S hI h0 h1 h2 h3 h4 h5 h6 h7 h9 h10 h11 hcv hF hS9 hrk) (cwV 0 hts gX5_flow_X5_reckon rfl rfl rfl (by decide +kernel) ⟨Nat.le_of_ble_eq_true rfl, Nat.le_of_ble_eq_true rfl⟩) (gV_V hP hD hK hB hS hA hZ 0 (ci := 5) rfl h0) rfl rfl hl.1 rfl (lv_room (Nat.le_of_ble_eq_true rfl)) dX5_flow_5 ⟨Nat.le_of_ble_eq_true rfl, Nat.le_of_ble_eq_true rfl⟩) hS (gA_sub hD hS hA) (fun v_5 ad_5 w_5 H locs hv_5 hP hD hS => ?_)
    obtain ⟨hv1, hv2, hv3⟩ := hv_5
    subst hv1
    rw [hv2, hv3] at hP hD
    refine W.eq (g2 := F0 m 8 ls []) rfl ?_
    refine W.cs (cells' := 1) (slots' := 6) rfl rfl ?_
    refine lv_aload_n (pc := 8) hx hb dX5_flow_8 rfl (lv_at hl 0 rfl) ?_
    refine k_get (pc := 9) (ci := 5) (C := RX5) (T := TX5) (N := 13) hx hb hts hi5 hown hK hP 0 (up_s _ _ _) rfl 6 (by decide) hf42 (fun _ h9 => h9) rfl dX5_flow_9 ?_
    refine lv_iload_n (pc := 12) hx hb dX5_flow_12 rfl (lv_at hl 1 rfl) ?_
    refine k_call0 (pc := 13) (va_runV (As := [.int (iI d)]) (rest := []) ⟨hx, hb, hml, hown, hts⟩ (c_X1_flowOn l D cA ad (up (up (up w 10 (eJ (cA 2) 400 (tbF sc fn))) 11 (eI (cA 0) 400 (tbS sc fn))) 0 (oB 5 [.ref (ad 1), .ref (ad 2), .ref (ad 5), .ref (ad 6), .ref (ad 7), .ref (ad 8), .ref (ad 9), .ref (ad 12), .int (iI (sc 0)), .int (iI (sc 4)), .int (iI (sc 2)), .int (iI (sc 3)), .int (iI 1)])) 9 10 11 (tbF sc fn) (tbS sc fn) (up_n (by decide) (up_n (by decide) (up_n (by decide) h9))) (up_n (by decide) (up_n (by decide) (up_s _ _ _))) (up_n (by decide) (up_s _ _ _)) (tbOk_tb hI).1 (tbOk_tb hI).2.1 d ⟨by omega, by omega⟩) (cwV 1 hts gX5_flow_X1_flowOn rfl rfl rfl (by decide +kernel) ⟨Nat.le_of_ble_eq_true rfl, Nat.le_of_ble_eq_true rfl⟩) (gR_V hP hK hB 9 (ci := 1) rfl (up_n (by decide) (up_n (by decide) (up_n (by decide) h9)))) rfl rfl hl.1 rfl (lv_room (Nat.le_of_ble_eq_true rfl)) dX5_flow_13 ⟨Nat.le_of_ble_eq_true rfl, Nat.le_of_ble_eq_true rfl⟩) (fun v_13 hv_13 => ?_)
    obtain ⟨z_13, rfl, hz_13⟩ := hv_13
    have hb_13 := (tbOk_tb hI).1 d
    refine W.eq (g2 := F0 m 16 ls [.long (lI z_13)]) rfl ?_
    have he_16 : z_13 = tbF sc fn d := by omega
    rw [he_16]
    rw [hQ9]
    refine vx_ret ?_
    exact W.lret (v := lI (tbF sc fn d)) hx hb hret (fun t ht hW => ⟨⟨some (.long (lI (tbF sc fn d))), ad, (up (up (up w 10 (eJ (cA 2) 400 (tbF sc fn))) 11 (eI (cA 0) 400 (tbS sc fn))) 0 (oB 5 [.ref (ad 1), .ref (ad 2), .ref (ad 5), .ref (ad 6), .ref (ad 7), .ref (ad 8), .ref (ad 9), .ref (ad 12), .int (iI (sc 0)), .int (iI (sc 4)), .int (iI (sc 2)), .int (iI (sc 3)), .int (iI 1)])), rfl, ⟨sc, fn, ⟨1, (tbF sc fn), (tbS sc fn), rn, rd, rm_, rz, ⟨(up_s _ _ _), (up_n (by decide) (up_n (by decide) (up_n (by decide) h1))), (up_n (by decide) (up_n (by decide) (up_n (by decide) h2))), (up_n (by decide) (up_n (by decide) (up_n (by decide) h3))), (up_n (by decide) (up_n (by decide) (up_n (by decide) h4))), (up_n (by decide) (up_n (by decide) (up_n (by decide) h5))), (up_n (by decide) (up_n (by decide) (up_n (by decide) h6))), (up_n (by decide) (up_n (by decide) (up_n (by decide) h7))), (up_n (by decide) (up_n (by decide) (up_n (by decide) h8))), (up_n (by decide) (up_n (by decide) (up_n (by decide) h9))), (up_n (by decide) (up_n (by decide) (up_s _ _ _))), (up_n (by decide) (up_s _ _ _)), (up_n (by decide) (up_n (by decide) (up_n (by decide) h12))), (up_n (by decide) (up_n (by decide) (up_n (by decide) h13))), (up_n (by decide) (up_n (by decide) (up_n (by decide) h14))), (up_n (by decide) (up_n (by decide) (up_n (by decide) h15))), (fun k9 hk9 => by have h9_ := hcv k9 hk9; have i9_ := hI.1.1; exact ⟨(up_n (by omega) (up_n (by omega) (up_n (by omega) h9_.1))), (up_n (by omega) (up_n (by omega) (up_n (by omega) h9_.2.1))), (up_n (by omega) (up_n (by omega) (up_n (by omega) h9_.2.2)))⟩), (fun k9 hk9 => by have h9_ := hms k9 hk9; have i9_ := hI.1.2.2.2.2; exact (up_n (by omega) (up_n (by omega) (up_n (by omega) h9_))))⟩, (Or.inr ⟨rfl, rfl, rfl⟩), (tbOk_tb hI).1, (tbOk_tb hI).2.1⟩, hI, ⟨rfl, fun r hr => ⟨(up_n (by omega) (up_n (by omega) (up_n (by omega) rfl))), rfl⟩⟩, ⟨rfl, rfl, by omega, by omega, rfl⟩⟩, by rw [ht]; exact hP, hD⟩, hS.F ht⟩) hS.2.2 dX5_flow_16

abbrev rmX5_shift : Room := { frames := 7, cells := 1, slots := 6, locals := 102 }
theorem hiX5_shift_5 : ∀ w ∈ wsX50, w ∈ wsX5_shift := by decide +kernel
set_option maxHeartbeats 4000000 in
set_option maxRecDepth 100000 in
theorem c_X5_shift (l : Launch) (hl0 : l.stackTraces = false) (D : va_G) (cA : Nat → ClassId) (ad : Nat → Nat) (w : Nat → Option va_E) (sz : Nat) (sc : Nat → Int) (fn : Nat → Int → Int) (hI : bkInv sc fn) (hbk : bookS cA ad w sc fn) (d : Int) (hd : (-2147483648 ≤ d ∧ d < 2147483648)) : vx_Met l yX5_shift wsX5_shift rmX5_shift (gV D cA ad w sz [.ref (ad 0), .int (iI d)]) (gW D (fun v9 ad1 w1 => ∃ (sc2 : Nat → Int) (fn2 : Nat → Int → Int), bookS cA ad1 w1 sc2 fn2 ∧ bkInv sc2 fn2 ∧ keepR ad ad1 w w1 ∧ (sc2 = sc ∧ fn2 = fn ∧ 0 ≤ d ∧ d < 400 ∧ v9 = some (.int (iI (sftF (fn 0) (fn 1) (sc 1) d))))) (gA ad w sz)) (gX D (fun E => E = xIA ∧ ¬ (0 ≤ d ∧ d < 400)) ad w (gA ad w sz)) 1 6 (gA ad w sz) := by
  refine vx_ofW (cc := cX5_shift) (maxL := 2) (ret := (some .int)) (by decide) rfl ?_
  intro p e s m args below meth c s₁ B hml hE hv
  obtain ⟨hav, hsz, hP, hD0, hK, hB, hZ⟩ := hv
  have hx := B.exec
  have hb := B.bytes
  have hret := B.returns
  have hts := atoms_spec (ws := wsX5_shift) B.pre
  have hown : s.vm.findClass RX5 = some m.cls := findClass_of_methodNamed B.named
  have hlocks := B.notSynchronized
  subst hsz
  have hD := hD0.self (sz := s.heap.size)
  generalize hAe : gA ad w s.heap.size = A at hD hZ ⊢
  have hA : ∀ q : Nat, s.heap.size ≤ q → A q := fun q h => by rw [← hAe]; exact Or.inr h
  have hS : va_S A s.heap s.heap [] := va_S.rf
  have hi5 := hiX5_shift_5
  have hf18 := hts (.fieldLink RX5 18 "GaugeBook" "shifts" "LGaugeBook$Shifts;") (by decide +kernel)
  have he9 : entryFrame m args 2 = F0 m 0 ((lg_sl ([.ref (ad 0), .int (iI d)] : List Value) ++ List.replicate (2 - (lg_sl ([.ref (ad 0), .int (iI d)] : List Value)).length) Slot.unset).toArray) [] := by rw [hav, lg_entry_eq]
  rw [he9]
  have hl := lv_entry ([.ref (ad 0), .int (iI d)] : List Value) (n := 2) (Nat.le_of_ble_eq_true rfl)
  generalize (lg_sl ([.ref (ad 0), .int (iI d)] : List Value) ++ List.replicate (2 - (lg_sl ([.ref (ad 0), .int (iI d)] : List Value)).length) Slot.unset).toArray = ls at hl ⊢
  have hl : lv_has ls 2 [(0, .ref (ad 0)), (1, .int (iI d))] := hl
  obtain ⟨Q9, hQ9⟩ : ∃ z, z = vx_MQ below (gW D (fun v9 ad1 w1 => ∃ (sc2 : Nat → Int) (fn2 : Nat → Int → Int), bookS cA ad1 w1 sc2 fn2 ∧ bkInv sc2 fn2 ∧ keepR ad ad1 w w1 ∧ (sc2 = sc ∧ fn2 = fn ∧ 0 ≤ d ∧ d < 400 ∧ v9 = some (.int (iI (sftF (fn 0) (fn 1) (sc 1) d))))) A) (gX D (fun E => E = xIA ∧ ¬ (0 ≤ d ∧ d < 400)) ad w A) args s 1 6 A := ⟨_, rfl⟩
  rw [← hQ9]
  show W p l e rmX5_shift s m args below meth c s.heap [] 0 0 Q9 (F0 m 0 ls [])
  obtain ⟨H, hHe⟩ : ∃ z, z = s.heap := ⟨_, rfl⟩
  obtain ⟨locs, hLe⟩ : ∃ z, z = ([] : List Loc) := ⟨_, rfl⟩
  have hP : gP D vwCl ad w H := by rw [hHe]; exact hP
  have hS : va_S A s.heap H locs := by rw [hHe, hLe]; exact va_S.rf
  rw [show W p l e rmX5_shift s m args below meth c s.heap [] 0 0 Q9 (F0 m 0 ls []) = W p l e rmX5_shift s m args below meth c H locs 0 0 Q9 (F0 m 0 ls []) by rw [hHe, hLe]]
  clear hHe hLe
  obtain ⟨rk, F, S, rn, rd, rm_, rz, ⟨h0, h1, h2, h3, h4, h5, h6, h7, h8, h9, h10, h11, h12, h13, h14, h15, hcv, hms⟩, hrk, hF, hS9⟩ := hbk
  have hI1 := hI.1
  refine lv_iload_n (pc := 0) hx hb dX5_shift_0 rfl (lv_at hl 1 rfl) ?_
  refine k_callx (pc := 1) (vx_runS (As := [.int (iI d)]) (rest := []) ⟨hx, hb, hml, hown, hts⟩ (c_X5_requireDay l hl0 D cA ad w H.size d ⟨by omega, by omega⟩) (va_cwS 1 hts gX5_shift_X5_requireDay rfl rfl rfl (by decide +kernel) ⟨Nat.le_of_ble_eq_true rfl, Nat.le_of_ble_eq_true rfl⟩) (gV_S hP hD hK hB hS hA hZ) rfl rfl hl.1 rfl (lv_room (Nat.le_of_ble_eq_true rfl)) dX5_shift_1 ⟨Nat.le_of_ble_eq_true rfl, Nat.le_of_ble_eq_true rfl⟩) hS (gA_sub hD hS hA) (fun E_1 ce_1 q_1 H locs hpx_1 hP hD hS hce_1 hcv_1 hcl_1 => ?_) (fun v_1 ad_1 w_1 H locs hv_1 hP hD hS => ?_)
  · skip
    rw [hQ9]
    exact vx_out (fun x h => (hE x h).elim) hlocks hce_1 hcv_1 hcl_1 (fun t ht hW => ⟨hpx_1, by rw [ht]; exact hP, hD, hS.F ht⟩) hS.2.2 (by decide) (by decide)
  · skip
    obtain ⟨hv1, hv2, hv3, hq_1⟩ := hv_1
    subst hv1
    rw [hv2, hv3] at hP hD
    refine W.eq (g2 := F0 m 4 ls []) rfl ?_
    refine W.cs (cells' := 1) (slots' := 6) rfl rfl ?_
    refine lv_aload_n (pc := 4) hx hb dX5_shift_4 rfl (lv_at hl 0 rfl) ?_
    refine k_get (pc := 5) (ci := 5) (C := RX5) (T := TX5) (N := 13) hx hb hts hi5 hown hK hP 0 h0 rfl 1 (by decide) hf18 (fun _ h9 => h9) rfl dX5_shift_5 ?_
    refine lv_iload_n (pc := 8) hx hb dX5_shift_8 rfl (lv_at hl 1 rfl) ?_
    refine k_call0 (pc := 9) (va_runV (As := [.int (iI d)]) (rest := []) ⟨hx, hb, hml, hown, hts⟩ (c_X4_on l D cA ad w 2 3 4 (sc 1) (fn 0) (fn 1) h2 h3 h4 hI1.2.1 hI.2.1 d ⟨by omega, by omega⟩) (cwV 1 hts gX5_shift_X4_on rfl rfl rfl (by decide +kernel) ⟨Nat.le_of_ble_eq_true rfl, Nat.le_of_ble_eq_true rfl⟩) (gR_V hP hK hB 2 (ci := 4) rfl h2) rfl rfl hl.1 rfl (lv_room (Nat.le_of_ble_eq_true rfl)) dX5_shift_9 ⟨Nat.le_of_ble_eq_true rfl, Nat.le_of_ble_eq_true rfl⟩) (fun v_9 hv_9 => ?_)
    obtain ⟨z_9, rfl, hz_9, hy_9, hw_9⟩ := hv_9
    refine W.eq (g2 := F0 m 12 ls [.int (iI z_9)]) rfl ?_
    have he_12 : z_9 = sftF (fn 0) (fn 1) (sc 1) d := by omega
    rw [he_12]
    rw [hQ9]
    refine vx_ret ?_
    exact W.iret (v := iI (sftF (fn 0) (fn 1) (sc 1) d)) hx hb hret (fun t ht hW => ⟨⟨some (.int (iI (sftF (fn 0) (fn 1) (sc 1) d))), ad, w, rfl, ⟨sc, fn, ⟨rk, F, S, rn, rd, rm_, rz, ⟨h0, h1, h2, h3, h4, h5, h6, h7, h8, h9, h10, h11, h12, h13, h14, h15, hcv, hms⟩, hrk, hF, hS9⟩, hI, ⟨rfl, fun r hr => ⟨rfl, rfl⟩⟩, ⟨rfl, rfl, by omega, by omega, rfl⟩⟩, by rw [ht]; exact hP, hD⟩, hS.F ht⟩) hS.2.2 dX5_shift_12

abbrev rmX5_curveOf : Room := { frames := 7, cells := 1, slots := 6, locals := 102 }
set_option maxHeartbeats 4000000 in
set_option maxRecDepth 100000 in
theorem c_X5_curveOf (l : Launch) (hl0 : l.stackTraces = false) (D : va_G) (cA : Nat → ClassId) (ad : Nat → Nat) (w : Nat → Option va_E) (sz : Nat) (sc : Nat → Int) (fn : Nat → Int → Int) (hI : bkInv sc fn) (hbk : bookS cA ad w sc fn) (d : Int) (hd : (-2147483648 ≤ d ∧ d < 2147483648)) : vx_Met l yX5_curveOf wsX5_curveOf rmX5_curveOf (gV D cA ad w sz [.ref (ad 0), .int (iI d)]) (gW D (fun v9 ad1 w1 => ∃ (sc2 : Nat → Int) (fn2 : Nat → Int → Int), bookS cA ad1 w1 sc2 fn2 ∧ bkInv sc2 fn2 ∧ keepR ad ad1 w w1 ∧ (sc2 = sc ∧ fn2 = fn ∧ 0 ≤ d ∧ d < 400 ∧ v9 = some (.int (iI (cvno sc fn d))))) (gA ad w sz)) (gX D (fun E => E = xIA ∧ ¬ (0 ≤ d ∧ d < 400)) ad w (gA ad w sz)) 1 6 (gA ad w sz) := by
  refine vx_ofW (cc := cX5_curveOf) (maxL := 2) (ret := (some .int)) (by decide) rfl ?_
  intro p e s m args below meth c s₁ B hml hE hv
  obtain ⟨hav, hsz, hP, hD0, hK, hB, hZ⟩ := hv
  have hx := B.exec
  have hb := B.bytes
  have hret := B.returns
  have hts := atoms_spec (ws := wsX5_curveOf) B.pre
  have hown : s.vm.findClass RX5 = some m.cls := findClass_of_methodNamed B.named
  have hlocks := B.notSynchronized
  subst hsz
  have hD := hD0.self (sz := s.heap.size)
  generalize hAe : gA ad w s.heap.size = A at hD hZ ⊢
  have hA : ∀ q : Nat, s.heap.size ≤ q → A q := fun q h => by rw [← hAe]; exact Or.inr h
  have hS : va_S A s.heap s.heap [] := va_S.rf
  have he9 : entryFrame m args 2 = F0 m 0 ((lg_sl ([.ref (ad 0), .int (iI d)] : List Value) ++ List.replicate (2 - (lg_sl ([.ref (ad 0), .int (iI d)] : List Value)).length) Slot.unset).toArray) [] := by rw [hav, lg_entry_eq]
  rw [he9]
  have hl := lv_entry ([.ref (ad 0), .int (iI d)] : List Value) (n := 2) (Nat.le_of_ble_eq_true rfl)
  generalize (lg_sl ([.ref (ad 0), .int (iI d)] : List Value) ++ List.replicate (2 - (lg_sl ([.ref (ad 0), .int (iI d)] : List Value)).length) Slot.unset).toArray = ls at hl ⊢
  have hl : lv_has ls 2 [(0, .ref (ad 0)), (1, .int (iI d))] := hl
  obtain ⟨Q9, hQ9⟩ : ∃ z, z = vx_MQ below (gW D (fun v9 ad1 w1 => ∃ (sc2 : Nat → Int) (fn2 : Nat → Int → Int), bookS cA ad1 w1 sc2 fn2 ∧ bkInv sc2 fn2 ∧ keepR ad ad1 w w1 ∧ (sc2 = sc ∧ fn2 = fn ∧ 0 ≤ d ∧ d < 400 ∧ v9 = some (.int (iI (cvno sc fn d))))) A) (gX D (fun E => E = xIA ∧ ¬ (0 ≤ d ∧ d < 400)) ad w A) args s 1 6 A := ⟨_, rfl⟩
  rw [← hQ9]
  show W p l e rmX5_curveOf s m args below meth c s.heap [] 0 0 Q9 (F0 m 0 ls [])
  obtain ⟨H, hHe⟩ : ∃ z, z = s.heap := ⟨_, rfl⟩
  obtain ⟨locs, hLe⟩ : ∃ z, z = ([] : List Loc) := ⟨_, rfl⟩
  have hP : gP D vwCl ad w H := by rw [hHe]; exact hP
  have hS : va_S A s.heap H locs := by rw [hHe, hLe]; exact va_S.rf
  rw [show W p l e rmX5_curveOf s m args below meth c s.heap [] 0 0 Q9 (F0 m 0 ls []) = W p l e rmX5_curveOf s m args below meth c H locs 0 0 Q9 (F0 m 0 ls []) by rw [hHe, hLe]]
  clear hHe hLe
  obtain ⟨rk, F, S, rn, rd, rm_, rz, ⟨h0, h1, h2, h3, h4, h5, h6, h7, h8, h9, h10, h11, h12, h13, h14, h15, hcv, hms⟩, hrk, hF, hS9⟩ := hbk
  have hI1 := hI.1
  refine lv_iload_n (pc := 0) hx hb dX5_curveOf_0 rfl (lv_at hl 1 rfl) ?_
  refine k_callx (pc := 1) (vx_runS (As := [.int (iI d)]) (rest := []) ⟨hx, hb, hml, hown, hts⟩ (c_X5_requireDay l hl0 D cA ad w H.size d ⟨by omega, by omega⟩) (va_cwS 1 hts gX5_curveOf_X5_requireDay rfl rfl rfl (by decide +kernel) ⟨Nat.le_of_ble_eq_true rfl, Nat.le_of_ble_eq_true rfl⟩) (gV_S hP hD hK hB hS hA hZ) rfl rfl hl.1 rfl (lv_room (Nat.le_of_ble_eq_true rfl)) dX5_curveOf_1 ⟨Nat.le_of_ble_eq_true rfl, Nat.le_of_ble_eq_true rfl⟩) hS (gA_sub hD hS hA) (fun E_1 ce_1 q_1 H locs hpx_1 hP hD hS hce_1 hcv_1 hcl_1 => ?_) (fun v_1 ad_1 w_1 H locs hv_1 hP hD hS => ?_)
  · skip
    rw [hQ9]
    exact vx_out (fun x h => (hE x h).elim) hlocks hce_1 hcv_1 hcl_1 (fun t ht hW => ⟨hpx_1, by rw [ht]; exact hP, hD, hS.F ht⟩) hS.2.2 (by decide) (by decide)
  · skip
    obtain ⟨hv1, hv2, hv3, hq_1⟩ := hv_1
    subst hv1
    rw [hv2, hv3] at hP hD
    refine W.eq (g2 := F0 m 4 ls []) rfl ?_
    refine W.cs (cells' := 1) (slots' := 6) rfl rfl ?_
    refine lv_aload_n (pc := 4) hx hb dX5_curveOf_4 rfl (lv_at hl 0 rfl) ?_
    refine lv_iload_n (pc := 5) hx hb dX5_curveOf_5 rfl (lv_at hl 1 rfl) ?_
    refine k_call0 (pc := 6) (va_runV (As := [.int (iI d)]) (rest := []) ⟨hx, hb, hml, hown, hts⟩ (c_X5_curveNumberOn l D cA ad w sc fn rk hI h0 h1 hcv d ⟨by omega, by omega⟩) (cwV 1 hts gX5_curveOf_X5_curveNumberOn rfl rfl rfl (by decide +kernel) ⟨Nat.le_of_ble_eq_true rfl, Nat.le_of_ble_eq_true rfl⟩) (gR_V hP hK hB 0 (ci := 5) rfl h0) rfl rfl hl.1 rfl (lv_room (Nat.le_of_ble_eq_true rfl)) dX5_curveOf_6 ⟨Nat.le_of_ble_eq_true rfl, Nat.le_of_ble_eq_true rfl⟩) (fun v_6 hv_6 => ?_)
    obtain ⟨z_6, rfl, hz_6, hy_6, hw_6⟩ := hv_6
    refine W.eq (g2 := F0 m 9 ls [.int (iI z_6)]) rfl ?_
    have he_9 : z_6 = cvno sc fn d := by omega
    rw [he_9]
    rw [hQ9]
    refine vx_ret ?_
    exact W.iret (v := iI (cvno sc fn d)) hx hb hret (fun t ht hW => ⟨⟨some (.int (iI (cvno sc fn d))), ad, w, rfl, ⟨sc, fn, ⟨rk, F, S, rn, rd, rm_, rz, ⟨h0, h1, h2, h3, h4, h5, h6, h7, h8, h9, h10, h11, h12, h13, h14, h15, hcv, hms⟩, hrk, hF, hS9⟩, hI, ⟨rfl, fun r hr => ⟨rfl, rfl⟩⟩, ⟨rfl, rfl, by omega, by omega, rfl⟩⟩, by rw [ht]; exact hP, hD⟩, hS.F ht⟩) hS.2.2 dX5_curveOf_9
