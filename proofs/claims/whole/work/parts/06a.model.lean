/-- the model's rows of curves, by 12 k + j; its shifts, by days; its measurements, by 3 j -/
def mdC (sc : Nat → Int) (fn : Nat → Int → Int) (G1 G2 : Int → Int) : Prop := ∀ k j : Int, 0 ≤ k → k < 6 → 0 ≤ j → j < 12 → (k < sc 0 → G1 (12 * k + j) = fn (20 + k.toNat) j ∧ G2 (12 * k + j) = fn (30 + k.toNat) j) ∧ (¬ k < sc 0 → G1 (12 * k + j) = 0 ∧ G2 (12 * k + j) = 0)
def mdU (sc : Nat → Int) (fn : Nat → Int → Int) (us ut : Int → Int) : Prop := (∀ d : Int, 0 ≤ d → d < 400 → us d ≠ 0 → ∃ i : Int, 0 ≤ i ∧ i < sc 1 ∧ fn 0 i = d ∧ ut d = fn 1 i) ∧ ∀ i : Int, 0 ≤ i → i < sc 1 → us (fn 0 i) ≠ 0 ∧ ut (fn 0 i) = fn 1 i
def mdT (sc : Nat → Int) (fn : Nat → Int → Int) (ub : Int → Int) : Prop := ∀ j : Int, 0 ≤ j → j < sc 4 → ub (3 * j) = fn 5 j ∧ ub (3 * j + 1) = fn 6 j ∧ ub (3 * j + 2) = fn 7 j
theorem flP_md {G : Int → Int} {st fl G2 : Int → Int} {n b s z : Int} (hn : 2 ≤ n ∧ n ≤ 12) (h1 : ∀ j : Int, 0 ≤ j → j < 12 → G (b + j) = st j) (h2 : ∀ j : Int, 0 ≤ j → j < 12 → G2 (b + j) = fl j) (k : Int) (h0 : ¬ s < G b) (hk : 0 ≤ k ∧ k + 2 ≤ n) (h3 : k = 0 ∨ G (b + k) ≤ s) (h4 : k + 2 = n ∨ s < G (b + k + 1)) (hz : z = G2 (b + k) + Int.tdiv ((G2 (b + k + 1) - G2 (b + k)) * (s - G (b + k))) (G (b + k + 1) - G (b + k))) : flP st fl n s z := by
  have a0 := h1 0 (by omega) (by omega)
  rw [Int.add_zero] at a0
  have a1 := h1 k (by omega) (by omega)
  have a2 := h1 (k + 1) (by omega) (by omega)
  have a3 := h2 k (by omega) (by omega)
  have a4 := h2 (k + 1) (by omega) (by omega)
  rw [← Int.add_assoc] at a2 a4
  refine Or.inr ⟨by omega, k, hk.1, hk.2, by omega, by omega, ?_⟩
  rw [hz, a1, a2, a3, a4]
  rfl

abbrev rmX6_isIn : Room := { frames := 0, cells := 0, slots := 0, locals := 0 }
set_option maxHeartbeats 4000000 in
set_option maxRecDepth 100000 in
theorem c_X6_isIn (l : Launch) (D : va_G) (cA : Nat → ClassId) (ad : Nat → Nat) (w : Nat → Option va_E) (v lo hi : Int) (h1 : (-9223372036854775808 ≤ v ∧ v < 9223372036854775808)) (h2 : (-9223372036854775808 ≤ lo ∧ lo < 9223372036854775808)) (h3 : (-9223372036854775808 ≤ hi ∧ hi < 9223372036854775808)) : Met l yX6_isIn wsX6_isIn rmX6_isIn (gR D cA ad w [.long (lI v), .long (lI lo), .long (lI hi)]) (gR0 (fun v9 => ∃ z : Int, v9 = some (.int (iI z)) ∧ ((z = 1 ∧ lo ≤ v ∧ v ≤ hi) ∨ (z = 0 ∧ ¬ (lo ≤ v ∧ v ≤ hi))))) 0 0 (fun _ => False) := by
  refine Met.ofW (cc := cX6_isIn) (maxL := 6) (ret := (some .boolean)) (by decide) rfl ?_
  intro p e s m args below meth c s₁ B hml hv
  obtain ⟨hav, hP, hK, hB⟩ := hv
  have hx := B.exec
  have hb := B.bytes
  have hret := B.returns
  have hts := atoms_spec (ws := wsX6_isIn) B.pre
  have hown : s.vm.findClass RX6 = some m.cls := findClass_of_methodNamed B.named
  have hlocks := B.notSynchronized
  have hS : va_S (fun _ => False) s.heap s.heap [] := va_S.rf
  have he9 : entryFrame m args 6 = F0 m 0 ((lg_sl ([.long (lI v), .long (lI lo), .long (lI hi)] : List Value) ++ List.replicate (6 - (lg_sl ([.long (lI v), .long (lI lo), .long (lI hi)] : List Value)).length) Slot.unset).toArray) [] := by rw [hav, lg_entry_eq]
  rw [he9]
  have hl := lv_entry ([.long (lI v), .long (lI lo), .long (lI hi)] : List Value) (n := 6) (Nat.le_of_ble_eq_true rfl)
  generalize (lg_sl ([.long (lI v), .long (lI lo), .long (lI hi)] : List Value) ++ List.replicate (6 - (lg_sl ([.long (lI v), .long (lI lo), .long (lI hi)] : List Value)).length) Slot.unset).toArray = ls at hl ⊢
  have hl : lv_has ls 6 [(0, .long (lI v)), (2, .long (lI lo)), (4, .long (lI hi))] := hl
  obtain ⟨Q9, hQ9⟩ : ∃ z, z = MQ below (gR0 (fun v9 => ∃ z : Int, v9 = some (.int (iI z)) ∧ ((z = 1 ∧ lo ≤ v ∧ v ≤ hi) ∨ (z = 0 ∧ ¬ (lo ≤ v ∧ v ≤ hi))))) args s 0 0 (fun _ => False) := ⟨_, rfl⟩
  rw [← hQ9]
  show W p l e rmX6_isIn s m args below meth c s.heap [] 0 0 Q9 (F0 m 0 ls [])
  refine lv_lload_n (pc := 0) hx hb dX6_isIn_0 rfl (lv_at hl 0 rfl) ?_
  refine lv_lload_n (pc := 1) hx hb dX6_isIn_1 rfl (lv_at hl 1 rfl) ?_
  refine k_lcmp_lt (pc := 2) (tgt := 17) hx hb ⟨by omega, by omega⟩ ⟨by omega, by omega⟩ dX6_isIn_2 dX6_isIn_3 (by decide) (fun hc_2 => ?_) (fun hc_2 => ?_)
  · skip
    refine k_iconst (pc := 17) hx hb dX6_isIn_17 ?_
    rw [hQ9]
    exact W.zret (v := iI 0) hx hb hret (by decide +kernel) (fun t ht hW => ⟨some (.int (iI 0)), rfl, ⟨0, rfl, Or.inr ⟨rfl, by omega⟩⟩, ht⟩) (fun q hq => by cases hq) dX6_isIn_18
  · skip
    refine lv_lload_n (pc := 6) hx hb dX6_isIn_6 rfl (lv_at hl 0 rfl) ?_
    refine lv_lload (pc := 7) hx hb dX6_isIn_7 (lv_at hl 2 rfl) ?_
    refine k_lcmp_gt (pc := 9) (tgt := 17) hx hb ⟨by omega, by omega⟩ ⟨by omega, by omega⟩ dX6_isIn_9 dX6_isIn_10 (by decide) (fun hc_9 => ?_) (fun hc_9 => ?_)
    · skip
      refine k_iconst (pc := 17) hx hb dX6_isIn_17 ?_
      rw [hQ9]
      exact W.zret (v := iI 0) hx hb hret (by decide +kernel) (fun t ht hW => ⟨some (.int (iI 0)), rfl, ⟨0, rfl, Or.inr ⟨rfl, by omega⟩⟩, ht⟩) (fun q hq => by cases hq) dX6_isIn_18
    · skip
      refine k_iconst (pc := 13) hx hb dX6_isIn_13 ?_
      refine lv_goto (pc := 14) (tgt := 18) hx hb dX6_isIn_14 (by decide) ?_
      rw [hQ9]
      exact W.zret (v := iI 1) hx hb hret (by decide +kernel) (fun t ht hW => ⟨some (.int (iI 1)), rfl, ⟨1, rfl, Or.inl ⟨rfl, by omega⟩⟩, ht⟩) (fun q hq => by cases hq) dX6_isIn_18

abbrev rmX6_isDay : Room := { frames := 1, cells := 0, slots := 0, locals := 25 }
set_option maxHeartbeats 4000000 in
set_option maxRecDepth 100000 in
theorem c_X6_isDay (l : Launch) (D : va_G) (cA : Nat → ClassId) (ad : Nat → Nat) (w : Nat → Option va_E) (d : Int) (hd : (-2147483648 ≤ d ∧ d < 2147483648)) : Met l yX6_isDay wsX6_isDay rmX6_isDay (gR D cA ad w [.int (iI d)]) (gR0 (fun v9 => ∃ z : Int, v9 = some (.int (iI z)) ∧ ((z = 1 ∧ 0 ≤ d ∧ d < 400) ∨ (z = 0 ∧ ¬ (0 ≤ d ∧ d < 400))))) 0 0 (fun _ => False) := by
  refine Met.ofW (cc := cX6_isDay) (maxL := 1) (ret := (some .boolean)) (by decide) rfl ?_
  intro p e s m args below meth c s₁ B hml hv
  obtain ⟨hav, hP, hK, hB⟩ := hv
  have hx := B.exec
  have hb := B.bytes
  have hret := B.returns
  have hts := atoms_spec (ws := wsX6_isDay) B.pre
  have hown : s.vm.findClass RX6 = some m.cls := findClass_of_methodNamed B.named
  have hlocks := B.notSynchronized
  have hS : va_S (fun _ => False) s.heap s.heap [] := va_S.rf
  have he9 : entryFrame m args 1 = F0 m 0 ((lg_sl ([.int (iI d)] : List Value) ++ List.replicate (1 - (lg_sl ([.int (iI d)] : List Value)).length) Slot.unset).toArray) [] := by rw [hav, lg_entry_eq]
  rw [he9]
  have hl := lv_entry ([.int (iI d)] : List Value) (n := 1) (Nat.le_of_ble_eq_true rfl)
  generalize (lg_sl ([.int (iI d)] : List Value) ++ List.replicate (1 - (lg_sl ([.int (iI d)] : List Value)).length) Slot.unset).toArray = ls at hl ⊢
  have hl : lv_has ls 1 [(0, .int (iI d))] := hl
  obtain ⟨Q9, hQ9⟩ : ∃ z, z = MQ below (gR0 (fun v9 => ∃ z : Int, v9 = some (.int (iI z)) ∧ ((z = 1 ∧ 0 ≤ d ∧ d < 400) ∨ (z = 0 ∧ ¬ (0 ≤ d ∧ d < 400))))) args s 0 0 (fun _ => False) := ⟨_, rfl⟩
  rw [← hQ9]
  show W p l e rmX6_isDay s m args below meth c s.heap [] 0 0 Q9 (F0 m 0 ls [])
  refine lv_iload_n (pc := 0) hx hb dX6_isDay_0 rfl (lv_at hl 0 rfl) ?_
  refine k_i2l (pc := 1) hx hb ⟨by omega, by omega⟩ dX6_isDay_1 ?_
  refine k_lconst0 (pc := 2) hx hb dX6_isDay_2 ?_
  refine k_ldc2 (z := 399) (pc := 3) hx hb hown (hts (.constantLong RX6 58 (399)) (by decide +kernel)) (by decide +kernel) dX6_isDay_3 ?_
  refine k_call0 (pc := 6) (va_runS (As := [.long (lI d), .long (lI 0), .long (lI 399)]) (rest := []) ⟨hx, hb, hml, hown, hts⟩ (c_X6_isIn l D cA ad w d 0 399 (by omega) (by omega) (by omega)) (va_cwS 3 hts gX6_isDay_X6_isIn rfl rfl rfl (by decide +kernel) ⟨Nat.le_of_ble_eq_true rfl, Nat.le_of_ble_eq_true rfl⟩) (gR_S hP hK hB) rfl rfl hl.1 rfl (lv_room (Nat.le_of_ble_eq_true rfl)) dX6_isDay_6 ⟨Nat.le_of_ble_eq_true rfl, Nat.le_of_ble_eq_true rfl⟩) (fun v_6 hv_6 => ?_)
  obtain ⟨z_6, rfl, hz_6⟩ := hv_6
  refine W.eq (g2 := F0 m 9 ls [.int (iI z_6)]) rfl ?_
  rw [hQ9]
  exact W.zret (v := iI z_6) hx hb hret (by rcases hz_6 with ⟨a1, a2⟩ | ⟨a1, a2⟩ <;> rw [a1] <;> decide +kernel) (fun t ht hW => ⟨some (.int (iI z_6)), rfl, ⟨z_6, rfl, (by omega)⟩, ht⟩) (fun q hq => by cases hq) dX6_isDay_9

abbrev rmX6_isCurve : Room := { frames := 1, cells := 0, slots := 0, locals := 25 }
theorem hiX6_isCurve_6 : ∀ w ∈ wsX60, w ∈ wsX6_isCurve := by decide +kernel
set_option maxHeartbeats 4000000 in
set_option maxRecDepth 100000 in
theorem c_X6_isCurve (l : Launch) (D : va_G) (cA : Nat → ClassId) (ad : Nat → Nat) (w : Nat → Option va_E) (sc : Nat → Int) (fn : Nat → Int → Int) (th fr : Int) (hI : bkInv sc fn) (k0 : w 200 = some (oB 6 [.int (iI th), .int (iI (sc 0)), .ref (ad 201), .ref (ad 202), .ref (ad 203), .ref (ad 204), .int (iI (sc 1)), .ref (ad 205), .ref (ad 206), .ref (ad 207), .ref (ad 208), .ref (ad 209), .int (iI (sc 2)), .int (iI (sc 3)), .int (iI (sc 4)), .ref (ad 210), .int (iI fr), .ref (ad 211), .ref (ad 212)])) (cu : Int) (hc_ : (-2147483648 ≤ cu ∧ cu < 2147483648)) : Met l yX6_isCurve wsX6_isCurve rmX6_isCurve (gR D cA ad w [.ref (ad 200), .int (iI cu)]) (gR0 (fun v9 => ∃ z : Int, v9 = some (.int (iI z)) ∧ ((z = 1 ∧ 0 ≤ cu ∧ cu < sc 0) ∨ (z = 0 ∧ ¬ (0 ≤ cu ∧ cu < sc 0))))) 0 0 (fun _ => False) := by
  refine Met.ofW (cc := cX6_isCurve) (maxL := 2) (ret := (some .boolean)) (by decide) rfl ?_
  intro p e s m args below meth c s₁ B hml hv
  obtain ⟨hav, hP, hK, hB⟩ := hv
  have hx := B.exec
  have hb := B.bytes
  have hret := B.returns
  have hts := atoms_spec (ws := wsX6_isCurve) B.pre
  have hown : s.vm.findClass RX6 = some m.cls := findClass_of_methodNamed B.named
  have hlocks := B.notSynchronized
  have hS : va_S (fun _ => False) s.heap s.heap [] := va_S.rf
  have hi6 := hiX6_isCurve_6
  have hf64 := hts (.fieldLink RX6 64 "GaugeBookModel" "curves" "I") (by decide +kernel)
  have he9 : entryFrame m args 2 = F0 m 0 ((lg_sl ([.ref (ad 200), .int (iI cu)] : List Value) ++ List.replicate (2 - (lg_sl ([.ref (ad 200), .int (iI cu)] : List Value)).length) Slot.unset).toArray) [] := by rw [hav, lg_entry_eq]
  rw [he9]
  have hl := lv_entry ([.ref (ad 200), .int (iI cu)] : List Value) (n := 2) (Nat.le_of_ble_eq_true rfl)
  generalize (lg_sl ([.ref (ad 200), .int (iI cu)] : List Value) ++ List.replicate (2 - (lg_sl ([.ref (ad 200), .int (iI cu)] : List Value)).length) Slot.unset).toArray = ls at hl ⊢
  have hl : lv_has ls 2 [(0, .ref (ad 200)), (1, .int (iI cu))] := hl
  obtain ⟨Q9, hQ9⟩ : ∃ z, z = MQ below (gR0 (fun v9 => ∃ z : Int, v9 = some (.int (iI z)) ∧ ((z = 1 ∧ 0 ≤ cu ∧ cu < sc 0) ∨ (z = 0 ∧ ¬ (0 ≤ cu ∧ cu < sc 0))))) args s 0 0 (fun _ => False) := ⟨_, rfl⟩
  rw [← hQ9]
  show W p l e rmX6_isCurve s m args below meth c s.heap [] 0 0 Q9 (F0 m 0 ls [])
  have hI1 := hI.1
  refine lv_iload_n (pc := 0) hx hb dX6_isCurve_0 rfl (lv_at hl 1 rfl) ?_
  refine k_i2l (pc := 1) hx hb ⟨by omega, by omega⟩ dX6_isCurve_1 ?_
  refine k_lconst0 (pc := 2) hx hb dX6_isCurve_2 ?_
  refine lv_aload_n (pc := 3) hx hb dX6_isCurve_3 rfl (lv_at hl 0 rfl) ?_
  refine k_get (pc := 4) (ci := 6) (C := RX6) (T := TX6) (N := 19) hx hb hts hi6 hown hK hP 200 k0 rfl 1 (by decide) hf64 (fun _ h9 => h9) rfl dX6_isCurve_4 ?_
  refine k_iconst (pc := 7) hx hb dX6_isCurve_7 ?_
  refine k_isub (pc := 8) hx hb dX6_isCurve_8 ?_
  refine k_i2l (pc := 9) hx hb ⟨by omega, by omega⟩ dX6_isCurve_9 ?_
  refine k_call0 (pc := 10) (va_runS (As := [.long (lI cu), .long (lI 0), .long (lI ((sc 0) - 1))]) (rest := []) ⟨hx, hb, hml, hown, hts⟩ (c_X6_isIn l D cA ad w cu 0 ((sc 0) - 1) (by omega) (by omega) (by omega)) (va_cwS 3 hts gX6_isCurve_X6_isIn rfl rfl rfl (by decide +kernel) ⟨Nat.le_of_ble_eq_true rfl, Nat.le_of_ble_eq_true rfl⟩) (gR_S hP hK hB) rfl rfl hl.1 rfl (lv_room (Nat.le_of_ble_eq_true rfl)) dX6_isCurve_10 ⟨Nat.le_of_ble_eq_true rfl, Nat.le_of_ble_eq_true rfl⟩) (fun v_10 hv_10 => ?_)
  obtain ⟨z_10, rfl, hz_10⟩ := hv_10
  refine W.eq (g2 := F0 m 13 ls [.int (iI z_10)]) rfl ?_
  rw [hQ9]
  exact W.zret (v := iI z_10) hx hb hret (by rcases hz_10 with ⟨a1, a2⟩ | ⟨a1, a2⟩ <;> rw [a1] <;> decide +kernel) (fun t ht hW => ⟨some (.int (iI z_10)), rfl, ⟨z_10, rfl, (by omega)⟩, ht⟩) (fun q hq => by cases hq) dX6_isCurve_13

abbrev rmX6_areDays : Room := { frames := 2, cells := 0, slots := 0, locals := 45 }
set_option maxHeartbeats 4000000 in
set_option maxRecDepth 100000 in
theorem c_X6_areDays (l : Launch) (D : va_G) (cA : Nat → ClassId) (ad : Nat → Nat) (w : Nat → Option va_E) (d n : Int) (hd : (-2147483648 ≤ d ∧ d < 2147483648)) (hn : (-2147483648 ≤ n ∧ n < 2147483648)) : Met l yX6_areDays wsX6_areDays rmX6_areDays (gR D cA ad w [.int (iI d), .int (iI n)]) (gR0 (fun v9 => ∃ z : Int, v9 = some (.int (iI z)) ∧ ((z = 1 ∧ 0 ≤ d ∧ d < 400 ∧ 1 ≤ n ∧ d + n ≤ 400) ∨ (z = 0 ∧ ¬ (0 ≤ d ∧ d < 400 ∧ 1 ≤ n ∧ d + n ≤ 400))))) 0 0 (fun _ => False) := by
  refine Met.ofW (cc := cX6_areDays) (maxL := 2) (ret := (some .boolean)) (by decide) rfl ?_
  intro p e s m args below meth c s₁ B hml hv
  obtain ⟨hav, hP, hK, hB⟩ := hv
  have hx := B.exec
  have hb := B.bytes
  have hret := B.returns
  have hts := atoms_spec (ws := wsX6_areDays) B.pre
  have hown : s.vm.findClass RX6 = some m.cls := findClass_of_methodNamed B.named
  have hlocks := B.notSynchronized
  have hS : va_S (fun _ => False) s.heap s.heap [] := va_S.rf
  have he9 : entryFrame m args 2 = F0 m 0 ((lg_sl ([.int (iI d), .int (iI n)] : List Value) ++ List.replicate (2 - (lg_sl ([.int (iI d), .int (iI n)] : List Value)).length) Slot.unset).toArray) [] := by rw [hav, lg_entry_eq]
  rw [he9]
  have hl := lv_entry ([.int (iI d), .int (iI n)] : List Value) (n := 2) (Nat.le_of_ble_eq_true rfl)
  generalize (lg_sl ([.int (iI d), .int (iI n)] : List Value) ++ List.replicate (2 - (lg_sl ([.int (iI d), .int (iI n)] : List Value)).length) Slot.unset).toArray = ls at hl ⊢
  have hl : lv_has ls 2 [(0, .int (iI d)), (1, .int (iI n))] := hl
  obtain ⟨Q9, hQ9⟩ : ∃ z, z = MQ below (gR0 (fun v9 => ∃ z : Int, v9 = some (.int (iI z)) ∧ ((z = 1 ∧ 0 ≤ d ∧ d < 400 ∧ 1 ≤ n ∧ d + n ≤ 400) ∨ (z = 0 ∧ ¬ (0 ≤ d ∧ d < 400 ∧ 1 ≤ n ∧ d + n ≤ 400))))) args s 0 0 (fun _ => False) := ⟨_, rfl⟩
  rw [← hQ9]
  show W p l e rmX6_areDays s m args below meth c s.heap [] 0 0 Q9 (F0 m 0 ls [])
  refine lv_iload_n (pc := 0) hx hb dX6_areDays_0 rfl (lv_at hl 0 rfl) ?_
  refine k_call0 (pc := 1) (va_runS (As := [.int (iI d)]) (rest := []) ⟨hx, hb, hml, hown, hts⟩ (c_X6_isDay l D cA ad w d (by omega)) (va_cwS 1 hts gX6_areDays_X6_isDay rfl rfl rfl (by decide +kernel) ⟨Nat.le_of_ble_eq_true rfl, Nat.le_of_ble_eq_true rfl⟩) (gR_S hP hK hB) rfl rfl hl.1 rfl (lv_room (Nat.le_of_ble_eq_true rfl)) dX6_areDays_1 ⟨Nat.le_of_ble_eq_true rfl, Nat.le_of_ble_eq_true rfl⟩) (fun v_1 hv_1 => ?_)
  obtain ⟨z_1, rfl, hz_1⟩ := hv_1
  refine W.eq (g2 := F0 m 4 ls [.int (iI z_1)]) rfl ?_
  refine k_if_eq (pc := 4) (tgt := 32) hx hb ⟨by omega, by omega⟩ dX6_areDays_4 (by decide) (fun hc_4 => ?_) (fun hc_4 => ?_)
  · skip
    refine k_iconst (pc := 32) hx hb dX6_areDays_32 ?_
    rw [hQ9]
    exact W.zret (v := iI 0) hx hb hret (by decide +kernel) (fun t ht hW => ⟨some (.int (iI 0)), rfl, ⟨0, rfl, Or.inr ⟨rfl, by omega⟩⟩, ht⟩) (fun q hq => by cases hq) dX6_areDays_33
  · skip
    refine lv_iload_n (pc := 7) hx hb dX6_areDays_7 rfl (lv_at hl 1 rfl) ?_
    refine k_i2l (pc := 8) hx hb ⟨by omega, by omega⟩ dX6_areDays_8 ?_
    refine k_lconst1 (pc := 9) hx hb dX6_areDays_9 ?_
    refine k_ldc2 (z := 400) (pc := 10) hx hb hown (hts (.constantLong RX6 71 (400)) (by decide +kernel)) (by decide +kernel) dX6_areDays_10 ?_
    refine k_call0 (pc := 13) (va_runS (As := [.long (lI n), .long (lI 1), .long (lI 400)]) (rest := []) ⟨hx, hb, hml, hown, hts⟩ (c_X6_isIn l D cA ad w n 1 400 (by omega) (by omega) (by omega)) (va_cwS 3 hts gX6_areDays_X6_isIn rfl rfl rfl (by decide +kernel) ⟨Nat.le_of_ble_eq_true rfl, Nat.le_of_ble_eq_true rfl⟩) (gR_S hP hK hB) rfl rfl hl.1 rfl (lv_room (Nat.le_of_ble_eq_true rfl)) dX6_areDays_13 ⟨Nat.le_of_ble_eq_true rfl, Nat.le_of_ble_eq_true rfl⟩) (fun v_13 hv_13 => ?_)
    obtain ⟨z_13, rfl, hz_13⟩ := hv_13
    refine W.eq (g2 := F0 m 16 ls [.int (iI z_13)]) rfl ?_
    refine k_if_eq (pc := 16) (tgt := 32) hx hb ⟨by omega, by omega⟩ dX6_areDays_16 (by decide) (fun hc_16 => ?_) (fun hc_16 => ?_)
    · skip
      refine k_iconst (pc := 32) hx hb dX6_areDays_32 ?_
      rw [hQ9]
      exact W.zret (v := iI 0) hx hb hret (by decide +kernel) (fun t ht hW => ⟨some (.int (iI 0)), rfl, ⟨0, rfl, Or.inr ⟨rfl, by omega⟩⟩, ht⟩) (fun q hq => by cases hq) dX6_areDays_33
    · skip
      refine lv_iload_n (pc := 19) hx hb dX6_areDays_19 rfl (lv_at hl 0 rfl) ?_
      refine lv_iload_n (pc := 20) hx hb dX6_areDays_20 rfl (lv_at hl 1 rfl) ?_
      refine k_iadd (pc := 21) hx hb dX6_areDays_21 ?_
      refine k_sipush (pc := 22) hx hb dX6_areDays_22 (by decide +kernel) ?_
      refine k_icmp_gt (pc := 25) (tgt := 32) hx hb ⟨by omega, by omega⟩ ⟨by omega, by omega⟩ dX6_areDays_25 (by decide) (fun hc_25 => ?_) (fun hc_25 => ?_)
      · skip
        refine k_iconst (pc := 32) hx hb dX6_areDays_32 ?_
        rw [hQ9]
        exact W.zret (v := iI 0) hx hb hret (by decide +kernel) (fun t ht hW => ⟨some (.int (iI 0)), rfl, ⟨0, rfl, Or.inr ⟨rfl, by omega⟩⟩, ht⟩) (fun q hq => by cases hq) dX6_areDays_33
      · skip
        refine k_iconst (pc := 28) hx hb dX6_areDays_28 ?_
        refine lv_goto (pc := 29) (tgt := 33) hx hb dX6_areDays_29 (by decide) ?_
        rw [hQ9]
        exact W.zret (v := iI 1) hx hb hret (by decide +kernel) (fun t ht hW => ⟨some (.int (iI 1)), rfl, ⟨1, rfl, Or.inl ⟨rfl, by omega⟩⟩, ht⟩) (fun q hq => by cases hq) dX6_areDays_33

abbrev rmX6_isSpan : Room := { frames := 0, cells := 0, slots := 0, locals := 0 }
set_option maxHeartbeats 4000000 in
set_option maxRecDepth 100000 in
theorem c_X6_isSpan (l : Launch) (D : va_G) (cA : Nat → ClassId) (ad : Nat → Nat) (w : Nat → Option va_E) (fr to_ : Int) (h1 : (-2147483648 ≤ fr ∧ fr < 2147483648)) (h2 : (-2147483648 ≤ to_ ∧ to_ < 2147483648)) : Met l yX6_isSpan wsX6_isSpan rmX6_isSpan (gR D cA ad w [.int (iI fr), .int (iI to_)]) (gR0 (fun v9 => ∃ z : Int, v9 = some (.int (iI z)) ∧ ((z = 1 ∧ 0 ≤ fr ∧ fr ≤ to_ ∧ to_ < 400) ∨ (z = 0 ∧ ¬ (0 ≤ fr ∧ fr ≤ to_ ∧ to_ < 400))))) 0 0 (fun _ => False) := by
  refine Met.ofW (cc := cX6_isSpan) (maxL := 2) (ret := (some .boolean)) (by decide) rfl ?_
  intro p e s m args below meth c s₁ B hml hv
  obtain ⟨hav, hP, hK, hB⟩ := hv
  have hx := B.exec
  have hb := B.bytes
  have hret := B.returns
  have hts := atoms_spec (ws := wsX6_isSpan) B.pre
  have hown : s.vm.findClass RX6 = some m.cls := findClass_of_methodNamed B.named
  have hlocks := B.notSynchronized
  have hS : va_S (fun _ => False) s.heap s.heap [] := va_S.rf
  have he9 : entryFrame m args 2 = F0 m 0 ((lg_sl ([.int (iI fr), .int (iI to_)] : List Value) ++ List.replicate (2 - (lg_sl ([.int (iI fr), .int (iI to_)] : List Value)).length) Slot.unset).toArray) [] := by rw [hav, lg_entry_eq]
  rw [he9]
  have hl := lv_entry ([.int (iI fr), .int (iI to_)] : List Value) (n := 2) (Nat.le_of_ble_eq_true rfl)
  generalize (lg_sl ([.int (iI fr), .int (iI to_)] : List Value) ++ List.replicate (2 - (lg_sl ([.int (iI fr), .int (iI to_)] : List Value)).length) Slot.unset).toArray = ls at hl ⊢
  have hl : lv_has ls 2 [(0, .int (iI fr)), (1, .int (iI to_))] := hl
  obtain ⟨Q9, hQ9⟩ : ∃ z, z = MQ below (gR0 (fun v9 => ∃ z : Int, v9 = some (.int (iI z)) ∧ ((z = 1 ∧ 0 ≤ fr ∧ fr ≤ to_ ∧ to_ < 400) ∨ (z = 0 ∧ ¬ (0 ≤ fr ∧ fr ≤ to_ ∧ to_ < 400))))) args s 0 0 (fun _ => False) := ⟨_, rfl⟩
  rw [← hQ9]
  show W p l e rmX6_isSpan s m args below meth c s.heap [] 0 0 Q9 (F0 m 0 ls [])
  refine lv_iload_n (pc := 0) hx hb dX6_isSpan_0 rfl (lv_at hl 0 rfl) ?_
  refine k_if_lt (pc := 1) (tgt := 20) hx hb ⟨by omega, by omega⟩ dX6_isSpan_1 (by decide) (fun hc_1 => ?_) (fun hc_1 => ?_)
  · skip
    refine k_iconst (pc := 20) hx hb dX6_isSpan_20 ?_
    rw [hQ9]
    exact W.zret (v := iI 0) hx hb hret (by decide +kernel) (fun t ht hW => ⟨some (.int (iI 0)), rfl, ⟨0, rfl, Or.inr ⟨rfl, by omega⟩⟩, ht⟩) (fun q hq => by cases hq) dX6_isSpan_21
  · skip
    refine lv_iload_n (pc := 4) hx hb dX6_isSpan_4 rfl (lv_at hl 0 rfl) ?_
    refine lv_iload_n (pc := 5) hx hb dX6_isSpan_5 rfl (lv_at hl 1 rfl) ?_
    refine k_icmp_gt (pc := 6) (tgt := 20) hx hb ⟨by omega, by omega⟩ ⟨by omega, by omega⟩ dX6_isSpan_6 (by decide) (fun hc_6 => ?_) (fun hc_6 => ?_)
    · skip
      refine k_iconst (pc := 20) hx hb dX6_isSpan_20 ?_
      rw [hQ9]
      exact W.zret (v := iI 0) hx hb hret (by decide +kernel) (fun t ht hW => ⟨some (.int (iI 0)), rfl, ⟨0, rfl, Or.inr ⟨rfl, by omega⟩⟩, ht⟩) (fun q hq => by cases hq) dX6_isSpan_21
    · skip
      refine lv_iload_n (pc := 9) hx hb dX6_isSpan_9 rfl (lv_at hl 1 rfl) ?_
      refine k_sipush (pc := 10) hx hb dX6_isSpan_10 (by decide +kernel) ?_
      refine k_icmp_ge (pc := 13) (tgt := 20) hx hb ⟨by omega, by omega⟩ ⟨by omega, by omega⟩ dX6_isSpan_13 (by decide) (fun hc_13 => ?_) (fun hc_13 => ?_)
      · skip
        refine k_iconst (pc := 20) hx hb dX6_isSpan_20 ?_
        rw [hQ9]
        exact W.zret (v := iI 0) hx hb hret (by decide +kernel) (fun t ht hW => ⟨some (.int (iI 0)), rfl, ⟨0, rfl, Or.inr ⟨rfl, by omega⟩⟩, ht⟩) (fun q hq => by cases hq) dX6_isSpan_21
      · skip
        refine k_iconst (pc := 16) hx hb dX6_isSpan_16 ?_
        refine lv_goto (pc := 17) (tgt := 21) hx hb dX6_isSpan_17 (by decide) ?_
        rw [hQ9]
        exact W.zret (v := iI 1) hx hb hret (by decide +kernel) (fun t ht hW => ⟨some (.int (iI 1)), rfl, ⟨1, rfl, Or.inl ⟨rfl, by omega⟩⟩, ht⟩) (fun q hq => by cases hq) dX6_isSpan_21

abbrev rmX6_fail : Room := { frames := 0, cells := 0, slots := 0, locals := 0 }
theorem hiX6_fail_6 : ∀ w ∈ wsX60, w ∈ wsX6_fail := by decide +kernel
set_option maxHeartbeats 4000000 in
set_option maxRecDepth 100000 in
theorem c_X6_fail (l : Launch) (D : va_G) (cA : Nat → ClassId) (ad : Nat → Nat) (w : Nat → Option va_E) (sz : Nat) (th c0 s1 f2 l3 m4 fr : Int) (k0 : w 200 = some (oB 6 [.int (iI th), .int (iI c0), .ref (ad 201), .ref (ad 202), .ref (ad 203), .ref (ad 204), .int (iI s1), .ref (ad 205), .ref (ad 206), .ref (ad 207), .ref (ad 208), .ref (ad 209), .int (iI f2), .int (iI l3), .int (iI m4), .ref (ad 210), .int (iI fr), .ref (ad 211), .ref (ad 212)])) (nu : Int) : Met l yX6_fail wsX6_fail rmX6_fail (gV D cA ad w sz [.ref (ad 200), .int (iI nu)]) (gW D (fun v9 ad1 w1 => v9 = some (.int (iI 0)) ∧ ad1 = ad ∧ w1 = up w 200 (oB 6 [.int (iI nu), .int (iI c0), .ref (ad 201), .ref (ad 202), .ref (ad 203), .ref (ad 204), .int (iI s1), .ref (ad 205), .ref (ad 206), .ref (ad 207), .ref (ad 208), .ref (ad 209), .int (iI f2), .int (iI l3), .int (iI m4), .ref (ad 210), .int (iI fr), .ref (ad 211), .ref (ad 212)])) (gA ad w sz)) 0 0 (gA ad w sz) := by
  refine Met.ofW (cc := cX6_fail) (maxL := 2) (ret := (some .int)) (by decide) rfl ?_
  intro p e s m args below meth c s₁ B hml hv
  obtain ⟨hav, hsz, hP, hD0, hK, hB, hZ⟩ := hv
  have hx := B.exec
  have hb := B.bytes
  have hret := B.returns
  have hts := atoms_spec (ws := wsX6_fail) B.pre
  have hown : s.vm.findClass RX6 = some m.cls := findClass_of_methodNamed B.named
  have hlocks := B.notSynchronized
  subst hsz
  have hD := hD0.self (sz := s.heap.size)
  generalize hAe : gA ad w s.heap.size = A at hD hZ ⊢
  have hA : ∀ q : Nat, s.heap.size ≤ q → A q := fun q h => by rw [← hAe]; exact Or.inr h
  have hS : va_S A s.heap s.heap [] := va_S.rf
  have hi6 := hiX6_fail_6
  have hf55 := hts (.fieldLink RX6 55 "GaugeBookModel" "thrown" "I") (by decide +kernel)
  have he9 : entryFrame m args 2 = F0 m 0 ((lg_sl ([.ref (ad 200), .int (iI nu)] : List Value) ++ List.replicate (2 - (lg_sl ([.ref (ad 200), .int (iI nu)] : List Value)).length) Slot.unset).toArray) [] := by rw [hav, lg_entry_eq]
  rw [he9]
  have hl := lv_entry ([.ref (ad 200), .int (iI nu)] : List Value) (n := 2) (Nat.le_of_ble_eq_true rfl)
  generalize (lg_sl ([.ref (ad 200), .int (iI nu)] : List Value) ++ List.replicate (2 - (lg_sl ([.ref (ad 200), .int (iI nu)] : List Value)).length) Slot.unset).toArray = ls at hl ⊢
  have hl : lv_has ls 2 [(0, .ref (ad 200)), (1, .int (iI nu))] := hl
  obtain ⟨Q9, hQ9⟩ : ∃ z, z = MQ below (gW D (fun v9 ad1 w1 => v9 = some (.int (iI 0)) ∧ ad1 = ad ∧ w1 = up w 200 (oB 6 [.int (iI nu), .int (iI c0), .ref (ad 201), .ref (ad 202), .ref (ad 203), .ref (ad 204), .int (iI s1), .ref (ad 205), .ref (ad 206), .ref (ad 207), .ref (ad 208), .ref (ad 209), .int (iI f2), .int (iI l3), .int (iI m4), .ref (ad 210), .int (iI fr), .ref (ad 211), .ref (ad 212)])) A) args s 0 0 A := ⟨_, rfl⟩
  rw [← hQ9]
  show W p l e rmX6_fail s m args below meth c s.heap [] 0 0 Q9 (F0 m 0 ls [])
  obtain ⟨H, hHe⟩ : ∃ z, z = s.heap := ⟨_, rfl⟩
  obtain ⟨locs, hLe⟩ : ∃ z, z = ([] : List Loc) := ⟨_, rfl⟩
  have hP : gP D vwCl ad w H := by rw [hHe]; exact hP
  have hS : va_S A s.heap H locs := by rw [hHe, hLe]; exact va_S.rf
  rw [show W p l e rmX6_fail s m args below meth c s.heap [] 0 0 Q9 (F0 m 0 ls []) = W p l e rmX6_fail s m args below meth c H locs 0 0 Q9 (F0 m 0 ls []) by rw [hHe, hLe]]
  clear hHe hLe
  refine lv_aload_n (pc := 0) hx hb dX6_fail_0 rfl (lv_at hl 0 rfl) ?_
  refine lv_iload_n (pc := 1) hx hb dX6_fail_1 rfl (lv_at hl 1 rfl) ?_
  refine k_put (pc := 2) (ci := 6) (C := RX6) (T := TX6) (N := 19) (ty := .int) (v := .int (iI nu)) (w1 := (up w 200 (oB 6 [.int (iI nu), .int (iI c0), .ref (ad 201), .ref (ad 202), .ref (ad 203), .ref (ad 204), .int (iI s1), .ref (ad 205), .ref (ad 206), .ref (ad 207), .ref (ad 208), .ref (ad 209), .int (iI f2), .int (iI l3), .int (iI m4), .ref (ad 210), .int (iI fr), .ref (ad 211), .ref (ad 212)]))) hx hb hts hi6 tyX6 tyX6_ok nmX6 hown hK hP hD hS 200 k0 rfl 0 (by decide) hf55 (fun _ h9 => h9) rfl (by decide +kernel) rfl rfl (Nat.le_of_ble_eq_true rfl) rfl dX6_fail_2 (fun H locs hP hD hS => ?_)
  refine k_iconst (pc := 5) hx hb dX6_fail_5 ?_
  rw [hQ9]
  exact W.iret (v := iI 0) hx hb hret (fun t ht hW => ⟨⟨some (.int (iI 0)), ad, (up w 200 (oB 6 [.int (iI nu), .int (iI c0), .ref (ad 201), .ref (ad 202), .ref (ad 203), .ref (ad 204), .int (iI s1), .ref (ad 205), .ref (ad 206), .ref (ad 207), .ref (ad 208), .ref (ad 209), .int (iI f2), .int (iI l3), .int (iI m4), .ref (ad 210), .int (iI fr), .ref (ad 211), .ref (ad 212)])), rfl, ⟨rfl, rfl, rfl⟩, by rw [ht]; exact hP, hD⟩, hS.F ht⟩) hS.2.2 dX6_fail_6

abbrev rmX6_thrown : Room := { frames := 0, cells := 0, slots := 0, locals := 0 }
theorem hiX6_thrown_6 : ∀ w ∈ wsX60, w ∈ wsX6_thrown := by decide +kernel
set_option maxHeartbeats 4000000 in
set_option maxRecDepth 100000 in
theorem c_X6_thrown (l : Launch) (D : va_G) (cA : Nat → ClassId) (ad : Nat → Nat) (w : Nat → Option va_E) (sc : Nat → Int) (fn : Nat → Int → Int) (th fr : Int) (k0 : w 200 = some (oB 6 [.int (iI th), .int (iI (sc 0)), .ref (ad 201), .ref (ad 202), .ref (ad 203), .ref (ad 204), .int (iI (sc 1)), .ref (ad 205), .ref (ad 206), .ref (ad 207), .ref (ad 208), .ref (ad 209), .int (iI (sc 2)), .int (iI (sc 3)), .int (iI (sc 4)), .ref (ad 210), .int (iI fr), .ref (ad 211), .ref (ad 212)])) : Met l yX6_thrown wsX6_thrown rmX6_thrown (gR D cA ad w [.ref (ad 200)]) (gR0 (fun v9 => ∃ z : Int, v9 = some (.int (iI z)) ∧ z = th)) 0 0 (fun _ => False) := by
  refine Met.ofW (cc := cX6_thrown) (maxL := 1) (ret := (some .int)) (by decide) rfl ?_
  intro p e s m args below meth c s₁ B hml hv
  obtain ⟨hav, hP, hK, hB⟩ := hv
  have hx := B.exec
  have hb := B.bytes
  have hret := B.returns
  have hts := atoms_spec (ws := wsX6_thrown) B.pre
  have hown : s.vm.findClass RX6 = some m.cls := findClass_of_methodNamed B.named
  have hlocks := B.notSynchronized
  have hS : va_S (fun _ => False) s.heap s.heap [] := va_S.rf
  have hi6 := hiX6_thrown_6
  have hf55 := hts (.fieldLink RX6 55 "GaugeBookModel" "thrown" "I") (by decide +kernel)
  have he9 : entryFrame m args 1 = F0 m 0 ((lg_sl ([.ref (ad 200)] : List Value) ++ List.replicate (1 - (lg_sl ([.ref (ad 200)] : List Value)).length) Slot.unset).toArray) [] := by rw [hav, lg_entry_eq]
  rw [he9]
  have hl := lv_entry ([.ref (ad 200)] : List Value) (n := 1) (Nat.le_of_ble_eq_true rfl)
  generalize (lg_sl ([.ref (ad 200)] : List Value) ++ List.replicate (1 - (lg_sl ([.ref (ad 200)] : List Value)).length) Slot.unset).toArray = ls at hl ⊢
  have hl : lv_has ls 1 [(0, .ref (ad 200))] := hl
  obtain ⟨Q9, hQ9⟩ : ∃ z, z = MQ below (gR0 (fun v9 => ∃ z : Int, v9 = some (.int (iI z)) ∧ z = th)) args s 0 0 (fun _ => False) := ⟨_, rfl⟩
  rw [← hQ9]
  show W p l e rmX6_thrown s m args below meth c s.heap [] 0 0 Q9 (F0 m 0 ls [])
  refine lv_aload_n (pc := 0) hx hb dX6_thrown_0 rfl (lv_at hl 0 rfl) ?_
  refine k_get (pc := 1) (ci := 6) (C := RX6) (T := TX6) (N := 19) hx hb hts hi6 hown hK hP 200 k0 rfl 0 (by decide) hf55 (fun _ h9 => h9) rfl dX6_thrown_1 ?_
  rw [hQ9]
  exact W.iret (v := iI th) hx hb hret (fun t ht hW => ⟨some (.int (iI th)), rfl, ⟨th, rfl, rfl⟩, ht⟩) (fun q hq => by cases hq) dX6_thrown_4

abbrev rmX6_isComplete : Room := { frames := 0, cells := 0, slots := 0, locals := 0 }
theorem hiX6_isComplete_6 : ∀ w ∈ wsX60, w ∈ wsX6_isComplete := by decide +kernel
set_option maxHeartbeats 4000000 in
set_option maxRecDepth 100000 in
theorem c_X6_isComplete (l : Launch) (D : va_G) (cA : Nat → ClassId) (ad : Nat → Nat) (w : Nat → Option va_E) (sc : Nat → Int) (fn : Nat → Int → Int) (th fr : Int) (hI : bkInv sc fn) (k0 : w 200 = some (oB 6 [.int (iI th), .int (iI (sc 0)), .ref (ad 201), .ref (ad 202), .ref (ad 203), .ref (ad 204), .int (iI (sc 1)), .ref (ad 205), .ref (ad 206), .ref (ad 207), .ref (ad 208), .ref (ad 209), .int (iI (sc 2)), .int (iI (sc 3)), .int (iI (sc 4)), .ref (ad 210), .int (iI fr), .ref (ad 211), .ref (ad 212)])) (k2 : w 202 = some (eI (cA 0) 6 (fn 9))) (cu : Int) (hc_ : -1 ≤ cu ∧ cu < 6) : Met l yX6_isComplete wsX6_isComplete rmX6_isComplete (gR D cA ad w [.ref (ad 200), .int (iI cu)]) (gR0 (fun v9 => ∃ z : Int, v9 = some (.int (iI z)) ∧ ((z = 1 ∧ cu ≠ -1 ∧ 2 ≤ fn 9 cu) ∨ (z = 0 ∧ ¬ (cu ≠ -1 ∧ 2 ≤ fn 9 cu))))) 0 0 (fun _ => False) := by
  refine Met.ofW (cc := cX6_isComplete) (maxL := 2) (ret := (some .boolean)) (by decide) rfl ?_
  intro p e s m args below meth c s₁ B hml hv
  obtain ⟨hav, hP, hK, hB⟩ := hv
  have hx := B.exec
  have hb := B.bytes
  have hret := B.returns
  have hts := atoms_spec (ws := wsX6_isComplete) B.pre
  have hown : s.vm.findClass RX6 = some m.cls := findClass_of_methodNamed B.named
  have hlocks := B.notSynchronized
  have hS : va_S (fun _ => False) s.heap s.heap [] := va_S.rf
  have hi6 := hiX6_isComplete_6
  have hf13 := hts (.fieldLink RX6 13 "GaugeBookModel" "many" "[I") (by decide +kernel)
  have he9 : entryFrame m args 2 = F0 m 0 ((lg_sl ([.ref (ad 200), .int (iI cu)] : List Value) ++ List.replicate (2 - (lg_sl ([.ref (ad 200), .int (iI cu)] : List Value)).length) Slot.unset).toArray) [] := by rw [hav, lg_entry_eq]
  rw [he9]
  have hl := lv_entry ([.ref (ad 200), .int (iI cu)] : List Value) (n := 2) (Nat.le_of_ble_eq_true rfl)
  generalize (lg_sl ([.ref (ad 200), .int (iI cu)] : List Value) ++ List.replicate (2 - (lg_sl ([.ref (ad 200), .int (iI cu)] : List Value)).length) Slot.unset).toArray = ls at hl ⊢
  have hl : lv_has ls 2 [(0, .ref (ad 200)), (1, .int (iI cu))] := hl
  obtain ⟨Q9, hQ9⟩ : ∃ z, z = MQ below (gR0 (fun v9 => ∃ z : Int, v9 = some (.int (iI z)) ∧ ((z = 1 ∧ cu ≠ -1 ∧ 2 ≤ fn 9 cu) ∨ (z = 0 ∧ ¬ (cu ≠ -1 ∧ 2 ≤ fn 9 cu))))) args s 0 0 (fun _ => False) := ⟨_, rfl⟩
  rw [← hQ9]
  show W p l e rmX6_isComplete s m args below meth c s.heap [] 0 0 Q9 (F0 m 0 ls [])
  have hI1 := hI.1
  refine lv_iload_n (pc := 0) hx hb dX6_isComplete_0 rfl (lv_at hl 1 rfl) ?_
  refine k_iconst (pc := 1) hx hb dX6_isComplete_1 ?_
  refine k_icmp_eq (pc := 2) (tgt := 19) hx hb ⟨by omega, by omega⟩ ⟨by omega, by omega⟩ dX6_isComplete_2 (by decide) (fun hc_2 => ?_) (fun hc_2 => ?_)
  · skip
    refine k_iconst (pc := 19) hx hb dX6_isComplete_19 ?_
    rw [hQ9]
    exact W.zret (v := iI 0) hx hb hret (by decide +kernel) (fun t ht hW => ⟨some (.int (iI 0)), rfl, ⟨0, rfl, Or.inr ⟨rfl, by omega⟩⟩, ht⟩) (fun q hq => by cases hq) dX6_isComplete_20
  · skip
    refine lv_aload_n (pc := 5) hx hb dX6_isComplete_5 rfl (lv_at hl 0 rfl) ?_
    refine k_get (pc := 6) (ci := 6) (C := RX6) (T := TX6) (N := 19) hx hb hts hi6 hown hK hP 200 k0 rfl 3 (by decide) hf13 (fun _ h9 => h9) rfl dX6_isComplete_6 ?_
    refine lv_iload_n (pc := 9) hx hb dX6_isComplete_9 rfl (lv_at hl 1 rfl) ?_
    refine k_iald (pc := 10) hx hb hK hP 202 0 k2 rfl (by omega) (by omega) (by omega) dX6_isComplete_10 ?_
    have hq_10 := hI.2.2.2.2.2.2.2.2.2.1 cu
    refine k_iconst (pc := 11) hx hb dX6_isComplete_11 ?_
    refine k_icmp_le (pc := 12) (tgt := 19) hx hb ⟨by omega, by omega⟩ ⟨by omega, by omega⟩ dX6_isComplete_12 (by decide) (fun hc_12 => ?_) (fun hc_12 => ?_)
    · skip
      refine k_iconst (pc := 19) hx hb dX6_isComplete_19 ?_
      rw [hQ9]
      exact W.zret (v := iI 0) hx hb hret (by decide +kernel) (fun t ht hW => ⟨some (.int (iI 0)), rfl, ⟨0, rfl, Or.inr ⟨rfl, by omega⟩⟩, ht⟩) (fun q hq => by cases hq) dX6_isComplete_20
    · skip
      refine k_iconst (pc := 15) hx hb dX6_isComplete_15 ?_
      refine lv_goto (pc := 16) (tgt := 20) hx hb dX6_isComplete_16 (by decide) ?_
      rw [hQ9]
      exact W.zret (v := iI 1) hx hb hret (by decide +kernel) (fun t ht hW => ⟨some (.int (iI 1)), rfl, ⟨1, rfl, Or.inl ⟨rfl, by omega⟩⟩, ht⟩) (fun q hq => by cases hq) dX6_isComplete_20

abbrev rmX6_why : Room := { frames := 2, cells := 0, slots := 0, locals := 46 }
set_option maxHeartbeats 4000000 in
set_option maxRecDepth 100000 in
theorem c_X6_why (l : Launch) (D : va_G) (cA : Nat → ClassId) (ad : Nat → Nat) (w : Nat → Option va_E) (sc : Nat → Int) (fn : Nat → Int → Int) (th fr : Int) (hI : bkInv sc fn) (k0 : w 200 = some (oB 6 [.int (iI th), .int (iI (sc 0)), .ref (ad 201), .ref (ad 202), .ref (ad 203), .ref (ad 204), .int (iI (sc 1)), .ref (ad 205), .ref (ad 206), .ref (ad 207), .ref (ad 208), .ref (ad 209), .int (iI (sc 2)), .int (iI (sc 3)), .int (iI (sc 4)), .ref (ad 210), .int (iI fr), .ref (ad 211), .ref (ad 212)])) (k2 : w 202 = some (eI (cA 0) 6 (fn 9))) (cu b : Int) (hc_ : (-2147483648 ≤ cu ∧ cu < 2147483648)) (hb_ : 0 ≤ b ∧ b ≤ 1) : Met l yX6_why wsX6_why rmX6_why (gR D cA ad w [.ref (ad 200), .int (iI cu), .int (iI b)]) (gR0 (fun v9 => ∃ z : Int, v9 = some (.int (iI z)) ∧ ((z = 1 ∧ ¬ (0 ≤ cu ∧ cu < sc 0)) ∨ (z = 2 ∧ (0 ≤ cu ∧ cu < sc 0) ∧ b = 0) ∨ (z = 3 ∧ (0 ≤ cu ∧ cu < sc 0) ∧ b ≠ 0 ∧ ¬ 2 ≤ fn 9 cu) ∨ (z = 0 ∧ (0 ≤ cu ∧ cu < sc 0) ∧ b ≠ 0 ∧ 2 ≤ fn 9 cu)))) 0 0 (fun _ => False) := by
  refine Met.ofW (cc := cX6_why) (maxL := 3) (ret := (some .int)) (by decide) rfl ?_
  intro p e s m args below meth c s₁ B hml hv
  obtain ⟨hav, hP, hK, hB⟩ := hv
  have hx := B.exec
  have hb := B.bytes
  have hret := B.returns
  have hts := atoms_spec (ws := wsX6_why) B.pre
  have hown : s.vm.findClass RX6 = some m.cls := findClass_of_methodNamed B.named
  have hlocks := B.notSynchronized
  have hS : va_S (fun _ => False) s.heap s.heap [] := va_S.rf
  have he9 : entryFrame m args 3 = F0 m 0 ((lg_sl ([.ref (ad 200), .int (iI cu), .int (iI b)] : List Value) ++ List.replicate (3 - (lg_sl ([.ref (ad 200), .int (iI cu), .int (iI b)] : List Value)).length) Slot.unset).toArray) [] := by rw [hav, lg_entry_eq]
  rw [he9]
  have hl := lv_entry ([.ref (ad 200), .int (iI cu), .int (iI b)] : List Value) (n := 3) (Nat.le_of_ble_eq_true rfl)
  generalize (lg_sl ([.ref (ad 200), .int (iI cu), .int (iI b)] : List Value) ++ List.replicate (3 - (lg_sl ([.ref (ad 200), .int (iI cu), .int (iI b)] : List Value)).length) Slot.unset).toArray = ls at hl ⊢
  have hl : lv_has ls 3 [(0, .ref (ad 200)), (1, .int (iI cu)), (2, .int (iI b))] := hl
  obtain ⟨Q9, hQ9⟩ : ∃ z, z = MQ below (gR0 (fun v9 => ∃ z : Int, v9 = some (.int (iI z)) ∧ ((z = 1 ∧ ¬ (0 ≤ cu ∧ cu < sc 0)) ∨ (z = 2 ∧ (0 ≤ cu ∧ cu < sc 0) ∧ b = 0) ∨ (z = 3 ∧ (0 ≤ cu ∧ cu < sc 0) ∧ b ≠ 0 ∧ ¬ 2 ≤ fn 9 cu) ∨ (z = 0 ∧ (0 ≤ cu ∧ cu < sc 0) ∧ b ≠ 0 ∧ 2 ≤ fn 9 cu)))) args s 0 0 (fun _ => False) := ⟨_, rfl⟩
  rw [← hQ9]
  show W p l e rmX6_why s m args below meth c s.heap [] 0 0 Q9 (F0 m 0 ls [])
  have hI1 := hI.1
  refine lv_aload_n (pc := 0) hx hb dX6_why_0 rfl (lv_at hl 0 rfl) ?_
  refine lv_iload_n (pc := 1) hx hb dX6_why_1 rfl (lv_at hl 1 rfl) ?_
  refine k_call0 (pc := 2) (va_runV (As := [.int (iI cu)]) (rest := []) ⟨hx, hb, hml, hown, hts⟩ (c_X6_isCurve l D cA ad w sc fn th fr hI k0 cu (by omega)) (cwV 1 hts gX6_why_X6_isCurve rfl rfl rfl (by decide +kernel) ⟨Nat.le_of_ble_eq_true rfl, Nat.le_of_ble_eq_true rfl⟩) (gR_V hP hK hB 200 (ci := 6) rfl k0) rfl rfl hl.1 rfl (lv_room (Nat.le_of_ble_eq_true rfl)) dX6_why_2 ⟨Nat.le_of_ble_eq_true rfl, Nat.le_of_ble_eq_true rfl⟩) (fun v_2 hv_2 => ?_)
  obtain ⟨z_2, rfl, hz_2⟩ := hv_2
  refine W.eq (g2 := F0 m 5 ls [.int (iI z_2)]) rfl ?_
  refine k_if_ne (pc := 5) (tgt := 12) hx hb ⟨by omega, by omega⟩ dX6_why_5 (by decide) (fun hc_5 => ?_) (fun hc_5 => ?_)
  · skip
    refine lv_iload_n (pc := 12) hx hb dX6_why_12 rfl (lv_at hl 2 rfl) ?_
    refine k_if_ne (pc := 13) (tgt := 20) hx hb ⟨by omega, by omega⟩ dX6_why_13 (by decide) (fun hc_13 => ?_) (fun hc_13 => ?_)
    · skip
      refine lv_aload_n (pc := 20) hx hb dX6_why_20 rfl (lv_at hl 0 rfl) ?_
      refine lv_iload_n (pc := 21) hx hb dX6_why_21 rfl (lv_at hl 1 rfl) ?_
      refine k_call0 (pc := 22) (va_runV (As := [.int (iI cu)]) (rest := []) ⟨hx, hb, hml, hown, hts⟩ (c_X6_isComplete l D cA ad w sc fn th fr hI k0 k2 cu (by omega)) (cwV 1 hts gX6_why_X6_isComplete rfl rfl rfl (by decide +kernel) ⟨Nat.le_of_ble_eq_true rfl, Nat.le_of_ble_eq_true rfl⟩) (gR_V hP hK hB 200 (ci := 6) rfl k0) rfl rfl hl.1 rfl (lv_room (Nat.le_of_ble_eq_true rfl)) dX6_why_22 ⟨Nat.le_of_ble_eq_true rfl, Nat.le_of_ble_eq_true rfl⟩) (fun v_22 hv_22 => ?_)
      obtain ⟨z_22, rfl, hz_22⟩ := hv_22
      refine W.eq (g2 := F0 m 25 ls [.int (iI z_22)]) rfl ?_
      refine k_if_ne (pc := 25) (tgt := 32) hx hb ⟨by omega, by omega⟩ dX6_why_25 (by decide) (fun hc_25 => ?_) (fun hc_25 => ?_)
      · skip
        refine k_iconst (pc := 32) hx hb dX6_why_32 ?_
        rw [hQ9]
        exact W.iret (v := iI 0) hx hb hret (fun t ht hW => ⟨some (.int (iI 0)), rfl, ⟨0, rfl, Or.inr (Or.inr (Or.inr ⟨rfl, by omega, by omega, by omega⟩))⟩, ht⟩) (fun q hq => by cases hq) dX6_why_33
      · skip
        refine k_iconst (pc := 28) hx hb dX6_why_28 ?_
        refine lv_goto (pc := 29) (tgt := 33) hx hb dX6_why_29 (by decide) ?_
        rw [hQ9]
        exact W.iret (v := iI 3) hx hb hret (fun t ht hW => ⟨some (.int (iI 3)), rfl, ⟨3, rfl, Or.inr (Or.inr (Or.inl ⟨rfl, by omega, by omega, by omega⟩))⟩, ht⟩) (fun q hq => by cases hq) dX6_why_33
    · skip
      refine k_iconst (pc := 16) hx hb dX6_why_16 ?_
      refine lv_goto (pc := 17) (tgt := 33) hx hb dX6_why_17 (by decide) ?_
      rw [hQ9]
      exact W.iret (v := iI 2) hx hb hret (fun t ht hW => ⟨some (.int (iI 2)), rfl, ⟨2, rfl, Or.inr (Or.inl ⟨rfl, by omega, by omega⟩)⟩, ht⟩) (fun q hq => by cases hq) dX6_why_33
  · skip
    refine k_iconst (pc := 8) hx hb dX6_why_8 ?_
    refine lv_goto (pc := 9) (tgt := 33) hx hb dX6_why_9 (by decide) ?_
    rw [hQ9]
    exact W.iret (v := iI 1) hx hb hret (fun t ht hW => ⟨some (.int (iI 1)), rfl, ⟨1, rfl, Or.inl ⟨rfl, by omega⟩⟩, ht⟩) (fun q hq => by cases hq) dX6_why_33

abbrev rmX6_flowFor : Room := { frames := 0, cells := 0, slots := 0, locals := 0 }
theorem hiX6_flowFor_6 : ∀ w ∈ wsX60, w ∈ wsX6_flowFor := by decide +kernel
set_option maxHeartbeats 4000000 in
set_option maxRecDepth 100000 in
theorem c_X6_flowFor (l : Launch) (D : va_G) (cA : Nat → ClassId) (ad : Nat → Nat) (w : Nat → Option va_E) (sc : Nat → Int) (fn : Nat → Int → Int) (th fr : Int) (G1 : Int → Int) (G2 : Int → Int) (hI : bkInv sc fn) (k0 : w 200 = some (oB 6 [.int (iI th), .int (iI (sc 0)), .ref (ad 201), .ref (ad 202), .ref (ad 203), .ref (ad 204), .int (iI (sc 1)), .ref (ad 205), .ref (ad 206), .ref (ad 207), .ref (ad 208), .ref (ad 209), .int (iI (sc 2)), .int (iI (sc 3)), .int (iI (sc 4)), .ref (ad 210), .int (iI fr), .ref (ad 211), .ref (ad 212)])) (k2 : w 202 = some (eI (cA 0) 6 (fn 9))) (k3 : w 203 = some (eI (cA 0) 72 G1)) (k4 : w 204 = some (eI (cA 0) 72 G2)) (hG1 : ∀ j : Int, -500 ≤ G1 j ∧ G1 j ≤ 2000) (hG2 : ∀ j : Int, 0 ≤ G2 j ∧ G2 j ≤ 1000000) (hmc : mdC sc fn G1 G2) (cu sg : Int) (hc_ : 0 ≤ cu ∧ cu < sc 0) (hn2 : 2 ≤ fn 9 cu) (hs : -5000 ≤ sg ∧ sg ≤ 5000) : Met l yX6_flowFor wsX6_flowFor rmX6_flowFor (gR D cA ad w [.ref (ad 200), .int (iI cu), .int (iI sg)]) (gR0 (fun v9 => ∃ z : Int, v9 = some (.long (lI z)) ∧ z = flowF (fn (20 + cu.toNat)) (fn (30 + cu.toNat)) (fn 9 cu) sg)) 0 0 (fun _ => False) := by
  refine Met.ofW (cc := cX6_flowFor) (maxL := 6) (ret := (some .long)) (by decide) rfl ?_
  intro p e s m args below meth c s₁ B hml hv
  obtain ⟨hav, hP, hK, hB⟩ := hv
  have hx := B.exec
  have hb := B.bytes
  have hret := B.returns
  have hts := atoms_spec (ws := wsX6_flowFor) B.pre
  have hown : s.vm.findClass RX6 = some m.cls := findClass_of_methodNamed B.named
  have hlocks := B.notSynchronized
  have hS : va_S (fun _ => False) s.heap s.heap [] := va_S.rf
  have hi6 := hiX6_flowFor_6
  have hf13 := hts (.fieldLink RX6 13 "GaugeBookModel" "many" "[I") (by decide +kernel)
  have hf16 := hts (.fieldLink RX6 16 "GaugeBookModel" "stages" "[I") (by decide +kernel)
  have hf19 := hts (.fieldLink RX6 19 "GaugeBookModel" "flows" "[I") (by decide +kernel)
  have he9 : entryFrame m args 6 = F0 m 0 ((lg_sl ([.ref (ad 200), .int (iI cu), .int (iI sg)] : List Value) ++ List.replicate (6 - (lg_sl ([.ref (ad 200), .int (iI cu), .int (iI sg)] : List Value)).length) Slot.unset).toArray) [] := by rw [hav, lg_entry_eq]
  rw [he9]
  have hl := lv_entry ([.ref (ad 200), .int (iI cu), .int (iI sg)] : List Value) (n := 6) (Nat.le_of_ble_eq_true rfl)
  generalize (lg_sl ([.ref (ad 200), .int (iI cu), .int (iI sg)] : List Value) ++ List.replicate (6 - (lg_sl ([.ref (ad 200), .int (iI cu), .int (iI sg)] : List Value)).length) Slot.unset).toArray = ls at hl ⊢
  have hl : lv_has ls 6 [(0, .ref (ad 200)), (1, .int (iI cu)), (2, .int (iI sg))] := hl
  obtain ⟨Q9, hQ9⟩ : ∃ z, z = MQ below (gR0 (fun v9 => ∃ z : Int, v9 = some (.long (lI z)) ∧ z = flowF (fn (20 + cu.toNat)) (fn (30 + cu.toNat)) (fn 9 cu) sg)) args s 0 0 (fun _ => False) := ⟨_, rfl⟩
  rw [← hQ9]
  show W p l e rmX6_flowFor s m args below meth c s.heap [] 0 0 Q9 (F0 m 0 ls [])
  have hI1 := hI.1
  have hN_ := hI.2.2.2.2.2.2.2.2.2.1 cu
  have r1_ : ∀ j : Int, 0 ≤ j → j < 12 → G1 (12 * cu + j) = fn (20 + cu.toNat) j := fun j a1 a2 => ((hmc cu j (by omega) (by omega) a1 a2).1 hc_.2).1
  have r2_ : ∀ j : Int, 0 ≤ j → j < 12 → G2 (12 * cu + j) = fn (30 + cu.toNat) j := fun j a1 a2 => ((hmc cu j (by omega) (by omega) a1 a2).1 hc_.2).2
  have hok_ := hI.2.2.2.2.2.2.2.2.2.2 cu.toNat (by omega)
  rw [show ((cu.toNat : Nat) : Int) = cu by omega] at hok_
  refine k_bipush (pc := 0) hx hb dX6_flowFor_0 (by decide +kernel) ?_
  refine lv_iload_n (pc := 2) hx hb dX6_flowFor_2 rfl (lv_at hl 1 rfl) ?_
  refine k_imul (pc := 3) hx hb dX6_flowFor_3 ?_
  refine lv_istore_n (pc := 4) (lv' := [(3, .int (iI (12 * cu))), (0, .ref (ad 200)), (1, .int (iI cu)), (2, .int (iI sg))]) hx hb dX6_flowFor_4 rfl hl (by decide) rfl (fun ls hl => ?_)
  refine lv_aload_n (pc := 5) hx hb dX6_flowFor_5 rfl (lv_at hl 1 rfl) ?_
  refine k_get (pc := 6) (ci := 6) (C := RX6) (T := TX6) (N := 19) hx hb hts hi6 hown hK hP 200 k0 rfl 3 (by decide) hf13 (fun _ h9 => h9) rfl dX6_flowFor_6 ?_
  refine lv_iload_n (pc := 9) hx hb dX6_flowFor_9 rfl (lv_at hl 2 rfl) ?_
  refine k_iald (pc := 10) hx hb hK hP 202 0 k2 rfl (by omega) (by omega) (by omega) dX6_flowFor_10 ?_
  have hq_10 := hI.2.2.2.2.2.2.2.2.2.1 cu
  refine lv_istore (pc := 11) (lv' := [(4, .int (iI ((fn 9) cu))), (3, .int (iI (12 * cu))), (0, .ref (ad 200)), (1, .int (iI cu)), (2, .int (iI sg))]) hx hb dX6_flowFor_11 hl (by decide) rfl (fun ls hl => ?_)
  refine lv_iload_n (pc := 13) hx hb dX6_flowFor_13 rfl (lv_at hl 4 rfl) ?_
  refine lv_aload_n (pc := 14) hx hb dX6_flowFor_14 rfl (lv_at hl 2 rfl) ?_
  refine k_get (pc := 15) (ci := 6) (C := RX6) (T := TX6) (N := 19) hx hb hts hi6 hown hK hP 200 k0 rfl 4 (by decide) hf16 (fun _ h9 => h9) rfl dX6_flowFor_15 ?_
  refine lv_iload_n (pc := 18) hx hb dX6_flowFor_18 rfl (lv_at hl 1 rfl) ?_
  refine k_iald (pc := 19) hx hb hK hP 203 0 k3 rfl (by omega) (by omega) (by omega) dX6_flowFor_19 ?_
  have hq_19 := hG1 (12 * cu)
  refine k_icmp_ge (pc := 20) (tgt := 25) hx hb ⟨by omega, by omega⟩ ⟨by omega, by omega⟩ dX6_flowFor_20 (by decide) (fun hc_20 => ?_) (fun hc_20 => ?_)
  · skip
    refine lv_iload_n (pc := 25) hx hb dX6_flowFor_25 rfl (lv_at hl 1 rfl) ?_
    refine lv_istore (pc := 26) (lv' := [(5, .int (iI (12 * cu))), (4, .int (iI ((fn 9) cu))), (3, .int (iI (12 * cu))), (0, .ref (ad 200)), (1, .int (iI cu)), (2, .int (iI sg))]) hx hb dX6_flowFor_26 hl (by decide) rfl (fun ls hl => ?_)
    have lp_28 : ∀ (N9 : Nat) (x : Int), (12 * cu ≤ x ∧ x - 12 * cu + 2 ≤ fn 9 cu) → (x = 12 * cu ∨ G1 x ≤ sg) → (fn 9 cu - x + 12 * cu).toNat < N9 → ∀ (ls : Array Slot), lv_has ls 6 [(5, .int (iI x)), (4, .int (iI ((fn 9) cu))), (3, .int (iI (12 * cu))), (0, .ref (ad 200)), (1, .int (iI cu)), (2, .int (iI sg))] → W p l e rmX6_flowFor s m args below meth c s.heap [] 0 0 Q9 (F0 m 28 ls []) := by
      intro N9
      induction N9 with
      | zero => intro x i0 i1 hmu; exact absurd hmu (Nat.not_lt_zero _)
      | succ N9 ih_28 =>
        intro x i0 i1 hmu_28 ls hl
        refine lv_iload (pc := 28) hx hb dX6_flowFor_28 (lv_at hl 0 rfl) ?_
        refine k_iconst (pc := 30) hx hb dX6_flowFor_30 ?_
        refine k_iadd (pc := 31) hx hb dX6_flowFor_31 ?_
        refine lv_iload_n (pc := 32) hx hb dX6_flowFor_32 rfl (lv_at hl 2 rfl) ?_
        refine lv_iload (pc := 33) hx hb dX6_flowFor_33 (lv_at hl 1 rfl) ?_
        refine k_iadd (pc := 35) hx hb dX6_flowFor_35 ?_
        refine k_icmp_ge (pc := 36) (tgt := 58) hx hb ⟨by omega, by omega⟩ ⟨by omega, by omega⟩ dX6_flowFor_36 (by decide) (fun hc_36 => ?_) (fun hc_36 => ?_)
        · skip
          obtain ⟨k, rfl⟩ : ∃ k : Int, x = 12 * cu + k := ⟨x - 12 * cu, by omega⟩
          have j1_ := r1_ k (by omega) (by omega)
          have j2_ := r1_ (k + 1) (by omega) (by omega)
          rw [← Int.add_assoc] at j2_
          have j3_ := hok_.1 k (k + 1) (by omega) (by omega) (by omega)
          have b1_ := hG1 (12 * cu + k)
          have b2_ := hG1 (12 * cu + k + 1)
          have b3_ := hG2 (12 * cu + k)
          have b4_ := hG2 (12 * cu + k + 1)
          have hm_ := mulB (a := G2 (12 * cu + k + 1) - G2 (12 * cu + k)) (b := sg - G1 (12 * cu + k)) (M := 1000000) (N := 10000) ⟨by omega, by omega⟩ ⟨by omega, by omega⟩
          refine lv_aload_n (pc := 58) hx hb dX6_flowFor_58 rfl (lv_at hl 3 rfl) ?_
          refine k_get (pc := 59) (ci := 6) (C := RX6) (T := TX6) (N := 19) hx hb hts hi6 hown hK hP 200 k0 rfl 5 (by decide) hf19 (fun _ h9 => h9) rfl dX6_flowFor_59 ?_
          refine lv_iload (pc := 62) hx hb dX6_flowFor_62 (lv_at hl 0 rfl) ?_
          refine k_iald (pc := 64) hx hb hK hP 204 0 k4 rfl (by omega) (by omega) (by omega) dX6_flowFor_64 ?_
          have hq_64 := hG2 (12 * cu + k)
          refine k_i2l (pc := 65) hx hb ⟨by omega, by omega⟩ dX6_flowFor_65 ?_
          refine lv_aload_n (pc := 66) hx hb dX6_flowFor_66 rfl (lv_at hl 3 rfl) ?_
          refine k_get (pc := 67) (ci := 6) (C := RX6) (T := TX6) (N := 19) hx hb hts hi6 hown hK hP 200 k0 rfl 5 (by decide) hf19 (fun _ h9 => h9) rfl dX6_flowFor_67 ?_
          refine lv_iload (pc := 70) hx hb dX6_flowFor_70 (lv_at hl 0 rfl) ?_
          refine k_iconst (pc := 72) hx hb dX6_flowFor_72 ?_
          refine k_iadd (pc := 73) hx hb dX6_flowFor_73 ?_
          refine k_iald (pc := 74) hx hb hK hP 204 0 k4 rfl (by omega) (by omega) (by omega) dX6_flowFor_74 ?_
          have hq_74 := hG2 ((12 * cu + k) + 1)
          refine lv_aload_n (pc := 75) hx hb dX6_flowFor_75 rfl (lv_at hl 3 rfl) ?_
          refine k_get (pc := 76) (ci := 6) (C := RX6) (T := TX6) (N := 19) hx hb hts hi6 hown hK hP 200 k0 rfl 5 (by decide) hf19 (fun _ h9 => h9) rfl dX6_flowFor_76 ?_
          refine lv_iload (pc := 79) hx hb dX6_flowFor_79 (lv_at hl 0 rfl) ?_
          refine k_iald (pc := 81) hx hb hK hP 204 0 k4 rfl (by omega) (by omega) (by omega) dX6_flowFor_81 ?_
          have hq_81 := hG2 (12 * cu + k)
          refine k_isub (pc := 82) hx hb dX6_flowFor_82 ?_
          refine k_i2l (pc := 83) hx hb ⟨by omega, by omega⟩ dX6_flowFor_83 ?_
          refine lv_iload_n (pc := 84) hx hb dX6_flowFor_84 rfl (lv_at hl 5 rfl) ?_
          refine lv_aload_n (pc := 85) hx hb dX6_flowFor_85 rfl (lv_at hl 3 rfl) ?_
          refine k_get (pc := 86) (ci := 6) (C := RX6) (T := TX6) (N := 19) hx hb hts hi6 hown hK hP 200 k0 rfl 4 (by decide) hf16 (fun _ h9 => h9) rfl dX6_flowFor_86 ?_
          refine lv_iload (pc := 89) hx hb dX6_flowFor_89 (lv_at hl 0 rfl) ?_
          refine k_iald (pc := 91) hx hb hK hP 203 0 k3 rfl (by omega) (by omega) (by omega) dX6_flowFor_91 ?_
          have hq_91 := hG1 (12 * cu + k)
          refine k_isub (pc := 92) hx hb dX6_flowFor_92 ?_
          refine k_i2l (pc := 93) hx hb ⟨by omega, by omega⟩ dX6_flowFor_93 ?_
          refine k_lmul (pc := 94) hx hb dX6_flowFor_94 ?_
          refine lv_aload_n (pc := 95) hx hb dX6_flowFor_95 rfl (lv_at hl 3 rfl) ?_
          refine k_get (pc := 96) (ci := 6) (C := RX6) (T := TX6) (N := 19) hx hb hts hi6 hown hK hP 200 k0 rfl 4 (by decide) hf16 (fun _ h9 => h9) rfl dX6_flowFor_96 ?_
          refine lv_iload (pc := 99) hx hb dX6_flowFor_99 (lv_at hl 0 rfl) ?_
          refine k_iconst (pc := 101) hx hb dX6_flowFor_101 ?_
          refine k_iadd (pc := 102) hx hb dX6_flowFor_102 ?_
          refine k_iald (pc := 103) hx hb hK hP 203 0 k3 rfl (by omega) (by omega) (by omega) dX6_flowFor_103 ?_
          have hq_103 := hG1 ((12 * cu + k) + 1)
          refine lv_aload_n (pc := 104) hx hb dX6_flowFor_104 rfl (lv_at hl 3 rfl) ?_
          refine k_get (pc := 105) (ci := 6) (C := RX6) (T := TX6) (N := 19) hx hb hts hi6 hown hK hP 200 k0 rfl 4 (by decide) hf16 (fun _ h9 => h9) rfl dX6_flowFor_105 ?_
          refine lv_iload (pc := 108) hx hb dX6_flowFor_108 (lv_at hl 0 rfl) ?_
          refine k_iald (pc := 110) hx hb hK hP 203 0 k3 rfl (by omega) (by omega) (by omega) dX6_flowFor_110 ?_
          have hq_110 := hG1 (12 * cu + k)
          refine k_isub (pc := 111) hx hb dX6_flowFor_111 ?_
          refine k_i2l (pc := 112) hx hb ⟨by omega, by omega⟩ dX6_flowFor_112 ?_
          refine k_ldiv (pc := 113) hx hb ⟨by omega, by omega⟩ ⟨by omega, by omega⟩ (by omega) dX6_flowFor_113 ?_
          refine k_ladd (pc := 114) hx hb dX6_flowFor_114 ?_
          rw [hQ9]
          exact W.lret (v := lI ((G2 (12 * cu + k)) + (Int.tdiv (((G2 ((12 * cu + k) + 1)) - (G2 (12 * cu + k))) * (sg - (G1 (12 * cu + k)))) ((G1 ((12 * cu + k) + 1)) - (G1 (12 * cu + k)))))) hx hb hret (fun t ht hW => ⟨some (.long (lI ((G2 (12 * cu + k)) + (Int.tdiv (((G2 ((12 * cu + k) + 1)) - (G2 (12 * cu + k))) * (sg - (G1 (12 * cu + k)))) ((G1 ((12 * cu + k) + 1)) - (G1 (12 * cu + k))))))), rfl, ⟨(G2 (12 * cu + k)) + (Int.tdiv (((G2 ((12 * cu + k) + 1)) - (G2 (12 * cu + k))) * (sg - (G1 (12 * cu + k)))) ((G1 ((12 * cu + k) + 1)) - (G1 (12 * cu + k)))), rfl, flowF_eq hok_ (flP_md ⟨hn2, hN_.2⟩ r1_ r2_ k (by omega) (by omega) (by omega) (by omega) rfl)⟩, ht⟩) (fun q hq => by cases hq) dX6_flowFor_115
        · skip
          refine lv_aload_n (pc := 39) hx hb dX6_flowFor_39 rfl (lv_at hl 3 rfl) ?_
          refine k_get (pc := 40) (ci := 6) (C := RX6) (T := TX6) (N := 19) hx hb hts hi6 hown hK hP 200 k0 rfl 4 (by decide) hf16 (fun _ h9 => h9) rfl dX6_flowFor_40 ?_
          refine lv_iload (pc := 43) hx hb dX6_flowFor_43 (lv_at hl 0 rfl) ?_
          refine k_iconst (pc := 45) hx hb dX6_flowFor_45 ?_
          refine k_iadd (pc := 46) hx hb dX6_flowFor_46 ?_
          refine k_iald (pc := 47) hx hb hK hP 203 0 k3 rfl (by omega) (by omega) (by omega) dX6_flowFor_47 ?_
          have hq_47 := hG1 (x + 1)
          refine lv_iload_n (pc := 48) hx hb dX6_flowFor_48 rfl (lv_at hl 5 rfl) ?_
          refine k_icmp_gt (pc := 49) (tgt := 58) hx hb ⟨by omega, by omega⟩ ⟨by omega, by omega⟩ dX6_flowFor_49 (by decide) (fun hc_49 => ?_) (fun hc_49 => ?_)
          · skip
            obtain ⟨k, rfl⟩ : ∃ k : Int, x = 12 * cu + k := ⟨x - 12 * cu, by omega⟩
            have j1_ := r1_ k (by omega) (by omega)
            have j2_ := r1_ (k + 1) (by omega) (by omega)
            rw [← Int.add_assoc] at j2_
            have j3_ := hok_.1 k (k + 1) (by omega) (by omega) (by omega)
            have b1_ := hG1 (12 * cu + k)
            have b2_ := hG1 (12 * cu + k + 1)
            have b3_ := hG2 (12 * cu + k)
            have b4_ := hG2 (12 * cu + k + 1)
            have hm_ := mulB (a := G2 (12 * cu + k + 1) - G2 (12 * cu + k)) (b := sg - G1 (12 * cu + k)) (M := 1000000) (N := 10000) ⟨by omega, by omega⟩ ⟨by omega, by omega⟩
            refine lv_aload_n (pc := 58) hx hb dX6_flowFor_58 rfl (lv_at hl 3 rfl) ?_
            refine k_get (pc := 59) (ci := 6) (C := RX6) (T := TX6) (N := 19) hx hb hts hi6 hown hK hP 200 k0 rfl 5 (by decide) hf19 (fun _ h9 => h9) rfl dX6_flowFor_59 ?_
            refine lv_iload (pc := 62) hx hb dX6_flowFor_62 (lv_at hl 0 rfl) ?_
            refine k_iald (pc := 64) hx hb hK hP 204 0 k4 rfl (by omega) (by omega) (by omega) dX6_flowFor_64 ?_
            have hq_64 := hG2 (12 * cu + k)
            refine k_i2l (pc := 65) hx hb ⟨by omega, by omega⟩ dX6_flowFor_65 ?_
            refine lv_aload_n (pc := 66) hx hb dX6_flowFor_66 rfl (lv_at hl 3 rfl) ?_
            refine k_get (pc := 67) (ci := 6) (C := RX6) (T := TX6) (N := 19) hx hb hts hi6 hown hK hP 200 k0 rfl 5 (by decide) hf19 (fun _ h9 => h9) rfl dX6_flowFor_67 ?_
            refine lv_iload (pc := 70) hx hb dX6_flowFor_70 (lv_at hl 0 rfl) ?_
            refine k_iconst (pc := 72) hx hb dX6_flowFor_72 ?_
            refine k_iadd (pc := 73) hx hb dX6_flowFor_73 ?_
            refine k_iald (pc := 74) hx hb hK hP 204 0 k4 rfl (by omega) (by omega) (by omega) dX6_flowFor_74 ?_
            have hq_74 := hG2 ((12 * cu + k) + 1)
            refine lv_aload_n (pc := 75) hx hb dX6_flowFor_75 rfl (lv_at hl 3 rfl) ?_
            refine k_get (pc := 76) (ci := 6) (C := RX6) (T := TX6) (N := 19) hx hb hts hi6 hown hK hP 200 k0 rfl 5 (by decide) hf19 (fun _ h9 => h9) rfl dX6_flowFor_76 ?_
            refine lv_iload (pc := 79) hx hb dX6_flowFor_79 (lv_at hl 0 rfl) ?_
            refine k_iald (pc := 81) hx hb hK hP 204 0 k4 rfl (by omega) (by omega) (by omega) dX6_flowFor_81 ?_
            have hq_81 := hG2 (12 * cu + k)
            refine k_isub (pc := 82) hx hb dX6_flowFor_82 ?_
            refine k_i2l (pc := 83) hx hb ⟨by omega, by omega⟩ dX6_flowFor_83 ?_
            refine lv_iload_n (pc := 84) hx hb dX6_flowFor_84 rfl (lv_at hl 5 rfl) ?_
            refine lv_aload_n (pc := 85) hx hb dX6_flowFor_85 rfl (lv_at hl 3 rfl) ?_
            refine k_get (pc := 86) (ci := 6) (C := RX6) (T := TX6) (N := 19) hx hb hts hi6 hown hK hP 200 k0 rfl 4 (by decide) hf16 (fun _ h9 => h9) rfl dX6_flowFor_86 ?_
            refine lv_iload (pc := 89) hx hb dX6_flowFor_89 (lv_at hl 0 rfl) ?_
            refine k_iald (pc := 91) hx hb hK hP 203 0 k3 rfl (by omega) (by omega) (by omega) dX6_flowFor_91 ?_
            have hq_91 := hG1 (12 * cu + k)
            refine k_isub (pc := 92) hx hb dX6_flowFor_92 ?_
            refine k_i2l (pc := 93) hx hb ⟨by omega, by omega⟩ dX6_flowFor_93 ?_
            refine k_lmul (pc := 94) hx hb dX6_flowFor_94 ?_
            refine lv_aload_n (pc := 95) hx hb dX6_flowFor_95 rfl (lv_at hl 3 rfl) ?_
            refine k_get (pc := 96) (ci := 6) (C := RX6) (T := TX6) (N := 19) hx hb hts hi6 hown hK hP 200 k0 rfl 4 (by decide) hf16 (fun _ h9 => h9) rfl dX6_flowFor_96 ?_
            refine lv_iload (pc := 99) hx hb dX6_flowFor_99 (lv_at hl 0 rfl) ?_
            refine k_iconst (pc := 101) hx hb dX6_flowFor_101 ?_
            refine k_iadd (pc := 102) hx hb dX6_flowFor_102 ?_
            refine k_iald (pc := 103) hx hb hK hP 203 0 k3 rfl (by omega) (by omega) (by omega) dX6_flowFor_103 ?_
            have hq_103 := hG1 ((12 * cu + k) + 1)
            refine lv_aload_n (pc := 104) hx hb dX6_flowFor_104 rfl (lv_at hl 3 rfl) ?_
            refine k_get (pc := 105) (ci := 6) (C := RX6) (T := TX6) (N := 19) hx hb hts hi6 hown hK hP 200 k0 rfl 4 (by decide) hf16 (fun _ h9 => h9) rfl dX6_flowFor_105 ?_
            refine lv_iload (pc := 108) hx hb dX6_flowFor_108 (lv_at hl 0 rfl) ?_
            refine k_iald (pc := 110) hx hb hK hP 203 0 k3 rfl (by omega) (by omega) (by omega) dX6_flowFor_110 ?_
            have hq_110 := hG1 (12 * cu + k)
            refine k_isub (pc := 111) hx hb dX6_flowFor_111 ?_
            refine k_i2l (pc := 112) hx hb ⟨by omega, by omega⟩ dX6_flowFor_112 ?_
            refine k_ldiv (pc := 113) hx hb ⟨by omega, by omega⟩ ⟨by omega, by omega⟩ (by omega) dX6_flowFor_113 ?_
            refine k_ladd (pc := 114) hx hb dX6_flowFor_114 ?_
            rw [hQ9]
            exact W.lret (v := lI ((G2 (12 * cu + k)) + (Int.tdiv (((G2 ((12 * cu + k) + 1)) - (G2 (12 * cu + k))) * (sg - (G1 (12 * cu + k)))) ((G1 ((12 * cu + k) + 1)) - (G1 (12 * cu + k)))))) hx hb hret (fun t ht hW => ⟨some (.long (lI ((G2 (12 * cu + k)) + (Int.tdiv (((G2 ((12 * cu + k) + 1)) - (G2 (12 * cu + k))) * (sg - (G1 (12 * cu + k)))) ((G1 ((12 * cu + k) + 1)) - (G1 (12 * cu + k))))))), rfl, ⟨(G2 (12 * cu + k)) + (Int.tdiv (((G2 ((12 * cu + k) + 1)) - (G2 (12 * cu + k))) * (sg - (G1 (12 * cu + k)))) ((G1 ((12 * cu + k) + 1)) - (G1 (12 * cu + k)))), rfl, flowF_eq hok_ (flP_md ⟨hn2, hN_.2⟩ r1_ r2_ k (by omega) (by omega) (by omega) (by omega) rfl)⟩, ht⟩) (fun q hq => by cases hq) dX6_flowFor_115
          · skip
            refine lv_iinc (pc := 52) (v := iI (x + 1)) (lv' := [(5, .int (iI (x + 1))), (4, .int (iI ((fn 9) cu))), (3, .int (iI (12 * cu))), (0, .ref (ad 200)), (1, .int (iI cu)), (2, .int (iI sg))]) hx hb dX6_flowFor_52 hl (k := 0) rfl (iI_add _ _) (by decide) rfl (fun ls hl => ?_)
            refine lv_goto (pc := 55) (tgt := 28) hx hb dX6_flowFor_55 (by decide) ?_
            exact ih_28 (x + 1) (by omega) (Or.inr (by omega)) (by omega) ls (lv_sub hl [0, 1, 2, 3, 4, 5] rfl)
    exact lp_28 _ (12 * cu) (by omega) (by omega) (Nat.lt_succ_self _) ls (lv_sub hl [0, 1, 2, 3, 4, 5] rfl)
  · skip
    refine k_lconst0 (pc := 23) hx hb dX6_flowFor_23 ?_
    rw [hQ9]
    exact W.lret (v := lI 0) hx hb hret (fun t ht hW => ⟨some (.long (lI 0)), rfl, ⟨0, rfl, (flow_low hok_ (by have h9_ := r1_ 0 (by omega) (by omega); rw [Int.add_zero] at h9_; omega)).symm⟩, ht⟩) (fun q hq => by cases hq) dX6_flowFor_24
