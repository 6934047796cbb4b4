/-- the best day before d that isn't marked, and has at least lm -/
def bpP (F S : Int → Int) (lm : Int) (z : Int → Int) (d b : Int) : Prop := (b = -1 ∧ ∀ j : Int, 0 ≤ j → j < d → S j ≠ 0 → ¬ z j ≠ 0 → F j < lm) ∨ (0 ≤ b ∧ b < d ∧ S b ≠ 0 ∧ ¬ z b ≠ 0 ∧ lm ≤ F b ∧ ∀ j : Int, 0 ≤ j → j < d → S j ≠ 0 → ¬ z j ≠ 0 → lm ≤ F j → j ≠ b → rkR F b j)
theorem bp_0 {F S z : Int → Int} {lm : Int} : bpP F S lm z 0 (-1) := Or.inl ⟨rfl, fun j a b => by omega⟩
theorem bp_no {F S z : Int → Int} {lm d b : Int} (h : bpP F S lm z d b) (hx : z d ≠ 0 ∨ S d = 0 ∨ F d < lm ∨ (b ≠ -1 ∧ F d ≤ F b)) : bpP F S lm z (d + 1) b := by
  rcases h with ⟨h1, h2⟩ | ⟨h1, h2, h3, h4, h5, h6⟩
  · refine Or.inl ⟨h1, fun j a1 a2 a3 a4 => ?_⟩
    by_cases c : j = d
    · rw [c] at a3 a4 ⊢
      rcases hx with x | x | x | x
      · exact absurd x a4
      · exact absurd x a3
      · exact x
      · exact absurd h1 x.1
    · exact h2 j a1 (by omega) a3 a4
  · refine Or.inr ⟨h1, by omega, h3, h4, h5, fun j a1 a2 a3 a4 a5 a6 => ?_⟩
    by_cases c : j = d
    · rw [c] at a3 a4 a5 ⊢
      rcases hx with x | x | x | x
      · exact absurd x a4
      · exact absurd x a3
      · omega
      · unfold rkR
        omega
    · exact h6 j a1 (by omega) a3 a4 a5 a6
theorem bp_up {F S z : Int → Int} {lm d b : Int} (h : bpP F S lm z d b) (h0 : 0 ≤ d) (hz : z d = 0) (hS : S d ≠ 0) (hl : lm ≤ F d) (hb : b = -1 ∨ F b < F d) : bpP F S lm z (d + 1) d := by
  refine Or.inr ⟨h0, by omega, hS, fun x => x hz, hl, fun j a1 a2 a3 a4 a5 a6 => ?_⟩
  rcases h with ⟨h1, h2⟩ | ⟨h1, h2, h3, h4, h5, h6⟩
  · have := h2 j a1 (by omega) a3 a4
    omega
  · have hb2 : F b < F d := hb.resolve_left (by omega)
    by_cases c : j = b
    · rw [c]
      exact Or.inl hb2
    · have := h6 j a1 (by omega) a3 a4 a5 c
      unfold rkR at this ⊢
      omega
theorem bp_b {F S z : Int → Int} {lm d b : Int} (h : bpP F S lm z d b) (hd : d = 400) (hb : b ≠ -1) : pkB F S lm (fun d => z d ≠ 0) b := by
  subst hd
  rcases h with ⟨h1, h2⟩ | ⟨h1, h2, h3, h4, h5, h6⟩
  · exact absurd h1 hb
  · exact ⟨h1, h2, h3, h4, h5, h6⟩
theorem bp_e {F S z : Int → Int} {lm d b : Int} (h : bpP F S lm z d b) (hd : d = 400) (hb : b = -1) : ∀ d : Int, 0 ≤ d → d < 400 → S d ≠ 0 → ¬ z d ≠ 0 → F d < lm := by
  subst hd
  rcases h with ⟨h1, h2⟩ | ⟨h1, h2, h3, h4, h5, h6⟩
  · exact h2
  · omega
/-- the marks, when the days before d are marked -/
def nrG (z : Int → Int) (p a d : Int) : Int → Int := fun j => if 0 ≤ j ∧ j < d ∧ p - a < j ∧ j < p + a then 1 else z j
theorem nrG_0 (z : Int → Int) (p a : Int) : nrG z p a 0 = z := by
  funext j
  unfold nrG
  rw [if_neg (by omega)]
theorem nrG_n {z : Int → Int} {p a d : Int} : nrG z p a d d = z d := by
  unfold nrG
  rw [if_neg (by omega)]
theorem nrG_s {z : Int → Int} {p a d v : Int} (h0 : 0 ≤ d) (hv : (v = 1 ∧ ((p - a < d ∧ d < p + a) ∨ z d = 1)) ∨ (v = z d ∧ ¬ (p - a < d ∧ d < p + a))) : updI (nrG z p a d) d v = nrG z p a (d + 1) := by
  funext j
  unfold updI nrG
  by_cases h1 : j = d
  · subst h1
    rw [if_pos rfl]
    by_cases h2 : p - a < j ∧ j < p + a
    · rw [if_pos (by omega)]
      omega
    · rw [if_neg (by omega)]
      omega
  · rw [if_neg h1]
    by_cases h2 : 0 ≤ j ∧ j < d ∧ p - a < j ∧ j < p + a
    · rw [if_pos h2, if_pos (by omega)]
    · rw [if_neg h2, if_neg (by omega)]
theorem nrG_b {z : Int → Int} {p a d : Int} (h : ∀ j : Int, 0 ≤ z j ∧ z j ≤ 1) : ∀ j : Int, 0 ≤ nrG z p a d j ∧ nrG z p a d j ≤ 1 := by
  intro j
  unfold nrG
  split
  · omega
  · exact h j
theorem nrF_b {z : Int → Int} {p a : Int} (h : ∀ j : Int, 0 ≤ z j ∧ z j ≤ 1) : ∀ j : Int, 0 ≤ nrF z p a j ∧ nrF z p a j ≤ 1 := nrG_b (d := 400) h
theorem cnt_up {z y : Int → Int} {b : Int} (h0 : 0 ≤ b) (h : ∀ j : Int, z j ≠ 0 → y j ≠ 0) (hb : z b = 0) (hy : y b ≠ 0) : ∀ n : Nat, cntT z 0 n + (if b < n then 1 else 0) ≤ cntT y 0 n := by
  intro n
  induction n with
  | zero =>
    rw [if_neg (by omega)]
    exact Int.le_refl _
  | succ n ih =>
    have e1 : cntT z 0 (n + 1) = cntT z 0 n + (if z (0 + (n : Int)) ≠ 0 then 1 else 0) := rfl
    have e2 : cntT y 0 (n + 1) = cntT y 0 n + (if y (0 + (n : Int)) ≠ 0 then 1 else 0) := rfl
    rw [e1, e2, Int.zero_add]
    have hj := h (n : Int)
    by_cases c : b = (n : Int)
    · rw [if_neg (show ¬ b < (n : Int) by omega)] at ih
      rw [if_pos (show b < ((n + 1 : Nat) : Int) by omega), ← c, if_neg (by omega), if_pos hy]
      omega
    · have e3 : (if b < ((n + 1 : Nat) : Int) then (1 : Int) else 0) = if b < (n : Int) then 1 else 0 := by
        by_cases g : b < (n : Int)
        · rw [if_pos g, if_pos (by omega)]
        · rw [if_neg g, if_neg (by omega)]
      rw [e3]
      by_cases g : z (n : Int) ≠ 0
      · rw [if_pos g, if_pos (hj g)]
        omega
      · rw [if_neg g]
        split <;> omega
/-- how much there is to do yet -/
def pkM (z : Int → Int) (b : Int) : Nat := (400 - cntT z 0 400 + (if b = -1 then 0 else 1)).toNat
theorem pkM_0 {z : Int → Int} {b g : Int} (hg : g ≠ -1) (hb : b = -1) : pkM z b < pkM z g := by
  have := cntT_b z 0 400
  unfold pkM
  rw [if_pos hb, if_neg hg]
  omega
theorem pkM_1 {z : Int → Int} {b g ap : Int} (hg : g ≠ -1) (hb : 0 ≤ b ∧ b < 400) (hz : z b = 0) (ha : 1 ≤ ap) : pkM (nrF z b ap) b < pkM z g := by
  have h1 := cntT_b z 0 400
  have h2 := cnt_up (z := z) (y := nrF z b ap) hb.1 (fun j a1 => by unfold nrF; split; decide; exact a1) hz (by unfold nrF; rw [if_pos (by omega)]; decide) 400
  rw [if_pos (by omega)] at h2
  unfold pkM
  rw [if_neg hg, if_neg (by omega)]
  omega

abbrev rmX6_peaks : Room := { frames := 2, cells := 1, slots := 400, locals := 51 }
theorem hiX6_peaks_6 : ∀ w ∈ wsX60, w ∈ wsX6_peaks := by decide +kernel
set_option maxHeartbeats 4000000 in
set_option maxRecDepth 100000 in
theorem c_X6_peaks (l : Launch) (D : va_G) (cA : Nat → ClassId) (ad : Nat → Nat) (w : Nat → Option va_E) (sz : Nat) (th : Int) (sc : Nat → Int) (fn : Nat → Int → Int) (hI : bkInv sc fn) (hmd : mdS cA ad w th sc fn) (lm ap : Int) (hlm : (-9223372036854775808 ≤ lm ∧ lm < 9223372036854775808)) (hap : (-2147483648 ≤ ap ∧ ap < 2147483648)) : Met l yX6_peaks wsX6_peaks rmX6_peaks (gV D cA ad w sz [.ref (ad 200), .long (lI lm), .int (iI ap)]) (gW D (fun v9 ad1 w1 => ∃ (th2 : Int) (sc2 : Nat → Int) (fn2 : Nat → Int → Int), mdS cA ad1 w1 th2 sc2 fn2 ∧ bkInv sc2 fn2 ∧ keepM ad ad1 w w1 ∧ ((th2 = 0 ∧ (sc2 = sc ∧ fn2 = fn ∧ 0 ≤ lm ∧ 1 ≤ ap ∧ ap ≤ 100 ∧ ∃ v : Int, v9 = some (.int (iI v)) ∧ pkE (tbF sc fn) (tbS sc fn) lm ap (fun _ => False) 0 v)) ∨ (th2 = 1 ∧ v9 = some (.int (iI 0)) ∧ sc2 = sc ∧ fn2 = fn ∧ (¬ (0 ≤ lm ∧ 1 ≤ ap ∧ ap ≤ 100))))) (gA ad w sz)) 1 400 (gA ad w sz) := by
  refine Met.ofW (cc := cX6_peaks) (maxL := 8) (ret := (some .int)) (by decide) rfl ?_
  intro p e s m args below meth c s₁ B hml hv
  obtain ⟨hav, hsz, hP, hD0, hK, hB, hZ⟩ := hv
  have hx := B.exec
  have hb := B.bytes
  have hret := B.returns
  have hts := atoms_spec (ws := wsX6_peaks) B.pre
  have hown : s.vm.findClass RX6 = some m.cls := findClass_of_methodNamed B.named
  have hlocks := B.notSynchronized
  subst hsz
  have hD := hD0.self (sz := s.heap.size)
  generalize hAe : gA ad w s.heap.size = A at hD hZ ⊢
  have hA : ∀ q : Nat, s.heap.size ≤ q → A q := fun q h => by rw [← hAe]; exact Or.inr h
  have hS : va_S A s.heap s.heap [] := va_S.rf
  have hi6 := hiX6_peaks_6
  have hf48 := hts (.fieldLink RX6 48 "GaugeBookModel" "states" "[I") (by decide +kernel)
  have hf51 := hts (.fieldLink RX6 51 "GaugeBookModel" "worked" "[J") (by decide +kernel)
  have hf55 := hts (.fieldLink RX6 55 "GaugeBookModel" "thrown" "I") (by decide +kernel)
  have he9 : entryFrame m args 8 = F0 m 0 ((lg_sl ([.ref (ad 200), .long (lI lm), .int (iI ap)] : List Value) ++ List.replicate (8 - (lg_sl ([.ref (ad 200), .long (lI lm), .int (iI ap)] : List Value)).length) Slot.unset).toArray) [] := by rw [hav, lg_entry_eq]
  rw [he9]
  have hl := lv_entry ([.ref (ad 200), .long (lI lm), .int (iI ap)] : List Value) (n := 8) (Nat.le_of_ble_eq_true rfl)
  generalize (lg_sl ([.ref (ad 200), .long (lI lm), .int (iI ap)] : List Value) ++ List.replicate (8 - (lg_sl ([.ref (ad 200), .long (lI lm), .int (iI ap)] : List Value)).length) Slot.unset).toArray = ls at hl ⊢
  have hl : lv_has ls 8 [(0, .ref (ad 200)), (1, .long (lI lm)), (3, .int (iI ap))] := hl
  obtain ⟨Q9, hQ9⟩ : ∃ z, z = MQ below (gW D (fun v9 ad1 w1 => ∃ (th2 : Int) (sc2 : Nat → Int) (fn2 : Nat → Int → Int), mdS cA ad1 w1 th2 sc2 fn2 ∧ bkInv sc2 fn2 ∧ keepM ad ad1 w w1 ∧ ((th2 = 0 ∧ (sc2 = sc ∧ fn2 = fn ∧ 0 ≤ lm ∧ 1 ≤ ap ∧ ap ≤ 100 ∧ ∃ v : Int, v9 = some (.int (iI v)) ∧ pkE (tbF sc fn) (tbS sc fn) lm ap (fun _ => False) 0 v)) ∨ (th2 = 1 ∧ v9 = some (.int (iI 0)) ∧ sc2 = sc ∧ fn2 = fn ∧ (¬ (0 ≤ lm ∧ 1 ≤ ap ∧ ap ≤ 100))))) A) args s 1 400 A := ⟨_, rfl⟩
  rw [← hQ9]
  show W p l e rmX6_peaks s m args below meth c s.heap [] 0 0 Q9 (F0 m 0 ls [])
  obtain ⟨H, hHe⟩ : ∃ z, z = s.heap := ⟨_, rfl⟩
  obtain ⟨locs, hLe⟩ : ∃ z, z = ([] : List Loc) := ⟨_, rfl⟩
  have hP : gP D vwCl ad w H := by rw [hHe]; exact hP
  have hS : va_S A s.heap H locs := by rw [hHe, hLe]; exact va_S.rf
  rw [show W p l e rmX6_peaks s m args below meth c s.heap [] 0 0 Q9 (F0 m 0 ls []) = W p l e rmX6_peaks s m args below meth c H locs 0 0 Q9 (F0 m 0 ls []) by rw [hHe, hLe]]
  clear hHe hLe
  obtain ⟨fr, G1, G2, us, ut, ub, S, F, ⟨k0, k1, k2, k3, k4, k5, k6, k7, k8, k9, k10, k11, k12⟩, hG1, hG2, hus, hut, hub, hS9, hF, hmc, hmu, hmt, hrk⟩ := hmd
  have hI1 := hI.1
  refine lv_aload_n (pc := 0) hx hb dX6_peaks_0 rfl (lv_at hl 0 rfl) ?_
  refine k_iconst (pc := 1) hx hb dX6_peaks_1 ?_
  refine k_put (pc := 2) (ci := 6) (C := RX6) (T := TX6) (N := 19) (ty := .int) (v := .int (iI 0)) (w1 := (up w 200 (oB 6 [.int (iI 0), .int (iI (sc 0)), .ref (ad 201), .ref (ad 202), .ref (ad 203), .ref (ad 204), .int (iI (sc 1)), .ref (ad 205), .ref (ad 206), .ref (ad 207), .ref (ad 208), .ref (ad 209), .int (iI (sc 2)), .int (iI (sc 3)), .int (iI (sc 4)), .ref (ad 210), .int (iI fr), .ref (ad 211), .ref (ad 212)]))) hx hb hts hi6 tyX6 tyX6_ok nmX6 hown hK hP hD hS 200 k0 rfl 0 (by decide) hf55 (fun _ h9 => h9) rfl (by decide +kernel) rfl rfl (Nat.le_of_ble_eq_true rfl) rfl dX6_peaks_2 (fun H locs hP hD hS => ?_)
  refine lv_lload_n (pc := 5) hx hb dX6_peaks_5 rfl (lv_at hl 1 rfl) ?_
  refine k_lconst0 (pc := 6) hx hb dX6_peaks_6 ?_
  refine k_lcmp_lt (pc := 7) (tgt := 23) hx hb ⟨by omega, by omega⟩ ⟨by omega, by omega⟩ dX6_peaks_7 dX6_peaks_8 (by decide) (fun hc_7 => ?_) (fun hc_7 => ?_)
  · skip
    refine lv_aload_n (pc := 23) hx hb dX6_peaks_23 rfl (lv_at hl 0 rfl) ?_
    refine k_iconst (pc := 24) hx hb dX6_peaks_24 ?_
    refine k_call1 (pc := 25) (va_runV (As := [.int (iI 1)]) (rest := []) ⟨hx, hb, hml, hown, hts⟩ (c_X6_fail l D cA ad (up w 200 (oB 6 [.int (iI 0), .int (iI (sc 0)), .ref (ad 201), .ref (ad 202), .ref (ad 203), .ref (ad 204), .int (iI (sc 1)), .ref (ad 205), .ref (ad 206), .ref (ad 207), .ref (ad 208), .ref (ad 209), .int (iI (sc 2)), .int (iI (sc 3)), .int (iI (sc 4)), .ref (ad 210), .int (iI fr), .ref (ad 211), .ref (ad 212)])) H.size 0 (sc 0) (sc 1) (sc 2) (sc 3) (sc 4) fr (up_s _ _ _) 1) (cwV 1 hts gX6_peaks_X6_fail rfl rfl rfl (by decide +kernel) ⟨Nat.le_of_ble_eq_true rfl, Nat.le_of_ble_eq_true rfl⟩) (gV_V hP hD hK hB hS hA hZ 200 (ci := 6) rfl (up_s _ _ _)) rfl rfl hl.1 rfl (lv_room (Nat.le_of_ble_eq_true rfl)) dX6_peaks_25 ⟨Nat.le_of_ble_eq_true rfl, Nat.le_of_ble_eq_true rfl⟩) hS (gA_sub hD hS hA) (fun v_25 ad_25 w_25 H locs hv_25 hP hD hS => ?_)
    obtain ⟨hv1, hv2, hv3⟩ := hv_25
    subst hv1
    rw [hv2, hv3] at hP hD
    rw [show up ((up w 200 (oB 6 [.int (iI 0), .int (iI (sc 0)), .ref (ad 201), .ref (ad 202), .ref (ad 203), .ref (ad 204), .int (iI (sc 1)), .ref (ad 205), .ref (ad 206), .ref (ad 207), .ref (ad 208), .ref (ad 209), .int (iI (sc 2)), .int (iI (sc 3)), .int (iI (sc 4)), .ref (ad 210), .int (iI fr), .ref (ad 211), .ref (ad 212)]))) 200 (oB 6 [.int (iI 1), .int (iI (sc 0)), .ref (ad 201), .ref (ad 202), .ref (ad 203), .ref (ad 204), .int (iI (sc 1)), .ref (ad 205), .ref (ad 206), .ref (ad 207), .ref (ad 208), .ref (ad 209), .int (iI (sc 2)), .int (iI (sc 3)), .int (iI (sc 4)), .ref (ad 210), .int (iI fr), .ref (ad 211), .ref (ad 212)]) = _ from (up_up _ _ _ _)] at hP hD
    refine W.eq (g2 := F0 m 28 ls [.int (iI 0)]) rfl ?_
    refine W.cs (cells' := 0) (slots' := 0) rfl rfl ?_
    rw [hQ9]
    refine W.widen (k := 1) (n := 400) (by decide) (by decide) ?_
    exact W.iret (v := iI 0) hx hb hret (fun t ht hW => ⟨⟨some (.int (iI 0)), ad, (up w 200 (oB 6 [.int (iI 1), .int (iI (sc 0)), .ref (ad 201), .ref (ad 202), .ref (ad 203), .ref (ad 204), .int (iI (sc 1)), .ref (ad 205), .ref (ad 206), .ref (ad 207), .ref (ad 208), .ref (ad 209), .int (iI (sc 2)), .int (iI (sc 3)), .int (iI (sc 4)), .ref (ad 210), .int (iI fr), .ref (ad 211), .ref (ad 212)])), rfl, ⟨1, sc, fn, ⟨fr, G1, G2, us, ut, ub, S, F, ⟨(up_s _ _ _), (up_n (by decide) k1), (up_n (by decide) k2), (up_n (by decide) k3), (up_n (by decide) k4), (up_n (by decide) k5), (up_n (by decide) k6), (up_n (by decide) k7), (up_n (by decide) k8), (up_n (by decide) k9), (up_n (by decide) k10), (up_n (by decide) k11), (up_n (by decide) k12)⟩, hG1, hG2, hus, hut, hub, hS9, hF, hmc, hmu, hmt, hrk⟩, hI, ⟨rfl, fun r hr => ⟨(up_n (by omega) rfl), rfl⟩⟩, Or.inr (⟨rfl, rfl, rfl, rfl, by omega⟩)⟩, by rw [ht]; exact hP, hD⟩, hS.F ht⟩) hS.2.2 dX6_peaks_28
  · skip
    refine lv_iload_n (pc := 11) hx hb dX6_peaks_11 rfl (lv_at hl 2 rfl) ?_
    refine k_i2l (pc := 12) hx hb ⟨by omega, by omega⟩ dX6_peaks_12 ?_
    refine k_lconst1 (pc := 13) hx hb dX6_peaks_13 ?_
    refine k_ldc2 (z := 100) (pc := 14) hx hb hown (hts (.constantLong RX6 126 (100)) (by decide +kernel)) (by decide +kernel) dX6_peaks_14 ?_
    refine k_call0 (pc := 17) (va_runS (As := [.long (lI ap), .long (lI 1), .long (lI 100)]) (rest := []) ⟨hx, hb, hml, hown, hts⟩ (c_X6_isIn l D cA ad (up w 200 (oB 6 [.int (iI 0), .int (iI (sc 0)), .ref (ad 201), .ref (ad 202), .ref (ad 203), .ref (ad 204), .int (iI (sc 1)), .ref (ad 205), .ref (ad 206), .ref (ad 207), .ref (ad 208), .ref (ad 209), .int (iI (sc 2)), .int (iI (sc 3)), .int (iI (sc 4)), .ref (ad 210), .int (iI fr), .ref (ad 211), .ref (ad 212)])) ap 1 100 (by omega) (by omega) (by omega)) (va_cwS 3 hts gX6_peaks_X6_isIn rfl rfl rfl (by decide +kernel) ⟨Nat.le_of_ble_eq_true rfl, Nat.le_of_ble_eq_true rfl⟩) (gR_S hP hK hB) rfl rfl hl.1 rfl (lv_room (Nat.le_of_ble_eq_true rfl)) dX6_peaks_17 ⟨Nat.le_of_ble_eq_true rfl, Nat.le_of_ble_eq_true rfl⟩) (fun v_17 hv_17 => ?_)
    obtain ⟨z_17, rfl, hz_17⟩ := hv_17
    refine W.eq (g2 := F0 m 20 ls [.int (iI z_17)]) rfl ?_
    refine k_if_ne (pc := 20) (tgt := 29) hx hb ⟨by omega, by omega⟩ dX6_peaks_20 (by decide) (fun hc_20 => ?_) (fun hc_20 => ?_)
    · skip
      refine lv_aload_n (pc := 29) hx hb dX6_peaks_29 rfl (lv_at hl 0 rfl) ?_
      refine k_call1 (pc := 30) (va_runV (As := []) (rest := []) ⟨hx, hb, hml, hown, hts⟩ (c_X6_workOut l D cA ad (up w 200 (oB 6 [.int (iI 0), .int (iI (sc 0)), .ref (ad 201), .ref (ad 202), .ref (ad 203), .ref (ad 204), .int (iI (sc 1)), .ref (ad 205), .ref (ad 206), .ref (ad 207), .ref (ad 208), .ref (ad 209), .int (iI (sc 2)), .int (iI (sc 3)), .int (iI (sc 4)), .ref (ad 210), .int (iI fr), .ref (ad 211), .ref (ad 212)])) H.size sc fn 0 fr G1 G2 us ut ub S F hI (up_s _ _ _) (up_n (by decide) k1) (up_n (by decide) k2) (up_n (by decide) k3) (up_n (by decide) k4) (up_n (by decide) k5) (up_n (by decide) k6) (up_n (by decide) k7) (up_n (by decide) k8) (up_n (by decide) k9) (up_n (by decide) k10) (up_n (by decide) k11) (up_n (by decide) k12) hG1 hG2 hus hut hub hS9 hF hmc hmu hrk) (cwV 0 hts gX6_peaks_X6_workOut rfl rfl rfl (by decide +kernel) ⟨Nat.le_of_ble_eq_true rfl, Nat.le_of_ble_eq_true rfl⟩) (gV_V hP hD hK hB hS hA hZ 200 (ci := 6) rfl (up_s _ _ _)) rfl rfl hl.1 rfl (lv_room (Nat.le_of_ble_eq_true rfl)) dX6_peaks_30 ⟨Nat.le_of_ble_eq_true rfl, Nat.le_of_ble_eq_true rfl⟩) hS (gA_sub hD hS hA) (fun v_30 ad_30 w_30 H locs hv_30 hP hD hS => ?_)
      obtain ⟨hv1, hv2, hv3⟩ := hv_30
      subst hv1
      rw [hv2, hv3] at hP hD
      rw [show up ((up w 200 (oB 6 [.int (iI 0), .int (iI (sc 0)), .ref (ad 201), .ref (ad 202), .ref (ad 203), .ref (ad 204), .int (iI (sc 1)), .ref (ad 205), .ref (ad 206), .ref (ad 207), .ref (ad 208), .ref (ad 209), .int (iI (sc 2)), .int (iI (sc 3)), .int (iI (sc 4)), .ref (ad 210), .int (iI fr), .ref (ad 211), .ref (ad 212)]))) 200 (oB 6 [.int (iI 0), .int (iI (sc 0)), .ref (ad 201), .ref (ad 202), .ref (ad 203), .ref (ad 204), .int (iI (sc 1)), .ref (ad 205), .ref (ad 206), .ref (ad 207), .ref (ad 208), .ref (ad 209), .int (iI (sc 2)), .int (iI (sc 3)), .int (iI (sc 4)), .ref (ad 210), .int (iI 1), .ref (ad 211), .ref (ad 212)]) = _ from (up_up _ _ _ _)] at hP hD
      refine W.eq (g2 := F0 m 33 ls []) rfl ?_
      refine W.cs (cells' := 0) (slots' := 0) rfl rfl ?_
      refine k_sipush (pc := 33) hx hb dX6_peaks_33 (by decide +kernel) ?_
      refine k_newZ (pc := 36) hx hb (hts (.arrayClass .boolean) (by decide +kernel)) hK hP hD hS hA 213 1 rfl 400 rfl (by decide) (Nat.le_of_ble_eq_true rfl) (Nat.le_of_ble_eq_true rfl) dX6_peaks_36 (fun q_36 H hP hD hS => ?_)
      obtain ⟨ad_36, hga_36⟩ : ∃ z9 : Nat → Nat, adN ad 213 q_36 = z9 := ⟨_, rfl⟩
      rw [hga_36] at hP hD
      have hnn_36 : ∀ j9 : Nat, j9 ≠ 213 → ad j9 = ad_36 j9 := fun j9 h9_ => by rw [← hga_36, adN_n _ _ h9_]
      rw [show q_36 = ad_36 213 by rw [← hga_36, adN_s]]
      rw [hnn_36 201 (by omega)] at hP hD
      rw [hnn_36 202 (by omega)] at hP hD
      rw [hnn_36 203 (by omega)] at hP hD
      rw [hnn_36 204 (by omega)] at hP hD
      rw [hnn_36 205 (by omega)] at hP hD
      rw [hnn_36 206 (by omega)] at hP hD
      rw [hnn_36 207 (by omega)] at hP hD
      rw [hnn_36 208 (by omega)] at hP hD
      rw [hnn_36 209 (by omega)] at hP hD
      rw [hnn_36 210 (by omega)] at hP hD
      rw [hnn_36 211 (by omega)] at hP hD
      rw [hnn_36 212 (by omega)] at hP hD
      rw [hnn_36 200 (by omega)] at hl
      have hm_36_200 : w 200 = some (oB 6 [.int (iI th), .int (iI (sc 0)), .ref (ad_36 201), .ref (ad_36 202), .ref (ad_36 203), .ref (ad_36 204), .int (iI (sc 1)), .ref (ad_36 205), .ref (ad_36 206), .ref (ad_36 207), .ref (ad_36 208), .ref (ad_36 209), .int (iI (sc 2)), .int (iI (sc 3)), .int (iI (sc 4)), .ref (ad_36 210), .int (iI fr), .ref (ad_36 211), .ref (ad_36 212)]) := by rw [← hnn_36 201 (by omega), ← hnn_36 202 (by omega), ← hnn_36 203 (by omega), ← hnn_36 204 (by omega), ← hnn_36 205 (by omega), ← hnn_36 206 (by omega), ← hnn_36 207 (by omega), ← hnn_36 208 (by omega), ← hnn_36 209 (by omega), ← hnn_36 210 (by omega), ← hnn_36 211 (by omega), ← hnn_36 212 (by omega)]; exact k0
      refine W.eq (g2 := F0 m 38 ls [.ref (ad_36 213)]) rfl ?_
      refine W.cs (cells' := 1) (slots' := 400) rfl rfl ?_
      refine lv_astore (pc := 38) (lv' := [(4, .ref (ad_36 213)), (0, .ref (ad_36 200)), (1, .long (lI lm)), (3, .int (iI ap))]) hx hb dX6_peaks_38 hl (by decide) rfl (fun ls hl => ?_)
      refine k_iconst (pc := 40) hx hb dX6_peaks_40 ?_
      refine lv_istore (pc := 41) (lv' := [(5, .int (iI 0)), (4, .ref (ad_36 213)), (0, .ref (ad_36 200)), (1, .long (lI lm)), (3, .int (iI ap))]) hx hb dX6_peaks_41 hl (by decide) rfl (fun ls hl => ?_)
      refine k_iconst (pc := 43) hx hb dX6_peaks_43 ?_
      refine lv_istore (pc := 44) (lv' := [(6, .int (iI 0)), (5, .int (iI 0)), (4, .ref (ad_36 213)), (0, .ref (ad_36 200)), (1, .long (lI lm)), (3, .int (iI ap))]) hx hb dX6_peaks_44 hl (by decide) rfl (fun ls hl => ?_)
      have lp_46 : ∀ (N9 : Nat) (x : Int) (g : Int) (z : Int → Int), (-1 ≤ g ∧ g < 400) → (∀ j : Int, 0 ≤ z j ∧ z j ≤ 1) → ((g = -1 → pkE (tbF sc fn) (tbS sc fn) lm ap (fun _ => False) 0 x) ∧ (g ≠ -1 → ∀ v : Int, pkE (tbF sc fn) (tbS sc fn) lm ap (fun d => z d ≠ 0) x v → pkE (tbF sc fn) (tbS sc fn) lm ap (fun _ => False) 0 v)) → pkM z g < N9 → ∀ (H : Heap) (locs : List Loc), gP D vwCl ad_36 (up (up (up (up w 200 (oB 6 [.int (iI 0), .int (iI (sc 0)), .ref (ad_36 201), .ref (ad_36 202), .ref (ad_36 203), .ref (ad_36 204), .int (iI (sc 1)), .ref (ad_36 205), .ref (ad_36 206), .ref (ad_36 207), .ref (ad_36 208), .ref (ad_36 209), .int (iI (sc 2)), .int (iI (sc 3)), .int (iI (sc 4)), .ref (ad_36 210), .int (iI 1), .ref (ad_36 211), .ref (ad_36 212)])) 211 (eI (cA 0) 400 (tbS sc fn))) 212 (eJ (cA 2) 400 (tbF sc fn))) 213 (eI (cA 1) 400 z)) H → gD A ad_36 (up (up (up (up w 200 (oB 6 [.int (iI 0), .int (iI (sc 0)), .ref (ad_36 201), .ref (ad_36 202), .ref (ad_36 203), .ref (ad_36 204), .int (iI (sc 1)), .ref (ad_36 205), .ref (ad_36 206), .ref (ad_36 207), .ref (ad_36 208), .ref (ad_36 209), .int (iI (sc 2)), .int (iI (sc 3)), .int (iI (sc 4)), .ref (ad_36 210), .int (iI 1), .ref (ad_36 211), .ref (ad_36 212)])) 211 (eI (cA 0) 400 (tbS sc fn))) 212 (eJ (cA 2) 400 (tbF sc fn))) 213 (eI (cA 1) 400 z)) → va_S A s.heap H locs → ∀ (ls : Array Slot), lv_has ls 8 [(6, .int (iI g)), (5, .int (iI x)), (4, .ref (ad_36 213)), (0, .ref (ad_36 200)), (1, .long (lI lm)), (3, .int (iI ap))] → W p l e rmX6_peaks s m args below meth c H locs 1 400 Q9 (F0 m 46 ls []) := by
        intro N9
        induction N9 with
        | zero => intro x g z i0 iZ iK hmu; exact absurd hmu (Nat.not_lt_zero _)
        | succ N9 ih_46 =>
          intro x g z i0 iZ iK hmu_46 H locs hP hD hS ls hl
          refine lv_iload (pc := 46) hx hb dX6_peaks_46 (lv_at hl 0 rfl) ?_
          refine k_iconst (pc := 48) hx hb dX6_peaks_48 ?_
          refine k_icmp_eq (pc := 49) (tgt := 202) hx hb ⟨by omega, by omega⟩ ⟨by omega, by omega⟩ dX6_peaks_49 (by decide) (fun hc_49 => ?_) (fun hc_49 => ?_)
          · skip
            refine lv_iload (pc := 202) hx hb dX6_peaks_202 (lv_at hl 1 rfl) ?_
            rw [hQ9]
            exact W.iret (v := iI x) hx hb hret (fun t ht hW => ⟨⟨some (.int (iI x)), ad_36, (up (up (up (up w 200 (oB 6 [.int (iI 0), .int (iI (sc 0)), .ref (ad_36 201), .ref (ad_36 202), .ref (ad_36 203), .ref (ad_36 204), .int (iI (sc 1)), .ref (ad_36 205), .ref (ad_36 206), .ref (ad_36 207), .ref (ad_36 208), .ref (ad_36 209), .int (iI (sc 2)), .int (iI (sc 3)), .int (iI (sc 4)), .ref (ad_36 210), .int (iI 1), .ref (ad_36 211), .ref (ad_36 212)])) 211 (eI (cA 0) 400 (tbS sc fn))) 212 (eJ (cA 2) 400 (tbF sc fn))) 213 (eI (cA 1) 400 z)), rfl, ⟨0, sc, fn, ⟨1, G1, G2, us, ut, ub, (tbS sc fn), (tbF sc fn), ⟨(up_n (by decide) (up_n (by decide) (up_n (by decide) (up_s _ _ _)))), (up_n (by decide) (up_n (by decide) (up_n (by decide) (up_n (by decide) k1)))), (up_n (by decide) (up_n (by decide) (up_n (by decide) (up_n (by decide) k2)))), (up_n (by decide) (up_n (by decide) (up_n (by decide) (up_n (by decide) k3)))), (up_n (by decide) (up_n (by decide) (up_n (by decide) (up_n (by decide) k4)))), (up_n (by decide) (up_n (by decide) (up_n (by decide) (up_n (by decide) k5)))), (up_n (by decide) (up_n (by decide) (up_n (by decide) (up_n (by decide) k6)))), (up_n (by decide) (up_n (by decide) (up_n (by decide) (up_n (by decide) k7)))), (up_n (by decide) (up_n (by decide) (up_n (by decide) (up_n (by decide) k8)))), (up_n (by decide) (up_n (by decide) (up_n (by decide) (up_n (by decide) k9)))), (up_n (by decide) (up_n (by decide) (up_n (by decide) (up_n (by decide) k10)))), (up_n (by decide) (up_n (by decide) (up_s _ _ _))), (up_n (by decide) (up_s _ _ _))⟩, hG1, hG2, hus, hut, hub, (tbOk_tb hI).2.1, (tbOk_tb hI).1, hmc, hmu, hmt, (Or.inr ⟨rfl, rfl, rfl⟩)⟩, hI, ⟨(hnn_36 200 (by omega)).symm, fun r hr => ⟨(up_n (by omega) (up_n (by omega) (up_n (by omega) (up_n (by omega) rfl)))), (hnn_36 r (by omega)).symm⟩⟩, Or.inl (⟨rfl, rfl, rfl, by omega, by omega, by omega, x, rfl, iK.1 hc_49⟩)⟩, by rw [ht]; exact hP, hD⟩, hS.F ht⟩) hS.2.2 dX6_peaks_204
          · skip
            refine k_iconst (pc := 52) hx hb dX6_peaks_52 ?_
            refine lv_istore (pc := 53) (lv' := [(6, .int (iI (-1))), (5, .int (iI x)), (4, .ref (ad_36 213)), (0, .ref (ad_36 200)), (1, .long (lI lm)), (3, .int (iI ap))]) hx hb dX6_peaks_53 hl (by decide) rfl (fun ls hl => ?_)
            refine k_iconst (pc := 55) hx hb dX6_peaks_55 ?_
            refine lv_istore (pc := 56) (lv' := [(7, .int (iI 0)), (6, .int (iI (-1))), (5, .int (iI x)), (4, .ref (ad_36 213)), (0, .ref (ad_36 200)), (1, .long (lI lm)), (3, .int (iI ap))]) hx hb dX6_peaks_56 hl (by decide) rfl (fun ls hl => ?_)
            have lp_58 : ∀ (N9 : Nat) (d : Int) (b : Int), (0 ≤ d ∧ d ≤ 400 ∧ -1 ≤ b ∧ b < d) → (bpP (tbF sc fn) (tbS sc fn) lm z d b) → (400 - d).toNat < N9 → ∀ (H : Heap) (locs : List Loc), gP D vwCl ad_36 (up (up (up (up w 200 (oB 6 [.int (iI 0), .int (iI (sc 0)), .ref (ad_36 201), .ref (ad_36 202), .ref (ad_36 203), .ref (ad_36 204), .int (iI (sc 1)), .ref (ad_36 205), .ref (ad_36 206), .ref (ad_36 207), .ref (ad_36 208), .ref (ad_36 209), .int (iI (sc 2)), .int (iI (sc 3)), .int (iI (sc 4)), .ref (ad_36 210), .int (iI 1), .ref (ad_36 211), .ref (ad_36 212)])) 211 (eI (cA 0) 400 (tbS sc fn))) 212 (eJ (cA 2) 400 (tbF sc fn))) 213 (eI (cA 1) 400 z)) H → gD A ad_36 (up (up (up (up w 200 (oB 6 [.int (iI 0), .int (iI (sc 0)), .ref (ad_36 201), .ref (ad_36 202), .ref (ad_36 203), .ref (ad_36 204), .int (iI (sc 1)), .ref (ad_36 205), .ref (ad_36 206), .ref (ad_36 207), .ref (ad_36 208), .ref (ad_36 209), .int (iI (sc 2)), .int (iI (sc 3)), .int (iI (sc 4)), .ref (ad_36 210), .int (iI 1), .ref (ad_36 211), .ref (ad_36 212)])) 211 (eI (cA 0) 400 (tbS sc fn))) 212 (eJ (cA 2) 400 (tbF sc fn))) 213 (eI (cA 1) 400 z)) → va_S A s.heap H locs → ∀ (ls : Array Slot), lv_has ls 8 [(7, .int (iI d)), (6, .int (iI b)), (5, .int (iI x)), (4, .ref (ad_36 213)), (0, .ref (ad_36 200)), (1, .long (lI lm)), (3, .int (iI ap))] → W p l e rmX6_peaks s m args below meth c H locs 1 400 Q9 (F0 m 58 ls []) := by
              intro N9
              induction N9 with
              | zero => intro d b j0 jP hmu; exact absurd hmu (Nat.not_lt_zero _)
              | succ N9 ih_58 =>
                intro d b j0 jP hmu_58 H locs hP hD hS ls hl
                refine lv_iload (pc := 58) hx hb dX6_peaks_58 (lv_at hl 0 rfl) ?_
                refine k_sipush (pc := 60) hx hb dX6_peaks_60 (by decide +kernel) ?_
                refine k_icmp_ge (pc := 63) (tgt := 130) hx hb ⟨by omega, by omega⟩ ⟨by omega, by omega⟩ dX6_peaks_63 (by decide) (fun hc_63 => ?_) (fun hc_63 => ?_)
                · skip
                  refine k_iconst (pc := 130) hx hb dX6_peaks_130 ?_
                  refine lv_istore (pc := 131) (lv' := [(7, .int (iI 0)), (6, .int (iI b)), (5, .int (iI x)), (4, .ref (ad_36 213)), (0, .ref (ad_36 200)), (1, .long (lI lm)), (3, .int (iI ap))]) hx hb dX6_peaks_131 hl (by decide) rfl (fun ls hl => ?_)
                  have lp_133 : ∀ (N9 : Nat) (y : Int), (0 ≤ y ∧ y ≤ 400) → (b = -1 → y = 0) → (400 - y).toNat < N9 → ∀ (H : Heap) (locs : List Loc), gP D vwCl ad_36 (up (up (up (up w 200 (oB 6 [.int (iI 0), .int (iI (sc 0)), .ref (ad_36 201), .ref (ad_36 202), .ref (ad_36 203), .ref (ad_36 204), .int (iI (sc 1)), .ref (ad_36 205), .ref (ad_36 206), .ref (ad_36 207), .ref (ad_36 208), .ref (ad_36 209), .int (iI (sc 2)), .int (iI (sc 3)), .int (iI (sc 4)), .ref (ad_36 210), .int (iI 1), .ref (ad_36 211), .ref (ad_36 212)])) 211 (eI (cA 0) 400 (tbS sc fn))) 212 (eJ (cA 2) 400 (tbF sc fn))) 213 (eI (cA 1) 400 (nrG z b ap y))) H → gD A ad_36 (up (up (up (up w 200 (oB 6 [.int (iI 0), .int (iI (sc 0)), .ref (ad_36 201), .ref (ad_36 202), .ref (ad_36 203), .ref (ad_36 204), .int (iI (sc 1)), .ref (ad_36 205), .ref (ad_36 206), .ref (ad_36 207), .ref (ad_36 208), .ref (ad_36 209), .int (iI (sc 2)), .int (iI (sc 3)), .int (iI (sc 4)), .ref (ad_36 210), .int (iI 1), .ref (ad_36 211), .ref (ad_36 212)])) 211 (eI (cA 0) 400 (tbS sc fn))) 212 (eJ (cA 2) 400 (tbF sc fn))) 213 (eI (cA 1) 400 (nrG z b ap y))) → va_S A s.heap H locs → ∀ (ls : Array Slot), lv_has ls 8 [(7, .int (iI y)), (6, .int (iI b)), (5, .int (iI x)), (4, .ref (ad_36 213)), (0, .ref (ad_36 200)), (1, .long (lI lm)), (3, .int (iI ap))] → W p l e rmX6_peaks s m args below meth c H locs 1 400 Q9 (F0 m 133 ls []) := by
                    intro N9
                    induction N9 with
                    | zero => intro y y0 y1 hmu; exact absurd hmu (Nat.not_lt_zero _)
                    | succ N9 ih_133 =>
                      intro y y0 y1 hmu_133 H locs hP hD hS ls hl
                      have z9_ := iZ y
                      refine lv_iload (pc := 133) hx hb dX6_peaks_133 (lv_at hl 0 rfl) ?_
                      refine k_sipush (pc := 135) hx hb dX6_peaks_135 (by decide +kernel) ?_
                      refine k_icmp_ge (pc := 138) (tgt := 183) hx hb ⟨by omega, by omega⟩ ⟨by omega, by omega⟩ dX6_peaks_138 (by decide) (fun hc_138 => ?_) (fun hc_138 => ?_)
                      · skip
                        have y9_ : nrG z b ap y = nrF z b ap := by rw [show y = 400 by omega]; rfl
                        rw [y9_] at hP hD
                        refine lv_iload (pc := 183) hx hb dX6_peaks_183 (lv_at hl 2 rfl) ?_
                        refine lv_iload (pc := 185) hx hb dX6_peaks_185 (lv_at hl 1 rfl) ?_
                        refine k_iconst (pc := 187) hx hb dX6_peaks_187 ?_
                        refine k_icmp_ne (pc := 188) (tgt := 195) hx hb ⟨by omega, by omega⟩ ⟨by omega, by omega⟩ dX6_peaks_188 (by decide) (fun hc_188 => ?_) (fun hc_188 => ?_)
                        · skip
                          refine k_iconst (pc := 195) hx hb dX6_peaks_195 ?_
                          refine k_iadd (pc := 196) hx hb dX6_peaks_196 ?_
                          refine lv_istore (pc := 197) (lv' := [(5, .int (iI (x + 1))), (7, .int (iI y)), (6, .int (iI b)), (4, .ref (ad_36 213)), (0, .ref (ad_36 200)), (1, .long (lI lm)), (3, .int (iI ap))]) hx hb dX6_peaks_197 hl (by decide) rfl (fun ls hl => ?_)
                          refine lv_goto (pc := 199) (tgt := 46) hx hb dX6_peaks_199 (by decide) ?_
                          have hB9_ := bp_b jP (by omega) (show b ≠ -1 by omega)
                          exact ih_46 (x + 1) b (nrF z b ap) (by omega) (nrF_b iZ) ⟨fun e9 => absurd e9 (by omega), fun _ v hv => iK.2 hc_49 v (pkE_s hB9_ (fun d a1 a2 => nrF_or a1 a2) hv)⟩ (by have h9 := pkM_1 (z := z) (b := b) (ap := ap) hc_49 ⟨hB9_.1, hB9_.2.1⟩ (Classical.byContradiction hB9_.2.2.2.1) (by omega); omega) H locs hP hD hS ls (lv_sub hl [2, 0, 3, 4, 5, 6] rfl)
                        · skip
                          exfalso
                          omega
                      · skip
                        refine lv_iload (pc := 141) hx hb dX6_peaks_141 (lv_at hl 1 rfl) ?_
                        refine k_iconst (pc := 143) hx hb dX6_peaks_143 ?_
                        refine k_icmp_eq (pc := 144) (tgt := 183) hx hb ⟨by omega, by omega⟩ ⟨by omega, by omega⟩ dX6_peaks_144 (by decide) (fun hc_144 => ?_) (fun hc_144 => ?_)
                        · skip
                          have y9_ : nrG z b ap y = z := by rw [show y = 0 by omega, nrG_0]
                          rw [y9_] at hP hD
                          refine lv_iload (pc := 183) hx hb dX6_peaks_183 (lv_at hl 2 rfl) ?_
                          refine lv_iload (pc := 185) hx hb dX6_peaks_185 (lv_at hl 1 rfl) ?_
                          refine k_iconst (pc := 187) hx hb dX6_peaks_187 ?_
                          refine k_icmp_ne (pc := 188) (tgt := 195) hx hb ⟨by omega, by omega⟩ ⟨by omega, by omega⟩ dX6_peaks_188 (by decide) (fun hc_188 => ?_) (fun hc_188 => ?_)
                          · skip
                            exfalso
                            omega
                          · skip
                            refine k_iconst (pc := 191) hx hb dX6_peaks_191 ?_
                            refine lv_goto (pc := 192) (tgt := 196) hx hb dX6_peaks_192 (by decide) ?_
                            refine k_iadd (pc := 196) hx hb dX6_peaks_196 ?_
                            refine lv_istore (pc := 197) (lv' := [(5, .int (iI (x + 0))), (7, .int (iI y)), (6, .int (iI b)), (4, .ref (ad_36 213)), (0, .ref (ad_36 200)), (1, .long (lI lm)), (3, .int (iI ap))]) hx hb dX6_peaks_197 hl (by decide) rfl (fun ls hl => ?_)
                            refine lv_goto (pc := 199) (tgt := 46) hx hb dX6_peaks_199 (by decide) ?_
                            exact ih_46 (x + 0) b z (by omega) iZ ⟨fun _ => by rw [Int.add_zero]; exact iK.2 hc_49 x (pkE_0 (bp_e jP (by omega) (by omega))), fun e9 => absurd (show b = -1 by omega) e9⟩ (by have h9 := pkM_0 (z := z) (b := b) hc_49 (by omega); omega) H locs hP hD hS ls (lv_sub hl [2, 0, 3, 4, 5, 6] rfl)
                        · skip
                          refine lv_aload (pc := 147) hx hb dX6_peaks_147 (lv_at hl 3 rfl) ?_
                          refine lv_iload (pc := 149) hx hb dX6_peaks_149 (lv_at hl 0 rfl) ?_
                          refine lv_aload (pc := 151) hx hb dX6_peaks_151 (lv_at hl 3 rfl) ?_
                          refine lv_iload (pc := 153) hx hb dX6_peaks_153 (lv_at hl 0 rfl) ?_
                          refine k_zald (pc := 155) hx hb hK hP 213 1 (up_s _ _ _) rfl (by omega) (by omega) (by omega) dX6_peaks_155 ?_
                          have hq_155 := (nrG_b (p := b) (a := ap) (d := y) iZ) y
                          have he_156 : (nrG z b ap y) y = z y := nrG_n
                          rw [he_156]
                          refine k_if_ne (pc := 156) (tgt := 171) hx hb ⟨by omega, by omega⟩ dX6_peaks_156 (by decide) (fun hc_156 => ?_) (fun hc_156 => ?_)
                          · skip
                            refine k_iconst (pc := 171) hx hb dX6_peaks_171 ?_
                            refine lv_goto (pc := 172) (tgt := 176) hx hb dX6_peaks_172 (by decide) ?_
                            refine k_zast (pc := 176) (w1 := (up (up (up (up w 200 (oB 6 [.int (iI 0), .int (iI (sc 0)), .ref (ad_36 201), .ref (ad_36 202), .ref (ad_36 203), .ref (ad_36 204), .int (iI (sc 1)), .ref (ad_36 205), .ref (ad_36 206), .ref (ad_36 207), .ref (ad_36 208), .ref (ad_36 209), .int (iI (sc 2)), .int (iI (sc 3)), .int (iI (sc 4)), .ref (ad_36 210), .int (iI 1), .ref (ad_36 211), .ref (ad_36 212)])) 211 (eI (cA 0) 400 (tbS sc fn))) 212 (eJ (cA 2) 400 (tbF sc fn))) 213 (eI (cA 1) 400 (updI (nrG z b ap y) y 1)))) hx hb hK hP hD hS 213 1 (up_s _ _ _) rfl (by omega) (by omega) (by omega) (Or.inr rfl) (up_up _ _ _ _) dX6_peaks_176 (fun H locs hP hD hS => ?_)
                            refine lv_iinc (pc := 177) (v := iI (y + 1)) (lv' := [(7, .int (iI (y + 1))), (6, .int (iI b)), (5, .int (iI x)), (4, .ref (ad_36 213)), (0, .ref (ad_36 200)), (1, .long (lI lm)), (3, .int (iI ap))]) hx hb dX6_peaks_177 hl (k := 0) rfl (iI_add _ _) (by decide) rfl (fun ls hl => ?_)
                            refine lv_goto (pc := 180) (tgt := 133) hx hb dX6_peaks_180 (by decide) ?_
                            have hW9 : ((up (up (up (up w 200 (oB 6 [.int (iI 0), .int (iI (sc 0)), .ref (ad_36 201), .ref (ad_36 202), .ref (ad_36 203), .ref (ad_36 204), .int (iI (sc 1)), .ref (ad_36 205), .ref (ad_36 206), .ref (ad_36 207), .ref (ad_36 208), .ref (ad_36 209), .int (iI (sc 2)), .int (iI (sc 3)), .int (iI (sc 4)), .ref (ad_36 210), .int (iI 1), .ref (ad_36 211), .ref (ad_36 212)])) 211 (eI (cA 0) 400 (tbS sc fn))) 212 (eJ (cA 2) 400 (tbF sc fn))) 213 (eI (cA 1) 400 (updI (nrG z b ap y) y 1)))) = (up (up (up (up w 200 (oB 6 [.int (iI 0), .int (iI (sc 0)), .ref (ad_36 201), .ref (ad_36 202), .ref (ad_36 203), .ref (ad_36 204), .int (iI (sc 1)), .ref (ad_36 205), .ref (ad_36 206), .ref (ad_36 207), .ref (ad_36 208), .ref (ad_36 209), .int (iI (sc 2)), .int (iI (sc 3)), .int (iI (sc 4)), .ref (ad_36 210), .int (iI 1), .ref (ad_36 211), .ref (ad_36 212)])) 211 (eI (cA 0) 400 (tbS sc fn))) 212 (eJ (cA 2) 400 (tbF sc fn))) 213 (eI (cA 1) 400 (nrG z b ap (y + 1)))) := by rw [nrG_s (v := 1) (by omega) (by omega)]
                            rw [hW9] at hP hD
                            exact ih_133 (y + 1) (by omega) (by omega) (by omega) H locs hP hD hS ls (lv_sub hl [0, 1, 2, 3, 4, 5, 6] rfl)
                          · skip
                            refine lv_iload (pc := 159) hx hb dX6_peaks_159 (lv_at hl 0 rfl) ?_
                            refine lv_iload (pc := 161) hx hb dX6_peaks_161 (lv_at hl 1 rfl) ?_
                            refine k_isub (pc := 163) hx hb dX6_peaks_163 ?_
                            refine k_mabs (pc := 164) hx hb (hml.trans hl.1.symm) hown (hts (.methodLink RX6 153 Lib.Math.abs.name) (by decide +kernel)) (hts (.static Lib.Math.abs.name) (by decide +kernel)) (hts (.initialized "java/lang/Math") (by decide +kernel)) (hts (.code Lib.Math.abs.name Lib.Math.abs.code 1 (some .int)) (by decide +kernel)) (Nat.le_of_ble_eq_true rfl) (Nat.le_of_ble_eq_true rfl) (Nat.le_of_ble_eq_true rfl) (Nat.le_of_ble_eq_true rfl) ⟨by omega, by omega⟩ dX6_peaks_164 ?_
                            refine lv_iload_n (pc := 167) hx hb dX6_peaks_167 rfl (lv_at hl 6 rfl) ?_
                            refine k_icmp_ge (pc := 168) (tgt := 175) hx hb ⟨by omega, by omega⟩ ⟨by omega, by omega⟩ dX6_peaks_168 (by decide) (fun hc_168 => ?_) (fun hc_168 => ?_)
                            · skip
                              refine k_iconst (pc := 175) hx hb dX6_peaks_175 ?_
                              refine k_zast (pc := 176) (w1 := (up (up (up (up w 200 (oB 6 [.int (iI 0), .int (iI (sc 0)), .ref (ad_36 201), .ref (ad_36 202), .ref (ad_36 203), .ref (ad_36 204), .int (iI (sc 1)), .ref (ad_36 205), .ref (ad_36 206), .ref (ad_36 207), .ref (ad_36 208), .ref (ad_36 209), .int (iI (sc 2)), .int (iI (sc 3)), .int (iI (sc 4)), .ref (ad_36 210), .int (iI 1), .ref (ad_36 211), .ref (ad_36 212)])) 211 (eI (cA 0) 400 (tbS sc fn))) 212 (eJ (cA 2) 400 (tbF sc fn))) 213 (eI (cA 1) 400 (updI (nrG z b ap y) y 0)))) hx hb hK hP hD hS 213 1 (up_s _ _ _) rfl (by omega) (by omega) (by omega) (Or.inl rfl) (up_up _ _ _ _) dX6_peaks_176 (fun H locs hP hD hS => ?_)
                              refine lv_iinc (pc := 177) (v := iI (y + 1)) (lv' := [(7, .int (iI (y + 1))), (6, .int (iI b)), (5, .int (iI x)), (4, .ref (ad_36 213)), (0, .ref (ad_36 200)), (1, .long (lI lm)), (3, .int (iI ap))]) hx hb dX6_peaks_177 hl (k := 0) rfl (iI_add _ _) (by decide) rfl (fun ls hl => ?_)
                              refine lv_goto (pc := 180) (tgt := 133) hx hb dX6_peaks_180 (by decide) ?_
                              have hW9 : ((up (up (up (up w 200 (oB 6 [.int (iI 0), .int (iI (sc 0)), .ref (ad_36 201), .ref (ad_36 202), .ref (ad_36 203), .ref (ad_36 204), .int (iI (sc 1)), .ref (ad_36 205), .ref (ad_36 206), .ref (ad_36 207), .ref (ad_36 208), .ref (ad_36 209), .int (iI (sc 2)), .int (iI (sc 3)), .int (iI (sc 4)), .ref (ad_36 210), .int (iI 1), .ref (ad_36 211), .ref (ad_36 212)])) 211 (eI (cA 0) 400 (tbS sc fn))) 212 (eJ (cA 2) 400 (tbF sc fn))) 213 (eI (cA 1) 400 (updI (nrG z b ap y) y 0)))) = (up (up (up (up w 200 (oB 6 [.int (iI 0), .int (iI (sc 0)), .ref (ad_36 201), .ref (ad_36 202), .ref (ad_36 203), .ref (ad_36 204), .int (iI (sc 1)), .ref (ad_36 205), .ref (ad_36 206), .ref (ad_36 207), .ref (ad_36 208), .ref (ad_36 209), .int (iI (sc 2)), .int (iI (sc 3)), .int (iI (sc 4)), .ref (ad_36 210), .int (iI 1), .ref (ad_36 211), .ref (ad_36 212)])) 211 (eI (cA 0) 400 (tbS sc fn))) 212 (eJ (cA 2) 400 (tbF sc fn))) 213 (eI (cA 1) 400 (nrG z b ap (y + 1)))) := by rw [nrG_s (v := 0) (by omega) (by omega)]
                              rw [hW9] at hP hD
                              exact ih_133 (y + 1) (by omega) (by omega) (by omega) H locs hP hD hS ls (lv_sub hl [0, 1, 2, 3, 4, 5, 6] rfl)
                            · skip
                              refine k_iconst (pc := 171) hx hb dX6_peaks_171 ?_
                              refine lv_goto (pc := 172) (tgt := 176) hx hb dX6_peaks_172 (by decide) ?_
                              refine k_zast (pc := 176) (w1 := (up (up (up (up w 200 (oB 6 [.int (iI 0), .int (iI (sc 0)), .ref (ad_36 201), .ref (ad_36 202), .ref (ad_36 203), .ref (ad_36 204), .int (iI (sc 1)), .ref (ad_36 205), .ref (ad_36 206), .ref (ad_36 207), .ref (ad_36 208), .ref (ad_36 209), .int (iI (sc 2)), .int (iI (sc 3)), .int (iI (sc 4)), .ref (ad_36 210), .int (iI 1), .ref (ad_36 211), .ref (ad_36 212)])) 211 (eI (cA 0) 400 (tbS sc fn))) 212 (eJ (cA 2) 400 (tbF sc fn))) 213 (eI (cA 1) 400 (updI (nrG z b ap y) y 1)))) hx hb hK hP hD hS 213 1 (up_s _ _ _) rfl (by omega) (by omega) (by omega) (Or.inr rfl) (up_up _ _ _ _) dX6_peaks_176 (fun H locs hP hD hS => ?_)
                              refine lv_iinc (pc := 177) (v := iI (y + 1)) (lv' := [(7, .int (iI (y + 1))), (6, .int (iI b)), (5, .int (iI x)), (4, .ref (ad_36 213)), (0, .ref (ad_36 200)), (1, .long (lI lm)), (3, .int (iI ap))]) hx hb dX6_peaks_177 hl (k := 0) rfl (iI_add _ _) (by decide) rfl (fun ls hl => ?_)
                              refine lv_goto (pc := 180) (tgt := 133) hx hb dX6_peaks_180 (by decide) ?_
                              have hW9 : ((up (up (up (up w 200 (oB 6 [.int (iI 0), .int (iI (sc 0)), .ref (ad_36 201), .ref (ad_36 202), .ref (ad_36 203), .ref (ad_36 204), .int (iI (sc 1)), .ref (ad_36 205), .ref (ad_36 206), .ref (ad_36 207), .ref (ad_36 208), .ref (ad_36 209), .int (iI (sc 2)), .int (iI (sc 3)), .int (iI (sc 4)), .ref (ad_36 210), .int (iI 1), .ref (ad_36 211), .ref (ad_36 212)])) 211 (eI (cA 0) 400 (tbS sc fn))) 212 (eJ (cA 2) 400 (tbF sc fn))) 213 (eI (cA 1) 400 (updI (nrG z b ap y) y 1)))) = (up (up (up (up w 200 (oB 6 [.int (iI 0), .int (iI (sc 0)), .ref (ad_36 201), .ref (ad_36 202), .ref (ad_36 203), .ref (ad_36 204), .int (iI (sc 1)), .ref (ad_36 205), .ref (ad_36 206), .ref (ad_36 207), .ref (ad_36 208), .ref (ad_36 209), .int (iI (sc 2)), .int (iI (sc 3)), .int (iI (sc 4)), .ref (ad_36 210), .int (iI 1), .ref (ad_36 211), .ref (ad_36 212)])) 211 (eI (cA 0) 400 (tbS sc fn))) 212 (eJ (cA 2) 400 (tbF sc fn))) 213 (eI (cA 1) 400 (nrG z b ap (y + 1)))) := by rw [nrG_s (v := 1) (by omega) (by omega)]
                              rw [hW9] at hP hD
                              exact ih_133 (y + 1) (by omega) (by omega) (by omega) H locs hP hD hS ls (lv_sub hl [0, 1, 2, 3, 4, 5, 6] rfl)
                  have hW9 : ((up (up (up (up w 200 (oB 6 [.int (iI 0), .int (iI (sc 0)), .ref (ad_36 201), .ref (ad_36 202), .ref (ad_36 203), .ref (ad_36 204), .int (iI (sc 1)), .ref (ad_36 205), .ref (ad_36 206), .ref (ad_36 207), .ref (ad_36 208), .ref (ad_36 209), .int (iI (sc 2)), .int (iI (sc 3)), .int (iI (sc 4)), .ref (ad_36 210), .int (iI 1), .ref (ad_36 211), .ref (ad_36 212)])) 211 (eI (cA 0) 400 (tbS sc fn))) 212 (eJ (cA 2) 400 (tbF sc fn))) 213 (eI (cA 1) 400 z))) = (up (up (up (up w 200 (oB 6 [.int (iI 0), .int (iI (sc 0)), .ref (ad_36 201), .ref (ad_36 202), .ref (ad_36 203), .ref (ad_36 204), .int (iI (sc 1)), .ref (ad_36 205), .ref (ad_36 206), .ref (ad_36 207), .ref (ad_36 208), .ref (ad_36 209), .int (iI (sc 2)), .int (iI (sc 3)), .int (iI (sc 4)), .ref (ad_36 210), .int (iI 1), .ref (ad_36 211), .ref (ad_36 212)])) 211 (eI (cA 0) 400 (tbS sc fn))) 212 (eJ (cA 2) 400 (tbF sc fn))) 213 (eI (cA 1) 400 (nrG z b ap 0))) := by rw [nrG_0]
                  rw [hW9] at hP hD
                  exact lp_133 _ 0 (by omega) (by omega) (Nat.lt_succ_self _) H locs hP hD hS ls (lv_sub hl [0, 1, 2, 3, 4, 5, 6] rfl)
                · skip
                  refine lv_aload (pc := 66) hx hb dX6_peaks_66 (lv_at hl 3 rfl) ?_
                  refine lv_iload (pc := 68) hx hb dX6_peaks_68 (lv_at hl 0 rfl) ?_
                  refine k_zald (pc := 70) hx hb hK hP 213 1 (up_s _ _ _) rfl (by omega) (by omega) (by omega) dX6_peaks_70 ?_
                  have hq_70 := iZ d
                  refine k_if_ne (pc := 71) (tgt := 124) hx hb ⟨by omega, by omega⟩ dX6_peaks_71 (by decide) (fun hc_71 => ?_) (fun hc_71 => ?_)
                  · skip
                    refine lv_iinc (pc := 124) (v := iI (d + 1)) (lv' := [(7, .int (iI (d + 1))), (6, .int (iI b)), (5, .int (iI x)), (4, .ref (ad_36 213)), (0, .ref (ad_36 200)), (1, .long (lI lm)), (3, .int (iI ap))]) hx hb dX6_peaks_124 hl (k := 0) rfl (iI_add _ _) (by decide) rfl (fun ls hl => ?_)
                    refine lv_goto (pc := 127) (tgt := 58) hx hb dX6_peaks_127 (by decide) ?_
                    exact ih_58 (d + 1) b (by omega) (bp_no jP (by omega)) (by omega) H locs hP hD hS ls (lv_sub hl [0, 1, 2, 3, 4, 5, 6] rfl)
                  · skip
                    refine lv_aload_n (pc := 74) hx hb dX6_peaks_74 rfl (lv_at hl 4 rfl) ?_
                    refine k_get (pc := 75) (ci := 6) (C := RX6) (T := TX6) (N := 19) hx hb hts hi6 hown hK hP 200 (up_n (by decide) (up_n (by decide) (up_n (by decide) (up_s _ _ _)))) rfl 17 (by decide) hf48 (fun _ h9 => h9) rfl dX6_peaks_75 ?_
                    refine lv_iload (pc := 78) hx hb dX6_peaks_78 (lv_at hl 0 rfl) ?_
                    refine k_iald (pc := 80) hx hb hK hP 211 0 (up_n (by decide) (up_n (by decide) (up_s _ _ _))) rfl (by omega) (by omega) (by omega) dX6_peaks_80 ?_
                    have hq_80 := (tbOk_tb hI).2.1 d
                    refine k_if_eq (pc := 81) (tgt := 124) hx hb ⟨by omega, by omega⟩ dX6_peaks_81 (by decide) (fun hc_81 => ?_) (fun hc_81 => ?_)
                    · skip
                      refine lv_iinc (pc := 124) (v := iI (d + 1)) (lv' := [(7, .int (iI (d + 1))), (6, .int (iI b)), (5, .int (iI x)), (4, .ref (ad_36 213)), (0, .ref (ad_36 200)), (1, .long (lI lm)), (3, .int (iI ap))]) hx hb dX6_peaks_124 hl (k := 0) rfl (iI_add _ _) (by decide) rfl (fun ls hl => ?_)
                      refine lv_goto (pc := 127) (tgt := 58) hx hb dX6_peaks_127 (by decide) ?_
                      exact ih_58 (d + 1) b (by omega) (bp_no jP (by omega)) (by omega) H locs hP hD hS ls (lv_sub hl [0, 1, 2, 3, 4, 5, 6] rfl)
                    · skip
                      refine lv_aload_n (pc := 84) hx hb dX6_peaks_84 rfl (lv_at hl 4 rfl) ?_
                      refine k_get (pc := 85) (ci := 6) (C := RX6) (T := TX6) (N := 19) hx hb hts hi6 hown hK hP 200 (up_n (by decide) (up_n (by decide) (up_n (by decide) (up_s _ _ _)))) rfl 18 (by decide) hf51 (fun _ h9 => h9) rfl dX6_peaks_85 ?_
                      refine lv_iload (pc := 88) hx hb dX6_peaks_88 (lv_at hl 0 rfl) ?_
                      refine k_lald (pc := 90) hx hb hK hP 212 2 (up_n (by decide) (up_s _ _ _)) rfl (by omega) (by omega) (by omega) dX6_peaks_90 ?_
                      have hq_90 := (tbOk_tb hI).1 d
                      refine lv_lload_n (pc := 91) hx hb dX6_peaks_91 rfl (lv_at hl 5 rfl) ?_
                      refine k_lcmp_lt (pc := 92) (tgt := 124) hx hb ⟨by omega, by omega⟩ ⟨by omega, by omega⟩ dX6_peaks_92 dX6_peaks_93 (by decide) (fun hc_92 => ?_) (fun hc_92 => ?_)
                      · skip
                        refine lv_iinc (pc := 124) (v := iI (d + 1)) (lv' := [(7, .int (iI (d + 1))), (6, .int (iI b)), (5, .int (iI x)), (4, .ref (ad_36 213)), (0, .ref (ad_36 200)), (1, .long (lI lm)), (3, .int (iI ap))]) hx hb dX6_peaks_124 hl (k := 0) rfl (iI_add _ _) (by decide) rfl (fun ls hl => ?_)
                        refine lv_goto (pc := 127) (tgt := 58) hx hb dX6_peaks_127 (by decide) ?_
                        exact ih_58 (d + 1) b (by omega) (bp_no jP (by omega)) (by omega) H locs hP hD hS ls (lv_sub hl [0, 1, 2, 3, 4, 5, 6] rfl)
                      · skip
                        refine lv_iload (pc := 96) hx hb dX6_peaks_96 (lv_at hl 1 rfl) ?_
                        refine k_iconst (pc := 98) hx hb dX6_peaks_98 ?_
                        refine k_icmp_eq (pc := 99) (tgt := 120) hx hb ⟨by omega, by omega⟩ ⟨by omega, by omega⟩ dX6_peaks_99 (by decide) (fun hc_99 => ?_) (fun hc_99 => ?_)
                        · skip
                          refine lv_iload (pc := 120) hx hb dX6_peaks_120 (lv_at hl 0 rfl) ?_
                          refine lv_istore (pc := 122) (lv' := [(6, .int (iI d)), (7, .int (iI d)), (5, .int (iI x)), (4, .ref (ad_36 213)), (0, .ref (ad_36 200)), (1, .long (lI lm)), (3, .int (iI ap))]) hx hb dX6_peaks_122 hl (by decide) rfl (fun ls hl => ?_)
                          refine lv_iinc (pc := 124) (v := iI (d + 1)) (lv' := [(7, .int (iI (d + 1))), (6, .int (iI d)), (5, .int (iI x)), (4, .ref (ad_36 213)), (0, .ref (ad_36 200)), (1, .long (lI lm)), (3, .int (iI ap))]) hx hb dX6_peaks_124 hl (k := 1) rfl (iI_add _ _) (by decide) rfl (fun ls hl => ?_)
                          refine lv_goto (pc := 127) (tgt := 58) hx hb dX6_peaks_127 (by decide) ?_
                          exact ih_58 (d + 1) d (by omega) (bp_up jP (by omega) (by omega) (by omega) (by omega) (by omega)) (by omega) H locs hP hD hS ls (lv_sub hl [0, 1, 2, 3, 4, 5, 6] rfl)
                        · skip
                          refine lv_aload_n (pc := 102) hx hb dX6_peaks_102 rfl (lv_at hl 4 rfl) ?_
                          refine k_get (pc := 103) (ci := 6) (C := RX6) (T := TX6) (N := 19) hx hb hts hi6 hown hK hP 200 (up_n (by decide) (up_n (by decide) (up_n (by decide) (up_s _ _ _)))) rfl 18 (by decide) hf51 (fun _ h9 => h9) rfl dX6_peaks_103 ?_
                          refine lv_iload (pc := 106) hx hb dX6_peaks_106 (lv_at hl 0 rfl) ?_
                          refine k_lald (pc := 108) hx hb hK hP 212 2 (up_n (by decide) (up_s _ _ _)) rfl (by omega) (by omega) (by omega) dX6_peaks_108 ?_
                          have hq_108 := (tbOk_tb hI).1 d
                          refine lv_aload_n (pc := 109) hx hb dX6_peaks_109 rfl (lv_at hl 4 rfl) ?_
                          refine k_get (pc := 110) (ci := 6) (C := RX6) (T := TX6) (N := 19) hx hb hts hi6 hown hK hP 200 (up_n (by decide) (up_n (by decide) (up_n (by decide) (up_s _ _ _)))) rfl 18 (by decide) hf51 (fun _ h9 => h9) rfl dX6_peaks_110 ?_
                          refine lv_iload (pc := 113) hx hb dX6_peaks_113 (lv_at hl 1 rfl) ?_
                          refine k_lald (pc := 115) hx hb hK hP 212 2 (up_n (by decide) (up_s _ _ _)) rfl (by omega) (by omega) (by omega) dX6_peaks_115 ?_
                          have hq_115 := (tbOk_tb hI).1 b
                          refine k_lcmp_le (pc := 116) (tgt := 124) hx hb ⟨by omega, by omega⟩ ⟨by omega, by omega⟩ dX6_peaks_116 dX6_peaks_117 (by decide) (fun hc_116 => ?_) (fun hc_116 => ?_)
                          · skip
                            refine lv_iinc (pc := 124) (v := iI (d + 1)) (lv' := [(7, .int (iI (d + 1))), (6, .int (iI b)), (5, .int (iI x)), (4, .ref (ad_36 213)), (0, .ref (ad_36 200)), (1, .long (lI lm)), (3, .int (iI ap))]) hx hb dX6_peaks_124 hl (k := 0) rfl (iI_add _ _) (by decide) rfl (fun ls hl => ?_)
                            refine lv_goto (pc := 127) (tgt := 58) hx hb dX6_peaks_127 (by decide) ?_
                            exact ih_58 (d + 1) b (by omega) (bp_no jP (by omega)) (by omega) H locs hP hD hS ls (lv_sub hl [0, 1, 2, 3, 4, 5, 6] rfl)
                          · skip
                            refine lv_iload (pc := 120) hx hb dX6_peaks_120 (lv_at hl 0 rfl) ?_
                            refine lv_istore (pc := 122) (lv' := [(6, .int (iI d)), (7, .int (iI d)), (5, .int (iI x)), (4, .ref (ad_36 213)), (0, .ref (ad_36 200)), (1, .long (lI lm)), (3, .int (iI ap))]) hx hb dX6_peaks_122 hl (by decide) rfl (fun ls hl => ?_)
                            refine lv_iinc (pc := 124) (v := iI (d + 1)) (lv' := [(7, .int (iI (d + 1))), (6, .int (iI d)), (5, .int (iI x)), (4, .ref (ad_36 213)), (0, .ref (ad_36 200)), (1, .long (lI lm)), (3, .int (iI ap))]) hx hb dX6_peaks_124 hl (k := 1) rfl (iI_add _ _) (by decide) rfl (fun ls hl => ?_)
                            refine lv_goto (pc := 127) (tgt := 58) hx hb dX6_peaks_127 (by decide) ?_
                            exact ih_58 (d + 1) d (by omega) (bp_up jP (by omega) (by omega) (by omega) (by omega) (by omega)) (by omega) H locs hP hD hS ls (lv_sub hl [0, 1, 2, 3, 4, 5, 6] rfl)
            exact lp_58 _ 0 (-1) (by omega) bp_0 (Nat.lt_succ_self _) H locs hP hD hS ls (lv_sub hl [0, 1, 2, 3, 4, 5, 6] rfl)
      exact lp_46 _ 0 0 (fun _ => 0) (by omega) (fun _ => (show (0 : Int) ≤ 0 ∧ (0 : Int) ≤ 1 by omega)) ⟨fun e9 => absurd e9 (by decide), fun _ v hv => pkE_cg (fun d a1 a2 => ⟨fun x => absurd rfl x, fun x => x.elim⟩) hv⟩ (Nat.lt_succ_self _) H locs hP hD hS ls (lv_sub hl [0, 1, 2, 3, 4, 5] rfl)
    · skip
      refine lv_aload_n (pc := 23) hx hb dX6_peaks_23 rfl (lv_at hl 0 rfl) ?_
      refine k_iconst (pc := 24) hx hb dX6_peaks_24 ?_
      refine k_call1 (pc := 25) (va_runV (As := [.int (iI 1)]) (rest := []) ⟨hx, hb, hml, hown, hts⟩ (c_X6_fail l D cA ad (up w 200 (oB 6 [.int (iI 0), .int (iI (sc 0)), .ref (ad 201), .ref (ad 202), .ref (ad 203), .ref (ad 204), .int (iI (sc 1)), .ref (ad 205), .ref (ad 206), .ref (ad 207), .ref (ad 208), .ref (ad 209), .int (iI (sc 2)), .int (iI (sc 3)), .int (iI (sc 4)), .ref (ad 210), .int (iI fr), .ref (ad 211), .ref (ad 212)])) H.size 0 (sc 0) (sc 1) (sc 2) (sc 3) (sc 4) fr (up_s _ _ _) 1) (cwV 1 hts gX6_peaks_X6_fail rfl rfl rfl (by decide +kernel) ⟨Nat.le_of_ble_eq_true rfl, Nat.le_of_ble_eq_true rfl⟩) (gV_V hP hD hK hB hS hA hZ 200 (ci := 6) rfl (up_s _ _ _)) rfl rfl hl.1 rfl (lv_room (Nat.le_of_ble_eq_true rfl)) dX6_peaks_25 ⟨Nat.le_of_ble_eq_true rfl, Nat.le_of_ble_eq_true rfl⟩) hS (gA_sub hD hS hA) (fun v_25 ad_25 w_25 H locs hv_25 hP hD hS => ?_)
      obtain ⟨hv1, hv2, hv3⟩ := hv_25
      subst hv1
      rw [hv2, hv3] at hP hD
      rw [show up ((up w 200 (oB 6 [.int (iI 0), .int (iI (sc 0)), .ref (ad 201), .ref (ad 202), .ref (ad 203), .ref (ad 204), .int (iI (sc 1)), .ref (ad 205), .ref (ad 206), .ref (ad 207), .ref (ad 208), .ref (ad 209), .int (iI (sc 2)), .int (iI (sc 3)), .int (iI (sc 4)), .ref (ad 210), .int (iI fr), .ref (ad 211), .ref (ad 212)]))) 200 (oB 6 [.int (iI 1), .int (iI (sc 0)), .ref (ad 201), .ref (ad 202), .ref (ad 203), .ref (ad 204), .int (iI (sc 1)), .ref (ad 205), .ref (ad 206), .ref (ad 207), .ref (ad 208), .ref (ad 209), .int (iI (sc 2)), .int (iI (sc 3)), .int (iI (sc 4)), .ref (ad 210), .int (iI fr), .ref (ad 211), .ref (ad 212)]) = _ from (up_up _ _ _ _)] at hP hD
      refine W.eq (g2 := F0 m 28 ls [.int (iI 0)]) rfl ?_
      refine W.cs (cells' := 0) (slots' := 0) rfl rfl ?_
      rw [hQ9]
      refine W.widen (k := 1) (n := 400) (by decide) (by decide) ?_
      exact W.iret (v := iI 0) hx hb hret (fun t ht hW => ⟨⟨some (.int (iI 0)), ad, (up w 200 (oB 6 [.int (iI 1), .int (iI (sc 0)), .ref (ad 201), .ref (ad 202), .ref (ad 203), .ref (ad 204), .int (iI (sc 1)), .ref (ad 205), .ref (ad 206), .ref (ad 207), .ref (ad 208), .ref (ad 209), .int (iI (sc 2)), .int (iI (sc 3)), .int (iI (sc 4)), .ref (ad 210), .int (iI fr), .ref (ad 211), .ref (ad 212)])), rfl, ⟨1, sc, fn, ⟨fr, G1, G2, us, ut, ub, S, F, ⟨(up_s _ _ _), (up_n (by decide) k1), (up_n (by decide) k2), (up_n (by decide) k3), (up_n (by decide) k4), (up_n (by decide) k5), (up_n (by decide) k6), (up_n (by decide) k7), (up_n (by decide) k8), (up_n (by decide) k9), (up_n (by decide) k10), (up_n (by decide) k11), (up_n (by decide) k12)⟩, hG1, hG2, hus, hut, hub, hS9, hF, hmc, hmu, hmt, hrk⟩, hI, ⟨rfl, fun r hr => ⟨(up_n (by omega) rfl), rfl⟩⟩, Or.inr (⟨rfl, rfl, rfl, rfl, by omega⟩)⟩, by rw [ht]; exact hP, hD⟩, hS.F ht⟩) hS.2.2 dX6_peaks_28
