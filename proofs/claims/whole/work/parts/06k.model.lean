/-- a model whose table is worked out -/
def mdR (cA : Nat → ClassId) (ad : Nat → Nat) (w : Nat → Option va_E) (th : Int) (sc : Nat → Int) (fn : Nat → Int → Int) : Prop := ∃ (G1 G2 us ut ub : Int → Int), mdAt cA ad w th sc fn 1 G1 G2 us ut ub (tbS sc fn) (tbF sc fn) ∧ (∀ j : Int, -500 ≤ G1 j ∧ G1 j ≤ 2000) ∧ (∀ j : Int, 0 ≤ G2 j ∧ G2 j ≤ 1000000) ∧ (∀ j : Int, 0 ≤ us j ∧ us j ≤ 1) ∧ (∀ j : Int, -200 ≤ ut j ∧ ut j ≤ 200) ∧ (∀ j : Int, -500 ≤ ub j ∧ ub j ≤ 1000000) ∧ mdC sc fn G1 G2 ∧ mdU sc fn us ut ∧ mdT sc fn ub
theorem mdR.md {cA : Nat → ClassId} {ad : Nat → Nat} {w : Nat → Option va_E} {th : Int} {sc : Nat → Int} {fn : Nat → Int → Int} (hI : bkInv sc fn) (h : mdR cA ad w th sc fn) : mdS cA ad w th sc fn := by
  obtain ⟨G1, G2, us, ut, ub, h0, h1, h2, h3, h4, h5, h6, h7, h8⟩ := h
  exact ⟨1, G1, G2, us, ut, ub, tbS sc fn, tbF sc fn, h0, h1, h2, h3, h4, h5, (tbOk_tb hI).2.1, (tbOk_tb hI).1, h6, h7, h8, Or.inr ⟨rfl, rfl, rfl⟩⟩
theorem keepM_t {a b c : Nat → Nat} {u v x : Nat → Option va_E} (h : keepM a b u v) (g : keepM b c v x) : keepM a c u x := ⟨g.1.trans h.1, fun r hr => ⟨(g.2 r hr).1.trans (h.2 r hr).1, (g.2 r hr).2.trans (h.2 r hr).2⟩⟩
/-- what the five numbers tell, before the day d -/
def smP (F S : Int → Int) (fr d : Int) (tl : Int → Int) : Prop := tl 0 = cntT S fr (d - fr).toNat ∧ tl 1 = sumT F S fr (d - fr).toNat ∧ gdP F S fr d (tl 4) ∧ ((tl 4 = -1 ∧ tl 2 = -1) ∨ (tl 4 ≠ -1 ∧ tl 2 = F (tl 4))) ∧ lfP F S fr d (tl 3)
theorem smP_b {F S : Int → Int} {fr d : Int} {tl : Int → Int} (h : smP F S fr d tl) (hF : ∀ j : Int, -1 ≤ F j ∧ F j ≤ 1000000000000) : (-1 ≤ tl 2 ∧ tl 2 ≤ 1000000000000) ∧ -1 ≤ tl 3 ∧ tl 3 ≤ 1000000000000 := by
  obtain ⟨-, -, -, h4, h5⟩ := h
  refine ⟨?_, ?_⟩
  · have := hF (tl 4)
    rcases h4 with ⟨a, b⟩ | ⟨a, b⟩ <;> omega
  · rcases h5 with ⟨a, -⟩ | ⟨g, -, -, -, b, -⟩
    · omega
    · have := hF g
      omega
theorem sm_0 {F S : Int → Int} {fr : Int} {tl : Int → Int} (h0 : tl 0 = 0) (h1 : tl 1 = 0) (h2 : tl 2 = -1) (h3 : tl 3 = -1) (h4 : tl 4 = -1) : smP F S fr fr tl := by
  refine ⟨?_, ?_, Or.inl ⟨h4, fun j a b => by omega⟩, Or.inl ⟨h4, h2⟩, Or.inl ⟨h3, fun j a b => by omega⟩⟩
  · rw [h0, show (fr - fr).toNat = 0 by omega]
    rfl
  · rw [h1, show (fr - fr).toNat = 0 by omega]
    rfl
theorem sm_no {F S : Int → Int} {fr d : Int} {tl : Int → Int} (h : smP F S fr d tl) (hd : fr ≤ d) (hS : S d = 0) : smP F S fr (d + 1) tl := by
  obtain ⟨h1, h2, h3, h4, h5⟩ := h
  refine ⟨?_, ?_, gdP_no h3 hS, h4, lfP_no h5 hS⟩
  · rw [cntT_s S hd, if_neg (by omega), h1]
    omega
  · rw [sumT_s F S hd, if_neg (by omega), h2]
    omega
theorem sm_st {F S : Int → Int} {fr d : Int} {tl tm : Int → Int} (h : smP F S fr d tl) (h0 : 0 ≤ fr) (hd : fr ≤ d) (hS : S d ≠ 0) (hp : ∀ j : Int, S j ≠ 0 → 0 ≤ F j) (e0 : tm 0 = tl 0 + 1) (e1 : tm 1 = tl 1 + F d) (e2 : (tm 2 = F d ∧ tm 4 = d ∧ (tl 2 = -1 ∨ tl 2 < F d)) ∨ (tm 2 = tl 2 ∧ tm 4 = tl 4 ∧ tl 2 ≠ -1 ∧ F d ≤ tl 2)) (e3 : (tm 3 = F d ∧ (tl 3 = -1 ∨ F d < tl 3)) ∨ (tm 3 = tl 3 ∧ tl 3 ≠ -1 ∧ tl 3 ≤ F d)) : smP F S fr (d + 1) tm := by
  obtain ⟨h1, h2, h3, h4, h5⟩ := h
  have p := hp d hS
  refine ⟨?_, ?_, ?_, ?_, ?_⟩
  · rw [cntT_s S hd, if_pos hS, e0, h1]
  · rw [sumT_s F S hd, if_pos hS, e1, h2]
  · rcases e2 with ⟨a, b, c⟩ | ⟨a, b, c, e⟩
    · rw [b]
      refine gdP_gt h0 hd h3 hS ?_
      rcases h4 with ⟨x, y⟩ | ⟨x, y⟩
      · exact Or.inl x
      · exact Or.inr (by omega)
    · rw [b]
      rcases h4 with ⟨x, y⟩ | ⟨x, y⟩
      · exact absurd y c
      · exact gdP_le h3 x (by omega)
  · rcases e2 with ⟨a, b, c⟩ | ⟨a, b, c, e⟩
    · exact Or.inr ⟨by omega, by rw [a, b]⟩
    · rw [a, b]
      exact h4
  · rcases e3 with ⟨a, b⟩ | ⟨a, b, c⟩
    · rw [a]
      exact lfP_lt hd h5 hS b hp
    · rw [a]
      exact lfP_ge h5 b c
theorem sm_end {F S : Int → Int} {fr to_ d wh : Int} {tl : Int → Int} (h : smP F S fr d tl) (hd : d = to_ + 1) (hw : 0 ≤ wh ∧ wh ≤ 4) : sumV F S fr to_ wh (tl wh) := by
  subst hd
  obtain ⟨h1, h2, h3, h4, h5⟩ := h
  rcases (show wh = 0 ∨ wh = 1 ∨ wh = 2 ∨ wh = 3 ∨ wh = 4 by omega) with e | e | e | e | e <;> subst e
  · exact Or.inl ⟨rfl, h1⟩
  · exact Or.inr (Or.inl ⟨rfl, h2⟩)
  · exact Or.inr (Or.inr (Or.inl ⟨rfl, tl 4, h3, h4⟩))
  · exact Or.inr (Or.inr (Or.inr (Or.inl ⟨rfl, h5⟩)))
  · exact Or.inr (Or.inr (Or.inr (Or.inr ⟨rfl, h3⟩)))

abbrev rmX6_summed : Room := { frames := 2, cells := 1, slots := 5, locals := 51 }
theorem hiX6_summed_6 : ∀ w ∈ wsX60, w ∈ wsX6_summed := by decide +kernel
set_option maxHeartbeats 4000000 in
set_option maxRecDepth 100000 in
theorem c_X6_summed (l : Launch) (D : va_G) (cA : Nat → ClassId) (ad : Nat → Nat) (w : Nat → Option va_E) (sz : Nat) (th : Int) (sc : Nat → Int) (fn : Nat → Int → Int) (hI : bkInv sc fn) (hmd : mdS cA ad w th sc fn) (fa to_ wh : Int) (hr9 : 0 ≤ fa ∧ fa ≤ to_ ∧ to_ < 400) (hwh : 0 ≤ wh ∧ wh ≤ 4) : Met l yX6_summed wsX6_summed rmX6_summed (gV D cA ad w sz [.ref (ad 200), .int (iI fa), .int (iI to_), .int (iI wh)]) (gW D (fun v9 ad1 w1 => mdR cA ad1 w1 th sc fn ∧ keepM ad ad1 w w1 ∧ ∃ z : Int, v9 = some (.long (lI z)) ∧ sumV (tbF sc fn) (tbS sc fn) fa to_ wh z) (gA ad w sz)) 1 5 (gA ad w sz) := by
  refine Met.ofW (cc := cX6_summed) (maxL := 6) (ret := (some .long)) (by decide) rfl ?_
  intro p e s m args below meth c s₁ B hml hv
  obtain ⟨hav, hsz, hP, hD0, hK, hB, hZ⟩ := hv
  have hx := B.exec
  have hb := B.bytes
  have hret := B.returns
  have hts := atoms_spec (ws := wsX6_summed) B.pre
  have hown : s.vm.findClass RX6 = some m.cls := findClass_of_methodNamed B.named
  have hlocks := B.notSynchronized
  subst hsz
  have hD := hD0.self (sz := s.heap.size)
  generalize hAe : gA ad w s.heap.size = A at hD hZ ⊢
  have hA : ∀ q : Nat, s.heap.size ≤ q → A q := fun q h => by rw [← hAe]; exact Or.inr h
  have hS : va_S A s.heap s.heap [] := va_S.rf
  have hi6 := hiX6_summed_6
  have hf48 := hts (.fieldLink RX6 48 "GaugeBookModel" "states" "[I") (by decide +kernel)
  have hf51 := hts (.fieldLink RX6 51 "GaugeBookModel" "worked" "[J") (by decide +kernel)
  have he9 : entryFrame m args 6 = F0 m 0 ((lg_sl ([.ref (ad 200), .int (iI fa), .int (iI to_), .int (iI wh)] : List Value) ++ List.replicate (6 - (lg_sl ([.ref (ad 200), .int (iI fa), .int (iI to_), .int (iI wh)] : List Value)).length) Slot.unset).toArray) [] := by rw [hav, lg_entry_eq]
  rw [he9]
  have hl := lv_entry ([.ref (ad 200), .int (iI fa), .int (iI to_), .int (iI wh)] : List Value) (n := 6) (Nat.le_of_ble_eq_true rfl)
  generalize (lg_sl ([.ref (ad 200), .int (iI fa), .int (iI to_), .int (iI wh)] : List Value) ++ List.replicate (6 - (lg_sl ([.ref (ad 200), .int (iI fa), .int (iI to_), .int (iI wh)] : List Value)).length) Slot.unset).toArray = ls at hl ⊢
  have hl : lv_has ls 6 [(0, .ref (ad 200)), (1, .int (iI fa)), (2, .int (iI to_)), (3, .int (iI wh))] := hl
  obtain ⟨Q9, hQ9⟩ : ∃ z, z = MQ below (gW D (fun v9 ad1 w1 => mdR cA ad1 w1 th sc fn ∧ keepM ad ad1 w w1 ∧ ∃ z : Int, v9 = some (.long (lI z)) ∧ sumV (tbF sc fn) (tbS sc fn) fa to_ wh z) A) args s 1 5 A := ⟨_, rfl⟩
  rw [← hQ9]
  show W p l e rmX6_summed s m args below meth c s.heap [] 0 0 Q9 (F0 m 0 ls [])
  obtain ⟨H, hHe⟩ : ∃ z, z = s.heap := ⟨_, rfl⟩
  obtain ⟨locs, hLe⟩ : ∃ z, z = ([] : List Loc) := ⟨_, rfl⟩
  have hP : gP D vwCl ad w H := by rw [hHe]; exact hP
  have hS : va_S A s.heap H locs := by rw [hHe, hLe]; exact va_S.rf
  rw [show W p l e rmX6_summed s m args below meth c s.heap [] 0 0 Q9 (F0 m 0 ls []) = W p l e rmX6_summed s m args below meth c H locs 0 0 Q9 (F0 m 0 ls []) by rw [hHe, hLe]]
  clear hHe hLe
  obtain ⟨fr, G1, G2, us, ut, ub, S, F, ⟨k0, k1, k2, k3, k4, k5, k6, k7, k8, k9, k10, k11, k12⟩, hG1, hG2, hus, hut, hub, hS9, hF, hmc, hmu, hmt, hrk⟩ := hmd
  have hI1 := hI.1
  refine lv_aload_n (pc := 0) hx hb dX6_summed_0 rfl (lv_at hl 0 rfl) ?_
  refine k_call1 (pc := 1) (va_runV (As := []) (rest := []) ⟨hx, hb, hml, hown, hts⟩ (c_X6_workOut l D cA ad w H.size sc fn th fr G1 G2 us ut ub S F hI k0 k1 k2 k3 k4 k5 k6 k7 k8 k9 k10 k11 k12 hG1 hG2 hus hut hub hS9 hF hmc hmu hrk) (cwV 0 hts gX6_summed_X6_workOut rfl rfl rfl (by decide +kernel) ⟨Nat.le_of_ble_eq_true rfl, Nat.le_of_ble_eq_true rfl⟩) (gV_V hP hD hK hB hS hA hZ 200 (ci := 6) rfl k0) rfl rfl hl.1 rfl (lv_room (Nat.le_of_ble_eq_true rfl)) dX6_summed_1 ⟨Nat.le_of_ble_eq_true rfl, Nat.le_of_ble_eq_true rfl⟩) hS (gA_sub hD hS hA) (fun v_1 ad_1 w_1 H locs hv_1 hP hD hS => ?_)
  obtain ⟨hv1, hv2, hv3⟩ := hv_1
  subst hv1
  rw [hv2, hv3] at hP hD
  refine W.eq (g2 := F0 m 4 ls []) rfl ?_
  refine W.cs (cells' := 0) (slots' := 0) rfl rfl ?_
  refine k_iconst (pc := 4) hx hb dX6_summed_4 ?_
  refine k_newJ (pc := 5) hx hb (hts (.arrayClass .long) (by decide +kernel)) hK hP hD hS hA 213 2 rfl 5 rfl (by decide) (Nat.le_of_ble_eq_true rfl) (Nat.le_of_ble_eq_true rfl) dX6_summed_5 (fun q_5 H hP hD hS => ?_)
  obtain ⟨ad_5, hga_5⟩ : ∃ z9 : Nat → Nat, adN ad 213 q_5 = z9 := ⟨_, rfl⟩
  rw [hga_5] at hP hD
  have hnn_5 : ∀ j9 : Nat, j9 ≠ 213 → ad j9 = ad_5 j9 := fun j9 h9_ => by rw [← hga_5, adN_n _ _ h9_]
  rw [show q_5 = ad_5 213 by rw [← hga_5, adN_s]]
  rw [hnn_5 201 (by omega)] at hP hD
  rw [hnn_5 202 (by omega)] at hP hD
  rw [hnn_5 203 (by omega)] at hP hD
  rw [hnn_5 204 (by omega)] at hP hD
  rw [hnn_5 205 (by omega)] at hP hD
  rw [hnn_5 206 (by omega)] at hP hD
  rw [hnn_5 207 (by omega)] at hP hD
  rw [hnn_5 208 (by omega)] at hP hD
  rw [hnn_5 209 (by omega)] at hP hD
  rw [hnn_5 210 (by omega)] at hP hD
  rw [hnn_5 211 (by omega)] at hP hD
  rw [hnn_5 212 (by omega)] at hP hD
  rw [hnn_5 200 (by omega)] at hl
  have hm_5_200 : w 200 = some (oB 6 [.int (iI th), .int (iI (sc 0)), .ref (ad_5 201), .ref (ad_5 202), .ref (ad_5 203), .ref (ad_5 204), .int (iI (sc 1)), .ref (ad_5 205), .ref (ad_5 206), .ref (ad_5 207), .ref (ad_5 208), .ref (ad_5 209), .int (iI (sc 2)), .int (iI (sc 3)), .int (iI (sc 4)), .ref (ad_5 210), .int (iI fr), .ref (ad_5 211), .ref (ad_5 212)]) := by rw [← hnn_5 201 (by omega), ← hnn_5 202 (by omega), ← hnn_5 203 (by omega), ← hnn_5 204 (by omega), ← hnn_5 205 (by omega), ← hnn_5 206 (by omega), ← hnn_5 207 (by omega), ← hnn_5 208 (by omega), ← hnn_5 209 (by omega), ← hnn_5 210 (by omega), ← hnn_5 211 (by omega), ← hnn_5 212 (by omega)]; exact k0
  refine W.eq (g2 := F0 m 7 ls [.ref (ad_5 213)]) rfl ?_
  refine W.cs (cells' := 1) (slots' := 5) rfl rfl ?_
  refine lv_dup (pc := 7) hx hb dX6_summed_7 rfl ?_
  refine k_iconst (pc := 8) hx hb dX6_summed_8 ?_
  refine k_lconst0 (pc := 9) hx hb dX6_summed_9 ?_
  refine k_last (pc := 10) (w1 := (up (up (up (up w 200 (oB 6 [.int (iI th), .int (iI (sc 0)), .ref (ad_5 201), .ref (ad_5 202), .ref (ad_5 203), .ref (ad_5 204), .int (iI (sc 1)), .ref (ad_5 205), .ref (ad_5 206), .ref (ad_5 207), .ref (ad_5 208), .ref (ad_5 209), .int (iI (sc 2)), .int (iI (sc 3)), .int (iI (sc 4)), .ref (ad_5 210), .int (iI 1), .ref (ad_5 211), .ref (ad_5 212)])) 211 (eI (cA 0) 400 (tbS sc fn))) 212 (eJ (cA 2) 400 (tbF sc fn))) 213 (eJ (cA 2) 5 (updI (fun _ => 0) 0 0)))) hx hb hK hP hD hS 213 2 (up_s _ _ _) rfl (by omega) (by omega) (by omega) (up_up _ _ _ _) dX6_summed_10 (fun H locs hP hD hS => ?_)
  refine lv_dup (pc := 11) hx hb dX6_summed_11 rfl ?_
  refine k_iconst (pc := 12) hx hb dX6_summed_12 ?_
  refine k_lconst0 (pc := 13) hx hb dX6_summed_13 ?_
  refine k_last (pc := 14) (w1 := (up (up (up (up w 200 (oB 6 [.int (iI th), .int (iI (sc 0)), .ref (ad_5 201), .ref (ad_5 202), .ref (ad_5 203), .ref (ad_5 204), .int (iI (sc 1)), .ref (ad_5 205), .ref (ad_5 206), .ref (ad_5 207), .ref (ad_5 208), .ref (ad_5 209), .int (iI (sc 2)), .int (iI (sc 3)), .int (iI (sc 4)), .ref (ad_5 210), .int (iI 1), .ref (ad_5 211), .ref (ad_5 212)])) 211 (eI (cA 0) 400 (tbS sc fn))) 212 (eJ (cA 2) 400 (tbF sc fn))) 213 (eJ (cA 2) 5 (updI (updI (fun _ => 0) 0 0) 1 0)))) hx hb hK hP hD hS 213 2 (up_s _ _ _) rfl (by omega) (by omega) (by omega) (up_up _ _ _ _) dX6_summed_14 (fun H locs hP hD hS => ?_)
  refine lv_dup (pc := 15) hx hb dX6_summed_15 rfl ?_
  refine k_iconst (pc := 16) hx hb dX6_summed_16 ?_
  refine k_ldc2 (z := (-1)) (pc := 17) hx hb hown (hts (.constantLong RX6 130 (-1)) (by decide +kernel)) (by decide +kernel) dX6_summed_17 ?_
  refine k_last (pc := 20) (w1 := (up (up (up (up w 200 (oB 6 [.int (iI th), .int (iI (sc 0)), .ref (ad_5 201), .ref (ad_5 202), .ref (ad_5 203), .ref (ad_5 204), .int (iI (sc 1)), .ref (ad_5 205), .ref (ad_5 206), .ref (ad_5 207), .ref (ad_5 208), .ref (ad_5 209), .int (iI (sc 2)), .int (iI (sc 3)), .int (iI (sc 4)), .ref (ad_5 210), .int (iI 1), .ref (ad_5 211), .ref (ad_5 212)])) 211 (eI (cA 0) 400 (tbS sc fn))) 212 (eJ (cA 2) 400 (tbF sc fn))) 213 (eJ (cA 2) 5 (updI (updI (updI (fun _ => 0) 0 0) 1 0) 2 (-1))))) hx hb hK hP hD hS 213 2 (up_s _ _ _) rfl (by omega) (by omega) (by omega) (up_up _ _ _ _) dX6_summed_20 (fun H locs hP hD hS => ?_)
  refine lv_dup (pc := 21) hx hb dX6_summed_21 rfl ?_
  refine k_iconst (pc := 22) hx hb dX6_summed_22 ?_
  refine k_ldc2 (z := (-1)) (pc := 23) hx hb hown (hts (.constantLong RX6 130 (-1)) (by decide +kernel)) (by decide +kernel) dX6_summed_23 ?_
  refine k_last (pc := 26) (w1 := (up (up (up (up w 200 (oB 6 [.int (iI th), .int (iI (sc 0)), .ref (ad_5 201), .ref (ad_5 202), .ref (ad_5 203), .ref (ad_5 204), .int (iI (sc 1)), .ref (ad_5 205), .ref (ad_5 206), .ref (ad_5 207), .ref (ad_5 208), .ref (ad_5 209), .int (iI (sc 2)), .int (iI (sc 3)), .int (iI (sc 4)), .ref (ad_5 210), .int (iI 1), .ref (ad_5 211), .ref (ad_5 212)])) 211 (eI (cA 0) 400 (tbS sc fn))) 212 (eJ (cA 2) 400 (tbF sc fn))) 213 (eJ (cA 2) 5 (updI (updI (updI (updI (fun _ => 0) 0 0) 1 0) 2 (-1)) 3 (-1))))) hx hb hK hP hD hS 213 2 (up_s _ _ _) rfl (by omega) (by omega) (by omega) (up_up _ _ _ _) dX6_summed_26 (fun H locs hP hD hS => ?_)
  refine lv_dup (pc := 27) hx hb dX6_summed_27 rfl ?_
  refine k_iconst (pc := 28) hx hb dX6_summed_28 ?_
  refine k_ldc2 (z := (-1)) (pc := 29) hx hb hown (hts (.constantLong RX6 130 (-1)) (by decide +kernel)) (by decide +kernel) dX6_summed_29 ?_
  refine k_last (pc := 32) (w1 := (up (up (up (up w 200 (oB 6 [.int (iI th), .int (iI (sc 0)), .ref (ad_5 201), .ref (ad_5 202), .ref (ad_5 203), .ref (ad_5 204), .int (iI (sc 1)), .ref (ad_5 205), .ref (ad_5 206), .ref (ad_5 207), .ref (ad_5 208), .ref (ad_5 209), .int (iI (sc 2)), .int (iI (sc 3)), .int (iI (sc 4)), .ref (ad_5 210), .int (iI 1), .ref (ad_5 211), .ref (ad_5 212)])) 211 (eI (cA 0) 400 (tbS sc fn))) 212 (eJ (cA 2) 400 (tbF sc fn))) 213 (eJ (cA 2) 5 (updI (updI (updI (updI (updI (fun _ => 0) 0 0) 1 0) 2 (-1)) 3 (-1)) 4 (-1))))) hx hb hK hP hD hS 213 2 (up_s _ _ _) rfl (by omega) (by omega) (by omega) (up_up _ _ _ _) dX6_summed_32 (fun H locs hP hD hS => ?_)
  refine lv_astore (pc := 33) (lv' := [(4, .ref (ad_5 213)), (0, .ref (ad_5 200)), (1, .int (iI fa)), (2, .int (iI to_)), (3, .int (iI wh))]) hx hb dX6_summed_33 hl (by decide) rfl (fun ls hl => ?_)
  refine lv_iload_n (pc := 35) hx hb dX6_summed_35 rfl (lv_at hl 2 rfl) ?_
  refine lv_istore (pc := 36) (lv' := [(5, .int (iI fa)), (4, .ref (ad_5 213)), (0, .ref (ad_5 200)), (1, .int (iI fa)), (2, .int (iI to_)), (3, .int (iI wh))]) hx hb dX6_summed_36 hl (by decide) rfl (fun ls hl => ?_)
  have lp_38 : ∀ (N9 : Nat) (d : Int) (tl : Int → Int), (fa ≤ d ∧ d ≤ to_ + 1) → (smP (tbF sc fn) (tbS sc fn) fa d tl) → (to_ + 1 - d).toNat < N9 → ∀ (H : Heap) (locs : List Loc), gP D vwCl ad_5 (up (up (up (up w 200 (oB 6 [.int (iI th), .int (iI (sc 0)), .ref (ad_5 201), .ref (ad_5 202), .ref (ad_5 203), .ref (ad_5 204), .int (iI (sc 1)), .ref (ad_5 205), .ref (ad_5 206), .ref (ad_5 207), .ref (ad_5 208), .ref (ad_5 209), .int (iI (sc 2)), .int (iI (sc 3)), .int (iI (sc 4)), .ref (ad_5 210), .int (iI 1), .ref (ad_5 211), .ref (ad_5 212)])) 211 (eI (cA 0) 400 (tbS sc fn))) 212 (eJ (cA 2) 400 (tbF sc fn))) 213 (eJ (cA 2) 5 tl)) H → gD A ad_5 (up (up (up (up w 200 (oB 6 [.int (iI th), .int (iI (sc 0)), .ref (ad_5 201), .ref (ad_5 202), .ref (ad_5 203), .ref (ad_5 204), .int (iI (sc 1)), .ref (ad_5 205), .ref (ad_5 206), .ref (ad_5 207), .ref (ad_5 208), .ref (ad_5 209), .int (iI (sc 2)), .int (iI (sc 3)), .int (iI (sc 4)), .ref (ad_5 210), .int (iI 1), .ref (ad_5 211), .ref (ad_5 212)])) 211 (eI (cA 0) 400 (tbS sc fn))) 212 (eJ (cA 2) 400 (tbF sc fn))) 213 (eJ (cA 2) 5 tl)) → va_S A s.heap H locs → ∀ (ls : Array Slot), lv_has ls 6 [(5, .int (iI d)), (4, .ref (ad_5 213)), (0, .ref (ad_5 200)), (1, .int (iI fa)), (2, .int (iI to_)), (3, .int (iI wh))] → W p l e rmX6_summed s m args below meth c H locs 1 5 Q9 (F0 m 38 ls []) := by
    intro N9
    induction N9 with
    | zero => intro d tl i0 iT hmu; exact absurd hmu (Nat.not_lt_zero _)
    | succ N9 ih_38 =>
      intro d tl i0 iT hmu_38 H locs hP hD hS ls hl
      refine lv_iload (pc := 38) hx hb dX6_summed_38 (lv_at hl 0 rfl) ?_
      refine lv_iload_n (pc := 40) hx hb dX6_summed_40 rfl (lv_at hl 4 rfl) ?_
      refine k_icmp_gt (pc := 41) (tgt := 166) hx hb ⟨by omega, by omega⟩ ⟨by omega, by omega⟩ dX6_summed_41 (by decide) (fun hc_41 => ?_) (fun hc_41 => ?_)
      · skip
        refine lv_aload (pc := 166) hx hb dX6_summed_166 (lv_at hl 1 rfl) ?_
        refine lv_iload_n (pc := 168) hx hb dX6_summed_168 rfl (lv_at hl 5 rfl) ?_
        refine k_lald (pc := 169) hx hb hK hP 213 2 (up_s _ _ _) rfl (by omega) (by omega) (by omega) dX6_summed_169 ?_
        have hmd2 : mdR cA ad_5 (up (up (up (up w 200 (oB 6 [.int (iI th), .int (iI (sc 0)), .ref (ad_5 201), .ref (ad_5 202), .ref (ad_5 203), .ref (ad_5 204), .int (iI (sc 1)), .ref (ad_5 205), .ref (ad_5 206), .ref (ad_5 207), .ref (ad_5 208), .ref (ad_5 209), .int (iI (sc 2)), .int (iI (sc 3)), .int (iI (sc 4)), .ref (ad_5 210), .int (iI 1), .ref (ad_5 211), .ref (ad_5 212)])) 211 (eI (cA 0) 400 (tbS sc fn))) 212 (eJ (cA 2) 400 (tbF sc fn))) 213 (eJ (cA 2) 5 tl)) th sc fn := ⟨G1, G2, us, ut, ub, ⟨(up_n (by decide) (up_n (by decide) (up_n (by decide) (up_s _ _ _)))), (up_n (by decide) (up_n (by decide) (up_n (by decide) (up_n (by decide) k1)))), (up_n (by decide) (up_n (by decide) (up_n (by decide) (up_n (by decide) k2)))), (up_n (by decide) (up_n (by decide) (up_n (by decide) (up_n (by decide) k3)))), (up_n (by decide) (up_n (by decide) (up_n (by decide) (up_n (by decide) k4)))), (up_n (by decide) (up_n (by decide) (up_n (by decide) (up_n (by decide) k5)))), (up_n (by decide) (up_n (by decide) (up_n (by decide) (up_n (by decide) k6)))), (up_n (by decide) (up_n (by decide) (up_n (by decide) (up_n (by decide) k7)))), (up_n (by decide) (up_n (by decide) (up_n (by decide) (up_n (by decide) k8)))), (up_n (by decide) (up_n (by decide) (up_n (by decide) (up_n (by decide) k9)))), (up_n (by decide) (up_n (by decide) (up_n (by decide) (up_n (by decide) k10)))), (up_n (by decide) (up_n (by decide) (up_s _ _ _))), (up_n (by decide) (up_s _ _ _))⟩, hG1, hG2, hus, hut, hub, hmc, hmu, hmt⟩
        rw [hQ9]
        exact W.lret (v := lI (tl wh)) hx hb hret (fun t ht hW => ⟨⟨some (.long (lI (tl wh))), ad_5, (up (up (up (up w 200 (oB 6 [.int (iI th), .int (iI (sc 0)), .ref (ad_5 201), .ref (ad_5 202), .ref (ad_5 203), .ref (ad_5 204), .int (iI (sc 1)), .ref (ad_5 205), .ref (ad_5 206), .ref (ad_5 207), .ref (ad_5 208), .ref (ad_5 209), .int (iI (sc 2)), .int (iI (sc 3)), .int (iI (sc 4)), .ref (ad_5 210), .int (iI 1), .ref (ad_5 211), .ref (ad_5 212)])) 211 (eI (cA 0) 400 (tbS sc fn))) 212 (eJ (cA 2) 400 (tbF sc fn))) 213 (eJ (cA 2) 5 tl)), rfl, ⟨hmd2, ⟨(hnn_5 200 (by omega)).symm, fun r hr => ⟨(up_n (by omega) (up_n (by omega) (up_n (by omega) (up_n (by omega) rfl)))), (hnn_5 r (by omega)).symm⟩⟩, tl wh, rfl, sm_end iT (by omega) hwh⟩, by rw [ht]; exact hP, hD⟩, hS.F ht⟩) hS.2.2 dX6_summed_170
      · skip
        refine lv_aload_n (pc := 44) hx hb dX6_summed_44 rfl (lv_at hl 2 rfl) ?_
        refine k_get (pc := 45) (ci := 6) (C := RX6) (T := TX6) (N := 19) hx hb hts hi6 hown hK hP 200 (up_n (by decide) (up_n (by decide) (up_n (by decide) (up_s _ _ _)))) rfl 17 (by decide) hf48 (fun _ h9 => h9) rfl dX6_summed_45 ?_
        refine lv_iload (pc := 48) hx hb dX6_summed_48 (lv_at hl 0 rfl) ?_
        refine k_iald (pc := 50) hx hb hK hP 211 0 (up_n (by decide) (up_n (by decide) (up_s _ _ _))) rfl (by omega) (by omega) (by omega) dX6_summed_50 ?_
        have hq_50 := (tbOk_tb hI).2.1 d
        refine k_if_ne (pc := 51) (tgt := 57) hx hb ⟨by omega, by omega⟩ dX6_summed_51 (by decide) (fun hc_51 => ?_) (fun hc_51 => ?_)
        · skip
          have b9_ := smP_b iT (tbOk_tb hI).1
          refine lv_aload (pc := 57) hx hb dX6_summed_57 (lv_at hl 1 rfl) ?_
          refine k_iconst (pc := 59) hx hb dX6_summed_59 ?_
          refine lv_dup2_11 (pc := 60) hx hb dX6_summed_60 rfl rfl ?_
          refine k_lald (pc := 61) hx hb hK hP 213 2 (up_s _ _ _) rfl (by omega) (by omega) (by omega) dX6_summed_61 ?_
          refine k_lconst1 (pc := 62) hx hb dX6_summed_62 ?_
          refine k_ladd (pc := 63) hx hb dX6_summed_63 ?_
          refine k_last (pc := 64) (w1 := (up (up (up (up w 200 (oB 6 [.int (iI th), .int (iI (sc 0)), .ref (ad_5 201), .ref (ad_5 202), .ref (ad_5 203), .ref (ad_5 204), .int (iI (sc 1)), .ref (ad_5 205), .ref (ad_5 206), .ref (ad_5 207), .ref (ad_5 208), .ref (ad_5 209), .int (iI (sc 2)), .int (iI (sc 3)), .int (iI (sc 4)), .ref (ad_5 210), .int (iI 1), .ref (ad_5 211), .ref (ad_5 212)])) 211 (eI (cA 0) 400 (tbS sc fn))) 212 (eJ (cA 2) 400 (tbF sc fn))) 213 (eJ (cA 2) 5 (updI tl 0 ((tl 0) + 1))))) hx hb hK hP hD hS 213 2 (up_s _ _ _) rfl (by omega) (by omega) (by omega) (up_up _ _ _ _) dX6_summed_64 (fun H locs hP hD hS => ?_)
          refine lv_aload (pc := 65) hx hb dX6_summed_65 (lv_at hl 1 rfl) ?_
          refine k_iconst (pc := 67) hx hb dX6_summed_67 ?_
          refine lv_dup2_11 (pc := 68) hx hb dX6_summed_68 rfl rfl ?_
          refine k_lald (pc := 69) hx hb hK hP 213 2 (up_s _ _ _) rfl (by omega) (by omega) (by omega) dX6_summed_69 ?_
          have he_70 : (updI tl 0 ((tl 0) + 1)) 1 = tl 1 := by simp [updI]
          rw [he_70]
          refine lv_aload_n (pc := 70) hx hb dX6_summed_70 rfl (lv_at hl 2 rfl) ?_
          refine k_get (pc := 71) (ci := 6) (C := RX6) (T := TX6) (N := 19) hx hb hts hi6 hown hK hP 200 (up_n (by decide) (up_n (by decide) (up_n (by decide) (up_s _ _ _)))) rfl 18 (by decide) hf51 (fun _ h9 => h9) rfl dX6_summed_71 ?_
          refine lv_iload (pc := 74) hx hb dX6_summed_74 (lv_at hl 0 rfl) ?_
          refine k_lald (pc := 76) hx hb hK hP 212 2 (up_n (by decide) (up_s _ _ _)) rfl (by omega) (by omega) (by omega) dX6_summed_76 ?_
          have hq_76 := (tbOk_tb hI).1 d
          refine k_ladd (pc := 77) hx hb dX6_summed_77 ?_
          refine k_last (pc := 78) (w1 := (up (up (up (up w 200 (oB 6 [.int (iI th), .int (iI (sc 0)), .ref (ad_5 201), .ref (ad_5 202), .ref (ad_5 203), .ref (ad_5 204), .int (iI (sc 1)), .ref (ad_5 205), .ref (ad_5 206), .ref (ad_5 207), .ref (ad_5 208), .ref (ad_5 209), .int (iI (sc 2)), .int (iI (sc 3)), .int (iI (sc 4)), .ref (ad_5 210), .int (iI 1), .ref (ad_5 211), .ref (ad_5 212)])) 211 (eI (cA 0) 400 (tbS sc fn))) 212 (eJ (cA 2) 400 (tbF sc fn))) 213 (eJ (cA 2) 5 (updI (updI tl 0 ((tl 0) + 1)) 1 ((tl 1) + ((tbF sc fn) d)))))) hx hb hK hP hD hS 213 2 (up_s _ _ _) rfl (by omega) (by omega) (by omega) (up_up _ _ _ _) dX6_summed_78 (fun H locs hP hD hS => ?_)
          refine lv_aload (pc := 79) hx hb dX6_summed_79 (lv_at hl 1 rfl) ?_
          refine k_iconst (pc := 81) hx hb dX6_summed_81 ?_
          refine k_lald (pc := 82) hx hb hK hP 213 2 (up_s _ _ _) rfl (by omega) (by omega) (by omega) dX6_summed_82 ?_
          have he_83 : (updI (updI tl 0 ((tl 0) + 1)) 1 ((tl 1) + ((tbF sc fn) d))) 2 = tl 2 := by simp [updI]
          rw [he_83]
          refine k_ldc2 (z := (-1)) (pc := 83) hx hb hown (hts (.constantLong RX6 130 (-1)) (by decide +kernel)) (by decide +kernel) dX6_summed_83 ?_
          refine k_lcmp_eq (pc := 86) (tgt := 105) hx hb ⟨by omega, by omega⟩ ⟨by omega, by omega⟩ dX6_summed_86 dX6_summed_87 (by decide) (fun hc_86 => ?_) (fun hc_86 => ?_)
          · skip
            refine lv_aload (pc := 105) hx hb dX6_summed_105 (lv_at hl 1 rfl) ?_
            refine k_iconst (pc := 107) hx hb dX6_summed_107 ?_
            refine lv_aload_n (pc := 108) hx hb dX6_summed_108 rfl (lv_at hl 2 rfl) ?_
            refine k_get (pc := 109) (ci := 6) (C := RX6) (T := TX6) (N := 19) hx hb hts hi6 hown hK hP 200 (up_n (by decide) (up_n (by decide) (up_n (by decide) (up_s _ _ _)))) rfl 18 (by decide) hf51 (fun _ h9 => h9) rfl dX6_summed_109 ?_
            refine lv_iload (pc := 112) hx hb dX6_summed_112 (lv_at hl 0 rfl) ?_
            refine k_lald (pc := 114) hx hb hK hP 212 2 (up_n (by decide) (up_s _ _ _)) rfl (by omega) (by omega) (by omega) dX6_summed_114 ?_
            have hq_114 := (tbOk_tb hI).1 d
            refine k_last (pc := 115) (w1 := (up (up (up (up w 200 (oB 6 [.int (iI th), .int (iI (sc 0)), .ref (ad_5 201), .ref (ad_5 202), .ref (ad_5 203), .ref (ad_5 204), .int (iI (sc 1)), .ref (ad_5 205), .ref (ad_5 206), .ref (ad_5 207), .ref (ad_5 208), .ref (ad_5 209), .int (iI (sc 2)), .int (iI (sc 3)), .int (iI (sc 4)), .ref (ad_5 210), .int (iI 1), .ref (ad_5 211), .ref (ad_5 212)])) 211 (eI (cA 0) 400 (tbS sc fn))) 212 (eJ (cA 2) 400 (tbF sc fn))) 213 (eJ (cA 2) 5 (updI (updI (updI tl 0 ((tl 0) + 1)) 1 ((tl 1) + ((tbF sc fn) d))) 2 ((tbF sc fn) d))))) hx hb hK hP hD hS 213 2 (up_s _ _ _) rfl (by omega) (by omega) (by omega) (up_up _ _ _ _) dX6_summed_115 (fun H locs hP hD hS => ?_)
            refine lv_aload (pc := 116) hx hb dX6_summed_116 (lv_at hl 1 rfl) ?_
            refine k_iconst (pc := 118) hx hb dX6_summed_118 ?_
            refine lv_iload (pc := 119) hx hb dX6_summed_119 (lv_at hl 0 rfl) ?_
            refine k_i2l (pc := 121) hx hb ⟨by omega, by omega⟩ dX6_summed_121 ?_
            refine k_last (pc := 122) (w1 := (up (up (up (up w 200 (oB 6 [.int (iI th), .int (iI (sc 0)), .ref (ad_5 201), .ref (ad_5 202), .ref (ad_5 203), .ref (ad_5 204), .int (iI (sc 1)), .ref (ad_5 205), .ref (ad_5 206), .ref (ad_5 207), .ref (ad_5 208), .ref (ad_5 209), .int (iI (sc 2)), .int (iI (sc 3)), .int (iI (sc 4)), .ref (ad_5 210), .int (iI 1), .ref (ad_5 211), .ref (ad_5 212)])) 211 (eI (cA 0) 400 (tbS sc fn))) 212 (eJ (cA 2) 400 (tbF sc fn))) 213 (eJ (cA 2) 5 (updI (updI (updI (updI tl 0 ((tl 0) + 1)) 1 ((tl 1) + ((tbF sc fn) d))) 2 ((tbF sc fn) d)) 4 d)))) hx hb hK hP hD hS 213 2 (up_s _ _ _) rfl (by omega) (by omega) (by omega) (up_up _ _ _ _) dX6_summed_122 (fun H locs hP hD hS => ?_)
            refine lv_aload (pc := 123) hx hb dX6_summed_123 (lv_at hl 1 rfl) ?_
            refine k_iconst (pc := 125) hx hb dX6_summed_125 ?_
            refine k_lald (pc := 126) hx hb hK hP 213 2 (up_s _ _ _) rfl (by omega) (by omega) (by omega) dX6_summed_126 ?_
            have he_127 : (updI (updI (updI (updI tl 0 ((tl 0) + 1)) 1 ((tl 1) + ((tbF sc fn) d))) 2 ((tbF sc fn) d)) 4 d) 3 = tl 3 := by simp [updI]
            rw [he_127]
            refine k_ldc2 (z := (-1)) (pc := 127) hx hb hown (hts (.constantLong RX6 130 (-1)) (by decide +kernel)) (by decide +kernel) dX6_summed_127 ?_
            refine k_lcmp_eq (pc := 130) (tgt := 149) hx hb ⟨by omega, by omega⟩ ⟨by omega, by omega⟩ dX6_summed_130 dX6_summed_131 (by decide) (fun hc_130 => ?_) (fun hc_130 => ?_)
            · skip
              refine lv_aload (pc := 149) hx hb dX6_summed_149 (lv_at hl 1 rfl) ?_
              refine k_iconst (pc := 151) hx hb dX6_summed_151 ?_
              refine lv_aload_n (pc := 152) hx hb dX6_summed_152 rfl (lv_at hl 2 rfl) ?_
              refine k_get (pc := 153) (ci := 6) (C := RX6) (T := TX6) (N := 19) hx hb hts hi6 hown hK hP 200 (up_n (by decide) (up_n (by decide) (up_n (by decide) (up_s _ _ _)))) rfl 18 (by decide) hf51 (fun _ h9 => h9) rfl dX6_summed_153 ?_
              refine lv_iload (pc := 156) hx hb dX6_summed_156 (lv_at hl 0 rfl) ?_
              refine k_lald (pc := 158) hx hb hK hP 212 2 (up_n (by decide) (up_s _ _ _)) rfl (by omega) (by omega) (by omega) dX6_summed_158 ?_
              have hq_158 := (tbOk_tb hI).1 d
              refine k_last (pc := 159) (w1 := (up (up (up (up w 200 (oB 6 [.int (iI th), .int (iI (sc 0)), .ref (ad_5 201), .ref (ad_5 202), .ref (ad_5 203), .ref (ad_5 204), .int (iI (sc 1)), .ref (ad_5 205), .ref (ad_5 206), .ref (ad_5 207), .ref (ad_5 208), .ref (ad_5 209), .int (iI (sc 2)), .int (iI (sc 3)), .int (iI (sc 4)), .ref (ad_5 210), .int (iI 1), .ref (ad_5 211), .ref (ad_5 212)])) 211 (eI (cA 0) 400 (tbS sc fn))) 212 (eJ (cA 2) 400 (tbF sc fn))) 213 (eJ (cA 2) 5 (updI (updI (updI (updI (updI tl 0 ((tl 0) + 1)) 1 ((tl 1) + ((tbF sc fn) d))) 2 ((tbF sc fn) d)) 4 d) 3 ((tbF sc fn) d))))) hx hb hK hP hD hS 213 2 (up_s _ _ _) rfl (by omega) (by omega) (by omega) (up_up _ _ _ _) dX6_summed_159 (fun H locs hP hD hS => ?_)
              refine lv_iinc (pc := 160) (v := iI (d + 1)) (lv' := [(5, .int (iI (d + 1))), (4, .ref (ad_5 213)), (0, .ref (ad_5 200)), (1, .int (iI fa)), (2, .int (iI to_)), (3, .int (iI wh))]) hx hb dX6_summed_160 hl (k := 0) rfl (iI_add _ _) (by decide) rfl (fun ls hl => ?_)
              refine lv_goto (pc := 163) (tgt := 38) hx hb dX6_summed_163 (by decide) ?_
              exact ih_38 (d + 1) (updI (updI (updI (updI (updI tl 0 ((tl 0) + 1)) 1 ((tl 1) + ((tbF sc fn) d))) 2 ((tbF sc fn) d)) 4 d) 3 ((tbF sc fn) d)) (by omega) (sm_st iT (by omega) (by omega) (by omega) (tbOk_tb hI).2.2.1 (by simp [updI]) (by simp [updI]) (Or.inl ⟨by simp [updI], by simp [updI], by omega⟩) (Or.inl ⟨by simp [updI], by omega⟩)) (by omega) H locs hP hD hS ls (lv_sub hl [0, 1, 2, 3, 4, 5] rfl)
            · skip
              refine lv_aload_n (pc := 134) hx hb dX6_summed_134 rfl (lv_at hl 2 rfl) ?_
              refine k_get (pc := 135) (ci := 6) (C := RX6) (T := TX6) (N := 19) hx hb hts hi6 hown hK hP 200 (up_n (by decide) (up_n (by decide) (up_n (by decide) (up_s _ _ _)))) rfl 18 (by decide) hf51 (fun _ h9 => h9) rfl dX6_summed_135 ?_
              refine lv_iload (pc := 138) hx hb dX6_summed_138 (lv_at hl 0 rfl) ?_
              refine k_lald (pc := 140) hx hb hK hP 212 2 (up_n (by decide) (up_s _ _ _)) rfl (by omega) (by omega) (by omega) dX6_summed_140 ?_
              have hq_140 := (tbOk_tb hI).1 d
              refine lv_aload (pc := 141) hx hb dX6_summed_141 (lv_at hl 1 rfl) ?_
              refine k_iconst (pc := 143) hx hb dX6_summed_143 ?_
              refine k_lald (pc := 144) hx hb hK hP 213 2 (up_s _ _ _) rfl (by omega) (by omega) (by omega) dX6_summed_144 ?_
              have he_145 : (updI (updI (updI (updI tl 0 ((tl 0) + 1)) 1 ((tl 1) + ((tbF sc fn) d))) 2 ((tbF sc fn) d)) 4 d) 3 = tl 3 := by simp [updI]
              rw [he_145]
              refine k_lcmp_ge (pc := 145) (tgt := 160) hx hb ⟨by omega, by omega⟩ ⟨by omega, by omega⟩ dX6_summed_145 dX6_summed_146 (by decide) (fun hc_145 => ?_) (fun hc_145 => ?_)
              · skip
                refine lv_iinc (pc := 160) (v := iI (d + 1)) (lv' := [(5, .int (iI (d + 1))), (4, .ref (ad_5 213)), (0, .ref (ad_5 200)), (1, .int (iI fa)), (2, .int (iI to_)), (3, .int (iI wh))]) hx hb dX6_summed_160 hl (k := 0) rfl (iI_add _ _) (by decide) rfl (fun ls hl => ?_)
                refine lv_goto (pc := 163) (tgt := 38) hx hb dX6_summed_163 (by decide) ?_
                exact ih_38 (d + 1) (updI (updI (updI (updI tl 0 ((tl 0) + 1)) 1 ((tl 1) + ((tbF sc fn) d))) 2 ((tbF sc fn) d)) 4 d) (by omega) (sm_st iT (by omega) (by omega) (by omega) (tbOk_tb hI).2.2.1 (by simp [updI]) (by simp [updI]) (Or.inl ⟨by simp [updI], by simp [updI], by omega⟩) (Or.inr ⟨by simp [updI], by omega, by omega⟩)) (by omega) H locs hP hD hS ls (lv_sub hl [0, 1, 2, 3, 4, 5] rfl)
              · skip
                refine lv_aload (pc := 149) hx hb dX6_summed_149 (lv_at hl 1 rfl) ?_
                refine k_iconst (pc := 151) hx hb dX6_summed_151 ?_
                refine lv_aload_n (pc := 152) hx hb dX6_summed_152 rfl (lv_at hl 2 rfl) ?_
                refine k_get (pc := 153) (ci := 6) (C := RX6) (T := TX6) (N := 19) hx hb hts hi6 hown hK hP 200 (up_n (by decide) (up_n (by decide) (up_n (by decide) (up_s _ _ _)))) rfl 18 (by decide) hf51 (fun _ h9 => h9) rfl dX6_summed_153 ?_
                refine lv_iload (pc := 156) hx hb dX6_summed_156 (lv_at hl 0 rfl) ?_
                refine k_lald (pc := 158) hx hb hK hP 212 2 (up_n (by decide) (up_s _ _ _)) rfl (by omega) (by omega) (by omega) dX6_summed_158 ?_
                have hq_158 := (tbOk_tb hI).1 d
                refine k_last (pc := 159) (w1 := (up (up (up (up w 200 (oB 6 [.int (iI th), .int (iI (sc 0)), .ref (ad_5 201), .ref (ad_5 202), .ref (ad_5 203), .ref (ad_5 204), .int (iI (sc 1)), .ref (ad_5 205), .ref (ad_5 206), .ref (ad_5 207), .ref (ad_5 208), .ref (ad_5 209), .int (iI (sc 2)), .int (iI (sc 3)), .int (iI (sc 4)), .ref (ad_5 210), .int (iI 1), .ref (ad_5 211), .ref (ad_5 212)])) 211 (eI (cA 0) 400 (tbS sc fn))) 212 (eJ (cA 2) 400 (tbF sc fn))) 213 (eJ (cA 2) 5 (updI (updI (updI (updI (updI tl 0 ((tl 0) + 1)) 1 ((tl 1) + ((tbF sc fn) d))) 2 ((tbF sc fn) d)) 4 d) 3 ((tbF sc fn) d))))) hx hb hK hP hD hS 213 2 (up_s _ _ _) rfl (by omega) (by omega) (by omega) (up_up _ _ _ _) dX6_summed_159 (fun H locs hP hD hS => ?_)
                refine lv_iinc (pc := 160) (v := iI (d + 1)) (lv' := [(5, .int (iI (d + 1))), (4, .ref (ad_5 213)), (0, .ref (ad_5 200)), (1, .int (iI fa)), (2, .int (iI to_)), (3, .int (iI wh))]) hx hb dX6_summed_160 hl (k := 0) rfl (iI_add _ _) (by decide) rfl (fun ls hl => ?_)
                refine lv_goto (pc := 163) (tgt := 38) hx hb dX6_summed_163 (by decide) ?_
                exact ih_38 (d + 1) (updI (updI (updI (updI (updI tl 0 ((tl 0) + 1)) 1 ((tl 1) + ((tbF sc fn) d))) 2 ((tbF sc fn) d)) 4 d) 3 ((tbF sc fn) d)) (by omega) (sm_st iT (by omega) (by omega) (by omega) (tbOk_tb hI).2.2.1 (by simp [updI]) (by simp [updI]) (Or.inl ⟨by simp [updI], by simp [updI], by omega⟩) (Or.inl ⟨by simp [updI], by omega⟩)) (by omega) H locs hP hD hS ls (lv_sub hl [0, 1, 2, 3, 4, 5] rfl)
          · skip
            refine lv_aload_n (pc := 90) hx hb dX6_summed_90 rfl (lv_at hl 2 rfl) ?_
            refine k_get (pc := 91) (ci := 6) (C := RX6) (T := TX6) (N := 19) hx hb hts hi6 hown hK hP 200 (up_n (by decide) (up_n (by decide) (up_n (by decide) (up_s _ _ _)))) rfl 18 (by decide) hf51 (fun _ h9 => h9) rfl dX6_summed_91 ?_
            refine lv_iload (pc := 94) hx hb dX6_summed_94 (lv_at hl 0 rfl) ?_
            refine k_lald (pc := 96) hx hb hK hP 212 2 (up_n (by decide) (up_s _ _ _)) rfl (by omega) (by omega) (by omega) dX6_summed_96 ?_
            have hq_96 := (tbOk_tb hI).1 d
            refine lv_aload (pc := 97) hx hb dX6_summed_97 (lv_at hl 1 rfl) ?_
            refine k_iconst (pc := 99) hx hb dX6_summed_99 ?_
            refine k_lald (pc := 100) hx hb hK hP 213 2 (up_s _ _ _) rfl (by omega) (by omega) (by omega) dX6_summed_100 ?_
            have he_101 : (updI (updI tl 0 ((tl 0) + 1)) 1 ((tl 1) + ((tbF sc fn) d))) 2 = tl 2 := by simp [updI]
            rw [he_101]
            refine k_lcmp_le (pc := 101) (tgt := 123) hx hb ⟨by omega, by omega⟩ ⟨by omega, by omega⟩ dX6_summed_101 dX6_summed_102 (by decide) (fun hc_101 => ?_) (fun hc_101 => ?_)
            · skip
              refine lv_aload (pc := 123) hx hb dX6_summed_123 (lv_at hl 1 rfl) ?_
              refine k_iconst (pc := 125) hx hb dX6_summed_125 ?_
              refine k_lald (pc := 126) hx hb hK hP 213 2 (up_s _ _ _) rfl (by omega) (by omega) (by omega) dX6_summed_126 ?_
              have he_127 : (updI (updI tl 0 ((tl 0) + 1)) 1 ((tl 1) + ((tbF sc fn) d))) 3 = tl 3 := by simp [updI]
              rw [he_127]
              refine k_ldc2 (z := (-1)) (pc := 127) hx hb hown (hts (.constantLong RX6 130 (-1)) (by decide +kernel)) (by decide +kernel) dX6_summed_127 ?_
              refine k_lcmp_eq (pc := 130) (tgt := 149) hx hb ⟨by omega, by omega⟩ ⟨by omega, by omega⟩ dX6_summed_130 dX6_summed_131 (by decide) (fun hc_130 => ?_) (fun hc_130 => ?_)
              · skip
                refine lv_aload (pc := 149) hx hb dX6_summed_149 (lv_at hl 1 rfl) ?_
                refine k_iconst (pc := 151) hx hb dX6_summed_151 ?_
                refine lv_aload_n (pc := 152) hx hb dX6_summed_152 rfl (lv_at hl 2 rfl) ?_
                refine k_get (pc := 153) (ci := 6) (C := RX6) (T := TX6) (N := 19) hx hb hts hi6 hown hK hP 200 (up_n (by decide) (up_n (by decide) (up_n (by decide) (up_s _ _ _)))) rfl 18 (by decide) hf51 (fun _ h9 => h9) rfl dX6_summed_153 ?_
                refine lv_iload (pc := 156) hx hb dX6_summed_156 (lv_at hl 0 rfl) ?_
                refine k_lald (pc := 158) hx hb hK hP 212 2 (up_n (by decide) (up_s _ _ _)) rfl (by omega) (by omega) (by omega) dX6_summed_158 ?_
                have hq_158 := (tbOk_tb hI).1 d
                refine k_last (pc := 159) (w1 := (up (up (up (up w 200 (oB 6 [.int (iI th), .int (iI (sc 0)), .ref (ad_5 201), .ref (ad_5 202), .ref (ad_5 203), .ref (ad_5 204), .int (iI (sc 1)), .ref (ad_5 205), .ref (ad_5 206), .ref (ad_5 207), .ref (ad_5 208), .ref (ad_5 209), .int (iI (sc 2)), .int (iI (sc 3)), .int (iI (sc 4)), .ref (ad_5 210), .int (iI 1), .ref (ad_5 211), .ref (ad_5 212)])) 211 (eI (cA 0) 400 (tbS sc fn))) 212 (eJ (cA 2) 400 (tbF sc fn))) 213 (eJ (cA 2) 5 (updI (updI (updI tl 0 ((tl 0) + 1)) 1 ((tl 1) + ((tbF sc fn) d))) 3 ((tbF sc fn) d))))) hx hb hK hP hD hS 213 2 (up_s _ _ _) rfl (by omega) (by omega) (by omega) (up_up _ _ _ _) dX6_summed_159 (fun H locs hP hD hS => ?_)
                refine lv_iinc (pc := 160) (v := iI (d + 1)) (lv' := [(5, .int (iI (d + 1))), (4, .ref (ad_5 213)), (0, .ref (ad_5 200)), (1, .int (iI fa)), (2, .int (iI to_)), (3, .int (iI wh))]) hx hb dX6_summed_160 hl (k := 0) rfl (iI_add _ _) (by decide) rfl (fun ls hl => ?_)
                refine lv_goto (pc := 163) (tgt := 38) hx hb dX6_summed_163 (by decide) ?_
                exact ih_38 (d + 1) (updI (updI (updI tl 0 ((tl 0) + 1)) 1 ((tl 1) + ((tbF sc fn) d))) 3 ((tbF sc fn) d)) (by omega) (sm_st iT (by omega) (by omega) (by omega) (tbOk_tb hI).2.2.1 (by simp [updI]) (by simp [updI]) (Or.inr ⟨by simp [updI], by simp [updI], by omega, by omega⟩) (Or.inl ⟨by simp [updI], by omega⟩)) (by omega) H locs hP hD hS ls (lv_sub hl [0, 1, 2, 3, 4, 5] rfl)
              · skip
                refine lv_aload_n (pc := 134) hx hb dX6_summed_134 rfl (lv_at hl 2 rfl) ?_
                refine k_get (pc := 135) (ci := 6) (C := RX6) (T := TX6) (N := 19) hx hb hts hi6 hown hK hP 200 (up_n (by decide) (up_n (by decide) (up_n (by decide) (up_s _ _ _)))) rfl 18 (by decide) hf51 (fun _ h9 => h9) rfl dX6_summed_135 ?_
                refine lv_iload (pc := 138) hx hb dX6_summed_138 (lv_at hl 0 rfl) ?_
                refine k_lald (pc := 140) hx hb hK hP 212 2 (up_n (by decide) (up_s _ _ _)) rfl (by omega) (by omega) (by omega) dX6_summed_140 ?_
                have hq_140 := (tbOk_tb hI).1 d
                refine lv_aload (pc := 141) hx hb dX6_summed_141 (lv_at hl 1 rfl) ?_
                refine k_iconst (pc := 143) hx hb dX6_summed_143 ?_
                refine k_lald (pc := 144) hx hb hK hP 213 2 (up_s _ _ _) rfl (by omega) (by omega) (by omega) dX6_summed_144 ?_
                have he_145 : (updI (updI tl 0 ((tl 0) + 1)) 1 ((tl 1) + ((tbF sc fn) d))) 3 = tl 3 := by simp [updI]
                rw [he_145]
                refine k_lcmp_ge (pc := 145) (tgt := 160) hx hb ⟨by omega, by omega⟩ ⟨by omega, by omega⟩ dX6_summed_145 dX6_summed_146 (by decide) (fun hc_145 => ?_) (fun hc_145 => ?_)
                · skip
                  refine lv_iinc (pc := 160) (v := iI (d + 1)) (lv' := [(5, .int (iI (d + 1))), (4, .ref (ad_5 213)), (0, .ref (ad_5 200)), (1, .int (iI fa)), (2, .int (iI to_)), (3, .int (iI wh))]) hx hb dX6_summed_160 hl (k := 0) rfl (iI_add _ _) (by decide) rfl (fun ls hl => ?_)
                  refine lv_goto (pc := 163) (tgt := 38) hx hb dX6_summed_163 (by decide) ?_
                  exact ih_38 (d + 1) (updI (updI tl 0 ((tl 0) + 1)) 1 ((tl 1) + ((tbF sc fn) d))) (by omega) (sm_st iT (by omega) (by omega) (by omega) (tbOk_tb hI).2.2.1 (by simp [updI]) (by simp [updI]) (Or.inr ⟨by simp [updI], by simp [updI], by omega, by omega⟩) (Or.inr ⟨by simp [updI], by omega, by omega⟩)) (by omega) H locs hP hD hS ls (lv_sub hl [0, 1, 2, 3, 4, 5] rfl)
                · skip
                  refine lv_aload (pc := 149) hx hb dX6_summed_149 (lv_at hl 1 rfl) ?_
                  refine k_iconst (pc := 151) hx hb dX6_summed_151 ?_
                  refine lv_aload_n (pc := 152) hx hb dX6_summed_152 rfl (lv_at hl 2 rfl) ?_
                  refine k_get (pc := 153) (ci := 6) (C := RX6) (T := TX6) (N := 19) hx hb hts hi6 hown hK hP 200 (up_n (by decide) (up_n (by decide) (up_n (by decide) (up_s _ _ _)))) rfl 18 (by decide) hf51 (fun _ h9 => h9) rfl dX6_summed_153 ?_
                  refine lv_iload (pc := 156) hx hb dX6_summed_156 (lv_at hl 0 rfl) ?_
                  refine k_lald (pc := 158) hx hb hK hP 212 2 (up_n (by decide) (up_s _ _ _)) rfl (by omega) (by omega) (by omega) dX6_summed_158 ?_
                  have hq_158 := (tbOk_tb hI).1 d
                  refine k_last (pc := 159) (w1 := (up (up (up (up w 200 (oB 6 [.int (iI th), .int (iI (sc 0)), .ref (ad_5 201), .ref (ad_5 202), .ref (ad_5 203), .ref (ad_5 204), .int (iI (sc 1)), .ref (ad_5 205), .ref (ad_5 206), .ref (ad_5 207), .ref (ad_5 208), .ref (ad_5 209), .int (iI (sc 2)), .int (iI (sc 3)), .int (iI (sc 4)), .ref (ad_5 210), .int (iI 1), .ref (ad_5 211), .ref (ad_5 212)])) 211 (eI (cA 0) 400 (tbS sc fn))) 212 (eJ (cA 2) 400 (tbF sc fn))) 213 (eJ (cA 2) 5 (updI (updI (updI tl 0 ((tl 0) + 1)) 1 ((tl 1) + ((tbF sc fn) d))) 3 ((tbF sc fn) d))))) hx hb hK hP hD hS 213 2 (up_s _ _ _) rfl (by omega) (by omega) (by omega) (up_up _ _ _ _) dX6_summed_159 (fun H locs hP hD hS => ?_)
                  refine lv_iinc (pc := 160) (v := iI (d + 1)) (lv' := [(5, .int (iI (d + 1))), (4, .ref (ad_5 213)), (0, .ref (ad_5 200)), (1, .int (iI fa)), (2, .int (iI to_)), (3, .int (iI wh))]) hx hb dX6_summed_160 hl (k := 0) rfl (iI_add _ _) (by decide) rfl (fun ls hl => ?_)
                  refine lv_goto (pc := 163) (tgt := 38) hx hb dX6_summed_163 (by decide) ?_
                  exact ih_38 (d + 1) (updI (updI (updI tl 0 ((tl 0) + 1)) 1 ((tl 1) + ((tbF sc fn) d))) 3 ((tbF sc fn) d)) (by omega) (sm_st iT (by omega) (by omega) (by omega) (tbOk_tb hI).2.2.1 (by simp [updI]) (by simp [updI]) (Or.inr ⟨by simp [updI], by simp [updI], by omega, by omega⟩) (Or.inl ⟨by simp [updI], by omega⟩)) (by omega) H locs hP hD hS ls (lv_sub hl [0, 1, 2, 3, 4, 5] rfl)
            · skip
              refine lv_aload (pc := 105) hx hb dX6_summed_105 (lv_at hl 1 rfl) ?_
              refine k_iconst (pc := 107) hx hb dX6_summed_107 ?_
              refine lv_aload_n (pc := 108) hx hb dX6_summed_108 rfl (lv_at hl 2 rfl) ?_
              refine k_get (pc := 109) (ci := 6) (C := RX6) (T := TX6) (N := 19) hx hb hts hi6 hown hK hP 200 (up_n (by decide) (up_n (by decide) (up_n (by decide) (up_s _ _ _)))) rfl 18 (by decide) hf51 (fun _ h9 => h9) rfl dX6_summed_109 ?_
              refine lv_iload (pc := 112) hx hb dX6_summed_112 (lv_at hl 0 rfl) ?_
              refine k_lald (pc := 114) hx hb hK hP 212 2 (up_n (by decide) (up_s _ _ _)) rfl (by omega) (by omega) (by omega) dX6_summed_114 ?_
              have hq_114 := (tbOk_tb hI).1 d
              refine k_last (pc := 115) (w1 := (up (up (up (up w 200 (oB 6 [.int (iI th), .int (iI (sc 0)), .ref (ad_5 201), .ref (ad_5 202), .ref (ad_5 203), .ref (ad_5 204), .int (iI (sc 1)), .ref (ad_5 205), .ref (ad_5 206), .ref (ad_5 207), .ref (ad_5 208), .ref (ad_5 209), .int (iI (sc 2)), .int (iI (sc 3)), .int (iI (sc 4)), .ref (ad_5 210), .int (iI 1), .ref (ad_5 211), .ref (ad_5 212)])) 211 (eI (cA 0) 400 (tbS sc fn))) 212 (eJ (cA 2) 400 (tbF sc fn))) 213 (eJ (cA 2) 5 (updI (updI (updI tl 0 ((tl 0) + 1)) 1 ((tl 1) + ((tbF sc fn) d))) 2 ((tbF sc fn) d))))) hx hb hK hP hD hS 213 2 (up_s _ _ _) rfl (by omega) (by omega) (by omega) (up_up _ _ _ _) dX6_summed_115 (fun H locs hP hD hS => ?_)
              refine lv_aload (pc := 116) hx hb dX6_summed_116 (lv_at hl 1 rfl) ?_
              refine k_iconst (pc := 118) hx hb dX6_summed_118 ?_
              refine lv_iload (pc := 119) hx hb dX6_summed_119 (lv_at hl 0 rfl) ?_
              refine k_i2l (pc := 121) hx hb ⟨by omega, by omega⟩ dX6_summed_121 ?_
              refine k_last (pc := 122) (w1 := (up (up (up (up w 200 (oB 6 [.int (iI th), .int (iI (sc 0)), .ref (ad_5 201), .ref (ad_5 202), .ref (ad_5 203), .ref (ad_5 204), .int (iI (sc 1)), .ref (ad_5 205), .ref (ad_5 206), .ref (ad_5 207), .ref (ad_5 208), .ref (ad_5 209), .int (iI (sc 2)), .int (iI (sc 3)), .int (iI (sc 4)), .ref (ad_5 210), .int (iI 1), .ref (ad_5 211), .ref (ad_5 212)])) 211 (eI (cA 0) 400 (tbS sc fn))) 212 (eJ (cA 2) 400 (tbF sc fn))) 213 (eJ (cA 2) 5 (updI (updI (updI (updI tl 0 ((tl 0) + 1)) 1 ((tl 1) + ((tbF sc fn) d))) 2 ((tbF sc fn) d)) 4 d)))) hx hb hK hP hD hS 213 2 (up_s _ _ _) rfl (by omega) (by omega) (by omega) (up_up _ _ _ _) dX6_summed_122 (fun H locs hP hD hS => ?_)
              refine lv_aload (pc := 123) hx hb dX6_summed_123 (lv_at hl 1 rfl) ?_
              refine k_iconst (pc := 125) hx hb dX6_summed_125 ?_
              refine k_lald (pc := 126) hx hb hK hP 213 2 (up_s _ _ _) rfl (by omega) (by omega) (by omega) dX6_summed_126 ?_
              have he_127 : (updI (updI (updI (updI tl 0 ((tl 0) + 1)) 1 ((tl 1) + ((tbF sc fn) d))) 2 ((tbF sc fn) d)) 4 d) 3 = tl 3 := by simp [updI]
              rw [he_127]
              refine k_ldc2 (z := (-1)) (pc := 127) hx hb hown (hts (.constantLong RX6 130 (-1)) (by decide +kernel)) (by decide +kernel) dX6_summed_127 ?_
              refine k_lcmp_eq (pc := 130) (tgt := 149) hx hb ⟨by omega, by omega⟩ ⟨by omega, by omega⟩ dX6_summed_130 dX6_summed_131 (by decide) (fun hc_130 => ?_) (fun hc_130 => ?_)
              · skip
                refine lv_aload (pc := 149) hx hb dX6_summed_149 (lv_at hl 1 rfl) ?_
                refine k_iconst (pc := 151) hx hb dX6_summed_151 ?_
                refine lv_aload_n (pc := 152) hx hb dX6_summed_152 rfl (lv_at hl 2 rfl) ?_
                refine k_get (pc := 153) (ci := 6) (C := RX6) (T := TX6) (N := 19) hx hb hts hi6 hown hK hP 200 (up_n (by decide) (up_n (by decide) (up_n (by decide) (up_s _ _ _)))) rfl 18 (by decide) hf51 (fun _ h9 => h9) rfl dX6_summed_153 ?_
                refine lv_iload (pc := 156) hx hb dX6_summed_156 (lv_at hl 0 rfl) ?_
                refine k_lald (pc := 158) hx hb hK hP 212 2 (up_n (by decide) (up_s _ _ _)) rfl (by omega) (by omega) (by omega) dX6_summed_158 ?_
                have hq_158 := (tbOk_tb hI).1 d
                refine k_last (pc := 159) (w1 := (up (up (up (up w 200 (oB 6 [.int (iI th), .int (iI (sc 0)), .ref (ad_5 201), .ref (ad_5 202), .ref (ad_5 203), .ref (ad_5 204), .int (iI (sc 1)), .ref (ad_5 205), .ref (ad_5 206), .ref (ad_5 207), .ref (ad_5 208), .ref (ad_5 209), .int (iI (sc 2)), .int (iI (sc 3)), .int (iI (sc 4)), .ref (ad_5 210), .int (iI 1), .ref (ad_5 211), .ref (ad_5 212)])) 211 (eI (cA 0) 400 (tbS sc fn))) 212 (eJ (cA 2) 400 (tbF sc fn))) 213 (eJ (cA 2) 5 (updI (updI (updI (updI (updI tl 0 ((tl 0) + 1)) 1 ((tl 1) + ((tbF sc fn) d))) 2 ((tbF sc fn) d)) 4 d) 3 ((tbF sc fn) d))))) hx hb hK hP hD hS 213 2 (up_s _ _ _) rfl (by omega) (by omega) (by omega) (up_up _ _ _ _) dX6_summed_159 (fun H locs hP hD hS => ?_)
                refine lv_iinc (pc := 160) (v := iI (d + 1)) (lv' := [(5, .int (iI (d + 1))), (4, .ref (ad_5 213)), (0, .ref (ad_5 200)), (1, .int (iI fa)), (2, .int (iI to_)), (3, .int (iI wh))]) hx hb dX6_summed_160 hl (k := 0) rfl (iI_add _ _) (by decide) rfl (fun ls hl => ?_)
                refine lv_goto (pc := 163) (tgt := 38) hx hb dX6_summed_163 (by decide) ?_
                exact ih_38 (d + 1) (updI (updI (updI (updI (updI tl 0 ((tl 0) + 1)) 1 ((tl 1) + ((tbF sc fn) d))) 2 ((tbF sc fn) d)) 4 d) 3 ((tbF sc fn) d)) (by omega) (sm_st iT (by omega) (by omega) (by omega) (tbOk_tb hI).2.2.1 (by simp [updI]) (by simp [updI]) (Or.inl ⟨by simp [updI], by simp [updI], by omega⟩) (Or.inl ⟨by simp [updI], by omega⟩)) (by omega) H locs hP hD hS ls (lv_sub hl [0, 1, 2, 3, 4, 5] rfl)
              · skip
                refine lv_aload_n (pc := 134) hx hb dX6_summed_134 rfl (lv_at hl 2 rfl) ?_
                refine k_get (pc := 135) (ci := 6) (C := RX6) (T := TX6) (N := 19) hx hb hts hi6 hown hK hP 200 (up_n (by decide) (up_n (by decide) (up_n (by decide) (up_s _ _ _)))) rfl 18 (by decide) hf51 (fun _ h9 => h9) rfl dX6_summed_135 ?_
                refine lv_iload (pc := 138) hx hb dX6_summed_138 (lv_at hl 0 rfl) ?_
                refine k_lald (pc := 140) hx hb hK hP 212 2 (up_n (by decide) (up_s _ _ _)) rfl (by omega) (by omega) (by omega) dX6_summed_140 ?_
                have hq_140 := (tbOk_tb hI).1 d
                refine lv_aload (pc := 141) hx hb dX6_summed_141 (lv_at hl 1 rfl) ?_
                refine k_iconst (pc := 143) hx hb dX6_summed_143 ?_
                refine k_lald (pc := 144) hx hb hK hP 213 2 (up_s _ _ _) rfl (by omega) (by omega) (by omega) dX6_summed_144 ?_
                have he_145 : (updI (updI (updI (updI tl 0 ((tl 0) + 1)) 1 ((tl 1) + ((tbF sc fn) d))) 2 ((tbF sc fn) d)) 4 d) 3 = tl 3 := by simp [updI]
                rw [he_145]
                refine k_lcmp_ge (pc := 145) (tgt := 160) hx hb ⟨by omega, by omega⟩ ⟨by omega, by omega⟩ dX6_summed_145 dX6_summed_146 (by decide) (fun hc_145 => ?_) (fun hc_145 => ?_)
                · skip
                  refine lv_iinc (pc := 160) (v := iI (d + 1)) (lv' := [(5, .int (iI (d + 1))), (4, .ref (ad_5 213)), (0, .ref (ad_5 200)), (1, .int (iI fa)), (2, .int (iI to_)), (3, .int (iI wh))]) hx hb dX6_summed_160 hl (k := 0) rfl (iI_add _ _) (by decide) rfl (fun ls hl => ?_)
                  refine lv_goto (pc := 163) (tgt := 38) hx hb dX6_summed_163 (by decide) ?_
                  exact ih_38 (d + 1) (updI (updI (updI (updI tl 0 ((tl 0) + 1)) 1 ((tl 1) + ((tbF sc fn) d))) 2 ((tbF sc fn) d)) 4 d) (by omega) (sm_st iT (by omega) (by omega) (by omega) (tbOk_tb hI).2.2.1 (by simp [updI]) (by simp [updI]) (Or.inl ⟨by simp [updI], by simp [updI], by omega⟩) (Or.inr ⟨by simp [updI], by omega, by omega⟩)) (by omega) H locs hP hD hS ls (lv_sub hl [0, 1, 2, 3, 4, 5] rfl)
                · skip
                  refine lv_aload (pc := 149) hx hb dX6_summed_149 (lv_at hl 1 rfl) ?_
                  refine k_iconst (pc := 151) hx hb dX6_summed_151 ?_
                  refine lv_aload_n (pc := 152) hx hb dX6_summed_152 rfl (lv_at hl 2 rfl) ?_
                  refine k_get (pc := 153) (ci := 6) (C := RX6) (T := TX6) (N := 19) hx hb hts hi6 hown hK hP 200 (up_n (by decide) (up_n (by decide) (up_n (by decide) (up_s _ _ _)))) rfl 18 (by decide) hf51 (fun _ h9 => h9) rfl dX6_summed_153 ?_
                  refine lv_iload (pc := 156) hx hb dX6_summed_156 (lv_at hl 0 rfl) ?_
                  refine k_lald (pc := 158) hx hb hK hP 212 2 (up_n (by decide) (up_s _ _ _)) rfl (by omega) (by omega) (by omega) dX6_summed_158 ?_
                  have hq_158 := (tbOk_tb hI).1 d
                  refine k_last (pc := 159) (w1 := (up (up (up (up w 200 (oB 6 [.int (iI th), .int (iI (sc 0)), .ref (ad_5 201), .ref (ad_5 202), .ref (ad_5 203), .ref (ad_5 204), .int (iI (sc 1)), .ref (ad_5 205), .ref (ad_5 206), .ref (ad_5 207), .ref (ad_5 208), .ref (ad_5 209), .int (iI (sc 2)), .int (iI (sc 3)), .int (iI (sc 4)), .ref (ad_5 210), .int (iI 1), .ref (ad_5 211), .ref (ad_5 212)])) 211 (eI (cA 0) 400 (tbS sc fn))) 212 (eJ (cA 2) 400 (tbF sc fn))) 213 (eJ (cA 2) 5 (updI (updI (updI (updI (updI tl 0 ((tl 0) + 1)) 1 ((tl 1) + ((tbF sc fn) d))) 2 ((tbF sc fn) d)) 4 d) 3 ((tbF sc fn) d))))) hx hb hK hP hD hS 213 2 (up_s _ _ _) rfl (by omega) (by omega) (by omega) (up_up _ _ _ _) dX6_summed_159 (fun H locs hP hD hS => ?_)
                  refine lv_iinc (pc := 160) (v := iI (d + 1)) (lv' := [(5, .int (iI (d + 1))), (4, .ref (ad_5 213)), (0, .ref (ad_5 200)), (1, .int (iI fa)), (2, .int (iI to_)), (3, .int (iI wh))]) hx hb dX6_summed_160 hl (k := 0) rfl (iI_add _ _) (by decide) rfl (fun ls hl => ?_)
                  refine lv_goto (pc := 163) (tgt := 38) hx hb dX6_summed_163 (by decide) ?_
                  exact ih_38 (d + 1) (updI (updI (updI (updI (updI tl 0 ((tl 0) + 1)) 1 ((tl 1) + ((tbF sc fn) d))) 2 ((tbF sc fn) d)) 4 d) 3 ((tbF sc fn) d)) (by omega) (sm_st iT (by omega) (by omega) (by omega) (tbOk_tb hI).2.2.1 (by simp [updI]) (by simp [updI]) (Or.inl ⟨by simp [updI], by simp [updI], by omega⟩) (Or.inl ⟨by simp [updI], by omega⟩)) (by omega) H locs hP hD hS ls (lv_sub hl [0, 1, 2, 3, 4, 5] rfl)
        · skip
          refine lv_goto (pc := 54) (tgt := 160) hx hb dX6_summed_54 (by decide) ?_
          refine lv_iinc (pc := 160) (v := iI (d + 1)) (lv' := [(5, .int (iI (d + 1))), (4, .ref (ad_5 213)), (0, .ref (ad_5 200)), (1, .int (iI fa)), (2, .int (iI to_)), (3, .int (iI wh))]) hx hb dX6_summed_160 hl (k := 0) rfl (iI_add _ _) (by decide) rfl (fun ls hl => ?_)
          refine lv_goto (pc := 163) (tgt := 38) hx hb dX6_summed_163 (by decide) ?_
          exact ih_38 (d + 1) tl (by omega) (sm_no iT (by omega) (by omega)) (by omega) H locs hP hD hS ls (lv_sub hl [0, 1, 2, 3, 4, 5] rfl)
  exact lp_38 _ fa (updI (updI (updI (updI (updI (fun _ => 0) 0 0) 1 0) 2 (-1)) 3 (-1)) 4 (-1)) (by omega) (sm_0 (by simp [updI]) (by simp [updI]) (by simp [updI]) (by simp [updI]) (by simp [updI])) (Nat.lt_succ_self _) H locs hP hD hS ls (lv_sub hl [0, 1, 2, 3, 4, 5] rfl)
