/-- a curve more; a measurement more -/
def crF (fn : Nat → Int → Int) (c : Nat) (d : Int) : Nat → Int → Int := upF (upF (upF (upF fn 8 (updI (fn 8) (c : Int) d)) 9 (updI (fn 9) (c : Int) 0)) (20 + c) (fun _ => 0)) (30 + c) (fun _ => 0)
def msF (fn : Nat → Int → Int) (m d s q : Int) : Nat → Int → Int := upF (upF (upF fn 5 (updI (fn 5) m d)) 6 (updI (fn 6) m s)) 7 (updI (fn 7) m q)
theorem crF_low {fn : Nat → Int → Int} {c i : Nat} {d : Int} (h : i < 8) : crF fn c d i = fn i := by
  unfold crF
  rw [upF_n (by omega), upF_n (by omega), upF_n (by omega), upF_n (by omega)]
theorem crF_8 {fn : Nat → Int → Int} {c : Nat} {d : Int} : crF fn c d 8 = updI (fn 8) (c : Int) d := by
  unfold crF
  rw [upF_n (by omega), upF_n (by omega), upF_n (by omega), upF_s]
theorem crF_9 {fn : Nat → Int → Int} {c : Nat} {d : Int} : crF fn c d 9 = updI (fn 9) (c : Int) 0 := by
  unfold crF
  rw [upF_n (by omega), upF_n (by omega), upF_s]
theorem crF_st {fn : Nat → Int → Int} {c j : Nat} {d : Int} (hj : j < 6) (hc : c < 6) : crF fn c d (20 + j) = if j = c then (fun _ => 0) else fn (20 + j) := by
  unfold crF
  rw [upF_n (by omega)]
  by_cases h : j = c
  · rw [if_pos h, h, upF_s]
  · rw [if_neg h, upF_n (by omega), upF_n (by omega), upF_n (by omega)]
theorem crF_fl {fn : Nat → Int → Int} {c j : Nat} {d : Int} (hj : j < 6) (hc : c < 6) : crF fn c d (30 + j) = if j = c then (fun _ => 0) else fn (30 + j) := by
  unfold crF
  by_cases h : j = c
  · rw [if_pos h, h, upF_s]
  · rw [if_neg h, upF_n (by omega), upF_n (by omega), upF_n (by omega), upF_n (by omega)]
theorem msF_n {fn : Nat → Int → Int} {m d s q : Int} {i : Nat} (h : i ≠ 5 ∧ i ≠ 6 ∧ i ≠ 7) : msF fn m d s q i = fn i := by
  unfold msF
  rw [upF_n (by omega), upF_n (by omega), upF_n (by omega)]
theorem op_ms {sc : Nat → Int} {fn : Nat → Int → Int} {x m d s q : Int} : opF (upS sc 4 x) (msF fn m d s q) = opF sc fn := by
  funext j
  unfold opF
  rw [show cvno (upS sc 4 x) (msF fn m d s q) j = cvno sc fn j from rfl]
  repeat rw [msF_n (by omega)]
  rfl
theorem td_msF {sc : Nat → Int} {fn : Nat → Int → Int} {x m d s q : Int} : tdF (upS sc 4 x) (msF fn m d s q) = tdF sc fn := by
  funext j
  unfold tdF
  rw [op_ms]
  rfl
theorem td_msS {sc : Nat → Int} {fn : Nat → Int → Int} {x m d s q : Int} : tdS (upS sc 4 x) (msF fn m d s q) = tdS sc fn := rfl
theorem tb_msF {sc : Nat → Int} {fn : Nat → Int → Int} {x m d s q : Int} : tbF (upS sc 4 x) (msF fn m d s q) = tbF sc fn := by
  show finF (tdF (upS sc 4 x) (msF fn m d s q)) (tdS (upS sc 4 x) (msF fn m d s q)) (sc 3) = finF (tdF sc fn) (tdS sc fn) (sc 3)
  rw [td_msF, td_msS]
theorem tb_msS {sc : Nat → Int} {fn : Nat → Int → Int} {x m d s q : Int} : tbS (upS sc 4 x) (msF fn m d s q) = tbS sc fn := by
  show finS (tdF (upS sc 4 x) (msF fn m d s q)) (tdS (upS sc 4 x) (msF fn m d s q)) (sc 3) = finS (tdF sc fn) (tdS sc fn) (sc 3)
  rw [td_msF, td_msS]
theorem inv_ms {sc : Nat → Int} {fn : Nat → Int → Int} (h : bkInv sc fn) {d s q : Int} (hm : sc 4 < 40) (hd : 0 ≤ d ∧ d < 400) (hs : -500 ≤ s ∧ s ≤ 2000) (hq : 0 ≤ q ∧ q ≤ 1000000) : bkInv (upS sc 4 (sc 4 + 1)) (msF fn (sc 4) d s q) := by
  obtain ⟨⟨b1, b2, b3, b4, b5⟩, a2, a3, a4, a5, a6, a7, a8, a9, a10, a11⟩ := h
  refine ⟨⟨b1, b2, b3, b4, by show 0 ≤ sc 4 + 1 ∧ sc 4 + 1 ≤ 40; omega⟩, a2, a3, a4, a5, upd_b a6 (by omega), upd_b a7 (by omega), upd_b a8 (by omega), a9, a10, fun k hk => ?_⟩
  rw [msF_n (by omega), msF_n (by omega), msF_n (by omega)]
  exact a11 k hk
theorem inv_cr {sc : Nat → Int} {fn : Nat → Int → Int} (h : bkInv sc fn) {c : Nat} {d : Int} (hc : sc 0 = (c : Int)) (h6 : sc 0 < 6) (hd : 0 ≤ d ∧ d < 400) : bkInv (upS sc 0 (sc 0 + 1)) (crF fn c d) := by
  obtain ⟨⟨b1, b2, b3, b4, b5⟩, a2, a3, a4, a5, a6, a7, a8, a9, a10, a11⟩ := h
  refine ⟨⟨by show 0 ≤ sc 0 + 1 ∧ sc 0 + 1 ≤ 6; omega, b2, b3, b4, b5⟩, by rw [crF_low (by omega), crF_low (by omega)]; exact a2, by rw [crF_low (by omega)]; exact a3, by rw [crF_low (by omega)]; exact a4, by rw [crF_low (by omega)]; exact a5, by rw [crF_low (by omega)]; exact a6, by rw [crF_low (by omega)]; exact a7, by rw [crF_low (by omega)]; exact a8, by rw [crF_8]; exact upd_b a9 (by omega), by rw [crF_9]; exact upd_b a10 (by omega), fun k hk => ?_⟩
  have hk : (k : Int) < sc 0 + 1 := hk
  rw [crF_st (by omega) (by omega), crF_fl (by omega) (by omega), crF_9]
  by_cases e : k = c
  · rw [if_pos e, if_pos e, e, updI_s]
    exact ⟨fun i j h1 h2 h3 => by omega, fun i j h1 h2 h3 => by omega, fun j => (show (-500 : Int) ≤ 0 ∧ (0 : Int) ≤ 2000 by omega), fun j => (show (0 : Int) ≤ 0 ∧ (0 : Int) ≤ 1000000 by omega)⟩
  · rw [if_neg e, if_neg e, updI_n _ _ (by omega)]
    exact a11 k (by omega)
theorem cv_cr {cA : Nat → ClassId} {ad : Nat → Nat} {w : Nat → Option va_E} {sc : Nat → Int} {fn : Nat → Int → Int} {c : Nat} {d : Int} (hc : sc 0 = (c : Int)) (h6 : sc 0 < 6) (h0 : w (30 + 3 * c) = some (oB 0 [.int (iI d), .ref (ad (31 + 3 * c)), .ref (ad (32 + 3 * c)), .int (iI 0)])) (h1 : w (31 + 3 * c) = some (eI (cA 0) 12 (fun _ => 0))) (h2 : w (32 + 3 * c) = some (eI (cA 0) 12 (fun _ => 0))) (hcv : ∀ k : Nat, (k : Int) < sc 0 → w (30 + 3 * k) = some (oB 0 [.int (iI (fn 8 (k : Int))), .ref (ad (31 + 3 * k)), .ref (ad (32 + 3 * k)), .int (iI (fn 9 (k : Int)))]) ∧ w (31 + 3 * k) = some (eI (cA 0) 12 (fn (20 + k))) ∧ w (32 + 3 * k) = some (eI (cA 0) 12 (fn (30 + k)))) : ∀ k : Nat, (k : Int) < upS sc 0 (sc 0 + 1) 0 → w (30 + 3 * k) = some (oB 0 [.int (iI ((crF fn c d) 8 (k : Int))), .ref (ad (31 + 3 * k)), .ref (ad (32 + 3 * k)), .int (iI ((crF fn c d) 9 (k : Int)))]) ∧ w (31 + 3 * k) = some (eI (cA 0) 12 ((crF fn c d) (20 + k))) ∧ w (32 + 3 * k) = some (eI (cA 0) 12 ((crF fn c d) (30 + k))) := by
  intro k hk
  have hk : (k : Int) < sc 0 + 1 := hk
  rw [crF_st (by omega) (by omega), crF_fl (by omega) (by omega), crF_8, crF_9]
  by_cases e : k = c
  · rw [e, updI_s, updI_s, if_pos rfl, if_pos rfl]
    exact ⟨h0, h1, h2⟩
  · rw [updI_n _ _ (by omega), updI_n _ _ (by omega), if_neg e, if_neg e]
    exact hcv k (by omega)
theorem ms_ms {w : Nat → Option va_E} {sc : Nat → Int} {fn : Nat → Int → Int} {m : Nat} {d s q : Int} (hm : sc 4 = (m : Int)) (h0 : w (60 + m) = some (oB 2 [.int (iI d), .int (iI s), .int (iI q)])) (hms : ∀ k : Nat, (k : Int) < sc 4 → w (60 + k) = some (oB 2 [.int (iI (fn 5 (k : Int))), .int (iI (fn 6 (k : Int))), .int (iI (fn 7 (k : Int)))])) : ∀ k : Nat, (k : Int) < upS sc 4 (sc 4 + 1) 4 → w (60 + k) = some (oB 2 [.int (iI ((msF fn (sc 4) d s q) 5 (k : Int))), .int (iI ((msF fn (sc 4) d s q) 6 (k : Int))), .int (iI ((msF fn (sc 4) d s q) 7 (k : Int)))]) := by
  intro k hk
  have hk : (k : Int) < sc 4 + 1 := hk
  show w (60 + k) = some (oB 2 [.int (iI (updI (fn 5) (sc 4) d (k : Int))), .int (iI (updI (fn 6) (sc 4) s (k : Int))), .int (iI (updI (fn 7) (sc 4) q (k : Int)))])
  by_cases e : k = m
  · rw [e, ← hm, updI_s, updI_s, updI_s]
    exact h0
  · rw [updI_n _ _ (by omega), updI_n _ _ (by omega), updI_n _ _ (by omega)]
    exact hms k (by omega)
theorem eq_cr {ad : Nat → Nat} {c : Nat} {x : Int} (hc : x = (c : Int)) : va_up (fun j : Nat => if (j : Int) < x then some (ad (30 + 3 * j)) else none) x.toNat (some (ad (30 + 3 * c))) = fun j : Nat => if (j : Int) < x + 1 then some (ad (30 + 3 * j)) else none := by
  subst hc
  funext j
  unfold va_up
  by_cases e : j = c
  · rw [if_pos (by omega), if_pos (by omega), e]
  · rw [if_neg (by omega)]
    show (if (j : Int) < (c : Int) then _ else _) = _
    by_cases g : (j : Int) < (c : Int)
    · rw [if_pos g, if_pos (by omega)]
    · rw [if_neg g, if_neg (by omega)]
theorem eq_ms {ad : Nat → Nat} {c : Nat} {x : Int} (hc : x = (c : Int)) : va_up (fun j : Nat => if (j : Int) < x then some (ad (60 + j)) else none) x.toNat (some (ad (60 + c))) = fun j : Nat => if (j : Int) < x + 1 then some (ad (60 + j)) else none := by
  subst hc
  funext j
  unfold va_up
  by_cases e : j = c
  · rw [if_pos (by omega), if_pos (by omega), e]
  · rw [if_neg (by omega)]
    show (if (j : Int) < (c : Int) then _ else _) = _
    by_cases g : (j : Int) < (c : Int)
    · rw [if_pos g, if_pos (by omega)]
    · rw [if_neg g, if_neg (by omega)]


abbrev rmX5_addCurve : Room := { frames := 7, cells := 4, slots := 34, locals := 102 }
theorem hxwX5_addCurve_xIS_71 : ∀ w ∈ (vx_atS RX5 71 xIS ["java/lang/RuntimeException", "java/lang/Exception"]).filter goodWord, w ∈ wsX5_addCurve := by decide +kernel
theorem hiX5_addCurve_0 : ∀ w ∈ wsX00, w ∈ wsX5_addCurve := by decide +kernel
theorem hiX5_addCurve_5 : ∀ w ∈ wsX50, w ∈ wsX5_addCurve := by decide +kernel
set_option maxHeartbeats 4000000 in
set_option maxRecDepth 100000 in
theorem c_X5_addCurve (l : Launch) (hl0 : l.stackTraces = false) (D : va_G) (cA : Nat → ClassId) (ad : Nat → Nat) (w : Nat → Option va_E) (sz : Nat) (sc : Nat → Int) (fn : Nat → Int → Int) (hI : bkInv sc fn) (hbk : bookS cA ad w sc fn) (d : Int) (hd_ : (-2147483648 ≤ d ∧ d < 2147483648)) : vx_Met l yX5_addCurve wsX5_addCurve rmX5_addCurve (gV D cA ad w sz [.ref (ad 0), .int (iI d)]) (gW D (fun v9 ad1 w1 => ∃ (sc2 : Nat → Int) (fn2 : Nat → Int → Int), bookS cA ad1 w1 sc2 fn2 ∧ bkInv sc2 fn2 ∧ keepR ad ad1 w w1 ∧ (∃ c : Nat, sc 0 = (c : Int) ∧ sc2 = upS sc 0 (sc 0 + 1) ∧ fn2 = crF fn c d ∧ (0 ≤ d ∧ d < 400) ∧ sc 0 < 6 ∧ (∀ j : Int, 0 ≤ j → j < sc 0 → fn 8 j ≠ d) ∧ v9 = some (.int (iI (sc 0))))) (gA ad w sz)) (gX D (fun E => (E = xIA ∧ ¬ (0 ≤ d ∧ d < 400)) ∨ (E = xIS ∧ (0 ≤ d ∧ d < 400) ∧ (¬ sc 0 < 6 ∨ ∃ j : Int, 0 ≤ j ∧ j < sc 0 ∧ fn 8 j = d))) ad w (gA ad w sz)) 4 34 (gA ad w sz) := by
  refine vx_ofW (cc := cX5_addCurve) (maxL := 3) (ret := (some .int)) (by decide) rfl ?_
  intro p e s m args below meth c s₁ B hml hE hv
  obtain ⟨hav, hsz, hP, hD0, hK, hB, hZ⟩ := hv
  have hx := B.exec
  have hb := B.bytes
  have hret := B.returns
  have hts := atoms_spec (ws := wsX5_addCurve) B.pre
  have hown : s.vm.findClass RX5 = some m.cls := findClass_of_methodNamed B.named
  have hlocks := B.notSynchronized
  subst hsz
  have hD := hD0.self (sz := s.heap.size)
  generalize hAe : gA ad w s.heap.size = A at hD hZ ⊢
  have hA : ∀ q : Nat, s.heap.size ≤ q → A q := fun q h => by rw [← hAe]; exact Or.inr h
  have hS : va_S A s.heap s.heap [] := va_S.rf
  have hi0 := hiX5_addCurve_0
  have hi5 := hiX5_addCurve_5
  have hxw_xIS_71 := hxwX5_addCurve_xIS_71
  have hf11 := hts (.fieldLink RX5 11 "GaugeBook" "curves" "[LGaugeBook$Curve;") (by decide +kernel)
  have hf64 := hts (.fieldLink RX5 64 "GaugeBook" "curveTotal" "I") (by decide +kernel)
  have hf82 := hts (.fieldLink RX5 82 "GaugeBook" "isReckoned" "Z") (by decide +kernel)
  have he9 : entryFrame m args 3 = F0 m 0 ((lg_sl ([.ref (ad 0), .int (iI d)] : List Value) ++ List.replicate (3 - (lg_sl ([.ref (ad 0), .int (iI d)] : List Value)).length) Slot.unset).toArray) [] := by rw [hav, lg_entry_eq]
  rw [he9]
  have hl := lv_entry ([.ref (ad 0), .int (iI d)] : List Value) (n := 3) (Nat.le_of_ble_eq_true rfl)
  generalize (lg_sl ([.ref (ad 0), .int (iI d)] : List Value) ++ List.replicate (3 - (lg_sl ([.ref (ad 0), .int (iI d)] : List Value)).length) Slot.unset).toArray = ls at hl ⊢
  have hl : lv_has ls 3 [(0, .ref (ad 0)), (1, .int (iI d))] := hl
  obtain ⟨Q9, hQ9⟩ : ∃ z, z = vx_MQ below (gW D (fun v9 ad1 w1 => ∃ (sc2 : Nat → Int) (fn2 : Nat → Int → Int), bookS cA ad1 w1 sc2 fn2 ∧ bkInv sc2 fn2 ∧ keepR ad ad1 w w1 ∧ (∃ c : Nat, sc 0 = (c : Int) ∧ sc2 = upS sc 0 (sc 0 + 1) ∧ fn2 = crF fn c d ∧ (0 ≤ d ∧ d < 400) ∧ sc 0 < 6 ∧ (∀ j : Int, 0 ≤ j → j < sc 0 → fn 8 j ≠ d) ∧ v9 = some (.int (iI (sc 0))))) A) (gX D (fun E => (E = xIA ∧ ¬ (0 ≤ d ∧ d < 400)) ∨ (E = xIS ∧ (0 ≤ d ∧ d < 400) ∧ (¬ sc 0 < 6 ∨ ∃ j : Int, 0 ≤ j ∧ j < sc 0 ∧ fn 8 j = d))) ad w A) args s 4 34 A := ⟨_, rfl⟩
  rw [← hQ9]
  show W p l e rmX5_addCurve s m args below meth c s.heap [] 0 0 Q9 (F0 m 0 ls [])
  obtain ⟨H, hHe⟩ : ∃ z, z = s.heap := ⟨_, rfl⟩
  obtain ⟨locs, hLe⟩ : ∃ z, z = ([] : List Loc) := ⟨_, rfl⟩
  have hP : gP D vwCl ad w H := by rw [hHe]; exact hP
  have hS : va_S A s.heap H locs := by rw [hHe, hLe]; exact va_S.rf
  rw [show W p l e rmX5_addCurve s m args below meth c s.heap [] 0 0 Q9 (F0 m 0 ls []) = W p l e rmX5_addCurve s m args below meth c H locs 0 0 Q9 (F0 m 0 ls []) by rw [hHe, hLe]]
  clear hHe hLe
  obtain ⟨rk, F, S, rn, rd, rm_, rz, ⟨h0, h1, h2, h3, h4, h5, h6, h7, h8, h9, h10, h11, h12, h13, h14, h15, hcv, hms⟩, hrk, hF, hS9⟩ := hbk
  have hI1 := hI.1
  refine lv_iload_n (pc := 0) hx hb dX5_addCurve_0 rfl (lv_at hl 1 rfl) ?_
  refine k_callx (pc := 1) (vx_runS (As := [.int (iI d)]) (rest := []) ⟨hx, hb, hml, hown, hts⟩ (c_X5_requireDay l hl0 D cA ad w H.size d ⟨by omega, by omega⟩) (va_cwS 1 hts gX5_addCurve_X5_requireDay rfl rfl rfl (by decide +kernel) ⟨Nat.le_of_ble_eq_true rfl, Nat.le_of_ble_eq_true rfl⟩) (gV_S hP hD hK hB hS hA hZ) rfl rfl hl.1 rfl (lv_room (Nat.le_of_ble_eq_true rfl)) dX5_addCurve_1 ⟨Nat.le_of_ble_eq_true rfl, Nat.le_of_ble_eq_true rfl⟩) hS (gA_sub hD hS hA) (fun E_1 ce_1 q_1 H locs hpx_1 hP hD hS hce_1 hcv_1 hcl_1 => ?_) (fun v_1 ad_1 w_1 H locs hv_1 hP hD hS => ?_)
  · skip
    rw [hQ9]
    exact vx_out (fun x h => (hE x h).elim) hlocks hce_1 hcv_1 hcl_1 (fun t ht hW => ⟨Or.inl hpx_1, by rw [ht]; exact hP, hD, hS.F ht⟩) hS.2.2 (by decide) (by decide)
  · skip
    obtain ⟨hv1, hv2, hv3, hq_1⟩ := hv_1
    subst hv1
    rw [hv2, hv3] at hP hD
    refine W.eq (g2 := F0 m 4 ls []) rfl ?_
    refine W.cs (cells' := 1) (slots' := 6) rfl rfl ?_
    refine lv_aload_n (pc := 4) hx hb dX5_addCurve_4 rfl (lv_at hl 0 rfl) ?_
    refine k_get (pc := 5) (ci := 5) (C := RX5) (T := TX5) (N := 13) hx hb hts hi5 hown hK hP 0 h0 rfl 8 (by decide) hf64 (fun _ h9 => h9) rfl dX5_addCurve_5 ?_
    refine k_bipush (pc := 8) hx hb dX5_addCurve_8 (by decide +kernel) ?_
    refine k_icmp_lt (pc := 10) (tgt := 23) hx hb ⟨by omega, by omega⟩ ⟨by omega, by omega⟩ dX5_addCurve_10 (by decide) (fun hc_10 => ?_) (fun hc_10 => ?_)
    · skip
      refine lv_aload_n (pc := 23) hx hb dX5_addCurve_23 rfl (lv_at hl 0 rfl) ?_
      refine lv_iload_n (pc := 24) hx hb dX5_addCurve_24 rfl (lv_at hl 1 rfl) ?_
      refine k_call0 (pc := 25) (va_runV (As := [.int (iI d)]) (rest := []) ⟨hx, hb, hml, hown, hts⟩ (c_X5_hasCurveFrom l D cA ad w sc fn rk hI h0 h1 hcv d ⟨by omega, by omega⟩) (cwV 1 hts gX5_addCurve_X5_hasCurveFrom rfl rfl rfl (by decide +kernel) ⟨Nat.le_of_ble_eq_true rfl, Nat.le_of_ble_eq_true rfl⟩) (gR_V hP hK hB 0 (ci := 5) rfl h0) rfl rfl hl.1 rfl (lv_room (Nat.le_of_ble_eq_true rfl)) dX5_addCurve_25 ⟨Nat.le_of_ble_eq_true rfl, Nat.le_of_ble_eq_true rfl⟩) (fun v_25 hv_25 => ?_)
      obtain ⟨z_25, rfl, hz_25⟩ := hv_25
      refine W.eq (g2 := F0 m 28 ls [.int (iI z_25)]) rfl ?_
      refine k_if_eq (pc := 28) (tgt := 41) hx hb ⟨by omega, by omega⟩ dX5_addCurve_28 (by decide) (fun hc_28 => ?_) (fun hc_28 => ?_)
      · skip
        have hnc : ∀ j : Int, 0 ≤ j → j < sc 0 → fn 8 j ≠ d := by rcases hz_25 with ⟨a1, a2⟩ | ⟨a1, a2⟩; omega; exact a2
        obtain ⟨cc, hcc⟩ : ∃ cc : Nat, sc 0 = (cc : Int) := ⟨(sc 0).toNat, by omega⟩
        refine lv_aload_n (pc := 41) hx hb dX5_addCurve_41 rfl (lv_at hl 0 rfl) ?_
        refine k_get (pc := 42) (ci := 5) (C := RX5) (T := TX5) (N := 13) hx hb hts hi5 hown hK hP 0 h0 rfl 8 (by decide) hf64 (fun _ h9 => h9) rfl dX5_addCurve_42 ?_
        refine lv_istore_n (pc := 45) (lv' := [(2, .int (iI (sc 0))), (0, .ref (ad 0)), (1, .int (iI d))]) hx hb dX5_addCurve_45 rfl hl (by decide) rfl (fun ls hl => ?_)
        refine lv_aload_n (pc := 46) hx hb dX5_addCurve_46 rfl (lv_at hl 1 rfl) ?_
        refine k_get (pc := 47) (ci := 5) (C := RX5) (T := TX5) (N := 13) hx hb hts hi5 hown hK hP 0 h0 rfl 0 (by decide) hf11 (fun _ h9 => h9) rfl dX5_addCurve_47 ?_
        refine lv_iload_n (pc := 50) hx hb dX5_addCurve_50 rfl (lv_at hl 0 rfl) ?_
        refine k_new (pc := 51) (own := RX5) (C := RX0) (T := TX0) (N := 4) (ci := 0) hx hb hts hi0 tyX0 tyX0_ok hown (hts (.classLink RX5 9 RX0) (by decide +kernel)) (hts (.instantiable RX0 4) (by decide +kernel)) (hts (.initialized RX0) (by decide +kernel)) hK hP hD hS hA rfl (30 + 3 * cc) (fs := [.int (iI 0), .null, .null, .int (iI 0)]) (by intro j hj; rcases j with _ | _ | _ | _ | j <;> first | rfl | omega) (Nat.le_of_ble_eq_true rfl) (Nat.le_of_ble_eq_true rfl) dX5_addCurve_51 (fun q_51 H hP hD hS => ?_)
        obtain ⟨ad_51, hga_51⟩ : ∃ z9 : Nat → Nat, adN ad (30 + 3 * cc) q_51 = z9 := ⟨_, rfl⟩
        rw [hga_51] at hP hD
        have hnn_51 : ∀ j9 : Nat, j9 ≠ (30 + 3 * cc) → ad j9 = ad_51 j9 := fun j9 h9_ => by rw [← hga_51, adN_n _ _ h9_]
        rw [show q_51 = ad_51 (30 + 3 * cc) by rw [← hga_51, adN_s]]
        rw [hnn_51 1 (by omega)]
        rw [hnn_51 0 (by omega)] at hl
        have hm_51_0 : w 0 = some (oB 5 [.ref (ad_51 1), .ref (ad_51 2), .ref (ad_51 5), .ref (ad_51 6), .ref (ad_51 7), .ref (ad_51 8), .ref (ad_51 9), .ref (ad_51 12), .int (iI (sc 0)), .int (iI (sc 4)), .int (iI (sc 2)), .int (iI (sc 3)), .int (iI rk)]) := by rw [← hnn_51 1 (by omega), ← hnn_51 2 (by omega), ← hnn_51 5 (by omega), ← hnn_51 6 (by omega), ← hnn_51 7 (by omega), ← hnn_51 8 (by omega), ← hnn_51 9 (by omega), ← hnn_51 12 (by omega)]; exact h0
        have hm_51_2 : w 2 = some (oB 4 [.ref (ad_51 3), .ref (ad_51 4), .int (iI (sc 1))]) := by rw [← hnn_51 3 (by omega), ← hnn_51 4 (by omega)]; exact h2
        have hm_51_9 : w 9 = some (oB 1 [.ref (ad_51 10), .ref (ad_51 11)]) := by rw [← hnn_51 10 (by omega), ← hnn_51 11 (by omega)]; exact h9
        have hm_51_12 : w 12 = some (oB 3 [.ref (ad_51 13), .ref (ad_51 14), .ref (ad_51 15), .int (iI rn)]) := by rw [← hnn_51 13 (by omega), ← hnn_51 14 (by omega), ← hnn_51 15 (by omega)]; exact h12
        have hcv : ∀ k : Nat, (k : Int) < sc 0 → w (30 + 3 * k) = some (oB 0 [.int (iI (fn 8 (k : Int))), .ref (ad_51 (31 + 3 * k)), .ref (ad_51 (32 + 3 * k)), .int (iI (fn 9 (k : Int)))]) ∧ w (31 + 3 * k) = some (eI (cA 0) 12 (fn (20 + k))) ∧ w (32 + 3 * k) = some (eI (cA 0) 12 (fn (30 + k))) := fun k hk => by have i9_ := hI.1; have h9_ := hcv k hk; rw [hnn_51 (31 + 3 * k) (by omega), hnn_51 (32 + 3 * k) (by omega)] at h9_; exact h9_
        have h1 : w 1 = some (eQ (cA 4) 6 (fun j : Nat => if (j : Int) < sc 0 then some (ad_51 (30 + 3 * j)) else none)) := by rw [h1]; congr 2; funext j; by_cases e9 : (j : Int) < sc 0; have i9_ := hI.1; rw [if_pos e9, if_pos e9, hnn_51 (30 + 3 * j) (by omega)]; rw [if_neg e9, if_neg e9]
        have h8 : w 8 = some (eQ (cA 5) 40 (fun j : Nat => if (j : Int) < sc 4 then some (ad_51 (60 + j)) else none)) := by rw [h8]; congr 2; funext j; by_cases e9 : (j : Int) < sc 4; have i9_ := hI.1; rw [if_pos e9, if_pos e9, hnn_51 (60 + j) (by omega)]; rw [if_neg e9, if_neg e9]
        refine W.eq (g2 := F0 m 54 ls [.ref (ad_51 (30 + 3 * cc)), .int (iI (sc 0)), .ref (ad_51 1)]) rfl ?_
        refine W.cs (cells' := 2) (slots' := 10) rfl rfl ?_
        refine lv_dup (pc := 54) hx hb dX5_addCurve_54 rfl ?_
        refine lv_iload_n (pc := 55) hx hb dX5_addCurve_55 rfl (lv_at hl 2 rfl) ?_
        refine k_call1 (pc := 56) (va_runI (As := [.int (iI d)]) (rest := [.ref (ad_51 (30 + 3 * cc)), .int (iI (sc 0)), .ref (ad_51 1)]) ⟨hx, hb, hml, hown, hts⟩ (c_X0_init l D cA ad_51 (up w (30 + 3 * cc) (oB 0 [.int (iI 0), .null, .null, .int (iI 0)])) H.size (30 + 3 * cc) (31 + 3 * cc) (32 + 3 * cc) (up_s _ _ _) (by omega) (by omega) (by omega) d) (cwI 1 hts gX5_addCurve_X0_init rfl rfl rfl (hts (.initialized RX0) (by decide +kernel)) (hts (.methodLink RX5 80 yX0_init) (by decide +kernel)) (hts (.instanceMethod yX0_init) (by decide +kernel)) rfl (by decide +kernel) ⟨Nat.le_of_ble_eq_true rfl, Nat.le_of_ble_eq_true rfl⟩) (gV_S hP hD hK hB hS hA hZ) rfl rfl hl.1 rfl (lv_room (Nat.le_of_ble_eq_true rfl)) dX5_addCurve_56 ⟨Nat.le_of_ble_eq_true rfl, Nat.le_of_ble_eq_true rfl⟩) hS (gA_sub hD hS hA) (fun v_56 ad_56 w_56 H locs hv_56 hP hD hS => ?_)
        obtain ⟨hv1, hnn_56, hv3⟩ := hv_56
        subst hv1
        rw [hv3] at hP hD
        rw [hnn_56 (30 + 3 * cc) (by omega)]
        rw [hnn_56 1 (by omega)]
        rw [hnn_56 0 (by omega)] at hl
        have hm_56_0 : w 0 = some (oB 5 [.ref (ad_56 1), .ref (ad_56 2), .ref (ad_56 5), .ref (ad_56 6), .ref (ad_56 7), .ref (ad_56 8), .ref (ad_56 9), .ref (ad_56 12), .int (iI (sc 0)), .int (iI (sc 4)), .int (iI (sc 2)), .int (iI (sc 3)), .int (iI rk)]) := by rw [← hnn_56 1 (by omega), ← hnn_56 2 (by omega), ← hnn_56 5 (by omega), ← hnn_56 6 (by omega), ← hnn_56 7 (by omega), ← hnn_56 8 (by omega), ← hnn_56 9 (by omega), ← hnn_56 12 (by omega)]; exact hm_51_0
        have hm_56_2 : w 2 = some (oB 4 [.ref (ad_56 3), .ref (ad_56 4), .int (iI (sc 1))]) := by rw [← hnn_56 3 (by omega), ← hnn_56 4 (by omega)]; exact hm_51_2
        have hm_56_9 : w 9 = some (oB 1 [.ref (ad_56 10), .ref (ad_56 11)]) := by rw [← hnn_56 10 (by omega), ← hnn_56 11 (by omega)]; exact hm_51_9
        have hm_56_12 : w 12 = some (oB 3 [.ref (ad_56 13), .ref (ad_56 14), .ref (ad_56 15), .int (iI rn)]) := by rw [← hnn_56 13 (by omega), ← hnn_56 14 (by omega), ← hnn_56 15 (by omega)]; exact hm_51_12
        have hcv : ∀ k : Nat, (k : Int) < sc 0 → w (30 + 3 * k) = some (oB 0 [.int (iI (fn 8 (k : Int))), .ref (ad_56 (31 + 3 * k)), .ref (ad_56 (32 + 3 * k)), .int (iI (fn 9 (k : Int)))]) ∧ w (31 + 3 * k) = some (eI (cA 0) 12 (fn (20 + k))) ∧ w (32 + 3 * k) = some (eI (cA 0) 12 (fn (30 + k))) := fun k hk => by have i9_ := hI.1; have h9_ := hcv k hk; rw [hnn_56 (31 + 3 * k) (by omega), hnn_56 (32 + 3 * k) (by omega)] at h9_; exact h9_
        have h1 : w 1 = some (eQ (cA 4) 6 (fun j : Nat => if (j : Int) < sc 0 then some (ad_56 (30 + 3 * j)) else none)) := by rw [h1]; congr 2; funext j; by_cases e9 : (j : Int) < sc 0; have i9_ := hI.1; rw [if_pos e9, if_pos e9, hnn_56 (30 + 3 * j) (by omega)]; rw [if_neg e9, if_neg e9]
        have h8 : w 8 = some (eQ (cA 5) 40 (fun j : Nat => if (j : Int) < sc 4 then some (ad_56 (60 + j)) else none)) := by rw [h8]; congr 2; funext j; by_cases e9 : (j : Int) < sc 4; have i9_ := hI.1; rw [if_pos e9, if_pos e9, hnn_56 (60 + j) (by omega)]; rw [if_neg e9, if_neg e9]
        rw [show up ((up w (30 + 3 * cc) (oB 0 [.int (iI 0), .null, .null, .int (iI 0)]))) (30 + 3 * cc) (oB 0 [.int (iI d), .ref (ad_56 (31 + 3 * cc)), .ref (ad_56 (32 + 3 * cc)), .int (iI 0)]) = _ from (up_up _ _ _ _)] at hP hD
        refine W.eq (g2 := F0 m 59 ls [.ref (ad_56 (30 + 3 * cc)), .int (iI (sc 0)), .ref (ad_56 1)]) rfl ?_
        refine W.cs (cells' := 4) (slots' := 34) rfl rfl ?_
        have hn_all : ∀ j : Nat, j ≠ 30 + 3 * cc ∧ j ≠ 31 + 3 * cc ∧ j ≠ 32 + 3 * cc → ad j = ad_56 j := fun j h => (hnn_51 j h.1).trans (hnn_56 j h.2)
        refine k_aast (pc := 59) (w1 := (up (up (up (up w (30 + 3 * cc) (oB 0 [.int (iI d), .ref (ad_56 (31 + 3 * cc)), .ref (ad_56 (32 + 3 * cc)), .int (iI 0)])) (31 + 3 * cc) (eI (cA 0) 12 (fun _ => 0))) (32 + 3 * cc) (eI (cA 0) 12 (fun _ => 0))) 1 (eQ (cA 4) 6 (va_up (fun j : Nat => if (j : Int) < sc 0 then some (ad_56 (30 + 3 * j)) else none) (sc 0).toNat (some (ad_56 (30 + 3 * cc))))))) hx hb hK hP hD hS 1 4 (30 + 3 * cc) 0 (up_n (by omega) (up_n (by omega) (up_n (by omega) h1))) rfl (up_n (by omega) (up_n (by omega) (up_s _ _ _))) rfl (by omega) (by omega) (by omega) rfl dX5_addCurve_59 (fun H locs hP hD hS => ?_)
        refine lv_aload_n (pc := 60) hx hb dX5_addCurve_60 rfl (lv_at hl 1 rfl) ?_
        refine lv_iload_n (pc := 61) hx hb dX5_addCurve_61 rfl (lv_at hl 0 rfl) ?_
        refine k_iconst (pc := 62) hx hb dX5_addCurve_62 ?_
        refine k_iadd (pc := 63) hx hb dX5_addCurve_63 ?_
        refine k_put (pc := 64) (ci := 5) (C := RX5) (T := TX5) (N := 13) (ty := .int) (v := .int (iI ((sc 0) + 1))) (w1 := (up (up (up (up (up w (30 + 3 * cc) (oB 0 [.int (iI d), .ref (ad_56 (31 + 3 * cc)), .ref (ad_56 (32 + 3 * cc)), .int (iI 0)])) (31 + 3 * cc) (eI (cA 0) 12 (fun _ => 0))) (32 + 3 * cc) (eI (cA 0) 12 (fun _ => 0))) 1 (eQ (cA 4) 6 (va_up (fun j : Nat => if (j : Int) < sc 0 then some (ad_56 (30 + 3 * j)) else none) (sc 0).toNat (some (ad_56 (30 + 3 * cc)))))) 0 (oB 5 [.ref (ad_56 1), .ref (ad_56 2), .ref (ad_56 5), .ref (ad_56 6), .ref (ad_56 7), .ref (ad_56 8), .ref (ad_56 9), .ref (ad_56 12), .int (iI ((sc 0) + 1)), .int (iI (sc 4)), .int (iI (sc 2)), .int (iI (sc 3)), .int (iI rk)]))) hx hb hts hi5 tyX5 tyX5_ok nmX5 hown hK hP hD hS 0 (up_n (by decide) (up_n (by omega) (up_n (by omega) (up_n (by omega) hm_56_0)))) rfl 8 (by decide) hf64 (fun _ h9 => h9) rfl (by decide +kernel) rfl rfl (Nat.le_of_ble_eq_true rfl) rfl dX5_addCurve_64 (fun H locs hP hD hS => ?_)
        refine lv_aload_n (pc := 67) hx hb dX5_addCurve_67 rfl (lv_at hl 1 rfl) ?_
        refine k_iconst (pc := 68) hx hb dX5_addCurve_68 ?_
        refine k_put (pc := 69) (ci := 5) (C := RX5) (T := TX5) (N := 13) (ty := .boolean) (v := .int (iI 0)) (w1 := (up (up (up (up (up w (30 + 3 * cc) (oB 0 [.int (iI d), .ref (ad_56 (31 + 3 * cc)), .ref (ad_56 (32 + 3 * cc)), .int (iI 0)])) (31 + 3 * cc) (eI (cA 0) 12 (fun _ => 0))) (32 + 3 * cc) (eI (cA 0) 12 (fun _ => 0))) 1 (eQ (cA 4) 6 (va_up (fun j : Nat => if (j : Int) < sc 0 then some (ad_56 (30 + 3 * j)) else none) (sc 0).toNat (some (ad_56 (30 + 3 * cc)))))) 0 (oB 5 [.ref (ad_56 1), .ref (ad_56 2), .ref (ad_56 5), .ref (ad_56 6), .ref (ad_56 7), .ref (ad_56 8), .ref (ad_56 9), .ref (ad_56 12), .int (iI ((sc 0) + 1)), .int (iI (sc 4)), .int (iI (sc 2)), .int (iI (sc 3)), .int (iI 0)]))) hx hb hts hi5 tyX5 tyX5_ok nmX5 hown hK hP hD hS 0 (up_s _ _ _) rfl 12 (by decide) hf82 (fun _ h9 => h9) rfl (by decide +kernel) (by decide +kernel) rfl (Nat.le_of_ble_eq_true rfl) (up_up _ _ _ _) dX5_addCurve_69 (fun H locs hP hD hS => ?_)
        refine lv_iload_n (pc := 72) hx hb dX5_addCurve_72 rfl (lv_at hl 0 rfl) ?_
        have hbk2 : bookS cA ad_56 (up (up (up (up (up w (30 + 3 * cc) (oB 0 [.int (iI d), .ref (ad_56 (31 + 3 * cc)), .ref (ad_56 (32 + 3 * cc)), .int (iI 0)])) (31 + 3 * cc) (eI (cA 0) 12 (fun _ => 0))) (32 + 3 * cc) (eI (cA 0) 12 (fun _ => 0))) 1 (eQ (cA 4) 6 (va_up (fun j : Nat => if (j : Int) < sc 0 then some (ad_56 (30 + 3 * j)) else none) (sc 0).toNat (some (ad_56 (30 + 3 * cc)))))) 0 (oB 5 [.ref (ad_56 1), .ref (ad_56 2), .ref (ad_56 5), .ref (ad_56 6), .ref (ad_56 7), .ref (ad_56 8), .ref (ad_56 9), .ref (ad_56 12), .int (iI ((sc 0) + 1)), .int (iI (sc 4)), .int (iI (sc 2)), .int (iI (sc 3)), .int (iI 0)])) (upS sc 0 (sc 0 + 1)) (crF fn cc d) := by refine ⟨0, F, S, rn, rd, rm_, rz, ?_, Or.inl rfl, hF, hS9⟩; unfold bookAt; rw [crF_low (i := 0) (by omega)]; rw [crF_low (i := 1) (by omega)]; rw [crF_low (i := 2) (by omega)]; rw [crF_low (i := 3) (by omega)]; rw [crF_low (i := 4) (by omega)]; rw [crF_low (i := 5) (by omega)]; rw [crF_low (i := 6) (by omega)]; rw [crF_low (i := 7) (by omega)]; exact ⟨(up_s _ _ _), ((up_n (by decide) (up_s _ _ _)).trans (by rw [eq_cr hcc]; rfl)), (up_n (by decide) (up_n (by decide) (up_n (by omega) (up_n (by omega) (up_n (by omega) hm_56_2))))), (up_n (by decide) (up_n (by decide) (up_n (by omega) (up_n (by omega) (up_n (by omega) h3))))), (up_n (by decide) (up_n (by decide) (up_n (by omega) (up_n (by omega) (up_n (by omega) h4))))), (up_n (by decide) (up_n (by decide) (up_n (by omega) (up_n (by omega) (up_n (by omega) h5))))), (up_n (by decide) (up_n (by decide) (up_n (by omega) (up_n (by omega) (up_n (by omega) h6))))), (up_n (by decide) (up_n (by decide) (up_n (by omega) (up_n (by omega) (up_n (by omega) h7))))), (up_n (by decide) (up_n (by decide) (up_n (by omega) (up_n (by omega) (up_n (by omega) h8))))), (up_n (by decide) (up_n (by decide) (up_n (by omega) (up_n (by omega) (up_n (by omega) hm_56_9))))), (up_n (by decide) (up_n (by decide) (up_n (by omega) (up_n (by omega) (up_n (by omega) h10))))), (up_n (by decide) (up_n (by decide) (up_n (by omega) (up_n (by omega) (up_n (by omega) h11))))), (up_n (by decide) (up_n (by decide) (up_n (by omega) (up_n (by omega) (up_n (by omega) hm_56_12))))), (up_n (by decide) (up_n (by decide) (up_n (by omega) (up_n (by omega) (up_n (by omega) h13))))), (up_n (by decide) (up_n (by decide) (up_n (by omega) (up_n (by omega) (up_n (by omega) h14))))), (up_n (by decide) (up_n (by decide) (up_n (by omega) (up_n (by omega) (up_n (by omega) h15))))), (cv_cr hcc (by omega) (up_n (by omega) (up_n (by omega) (up_n (by omega) (up_n (by omega) (up_s _ _ _))))) (up_n (by omega) (up_n (by omega) (up_n (by omega) (up_s _ _ _)))) (up_n (by omega) (up_n (by omega) (up_s _ _ _))) (fun k9 hk9 => by have h9_ := hcv k9 hk9; have i9_ := hI.1; exact ⟨(up_n (by omega) (up_n (by omega) (up_n (by omega) (up_n (by omega) (up_n (by omega) h9_.1))))), (up_n (by omega) (up_n (by omega) (up_n (by omega) (up_n (by omega) (up_n (by omega) h9_.2.1))))), (up_n (by omega) (up_n (by omega) (up_n (by omega) (up_n (by omega) (up_n (by omega) h9_.2.2)))))⟩)), (fun k9 hk9 => by have h9_ := hms k9 hk9; have i9_ := hI.1.2.2.2.2; exact (up_n (by omega) (up_n (by omega) (up_n (by omega) (up_n (by omega) (up_n (by omega) h9_))))))⟩
        rw [hQ9]
        refine vx_ret ?_
        exact W.iret (v := iI (sc 0)) hx hb hret (fun t ht hW => ⟨⟨some (.int (iI (sc 0))), ad_56, (up (up (up (up (up w (30 + 3 * cc) (oB 0 [.int (iI d), .ref (ad_56 (31 + 3 * cc)), .ref (ad_56 (32 + 3 * cc)), .int (iI 0)])) (31 + 3 * cc) (eI (cA 0) 12 (fun _ => 0))) (32 + 3 * cc) (eI (cA 0) 12 (fun _ => 0))) 1 (eQ (cA 4) 6 (va_up (fun j : Nat => if (j : Int) < sc 0 then some (ad_56 (30 + 3 * j)) else none) (sc 0).toNat (some (ad_56 (30 + 3 * cc)))))) 0 (oB 5 [.ref (ad_56 1), .ref (ad_56 2), .ref (ad_56 5), .ref (ad_56 6), .ref (ad_56 7), .ref (ad_56 8), .ref (ad_56 9), .ref (ad_56 12), .int (iI ((sc 0) + 1)), .int (iI (sc 4)), .int (iI (sc 2)), .int (iI (sc 3)), .int (iI 0)])), rfl, ⟨_, _, hbk2, inv_cr hI hcc (by omega) (by omega), ⟨(hn_all 0 (by omega)).symm, fun r hr => ⟨(up_n (by omega) (up_n (by omega) (up_n (by omega) (up_n (by omega) (up_n (by omega) rfl))))), (hn_all r (by omega)).symm⟩⟩, ⟨cc, hcc, rfl, rfl, by omega, by omega, hnc, rfl⟩⟩, by rw [ht]; exact hP, hD⟩, hS.F ht⟩) hS.2.2 dX5_addCurve_73
      · skip
        have hex : ∃ j : Int, 0 ≤ j ∧ j < sc 0 ∧ fn 8 j = d := by rcases hz_25 with ⟨a1, a2⟩ | ⟨a1, a2⟩; exact a2; omega
        obtain ⟨sa_31, hsa_31⟩ := ns_78 hB
        rw [hQ9]
        exact vx_throwS (pc := 31) (own := RX5) (cls := xIS) (names := ["java/lang/RuntimeException", "java/lang/Exception"]) (ik := 67) (is := 78) (ic := 71) (A := A) hx hb hl0 hown (by decide +kernel) (by decide +kernel) (hts (.classLink RX5 67 "java/lang/IllegalStateException") (by decide +kernel)) (hts (.initialized "java/lang/IllegalStateException") (by decide +kernel)) hsa_31 (gx_hat hB (E := xIS) (i := 1) rfl (fun w h => hts w (hxw_xIS_71 w h)) (by decide +kernel)) (by decide +kernel) hZ.1 hZ.2 hS (hl.1.trans hml.symm) dX5_addCurve_31 dX5_addCurve_34 dX5_addCurve_35 dX5_addCurve_37 dX5_addCurve_40 (fun x h => (hE x h).elim) (Nat.le_of_ble_eq_true rfl) (Nat.le_of_ble_eq_true rfl) (Nat.le_of_ble_eq_true rfl) (Nat.le_of_ble_eq_true rfl) hlocks (fun t hW hz hk => ⟨Or.inr ⟨rfl, by omega, Or.inr hex⟩, fun r x hr => (hP r x hr).kept (hk _ (hP r x hr).lt), hD, Nat.le_trans hS.1 hz, fun q h1 h2 => (hk q (Nat.lt_of_lt_of_le h1 hS.1)).trans (hS.2.1 q h1 h2)⟩) hS.2.2 (Nat.le_of_ble_eq_true rfl) (Nat.le_of_ble_eq_true rfl)
    · skip
      obtain ⟨sa_13, hsa_13⟩ := ns_69 hB
      rw [hQ9]
      exact vx_throwS (pc := 13) (own := RX5) (cls := xIS) (names := ["java/lang/RuntimeException", "java/lang/Exception"]) (ik := 67) (is := 69) (ic := 71) (A := A) hx hb hl0 hown (by decide +kernel) (by decide +kernel) (hts (.classLink RX5 67 "java/lang/IllegalStateException") (by decide +kernel)) (hts (.initialized "java/lang/IllegalStateException") (by decide +kernel)) hsa_13 (gx_hat hB (E := xIS) (i := 1) rfl (fun w h => hts w (hxw_xIS_71 w h)) (by decide +kernel)) (by decide +kernel) hZ.1 hZ.2 hS (hl.1.trans hml.symm) dX5_addCurve_13 dX5_addCurve_16 dX5_addCurve_17 dX5_addCurve_19 dX5_addCurve_22 (fun x h => (hE x h).elim) (Nat.le_of_ble_eq_true rfl) (Nat.le_of_ble_eq_true rfl) (Nat.le_of_ble_eq_true rfl) (Nat.le_of_ble_eq_true rfl) hlocks (fun t hW hz hk => ⟨Or.inr ⟨rfl, by omega, Or.inl (by omega)⟩, fun r x hr => (hP r x hr).kept (hk _ (hP r x hr).lt), hD, Nat.le_trans hS.1 hz, fun q h1 h2 => (hk q (Nat.lt_of_lt_of_le h1 hS.1)).trans (hS.2.1 q h1 h2)⟩) hS.2.2 (Nat.le_of_ble_eq_true rfl) (Nat.le_of_ble_eq_true rfl)

abbrev rmX5_init : Room := { frames := 2, cells := 16, slots := 4300, locals := 32 }
theorem hiX5_init_1 : ∀ w ∈ wsX10, w ∈ wsX5_init := by decide +kernel
theorem hiX5_init_3 : ∀ w ∈ wsX30, w ∈ wsX5_init := by decide +kernel
theorem hiX5_init_4 : ∀ w ∈ wsX40, w ∈ wsX5_init := by decide +kernel
theorem hiX5_init_5 : ∀ w ∈ wsX50, w ∈ wsX5_init := by decide +kernel
set_option maxHeartbeats 4000000 in
set_option maxRecDepth 100000 in
theorem c_X5_init (l : Launch) (D : va_G) (cA : Nat → ClassId) (ad : Nat → Nat) (w : Nat → Option va_E) (sz : Nat) (h0 : w 0 = some (oB 5 [.null, .null, .null, .null, .null, .null, .null, .null, .int (iI 0), .int (iI 0), .int (iI 0), .int (iI 0), .int (iI 0)])) : Met l yX5_init wsX5_init rmX5_init (gV D cA ad w sz [.ref (ad 0)]) (gW D (fun v9 ad1 w1 => bookS cA ad1 w1 sc00 fn00 ∧ keepR ad ad1 w w1 ∧ v9 = none) (gA ad w sz)) 16 4300 (gA ad w sz) := by
  refine Met.ofW (cc := cX5_init) (maxL := 1) (ret := none) (by decide) rfl ?_
  intro p e s m args below meth c s₁ B hml hv
  obtain ⟨hav, hsz, hP, hD0, hK, hB, hZ⟩ := hv
  have hx := B.exec
  have hb := B.bytes
  have hret := B.returns
  have hts := atoms_spec (ws := wsX5_init) B.pre
  have hown : s.vm.findClass RX5 = some m.cls := findClass_of_methodNamed B.named
  have hlocks := B.notSynchronized
  have hin : meth.name = "<init>" := (name_of_methodNamed B.named B.method).1
  subst hsz
  have hD := hD0.self (sz := s.heap.size)
  generalize hAe : gA ad w s.heap.size = A at hD hZ ⊢
  have hA : ∀ q : Nat, s.heap.size ≤ q → A q := fun q h => by rw [← hAe]; exact Or.inr h
  have hS : va_S A s.heap s.heap [] := va_S.rf
  have hi1 := hiX5_init_1
  have hi3 := hiX5_init_3
  have hi4 := hiX5_init_4
  have hi5 := hiX5_init_5
  have hf11 := hts (.fieldLink RX5 11 "GaugeBook" "curves" "[LGaugeBook$Curve;") (by decide +kernel)
  have hf18 := hts (.fieldLink RX5 18 "GaugeBook" "shifts" "LGaugeBook$Shifts;") (by decide +kernel)
  have hf22 := hts (.fieldLink RX5 22 "GaugeBook" "stages" "[I") (by decide +kernel)
  have hf26 := hts (.fieldLink RX5 26 "GaugeBook" "hasStage" "[Z") (by decide +kernel)
  have hf30 := hts (.fieldLink RX5 30 "GaugeBook" "ice" "[Z") (by decide +kernel)
  have hf35 := hts (.fieldLink RX5 35 "GaugeBook" "measurements" "[LGaugeBook$Measurement;") (by decide +kernel)
  have hf42 := hts (.fieldLink RX5 42 "GaugeBook" "table" "LGaugeBook$FlowTable;") (by decide +kernel)
  have hf49 := hts (.fieldLink RX5 49 "GaugeBook" "ranking" "LGaugeBook$Ranking;") (by decide +kernel)
  have hf53 := hts (.fieldLink RX5 53 "GaugeBook" "iceFactor" "I") (by decide +kernel)
  have hf57 := hts (.fieldLink RX5 57 "GaugeBook" "gapLimit" "I") (by decide +kernel)
  have he9 : entryFrame m args 1 = F0 m 0 ((lg_sl ([.ref (ad 0)] : List Value) ++ List.replicate (1 - (lg_sl ([.ref (ad 0)] : List Value)).length) Slot.unset).toArray) [] := by rw [hav, lg_entry_eq]
  rw [he9]
  have hl := lv_entry ([.ref (ad 0)] : List Value) (n := 1) (Nat.le_of_ble_eq_true rfl)
  generalize (lg_sl ([.ref (ad 0)] : List Value) ++ List.replicate (1 - (lg_sl ([.ref (ad 0)] : List Value)).length) Slot.unset).toArray = ls at hl ⊢
  have hl : lv_has ls 1 [(0, .ref (ad 0))] := hl
  obtain ⟨Q9, hQ9⟩ : ∃ z, z = MQ below (gW D (fun v9 ad1 w1 => bookS cA ad1 w1 sc00 fn00 ∧ keepR ad ad1 w w1 ∧ v9 = none) A) args s 16 4300 A := ⟨_, rfl⟩
  rw [← hQ9]
  show W p l e rmX5_init s m args below meth c s.heap [] 0 0 Q9 (F0 m 0 ls [])
  obtain ⟨H, hHe⟩ : ∃ z, z = s.heap := ⟨_, rfl⟩
  obtain ⟨locs, hLe⟩ : ∃ z, z = ([] : List Loc) := ⟨_, rfl⟩
  have hP : gP D vwCl ad w H := by rw [hHe]; exact hP
  have hS : va_S A s.heap H locs := by rw [hHe, hLe]; exact va_S.rf
  rw [show W p l e rmX5_init s m args below meth c s.heap [] 0 0 Q9 (F0 m 0 ls []) = W p l e rmX5_init s m args below meth c H locs 0 0 Q9 (F0 m 0 ls []) by rw [hHe, hLe]]
  clear hHe hLe
  refine lv_aload_n (pc := 0) hx hb dX5_init_0 rfl (lv_at hl 0 rfl) ?_
  refine W.eq (g2 := F0 m 1 ls [.ref (ad 0)]) rfl ?_
  refine W.objInit hx hb hown (hts (.methodLink RX5 1 objectInit) (by decide +kernel)) (hts (.instanceMethod objectInit) (by decide +kernel)) (hts (.code objectInit ⟨#[0xb1]⟩ 1 none) (by decide +kernel)) rfl (by rw [hml]; exact hl.1) rfl dX5_init_1 (Nat.le_of_ble_eq_true rfl) (Nat.le_of_ble_eq_true rfl) ?_
  refine W.eq (g2 := F0 m 4 ls []) rfl ?_
  refine lv_aload_n (pc := 4) hx hb dX5_init_4 rfl (lv_at hl 0 rfl) ?_
  refine k_bipush (pc := 5) hx hb dX5_init_5 (by decide +kernel) ?_
  refine k_anew (pc := 7) (own := RX5) hx hb hown (hts (.classLink RX5 9 RX0) (by decide +kernel)) hB.2.2.2.2.2.2.1 hK hP hD hS hA 1 4 rfl 6 rfl (by decide) (Nat.le_of_ble_eq_true rfl) (Nat.le_of_ble_eq_true rfl) dX5_init_7 (fun q_7 H hP hD hS => ?_)
  obtain ⟨ad_7, hga_7⟩ : ∃ z9 : Nat → Nat, adN ad 1 q_7 = z9 := ⟨_, rfl⟩
  rw [hga_7] at hP hD
  have hnn_7 : ∀ j9 : Nat, j9 ≠ 1 → ad j9 = ad_7 j9 := fun j9 h9_ => by rw [← hga_7, adN_n _ _ h9_]
  rw [show q_7 = ad_7 1 by rw [← hga_7, adN_s]]
  rw [hnn_7 0 (by omega)]
  rw [hnn_7 0 (by omega)] at hl
  refine W.eq (g2 := F0 m 10 ls [.ref (ad_7 1), .ref (ad_7 0)]) rfl ?_
  refine W.cs (cells' := 1) (slots' := 6) rfl rfl ?_
  refine k_putF (pc := 10) (ci := 5) (C := RX5) (T := TX5) (N := 13) (ty := .array (.object "GaugeBook$Curve")) (v := .ref (ad_7 1)) (w1 := (up (up w 1 (eQ (cA 4) 6 (fun _ => none))) 0 (oB 5 [.ref (ad_7 1), .null, .null, .null, .null, .null, .null, .null, .int (iI 0), .int (iI 0), .int (iI 0), .int (iI 0), .int (iI 0)]))) hx hb hts hi5 tyX5 tyX5_ok nmX5 hown hK hP hD hS 0 (up_n (by decide) h0) rfl 0 (by decide) hf11 (fun _ h9 => h9) rfl hin rfl (by decide +kernel) rfl rfl (Nat.le_of_ble_eq_true rfl) rfl dX5_init_10 (fun H locs hP hD hS => ?_)
  refine lv_aload_n (pc := 13) hx hb dX5_init_13 rfl (lv_at hl 0 rfl) ?_
  refine k_new (pc := 14) (own := RX5) (C := RX4) (T := TX4) (N := 3) (ci := 4) hx hb hts hi4 tyX4 tyX4_ok hown (hts (.classLink RX5 15 RX4) (by decide +kernel)) (hts (.instantiable RX4 3) (by decide +kernel)) (hts (.initialized RX4) (by decide +kernel)) hK hP hD hS hA rfl 2 (fs := [.null, .null, .int (iI 0)]) (by intro j hj; rcases j with _ | _ | _ | j <;> first | rfl | omega) (Nat.le_of_ble_eq_true rfl) (Nat.le_of_ble_eq_true rfl) dX5_init_14 (fun q_14 H hP hD hS => ?_)
  obtain ⟨ad_14, hga_14⟩ : ∃ z9 : Nat → Nat, adN ad_7 2 q_14 = z9 := ⟨_, rfl⟩
  rw [hga_14] at hP hD
  have hnn_14 : ∀ j9 : Nat, j9 ≠ 2 → ad_7 j9 = ad_14 j9 := fun j9 h9_ => by rw [← hga_14, adN_n _ _ h9_]
  rw [show q_14 = ad_14 2 by rw [← hga_14, adN_s]]
  rw [hnn_14 1 (by omega)] at hP hD
  rw [hnn_14 0 (by omega)]
  rw [hnn_14 0 (by omega)] at hl
  refine W.eq (g2 := F0 m 17 ls [.ref (ad_14 2), .ref (ad_14 0)]) rfl ?_
  refine W.cs (cells' := 2) (slots' := 9) rfl rfl ?_
  refine lv_dup (pc := 17) hx hb dX5_init_17 rfl ?_
  refine k_call1 (pc := 18) (va_runI (As := []) (rest := [.ref (ad_14 2), .ref (ad_14 0)]) ⟨hx, hb, hml, hown, hts⟩ (c_X4_init l D cA ad_14 (up (up (up w 1 (eQ (cA 4) 6 (fun _ => none))) 0 (oB 5 [.ref (ad_14 1), .null, .null, .null, .null, .null, .null, .null, .int (iI 0), .int (iI 0), .int (iI 0), .int (iI 0), .int (iI 0)])) 2 (oB 4 [.null, .null, .int (iI 0)])) H.size 2 3 4 (up_s _ _ _) (by omega) (by omega) (by omega)) (cwI 0 hts gX5_init_X4_init rfl rfl rfl (hts (.initialized RX4) (by decide +kernel)) (hts (.methodLink RX5 17 yX4_init) (by decide +kernel)) (hts (.instanceMethod yX4_init) (by decide +kernel)) rfl (by decide +kernel) ⟨Nat.le_of_ble_eq_true rfl, Nat.le_of_ble_eq_true rfl⟩) (gV_S hP hD hK hB hS hA hZ) rfl rfl hl.1 rfl (lv_room (Nat.le_of_ble_eq_true rfl)) dX5_init_18 ⟨Nat.le_of_ble_eq_true rfl, Nat.le_of_ble_eq_true rfl⟩) hS (gA_sub hD hS hA) (fun v_18 ad_18 w_18 H locs hv_18 hP hD hS => ?_)
  obtain ⟨hv1, hnn_18, hv3⟩ := hv_18
  subst hv1
  rw [hv3] at hP hD
  rw [hnn_18 1 (by omega)] at hP hD
  rw [hnn_18 2 (by omega)]
  rw [hnn_18 0 (by omega)]
  rw [hnn_18 0 (by omega)] at hl
  rw [show up ((up (up (up (up w 1 (eQ (cA 4) 6 (fun _ => none))) 0 (oB 5 [.ref (ad_18 1), .null, .null, .null, .null, .null, .null, .null, .int (iI 0), .int (iI 0), .int (iI 0), .int (iI 0), .int (iI 0)])) 2 (oB 4 [.null, .null, .int (iI 0)])) 3 (eI (cA 0) 20 (fun _ => 0)))) 2 (oB 4 [.ref (ad_18 3), .ref (ad_18 4), .int (iI 0)]) = _ from ((up_co _ _ _ (by decide)).trans (congrArg (fun u => up u 3 _) (up_up _ _ _ _)))] at hP hD
  refine W.eq (g2 := F0 m 21 ls [.ref (ad_18 2), .ref (ad_18 0)]) rfl ?_
  refine W.cs (cells' := 4) (slots' := 49) rfl rfl ?_
  refine k_putF (pc := 21) (ci := 5) (C := RX5) (T := TX5) (N := 13) (ty := .object "GaugeBook$Shifts") (v := .ref (ad_18 2)) (w1 := (up (up (up (up (up w 1 (eQ (cA 4) 6 (fun _ => none))) 0 (oB 5 [.ref (ad_18 1), .ref (ad_18 2), .null, .null, .null, .null, .null, .null, .int (iI 0), .int (iI 0), .int (iI 0), .int (iI 0), .int (iI 0)])) 2 (oB 4 [.ref (ad_18 3), .ref (ad_18 4), .int (iI 0)])) 3 (eI (cA 0) 20 (fun _ => 0))) 4 (eI (cA 0) 20 (fun _ => 0)))) hx hb hts hi5 tyX5 tyX5_ok nmX5 hown hK hP hD hS 0 (up_n (by decide) (up_n (by decide) (up_n (by decide) (up_s _ _ _)))) rfl 1 (by decide) hf18 (fun _ h9 => h9) rfl hin rfl (by decide +kernel) rfl rfl (Nat.le_of_ble_eq_true rfl) ((up_co _ _ _ (by decide)).trans (congrArg (fun u => up u 4 _) ((up_co _ _ _ (by decide)).trans (congrArg (fun u => up u 3 _) ((up_co _ _ _ (by decide)).trans (congrArg (fun u => up u 2 _) (up_up _ _ _ _))))))) dX5_init_21 (fun H locs hP hD hS => ?_)
  refine lv_aload_n (pc := 24) hx hb dX5_init_24 rfl (lv_at hl 0 rfl) ?_
  refine k_sipush (pc := 25) hx hb dX5_init_25 (by decide +kernel) ?_
  refine k_newI (pc := 28) hx hb (hts (.arrayClass .int) (by decide +kernel)) hK hP hD hS hA 5 0 rfl 400 rfl (by decide) (Nat.le_of_ble_eq_true rfl) (Nat.le_of_ble_eq_true rfl) dX5_init_28 (fun q_28 H hP hD hS => ?_)
  obtain ⟨ad_28, hga_28⟩ : ∃ z9 : Nat → Nat, adN ad_18 5 q_28 = z9 := ⟨_, rfl⟩
  rw [hga_28] at hP hD
  have hnn_28 : ∀ j9 : Nat, j9 ≠ 5 → ad_18 j9 = ad_28 j9 := fun j9 h9_ => by rw [← hga_28, adN_n _ _ h9_]
  rw [show q_28 = ad_28 5 by rw [← hga_28, adN_s]]
  rw [hnn_28 1 (by omega)] at hP hD
  rw [hnn_28 2 (by omega)] at hP hD
  rw [hnn_28 3 (by omega)] at hP hD
  rw [hnn_28 4 (by omega)] at hP hD
  rw [hnn_28 0 (by omega)]
  rw [hnn_28 0 (by omega)] at hl
  refine W.eq (g2 := F0 m 30 ls [.ref (ad_28 5), .ref (ad_28 0)]) rfl ?_
  refine W.cs (cells' := 5) (slots' := 449) rfl rfl ?_
  refine k_putF (pc := 30) (ci := 5) (C := RX5) (T := TX5) (N := 13) (ty := .array .int) (v := .ref (ad_28 5)) (w1 := (up (up (up (up (up (up w 1 (eQ (cA 4) 6 (fun _ => none))) 0 (oB 5 [.ref (ad_28 1), .ref (ad_28 2), .ref (ad_28 5), .null, .null, .null, .null, .null, .int (iI 0), .int (iI 0), .int (iI 0), .int (iI 0), .int (iI 0)])) 2 (oB 4 [.ref (ad_28 3), .ref (ad_28 4), .int (iI 0)])) 3 (eI (cA 0) 20 (fun _ => 0))) 4 (eI (cA 0) 20 (fun _ => 0))) 5 (eI (cA 0) 400 (fun _ => 0)))) hx hb hts hi5 tyX5 tyX5_ok nmX5 hown hK hP hD hS 0 (up_n (by decide) (up_n (by decide) (up_n (by decide) (up_n (by decide) (up_s _ _ _))))) rfl 2 (by decide) hf22 (fun _ h9 => h9) rfl hin rfl (by decide +kernel) rfl rfl (Nat.le_of_ble_eq_true rfl) ((up_co _ _ _ (by decide)).trans (congrArg (fun u => up u 5 _) ((up_co _ _ _ (by decide)).trans (congrArg (fun u => up u 4 _) ((up_co _ _ _ (by decide)).trans (congrArg (fun u => up u 3 _) ((up_co _ _ _ (by decide)).trans (congrArg (fun u => up u 2 _) (up_up _ _ _ _))))))))) dX5_init_30 (fun H locs hP hD hS => ?_)
  refine lv_aload_n (pc := 33) hx hb dX5_init_33 rfl (lv_at hl 0 rfl) ?_
  refine k_sipush (pc := 34) hx hb dX5_init_34 (by decide +kernel) ?_
  refine k_newZ (pc := 37) hx hb (hts (.arrayClass .boolean) (by decide +kernel)) hK hP hD hS hA 6 1 rfl 400 rfl (by decide) (Nat.le_of_ble_eq_true rfl) (Nat.le_of_ble_eq_true rfl) dX5_init_37 (fun q_37 H hP hD hS => ?_)
  obtain ⟨ad_37, hga_37⟩ : ∃ z9 : Nat → Nat, adN ad_28 6 q_37 = z9 := ⟨_, rfl⟩
  rw [hga_37] at hP hD
  have hnn_37 : ∀ j9 : Nat, j9 ≠ 6 → ad_28 j9 = ad_37 j9 := fun j9 h9_ => by rw [← hga_37, adN_n _ _ h9_]
  rw [show q_37 = ad_37 6 by rw [← hga_37, adN_s]]
  rw [hnn_37 1 (by omega)] at hP hD
  rw [hnn_37 2 (by omega)] at hP hD
  rw [hnn_37 5 (by omega)] at hP hD
  rw [hnn_37 3 (by omega)] at hP hD
  rw [hnn_37 4 (by omega)] at hP hD
  rw [hnn_37 0 (by omega)]
  rw [hnn_37 0 (by omega)] at hl
  refine W.eq (g2 := F0 m 39 ls [.ref (ad_37 6), .ref (ad_37 0)]) rfl ?_
  refine W.cs (cells' := 6) (slots' := 849) rfl rfl ?_
  refine k_putF (pc := 39) (ci := 5) (C := RX5) (T := TX5) (N := 13) (ty := .array .boolean) (v := .ref (ad_37 6)) (w1 := (up (up (up (up (up (up (up w 1 (eQ (cA 4) 6 (fun _ => none))) 0 (oB 5 [.ref (ad_37 1), .ref (ad_37 2), .ref (ad_37 5), .ref (ad_37 6), .null, .null, .null, .null, .int (iI 0), .int (iI 0), .int (iI 0), .int (iI 0), .int (iI 0)])) 2 (oB 4 [.ref (ad_37 3), .ref (ad_37 4), .int (iI 0)])) 3 (eI (cA 0) 20 (fun _ => 0))) 4 (eI (cA 0) 20 (fun _ => 0))) 5 (eI (cA 0) 400 (fun _ => 0))) 6 (eI (cA 1) 400 (fun _ => 0)))) hx hb hts hi5 tyX5 tyX5_ok nmX5 hown hK hP hD hS 0 (up_n (by decide) (up_n (by decide) (up_n (by decide) (up_n (by decide) (up_n (by decide) (up_s _ _ _)))))) rfl 3 (by decide) hf26 (fun _ h9 => h9) rfl hin rfl (by decide +kernel) rfl rfl (Nat.le_of_ble_eq_true rfl) ((up_co _ _ _ (by decide)).trans (congrArg (fun u => up u 6 _) ((up_co _ _ _ (by decide)).trans (congrArg (fun u => up u 5 _) ((up_co _ _ _ (by decide)).trans (congrArg (fun u => up u 4 _) ((up_co _ _ _ (by decide)).trans (congrArg (fun u => up u 3 _) ((up_co _ _ _ (by decide)).trans (congrArg (fun u => up u 2 _) (up_up _ _ _ _))))))))))) dX5_init_39 (fun H locs hP hD hS => ?_)
  refine lv_aload_n (pc := 42) hx hb dX5_init_42 rfl (lv_at hl 0 rfl) ?_
  refine k_sipush (pc := 43) hx hb dX5_init_43 (by decide +kernel) ?_
  refine k_newZ (pc := 46) hx hb (hts (.arrayClass .boolean) (by decide +kernel)) hK hP hD hS hA 7 1 rfl 400 rfl (by decide) (Nat.le_of_ble_eq_true rfl) (Nat.le_of_ble_eq_true rfl) dX5_init_46 (fun q_46 H hP hD hS => ?_)
  obtain ⟨ad_46, hga_46⟩ : ∃ z9 : Nat → Nat, adN ad_37 7 q_46 = z9 := ⟨_, rfl⟩
  rw [hga_46] at hP hD
  have hnn_46 : ∀ j9 : Nat, j9 ≠ 7 → ad_37 j9 = ad_46 j9 := fun j9 h9_ => by rw [← hga_46, adN_n _ _ h9_]
  rw [show q_46 = ad_46 7 by rw [← hga_46, adN_s]]
  rw [hnn_46 1 (by omega)] at hP hD
  rw [hnn_46 2 (by omega)] at hP hD
  rw [hnn_46 5 (by omega)] at hP hD
  rw [hnn_46 6 (by omega)] at hP hD
  rw [hnn_46 3 (by omega)] at hP hD
  rw [hnn_46 4 (by omega)] at hP hD
  rw [hnn_46 0 (by omega)]
  rw [hnn_46 0 (by omega)] at hl
  refine W.eq (g2 := F0 m 48 ls [.ref (ad_46 7), .ref (ad_46 0)]) rfl ?_
  refine W.cs (cells' := 7) (slots' := 1249) rfl rfl ?_
  refine k_putF (pc := 48) (ci := 5) (C := RX5) (T := TX5) (N := 13) (ty := .array .boolean) (v := .ref (ad_46 7)) (w1 := (up (up (up (up (up (up (up (up w 1 (eQ (cA 4) 6 (fun _ => none))) 0 (oB 5 [.ref (ad_46 1), .ref (ad_46 2), .ref (ad_46 5), .ref (ad_46 6), .ref (ad_46 7), .null, .null, .null, .int (iI 0), .int (iI 0), .int (iI 0), .int (iI 0), .int (iI 0)])) 2 (oB 4 [.ref (ad_46 3), .ref (ad_46 4), .int (iI 0)])) 3 (eI (cA 0) 20 (fun _ => 0))) 4 (eI (cA 0) 20 (fun _ => 0))) 5 (eI (cA 0) 400 (fun _ => 0))) 6 (eI (cA 1) 400 (fun _ => 0))) 7 (eI (cA 1) 400 (fun _ => 0)))) hx hb hts hi5 tyX5 tyX5_ok nmX5 hown hK hP hD hS 0 (up_n (by decide) (up_n (by decide) (up_n (by decide) (up_n (by decide) (up_n (by decide) (up_n (by decide) (up_s _ _ _))))))) rfl 4 (by decide) hf30 (fun _ h9 => h9) rfl hin rfl (by decide +kernel) rfl rfl (Nat.le_of_ble_eq_true rfl) ((up_co _ _ _ (by decide)).trans (congrArg (fun u => up u 7 _) ((up_co _ _ _ (by decide)).trans (congrArg (fun u => up u 6 _) ((up_co _ _ _ (by decide)).trans (congrArg (fun u => up u 5 _) ((up_co _ _ _ (by decide)).trans (congrArg (fun u => up u 4 _) ((up_co _ _ _ (by decide)).trans (congrArg (fun u => up u 3 _) ((up_co _ _ _ (by decide)).trans (congrArg (fun u => up u 2 _) (up_up _ _ _ _))))))))))))) dX5_init_48 (fun H locs hP hD hS => ?_)
  refine lv_aload_n (pc := 51) hx hb dX5_init_51 rfl (lv_at hl 0 rfl) ?_
  refine k_bipush (pc := 52) hx hb dX5_init_52 (by decide +kernel) ?_
  refine k_anew (pc := 54) (own := RX5) hx hb hown (hts (.classLink RX5 33 RX2) (by decide +kernel)) hB.2.2.2.2.2.2.2.1 hK hP hD hS hA 8 5 rfl 40 rfl (by decide) (Nat.le_of_ble_eq_true rfl) (Nat.le_of_ble_eq_true rfl) dX5_init_54 (fun q_54 H hP hD hS => ?_)
  obtain ⟨ad_54, hga_54⟩ : ∃ z9 : Nat → Nat, adN ad_46 8 q_54 = z9 := ⟨_, rfl⟩
  rw [hga_54] at hP hD
  have hnn_54 : ∀ j9 : Nat, j9 ≠ 8 → ad_46 j9 = ad_54 j9 := fun j9 h9_ => by rw [← hga_54, adN_n _ _ h9_]
  rw [show q_54 = ad_54 8 by rw [← hga_54, adN_s]]
  rw [hnn_54 1 (by omega)] at hP hD
  rw [hnn_54 2 (by omega)] at hP hD
  rw [hnn_54 5 (by omega)] at hP hD
  rw [hnn_54 6 (by omega)] at hP hD
  rw [hnn_54 7 (by omega)] at hP hD
  rw [hnn_54 3 (by omega)] at hP hD
  rw [hnn_54 4 (by omega)] at hP hD
  rw [hnn_54 0 (by omega)]
  rw [hnn_54 0 (by omega)] at hl
  refine W.eq (g2 := F0 m 57 ls [.ref (ad_54 8), .ref (ad_54 0)]) rfl ?_
  refine W.cs (cells' := 8) (slots' := 1289) rfl rfl ?_
  refine k_putF (pc := 57) (ci := 5) (C := RX5) (T := TX5) (N := 13) (ty := .array (.object "GaugeBook$Measurement")) (v := .ref (ad_54 8)) (w1 := (up (up (up (up (up (up (up (up (up w 1 (eQ (cA 4) 6 (fun _ => none))) 0 (oB 5 [.ref (ad_54 1), .ref (ad_54 2), .ref (ad_54 5), .ref (ad_54 6), .ref (ad_54 7), .ref (ad_54 8), .null, .null, .int (iI 0), .int (iI 0), .int (iI 0), .int (iI 0), .int (iI 0)])) 2 (oB 4 [.ref (ad_54 3), .ref (ad_54 4), .int (iI 0)])) 3 (eI (cA 0) 20 (fun _ => 0))) 4 (eI (cA 0) 20 (fun _ => 0))) 5 (eI (cA 0) 400 (fun _ => 0))) 6 (eI (cA 1) 400 (fun _ => 0))) 7 (eI (cA 1) 400 (fun _ => 0))) 8 (eQ (cA 5) 40 (fun _ => none)))) hx hb hts hi5 tyX5 tyX5_ok nmX5 hown hK hP hD hS 0 (up_n (by decide) (up_n (by decide) (up_n (by decide) (up_n (by decide) (up_n (by decide) (up_n (by decide) (up_n (by decide) (up_s _ _ _)))))))) rfl 5 (by decide) hf35 (fun _ h9 => h9) rfl hin rfl (by decide +kernel) rfl rfl (Nat.le_of_ble_eq_true rfl) ((up_co _ _ _ (by decide)).trans (congrArg (fun u => up u 8 _) ((up_co _ _ _ (by decide)).trans (congrArg (fun u => up u 7 _) ((up_co _ _ _ (by decide)).trans (congrArg (fun u => up u 6 _) ((up_co _ _ _ (by decide)).trans (congrArg (fun u => up u 5 _) ((up_co _ _ _ (by decide)).trans (congrArg (fun u => up u 4 _) ((up_co _ _ _ (by decide)).trans (congrArg (fun u => up u 3 _) ((up_co _ _ _ (by decide)).trans (congrArg (fun u => up u 2 _) (up_up _ _ _ _))))))))))))))) dX5_init_57 (fun H locs hP hD hS => ?_)
  refine lv_aload_n (pc := 60) hx hb dX5_init_60 rfl (lv_at hl 0 rfl) ?_
  refine k_new (pc := 61) (own := RX5) (C := RX1) (T := TX1) (N := 2) (ci := 1) hx hb hts hi1 tyX1 tyX1_ok hown (hts (.classLink RX5 39 RX1) (by decide +kernel)) (hts (.instantiable RX1 2) (by decide +kernel)) (hts (.initialized RX1) (by decide +kernel)) hK hP hD hS hA rfl 9 (fs := [.null, .null]) (by intro j hj; rcases j with _ | _ | j <;> first | rfl | omega) (Nat.le_of_ble_eq_true rfl) (Nat.le_of_ble_eq_true rfl) dX5_init_61 (fun q_61 H hP hD hS => ?_)
  obtain ⟨ad_61, hga_61⟩ : ∃ z9 : Nat → Nat, adN ad_54 9 q_61 = z9 := ⟨_, rfl⟩
  rw [hga_61] at hP hD
  have hnn_61 : ∀ j9 : Nat, j9 ≠ 9 → ad_54 j9 = ad_61 j9 := fun j9 h9_ => by rw [← hga_61, adN_n _ _ h9_]
  rw [show q_61 = ad_61 9 by rw [← hga_61, adN_s]]
  rw [hnn_61 1 (by omega)] at hP hD
  rw [hnn_61 2 (by omega)] at hP hD
  rw [hnn_61 5 (by omega)] at hP hD
  rw [hnn_61 6 (by omega)] at hP hD
  rw [hnn_61 7 (by omega)] at hP hD
  rw [hnn_61 8 (by omega)] at hP hD
  rw [hnn_61 3 (by omega)] at hP hD
  rw [hnn_61 4 (by omega)] at hP hD
  rw [hnn_61 0 (by omega)]
  rw [hnn_61 0 (by omega)] at hl
  refine W.eq (g2 := F0 m 64 ls [.ref (ad_61 9), .ref (ad_61 0)]) rfl ?_
  refine W.cs (cells' := 9) (slots' := 1291) rfl rfl ?_
  refine lv_dup (pc := 64) hx hb dX5_init_64 rfl ?_
  refine k_call1 (pc := 65) (va_runI (As := []) (rest := [.ref (ad_61 9), .ref (ad_61 0)]) ⟨hx, hb, hml, hown, hts⟩ (c_X1_init l D cA ad_61 (up (up (up (up (up (up (up (up (up (up w 1 (eQ (cA 4) 6 (fun _ => none))) 0 (oB 5 [.ref (ad_61 1), .ref (ad_61 2), .ref (ad_61 5), .ref (ad_61 6), .ref (ad_61 7), .ref (ad_61 8), .null, .null, .int (iI 0), .int (iI 0), .int (iI 0), .int (iI 0), .int (iI 0)])) 2 (oB 4 [.ref (ad_61 3), .ref (ad_61 4), .int (iI 0)])) 3 (eI (cA 0) 20 (fun _ => 0))) 4 (eI (cA 0) 20 (fun _ => 0))) 5 (eI (cA 0) 400 (fun _ => 0))) 6 (eI (cA 1) 400 (fun _ => 0))) 7 (eI (cA 1) 400 (fun _ => 0))) 8 (eQ (cA 5) 40 (fun _ => none))) 9 (oB 1 [.null, .null])) H.size 9 10 11 (up_s _ _ _) (by omega) (by omega) (by omega)) (cwI 0 hts gX5_init_X1_init rfl rfl rfl (hts (.initialized RX1) (by decide +kernel)) (hts (.methodLink RX5 41 yX1_init) (by decide +kernel)) (hts (.instanceMethod yX1_init) (by decide +kernel)) rfl (by decide +kernel) ⟨Nat.le_of_ble_eq_true rfl, Nat.le_of_ble_eq_true rfl⟩) (gV_S hP hD hK hB hS hA hZ) rfl rfl hl.1 rfl (lv_room (Nat.le_of_ble_eq_true rfl)) dX5_init_65 ⟨Nat.le_of_ble_eq_true rfl, Nat.le_of_ble_eq_true rfl⟩) hS (gA_sub hD hS hA) (fun v_65 ad_65 w_65 H locs hv_65 hP hD hS => ?_)
  obtain ⟨hv1, hnn_65, hv3⟩ := hv_65
  subst hv1
  rw [hv3] at hP hD
  rw [hnn_65 1 (by omega)] at hP hD
  rw [hnn_65 2 (by omega)] at hP hD
  rw [hnn_65 5 (by omega)] at hP hD
  rw [hnn_65 6 (by omega)] at hP hD
  rw [hnn_65 7 (by omega)] at hP hD
  rw [hnn_65 8 (by omega)] at hP hD
  rw [hnn_65 3 (by omega)] at hP hD
  rw [hnn_65 4 (by omega)] at hP hD
  rw [hnn_65 9 (by omega)]
  rw [hnn_65 0 (by omega)]
  rw [hnn_65 0 (by omega)] at hl
  rw [show up ((up (up (up (up (up (up (up (up (up (up (up w 1 (eQ (cA 4) 6 (fun _ => none))) 0 (oB 5 [.ref (ad_65 1), .ref (ad_65 2), .ref (ad_65 5), .ref (ad_65 6), .ref (ad_65 7), .ref (ad_65 8), .null, .null, .int (iI 0), .int (iI 0), .int (iI 0), .int (iI 0), .int (iI 0)])) 2 (oB 4 [.ref (ad_65 3), .ref (ad_65 4), .int (iI 0)])) 3 (eI (cA 0) 20 (fun _ => 0))) 4 (eI (cA 0) 20 (fun _ => 0))) 5 (eI (cA 0) 400 (fun _ => 0))) 6 (eI (cA 1) 400 (fun _ => 0))) 7 (eI (cA 1) 400 (fun _ => 0))) 8 (eQ (cA 5) 40 (fun _ => none))) 9 (oB 1 [.null, .null])) 10 (eJ (cA 2) 400 (fun _ => 0)))) 9 (oB 1 [.ref (ad_65 10), .ref (ad_65 11)]) = _ from ((up_co _ _ _ (by decide)).trans (congrArg (fun u => up u 10 _) (up_up _ _ _ _)))] at hP hD
  refine W.eq (g2 := F0 m 68 ls [.ref (ad_65 9), .ref (ad_65 0)]) rfl ?_
  refine W.cs (cells' := 11) (slots' := 2091) rfl rfl ?_
  refine k_putF (pc := 68) (ci := 5) (C := RX5) (T := TX5) (N := 13) (ty := .object "GaugeBook$FlowTable") (v := .ref (ad_65 9)) (w1 := (up (up (up (up (up (up (up (up (up (up (up (up w 1 (eQ (cA 4) 6 (fun _ => none))) 0 (oB 5 [.ref (ad_65 1), .ref (ad_65 2), .ref (ad_65 5), .ref (ad_65 6), .ref (ad_65 7), .ref (ad_65 8), .ref (ad_65 9), .null, .int (iI 0), .int (iI 0), .int (iI 0), .int (iI 0), .int (iI 0)])) 2 (oB 4 [.ref (ad_65 3), .ref (ad_65 4), .int (iI 0)])) 3 (eI (cA 0) 20 (fun _ => 0))) 4 (eI (cA 0) 20 (fun _ => 0))) 5 (eI (cA 0) 400 (fun _ => 0))) 6 (eI (cA 1) 400 (fun _ => 0))) 7 (eI (cA 1) 400 (fun _ => 0))) 8 (eQ (cA 5) 40 (fun _ => none))) 9 (oB 1 [.ref (ad_65 10), .ref (ad_65 11)])) 10 (eJ (cA 2) 400 (fun _ => 0))) 11 (eI (cA 0) 400 (fun _ => 0)))) hx hb hts hi5 tyX5 tyX5_ok nmX5 hown hK hP hD hS 0 (up_n (by decide) (up_n (by decide) (up_n (by decide) (up_n (by decide) (up_n (by decide) (up_n (by decide) (up_n (by decide) (up_n (by decide) (up_n (by decide) (up_n (by decide) (up_s _ _ _))))))))))) rfl 6 (by decide) hf42 (fun _ h9 => h9) rfl hin rfl (by decide +kernel) rfl rfl (Nat.le_of_ble_eq_true rfl) ((up_co _ _ _ (by decide)).trans (congrArg (fun u => up u 11 _) ((up_co _ _ _ (by decide)).trans (congrArg (fun u => up u 10 _) ((up_co _ _ _ (by decide)).trans (congrArg (fun u => up u 9 _) ((up_co _ _ _ (by decide)).trans (congrArg (fun u => up u 8 _) ((up_co _ _ _ (by decide)).trans (congrArg (fun u => up u 7 _) ((up_co _ _ _ (by decide)).trans (congrArg (fun u => up u 6 _) ((up_co _ _ _ (by decide)).trans (congrArg (fun u => up u 5 _) ((up_co _ _ _ (by decide)).trans (congrArg (fun u => up u 4 _) ((up_co _ _ _ (by decide)).trans (congrArg (fun u => up u 3 _) ((up_co _ _ _ (by decide)).trans (congrArg (fun u => up u 2 _) (up_up _ _ _ _))))))))))))))))))))) dX5_init_68 (fun H locs hP hD hS => ?_)
  refine lv_aload_n (pc := 71) hx hb dX5_init_71 rfl (lv_at hl 0 rfl) ?_
  refine k_new (pc := 72) (own := RX5) (C := RX3) (T := TX3) (N := 4) (ci := 3) hx hb hts hi3 tyX3 tyX3_ok hown (hts (.classLink RX5 46 RX3) (by decide +kernel)) (hts (.instantiable RX3 4) (by decide +kernel)) (hts (.initialized RX3) (by decide +kernel)) hK hP hD hS hA rfl 12 (fs := [.null, .null, .null, .int (iI 0)]) (by intro j hj; rcases j with _ | _ | _ | _ | j <;> first | rfl | omega) (Nat.le_of_ble_eq_true rfl) (Nat.le_of_ble_eq_true rfl) dX5_init_72 (fun q_72 H hP hD hS => ?_)
  obtain ⟨ad_72, hga_72⟩ : ∃ z9 : Nat → Nat, adN ad_65 12 q_72 = z9 := ⟨_, rfl⟩
  rw [hga_72] at hP hD
  have hnn_72 : ∀ j9 : Nat, j9 ≠ 12 → ad_65 j9 = ad_72 j9 := fun j9 h9_ => by rw [← hga_72, adN_n _ _ h9_]
  rw [show q_72 = ad_72 12 by rw [← hga_72, adN_s]]
  rw [hnn_72 1 (by omega)] at hP hD
  rw [hnn_72 2 (by omega)] at hP hD
  rw [hnn_72 5 (by omega)] at hP hD
  rw [hnn_72 6 (by omega)] at hP hD
  rw [hnn_72 7 (by omega)] at hP hD
  rw [hnn_72 8 (by omega)] at hP hD
  rw [hnn_72 9 (by omega)] at hP hD
  rw [hnn_72 3 (by omega)] at hP hD
  rw [hnn_72 4 (by omega)] at hP hD
  rw [hnn_72 10 (by omega)] at hP hD
  rw [hnn_72 11 (by omega)] at hP hD
  rw [hnn_72 0 (by omega)]
  rw [hnn_72 0 (by omega)] at hl
  refine W.eq (g2 := F0 m 75 ls [.ref (ad_72 12), .ref (ad_72 0)]) rfl ?_
  refine W.cs (cells' := 12) (slots' := 2095) rfl rfl ?_
  refine lv_dup (pc := 75) hx hb dX5_init_75 rfl ?_
  refine k_call1 (pc := 76) (va_runI (As := []) (rest := [.ref (ad_72 12), .ref (ad_72 0)]) ⟨hx, hb, hml, hown, hts⟩ (c_X3_init l D cA ad_72 (up (up (up (up (up (up (up (up (up (up (up (up (up w 1 (eQ (cA 4) 6 (fun _ => none))) 0 (oB 5 [.ref (ad_72 1), .ref (ad_72 2), .ref (ad_72 5), .ref (ad_72 6), .ref (ad_72 7), .ref (ad_72 8), .ref (ad_72 9), .null, .int (iI 0), .int (iI 0), .int (iI 0), .int (iI 0), .int (iI 0)])) 2 (oB 4 [.ref (ad_72 3), .ref (ad_72 4), .int (iI 0)])) 3 (eI (cA 0) 20 (fun _ => 0))) 4 (eI (cA 0) 20 (fun _ => 0))) 5 (eI (cA 0) 400 (fun _ => 0))) 6 (eI (cA 1) 400 (fun _ => 0))) 7 (eI (cA 1) 400 (fun _ => 0))) 8 (eQ (cA 5) 40 (fun _ => none))) 9 (oB 1 [.ref (ad_72 10), .ref (ad_72 11)])) 10 (eJ (cA 2) 400 (fun _ => 0))) 11 (eI (cA 0) 400 (fun _ => 0))) 12 (oB 3 [.null, .null, .null, .int (iI 0)])) H.size 12 13 14 15 (up_s _ _ _) (by omega) (by omega) (by omega) (by omega) (by omega) (by omega)) (cwI 0 hts gX5_init_X3_init rfl rfl rfl (hts (.initialized RX3) (by decide +kernel)) (hts (.methodLink RX5 48 yX3_init) (by decide +kernel)) (hts (.instanceMethod yX3_init) (by decide +kernel)) rfl (by decide +kernel) ⟨Nat.le_of_ble_eq_true rfl, Nat.le_of_ble_eq_true rfl⟩) (gV_S hP hD hK hB hS hA hZ) rfl rfl hl.1 rfl (lv_room (Nat.le_of_ble_eq_true rfl)) dX5_init_76 ⟨Nat.le_of_ble_eq_true rfl, Nat.le_of_ble_eq_true rfl⟩) hS (gA_sub hD hS hA) (fun v_76 ad_76 w_76 H locs hv_76 hP hD hS => ?_)
  obtain ⟨hv1, hnn_76, hv3⟩ := hv_76
  subst hv1
  rw [hv3] at hP hD
  rw [hnn_76 1 (by omega)] at hP hD
  rw [hnn_76 2 (by omega)] at hP hD
  rw [hnn_76 5 (by omega)] at hP hD
  rw [hnn_76 6 (by omega)] at hP hD
  rw [hnn_76 7 (by omega)] at hP hD
  rw [hnn_76 8 (by omega)] at hP hD
  rw [hnn_76 9 (by omega)] at hP hD
  rw [hnn_76 3 (by omega)] at hP hD
  rw [hnn_76 4 (by omega)] at hP hD
  rw [hnn_76 10 (by omega)] at hP hD
  rw [hnn_76 11 (by omega)] at hP hD
  rw [hnn_76 12 (by omega)]
  rw [hnn_76 0 (by omega)]
  rw [hnn_76 0 (by omega)] at hl
  rw [show up ((up (up (up (up (up (up (up (up (up (up (up (up (up (up w 1 (eQ (cA 4) 6 (fun _ => none))) 0 (oB 5 [.ref (ad_76 1), .ref (ad_76 2), .ref (ad_76 5), .ref (ad_76 6), .ref (ad_76 7), .ref (ad_76 8), .ref (ad_76 9), .null, .int (iI 0), .int (iI 0), .int (iI 0), .int (iI 0), .int (iI 0)])) 2 (oB 4 [.ref (ad_76 3), .ref (ad_76 4), .int (iI 0)])) 3 (eI (cA 0) 20 (fun _ => 0))) 4 (eI (cA 0) 20 (fun _ => 0))) 5 (eI (cA 0) 400 (fun _ => 0))) 6 (eI (cA 1) 400 (fun _ => 0))) 7 (eI (cA 1) 400 (fun _ => 0))) 8 (eQ (cA 5) 40 (fun _ => none))) 9 (oB 1 [.ref (ad_76 10), .ref (ad_76 11)])) 10 (eJ (cA 2) 400 (fun _ => 0))) 11 (eI (cA 0) 400 (fun _ => 0))) 12 (oB 3 [.null, .null, .null, .int (iI 0)])) 13 (eI (cA 0) 400 (fun _ => 0)))) 12 (oB 3 [.ref (ad_76 13), .ref (ad_76 14), .ref (ad_76 15), .int (iI 0)]) = _ from ((up_co _ _ _ (by decide)).trans (congrArg (fun u => up u 13 _) (up_up _ _ _ _)))] at hP hD
  refine W.eq (g2 := F0 m 79 ls [.ref (ad_76 12), .ref (ad_76 0)]) rfl ?_
  refine W.cs (cells' := 15) (slots' := 3295) rfl rfl ?_
  refine k_putF (pc := 79) (ci := 5) (C := RX5) (T := TX5) (N := 13) (ty := .object "GaugeBook$Ranking") (v := .ref (ad_76 12)) (w1 := (up (up (up (up (up (up (up (up (up (up (up (up (up (up (up (up w 1 (eQ (cA 4) 6 (fun _ => none))) 0 (oB 5 [.ref (ad_76 1), .ref (ad_76 2), .ref (ad_76 5), .ref (ad_76 6), .ref (ad_76 7), .ref (ad_76 8), .ref (ad_76 9), .ref (ad_76 12), .int (iI 0), .int (iI 0), .int (iI 0), .int (iI 0), .int (iI 0)])) 2 (oB 4 [.ref (ad_76 3), .ref (ad_76 4), .int (iI 0)])) 3 (eI (cA 0) 20 (fun _ => 0))) 4 (eI (cA 0) 20 (fun _ => 0))) 5 (eI (cA 0) 400 (fun _ => 0))) 6 (eI (cA 1) 400 (fun _ => 0))) 7 (eI (cA 1) 400 (fun _ => 0))) 8 (eQ (cA 5) 40 (fun _ => none))) 9 (oB 1 [.ref (ad_76 10), .ref (ad_76 11)])) 10 (eJ (cA 2) 400 (fun _ => 0))) 11 (eI (cA 0) 400 (fun _ => 0))) 12 (oB 3 [.ref (ad_76 13), .ref (ad_76 14), .ref (ad_76 15), .int (iI 0)])) 13 (eI (cA 0) 400 (fun _ => 0))) 14 (eI (cA 0) 400 (fun _ => 0))) 15 (eI (cA 1) 400 (fun _ => 0)))) hx hb hts hi5 tyX5 tyX5_ok nmX5 hown hK hP hD hS 0 (up_n (by decide) (up_n (by decide) (up_n (by decide) (up_n (by decide) (up_n (by decide) (up_n (by decide) (up_n (by decide) (up_n (by decide) (up_n (by decide) (up_n (by decide) (up_n (by decide) (up_n (by decide) (up_n (by decide) (up_n (by decide) (up_s _ _ _))))))))))))))) rfl 7 (by decide) hf49 (fun _ h9 => h9) rfl hin rfl (by decide +kernel) rfl rfl (Nat.le_of_ble_eq_true rfl) ((up_co _ _ _ (by decide)).trans (congrArg (fun u => up u 15 _) ((up_co _ _ _ (by decide)).trans (congrArg (fun u => up u 14 _) ((up_co _ _ _ (by decide)).trans (congrArg (fun u => up u 13 _) ((up_co _ _ _ (by decide)).trans (congrArg (fun u => up u 12 _) ((up_co _ _ _ (by decide)).trans (congrArg (fun u => up u 11 _) ((up_co _ _ _ (by decide)).trans (congrArg (fun u => up u 10 _) ((up_co _ _ _ (by decide)).trans (congrArg (fun u => up u 9 _) ((up_co _ _ _ (by decide)).trans (congrArg (fun u => up u 8 _) ((up_co _ _ _ (by decide)).trans (congrArg (fun u => up u 7 _) ((up_co _ _ _ (by decide)).trans (congrArg (fun u => up u 6 _) ((up_co _ _ _ (by decide)).trans (congrArg (fun u => up u 5 _) ((up_co _ _ _ (by decide)).trans (congrArg (fun u => up u 4 _) ((up_co _ _ _ (by decide)).trans (congrArg (fun u => up u 3 _) ((up_co _ _ _ (by decide)).trans (congrArg (fun u => up u 2 _) (up_up _ _ _ _))))))))))))))))))))))))))))) dX5_init_79 (fun H locs hP hD hS => ?_)
  refine lv_aload_n (pc := 82) hx hb dX5_init_82 rfl (lv_at hl 0 rfl) ?_
  refine k_bipush (pc := 83) hx hb dX5_init_83 (by decide +kernel) ?_
  refine k_put (pc := 85) (ci := 5) (C := RX5) (T := TX5) (N := 13) (ty := .int) (v := .int (iI 60)) (w1 := (up (up (up (up (up (up (up (up (up (up (up (up (up (up (up (up w 1 (eQ (cA 4) 6 (fun _ => none))) 0 (oB 5 [.ref (ad_76 1), .ref (ad_76 2), .ref (ad_76 5), .ref (ad_76 6), .ref (ad_76 7), .ref (ad_76 8), .ref (ad_76 9), .ref (ad_76 12), .int (iI 0), .int (iI 0), .int (iI 60), .int (iI 0), .int (iI 0)])) 2 (oB 4 [.ref (ad_76 3), .ref (ad_76 4), .int (iI 0)])) 3 (eI (cA 0) 20 (fun _ => 0))) 4 (eI (cA 0) 20 (fun _ => 0))) 5 (eI (cA 0) 400 (fun _ => 0))) 6 (eI (cA 1) 400 (fun _ => 0))) 7 (eI (cA 1) 400 (fun _ => 0))) 8 (eQ (cA 5) 40 (fun _ => none))) 9 (oB 1 [.ref (ad_76 10), .ref (ad_76 11)])) 10 (eJ (cA 2) 400 (fun _ => 0))) 11 (eI (cA 0) 400 (fun _ => 0))) 12 (oB 3 [.ref (ad_76 13), .ref (ad_76 14), .ref (ad_76 15), .int (iI 0)])) 13 (eI (cA 0) 400 (fun _ => 0))) 14 (eI (cA 0) 400 (fun _ => 0))) 15 (eI (cA 1) 400 (fun _ => 0)))) hx hb hts hi5 tyX5 tyX5_ok nmX5 hown hK hP hD hS 0 (up_n (by decide) (up_n (by decide) (up_n (by decide) (up_n (by decide) (up_n (by decide) (up_n (by decide) (up_n (by decide) (up_n (by decide) (up_n (by decide) (up_n (by decide) (up_n (by decide) (up_n (by decide) (up_n (by decide) (up_n (by decide) (up_s _ _ _))))))))))))))) rfl 10 (by decide) hf53 (fun _ h9 => h9) rfl (by decide +kernel) rfl rfl (Nat.le_of_ble_eq_true rfl) ((up_co _ _ _ (by decide)).trans (congrArg (fun u => up u 15 _) ((up_co _ _ _ (by decide)).trans (congrArg (fun u => up u 14 _) ((up_co _ _ _ (by decide)).trans (congrArg (fun u => up u 13 _) ((up_co _ _ _ (by decide)).trans (congrArg (fun u => up u 12 _) ((up_co _ _ _ (by decide)).trans (congrArg (fun u => up u 11 _) ((up_co _ _ _ (by decide)).trans (congrArg (fun u => up u 10 _) ((up_co _ _ _ (by decide)).trans (congrArg (fun u => up u 9 _) ((up_co _ _ _ (by decide)).trans (congrArg (fun u => up u 8 _) ((up_co _ _ _ (by decide)).trans (congrArg (fun u => up u 7 _) ((up_co _ _ _ (by decide)).trans (congrArg (fun u => up u 6 _) ((up_co _ _ _ (by decide)).trans (congrArg (fun u => up u 5 _) ((up_co _ _ _ (by decide)).trans (congrArg (fun u => up u 4 _) ((up_co _ _ _ (by decide)).trans (congrArg (fun u => up u 3 _) ((up_co _ _ _ (by decide)).trans (congrArg (fun u => up u 2 _) (up_up _ _ _ _))))))))))))))))))))))))))))) dX5_init_85 (fun H locs hP hD hS => ?_)
  refine lv_aload_n (pc := 88) hx hb dX5_init_88 rfl (lv_at hl 0 rfl) ?_
  refine k_iconst (pc := 89) hx hb dX5_init_89 ?_
  refine k_put (pc := 90) (ci := 5) (C := RX5) (T := TX5) (N := 13) (ty := .int) (v := .int (iI 5)) (w1 := (up (up (up (up (up (up (up (up (up (up (up (up (up (up (up (up w 1 (eQ (cA 4) 6 (fun _ => none))) 0 (oB 5 [.ref (ad_76 1), .ref (ad_76 2), .ref (ad_76 5), .ref (ad_76 6), .ref (ad_76 7), .ref (ad_76 8), .ref (ad_76 9), .ref (ad_76 12), .int (iI 0), .int (iI 0), .int (iI 60), .int (iI 5), .int (iI 0)])) 2 (oB 4 [.ref (ad_76 3), .ref (ad_76 4), .int (iI 0)])) 3 (eI (cA 0) 20 (fun _ => 0))) 4 (eI (cA 0) 20 (fun _ => 0))) 5 (eI (cA 0) 400 (fun _ => 0))) 6 (eI (cA 1) 400 (fun _ => 0))) 7 (eI (cA 1) 400 (fun _ => 0))) 8 (eQ (cA 5) 40 (fun _ => none))) 9 (oB 1 [.ref (ad_76 10), .ref (ad_76 11)])) 10 (eJ (cA 2) 400 (fun _ => 0))) 11 (eI (cA 0) 400 (fun _ => 0))) 12 (oB 3 [.ref (ad_76 13), .ref (ad_76 14), .ref (ad_76 15), .int (iI 0)])) 13 (eI (cA 0) 400 (fun _ => 0))) 14 (eI (cA 0) 400 (fun _ => 0))) 15 (eI (cA 1) 400 (fun _ => 0)))) hx hb hts hi5 tyX5 tyX5_ok nmX5 hown hK hP hD hS 0 (up_n (by decide) (up_n (by decide) (up_n (by decide) (up_n (by decide) (up_n (by decide) (up_n (by decide) (up_n (by decide) (up_n (by decide) (up_n (by decide) (up_n (by decide) (up_n (by decide) (up_n (by decide) (up_n (by decide) (up_n (by decide) (up_s _ _ _))))))))))))))) rfl 11 (by decide) hf57 (fun _ h9 => h9) rfl (by decide +kernel) rfl rfl (Nat.le_of_ble_eq_true rfl) ((up_co _ _ _ (by decide)).trans (congrArg (fun u => up u 15 _) ((up_co _ _ _ (by decide)).trans (congrArg (fun u => up u 14 _) ((up_co _ _ _ (by decide)).trans (congrArg (fun u => up u 13 _) ((up_co _ _ _ (by decide)).trans (congrArg (fun u => up u 12 _) ((up_co _ _ _ (by decide)).trans (congrArg (fun u => up u 11 _) ((up_co _ _ _ (by decide)).trans (congrArg (fun u => up u 10 _) ((up_co _ _ _ (by decide)).trans (congrArg (fun u => up u 9 _) ((up_co _ _ _ (by decide)).trans (congrArg (fun u => up u 8 _) ((up_co _ _ _ (by decide)).trans (congrArg (fun u => up u 7 _) ((up_co _ _ _ (by decide)).trans (congrArg (fun u => up u 6 _) ((up_co _ _ _ (by decide)).trans (congrArg (fun u => up u 5 _) ((up_co _ _ _ (by decide)).trans (congrArg (fun u => up u 4 _) ((up_co _ _ _ (by decide)).trans (congrArg (fun u => up u 3 _) ((up_co _ _ _ (by decide)).trans (congrArg (fun u => up u 2 _) (up_up _ _ _ _))))))))))))))))))))))))))))) dX5_init_90 (fun H locs hP hD hS => ?_)
  have hbk2 : bookS cA ad_76 (up (up (up (up (up (up (up (up (up (up (up (up (up (up (up (up w 1 (eQ (cA 4) 6 (fun _ => none))) 0 (oB 5 [.ref (ad_76 1), .ref (ad_76 2), .ref (ad_76 5), .ref (ad_76 6), .ref (ad_76 7), .ref (ad_76 8), .ref (ad_76 9), .ref (ad_76 12), .int (iI 0), .int (iI 0), .int (iI 60), .int (iI 5), .int (iI 0)])) 2 (oB 4 [.ref (ad_76 3), .ref (ad_76 4), .int (iI 0)])) 3 (eI (cA 0) 20 (fun _ => 0))) 4 (eI (cA 0) 20 (fun _ => 0))) 5 (eI (cA 0) 400 (fun _ => 0))) 6 (eI (cA 1) 400 (fun _ => 0))) 7 (eI (cA 1) 400 (fun _ => 0))) 8 (eQ (cA 5) 40 (fun _ => none))) 9 (oB 1 [.ref (ad_76 10), .ref (ad_76 11)])) 10 (eJ (cA 2) 400 (fun _ => 0))) 11 (eI (cA 0) 400 (fun _ => 0))) 12 (oB 3 [.ref (ad_76 13), .ref (ad_76 14), .ref (ad_76 15), .int (iI 0)])) 13 (eI (cA 0) 400 (fun _ => 0))) 14 (eI (cA 0) 400 (fun _ => 0))) 15 (eI (cA 1) 400 (fun _ => 0))) sc00 fn00 := ⟨0, fun _ => 0, fun _ => 0, 0, fun _ => 0, fun _ => 0, fun _ => 0, ⟨(up_n (by decide) (up_n (by decide) (up_n (by decide) (up_n (by decide) (up_n (by decide) (up_n (by decide) (up_n (by decide) (up_n (by decide) (up_n (by decide) (up_n (by decide) (up_n (by decide) (up_n (by decide) (up_n (by decide) (up_n (by decide) (up_s _ _ _))))))))))))))), ((up_n (by decide) (up_n (by decide) (up_n (by decide) (up_n (by decide) (up_n (by decide) (up_n (by decide) (up_n (by decide) (up_n (by decide) (up_n (by decide) (up_n (by decide) (up_n (by decide) (up_n (by decide) (up_n (by decide) (up_n (by decide) (up_n (by decide) (up_s _ _ _)))))))))))))))).trans (by rw [none6 ad_76])), (up_n (by decide) (up_n (by decide) (up_n (by decide) (up_n (by decide) (up_n (by decide) (up_n (by decide) (up_n (by decide) (up_n (by decide) (up_n (by decide) (up_n (by decide) (up_n (by decide) (up_n (by decide) (up_n (by decide) (up_s _ _ _)))))))))))))), (up_n (by decide) (up_n (by decide) (up_n (by decide) (up_n (by decide) (up_n (by decide) (up_n (by decide) (up_n (by decide) (up_n (by decide) (up_n (by decide) (up_n (by decide) (up_n (by decide) (up_n (by decide) (up_s _ _ _))))))))))))), (up_n (by decide) (up_n (by decide) (up_n (by decide) (up_n (by decide) (up_n (by decide) (up_n (by decide) (up_n (by decide) (up_n (by decide) (up_n (by decide) (up_n (by decide) (up_n (by decide) (up_s _ _ _)))))))))))), (up_n (by decide) (up_n (by decide) (up_n (by decide) (up_n (by decide) (up_n (by decide) (up_n (by decide) (up_n (by decide) (up_n (by decide) (up_n (by decide) (up_n (by decide) (up_s _ _ _))))))))))), (up_n (by decide) (up_n (by decide) (up_n (by decide) (up_n (by decide) (up_n (by decide) (up_n (by decide) (up_n (by decide) (up_n (by decide) (up_n (by decide) (up_s _ _ _)))))))))), (up_n (by decide) (up_n (by decide) (up_n (by decide) (up_n (by decide) (up_n (by decide) (up_n (by decide) (up_n (by decide) (up_n (by decide) (up_s _ _ _))))))))), ((up_n (by decide) (up_n (by decide) (up_n (by decide) (up_n (by decide) (up_n (by decide) (up_n (by decide) (up_n (by decide) (up_s _ _ _)))))))).trans (by rw [none40 ad_76])), (up_n (by decide) (up_n (by decide) (up_n (by decide) (up_n (by decide) (up_n (by decide) (up_n (by decide) (up_s _ _ _))))))), (up_n (by decide) (up_n (by decide) (up_n (by decide) (up_n (by decide) (up_n (by decide) (up_s _ _ _)))))), (up_n (by decide) (up_n (by decide) (up_n (by decide) (up_n (by decide) (up_s _ _ _))))), (up_n (by decide) (up_n (by decide) (up_n (by decide) (up_s _ _ _)))), (up_n (by decide) (up_n (by decide) (up_s _ _ _))), (up_n (by decide) (up_s _ _ _)), (up_s _ _ _), (fun k9 hk9 => by have h9_ : (k9 : Int) < 0 := hk9; omega), (fun k9 hk9 => by have h9_ : (k9 : Int) < 0 := hk9; omega)⟩, Or.inl rfl, fun _ => (show (-1 : Int) ≤ 0 ∧ (0 : Int) ≤ 1000000000000 by omega), fun _ => (show (0 : Int) ≤ 0 ∧ (0 : Int) ≤ 3 by omega)⟩
  have hn_all : ∀ j : Nat, (j = 0 ∨ 200 ≤ j) → ad j = ad_76 j := fun j h => by rw [hnn_7 j (by omega), hnn_14 j (by omega), hnn_18 j (by omega), hnn_28 j (by omega), hnn_37 j (by omega), hnn_46 j (by omega), hnn_54 j (by omega), hnn_61 j (by omega), hnn_65 j (by omega), hnn_72 j (by omega), hnn_76 j (by omega)]
  rw [hQ9]
  refine W.widen (k := 16) (n := 4300) (by decide) (by decide) ?_
  exact W.vret hx hb hret (fun t ht hW => ⟨⟨none, ad_76, (up (up (up (up (up (up (up (up (up (up (up (up (up (up (up (up w 1 (eQ (cA 4) 6 (fun _ => none))) 0 (oB 5 [.ref (ad_76 1), .ref (ad_76 2), .ref (ad_76 5), .ref (ad_76 6), .ref (ad_76 7), .ref (ad_76 8), .ref (ad_76 9), .ref (ad_76 12), .int (iI 0), .int (iI 0), .int (iI 60), .int (iI 5), .int (iI 0)])) 2 (oB 4 [.ref (ad_76 3), .ref (ad_76 4), .int (iI 0)])) 3 (eI (cA 0) 20 (fun _ => 0))) 4 (eI (cA 0) 20 (fun _ => 0))) 5 (eI (cA 0) 400 (fun _ => 0))) 6 (eI (cA 1) 400 (fun _ => 0))) 7 (eI (cA 1) 400 (fun _ => 0))) 8 (eQ (cA 5) 40 (fun _ => none))) 9 (oB 1 [.ref (ad_76 10), .ref (ad_76 11)])) 10 (eJ (cA 2) 400 (fun _ => 0))) 11 (eI (cA 0) 400 (fun _ => 0))) 12 (oB 3 [.ref (ad_76 13), .ref (ad_76 14), .ref (ad_76 15), .int (iI 0)])) 13 (eI (cA 0) 400 (fun _ => 0))) 14 (eI (cA 0) 400 (fun _ => 0))) 15 (eI (cA 1) 400 (fun _ => 0))), rfl, ⟨hbk2, ⟨(hn_all 0 (by omega)).symm, fun r hr => ⟨(up_n (by omega) (up_n (by omega) (up_n (by omega) (up_n (by omega) (up_n (by omega) (up_n (by omega) (up_n (by omega) (up_n (by omega) (up_n (by omega) (up_n (by omega) (up_n (by omega) (up_n (by omega) (up_n (by omega) (up_n (by omega) (up_n (by omega) (up_n (by omega) rfl)))))))))))))))), (hn_all r (by omega)).symm⟩⟩, rfl⟩, by rw [ht]; exact hP, hD⟩, hS.F ht⟩) hS.2.2 dX5_init_93
