theorem sumT_b {F S : Int → Int} (h : ∀ j : Int, -1 ≤ F j ∧ F j ≤ 1000000000000) (fr : Int) : ∀ k : Nat, -(k : Int) ≤ sumT F S fr k ∧ sumT F S fr k ≤ 1000000000000 * (k : Int)
  | 0 => by simp [sumT]
  | k + 1 => by
    have a := sumT_b (S := S) h fr k
    have b := h (fr + k)
    unfold sumT
    by_cases c : S (fr + k) ≠ 0
    · rw [if_pos c]
      omega
    · rw [if_neg c]
      omega
/-- what mean() tells -/
def mnV (F S : Int → Int) (fr to_ : Int) : UInt64 := if cntT S fr (to_ + 1 - fr).toNat = 0 then FP.dconst0 else FP.ddiv (FP.l2d (lI (sumT F S fr (to_ + 1 - fr).toNat))) (FP.l2d (lI (cntT S fr (to_ + 1 - fr).toNat)))
theorem mnV_0 {F S : Int → Int} {fr to_ n : Int} (e : n = cntT S fr (to_ + 1 - fr).toNat) (h : n = 0) : FP.dconst0 = mnV F S fr to_ := by
  unfold mnV
  rw [if_pos (by omega)]
theorem mnV_1 {F S : Int → Int} {fr to_ n x : Int} (e : n = cntT S fr (to_ + 1 - fr).toNat) (e2 : x = sumT F S fr (to_ + 1 - fr).toNat) (h : n ≠ 0) (hn : 0 ≤ n ∧ n ≤ 400) : FP.ddiv (FP.l2d (lI x)) (FP.i2d (iI n)) = mnV F S fr to_ := by
  unfold mnV
  rw [if_neg (by omega), fp_il hn, e, e2]


abbrev rmX5_reached : Room := { frames := 6, cells := 2, slots := 12, locals := 113 }
theorem hxwX5_reached_xIA_116 : ∀ w ∈ (vx_atS RX5 116 xIA ["java/lang/RuntimeException", "java/lang/Exception"]).filter goodWord, w ∈ wsX5_reached := by decide +kernel
theorem hiX5_reached_5 : ∀ w ∈ wsX50, w ∈ wsX5_reached := by decide +kernel
set_option maxHeartbeats 4000000 in
set_option maxRecDepth 100000 in
theorem c_X5_reached (l : Launch) (hl0 : l.stackTraces = false) (D : va_G) (cA : Nat → ClassId) (ad : Nat → Nat) (w : Nat → Option va_E) (sz : Nat) (sc : Nat → Int) (fn : Nat → Int → Int) (hI : bkInv sc fn) (hbk : bookS cA ad w sc fn) (pt : Int) (hpt : (-2147483648 ≤ pt ∧ pt < 2147483648)) : vx_Met l yX5_reached wsX5_reached rmX5_reached (gV D cA ad w sz [.ref (ad 0), .int (iI pt)]) (gW D (fun v9 ad1 w1 => ∃ (sc2 : Nat → Int) (fn2 : Nat → Int → Int), bookS cA ad1 w1 sc2 fn2 ∧ bkInv sc2 fn2 ∧ keepR ad ad1 w w1 ∧ (sc2 = sc ∧ fn2 = fn ∧ 1 ≤ pt ∧ pt ≤ 100 ∧ ∃ v : Int, v9 = some (.long (lI v)) ∧ rcP (tbF sc fn) (tbS sc fn) (max 1 (Int.tdiv (cntT (tbS sc fn) 0 400 * pt) 100)) v)) (gA ad w sz)) (gX D (fun E => E = xIA ∧ ¬ (1 ≤ pt ∧ pt ≤ 100)) ad w (gA ad w sz)) 2 12 (gA ad w sz) := by
  refine vx_ofW (cc := cX5_reached) (maxL := 3) (ret := (some .long)) (by decide) rfl ?_
  intro p e s m args below meth c s₁ B hml hE hv
  obtain ⟨hav, hsz, hP, hD0, hK, hB, hZ⟩ := hv
  have hx := B.exec
  have hb := B.bytes
  have hret := B.returns
  have hts := atoms_spec (ws := wsX5_reached) B.pre
  have hown : s.vm.findClass RX5 = some m.cls := findClass_of_methodNamed B.named
  have hlocks := B.notSynchronized
  subst hsz
  have hD := hD0.self (sz := s.heap.size)
  generalize hAe : gA ad w s.heap.size = A at hD hZ ⊢
  have hA : ∀ q : Nat, s.heap.size ≤ q → A q := fun q h => by rw [← hAe]; exact Or.inr h
  have hS : va_S A s.heap s.heap [] := va_S.rf
  have hi5 := hiX5_reached_5
  have hxw_xIA_116 := hxwX5_reached_xIA_116
  have hf42 := hts (.fieldLink RX5 42 "GaugeBook" "table" "LGaugeBook$FlowTable;") (by decide +kernel)
  have hf49 := hts (.fieldLink RX5 49 "GaugeBook" "ranking" "LGaugeBook$Ranking;") (by decide +kernel)
  have he9 : entryFrame m args 3 = F0 m 0 ((lg_sl ([.ref (ad 0), .int (iI pt)] : List Value) ++ List.replicate (3 - (lg_sl ([.ref (ad 0), .int (iI pt)] : List Value)).length) Slot.unset).toArray) [] := by rw [hav, lg_entry_eq]
  rw [he9]
  have hl := lv_entry ([.ref (ad 0), .int (iI pt)] : List Value) (n := 3) (Nat.le_of_ble_eq_true rfl)
  generalize (lg_sl ([.ref (ad 0), .int (iI pt)] : List Value) ++ List.replicate (3 - (lg_sl ([.ref (ad 0), .int (iI pt)] : List Value)).length) Slot.unset).toArray = ls at hl ⊢
  have hl : lv_has ls 3 [(0, .ref (ad 0)), (1, .int (iI pt))] := hl
  obtain ⟨Q9, hQ9⟩ : ∃ z, z = vx_MQ below (gW D (fun v9 ad1 w1 => ∃ (sc2 : Nat → Int) (fn2 : Nat → Int → Int), bookS cA ad1 w1 sc2 fn2 ∧ bkInv sc2 fn2 ∧ keepR ad ad1 w w1 ∧ (sc2 = sc ∧ fn2 = fn ∧ 1 ≤ pt ∧ pt ≤ 100 ∧ ∃ v : Int, v9 = some (.long (lI v)) ∧ rcP (tbF sc fn) (tbS sc fn) (max 1 (Int.tdiv (cntT (tbS sc fn) 0 400 * pt) 100)) v)) A) (gX D (fun E => E = xIA ∧ ¬ (1 ≤ pt ∧ pt ≤ 100)) ad w A) args s 2 12 A := ⟨_, rfl⟩
  rw [← hQ9]
  show W p l e rmX5_reached s m args below meth c s.heap [] 0 0 Q9 (F0 m 0 ls [])
  obtain ⟨H, hHe⟩ : ∃ z, z = s.heap := ⟨_, rfl⟩
  obtain ⟨locs, hLe⟩ : ∃ z, z = ([] : List Loc) := ⟨_, rfl⟩
  have hP : gP D vwCl ad w H := by rw [hHe]; exact hP
  have hS : va_S A s.heap H locs := by rw [hHe, hLe]; exact va_S.rf
  rw [show W p l e rmX5_reached s m args below meth c s.heap [] 0 0 Q9 (F0 m 0 ls []) = W p l e rmX5_reached s m args below meth c H locs 0 0 Q9 (F0 m 0 ls []) by rw [hHe, hLe]]
  clear hHe hLe
  obtain ⟨rk, F, S, rn, rd, rm_, rz, ⟨h0, h1, h2, h3, h4, h5, h6, h7, h8, h9, h10, h11, h12, h13, h14, h15, hcv, hms⟩, hrk, hF, hS9⟩ := hbk
  have hI1 := hI.1
  refine lv_iload_n (pc := 0) hx hb dX5_reached_0 rfl (lv_at hl 1 rfl) ?_
  refine k_iconst (pc := 1) hx hb dX5_reached_1 ?_
  refine k_icmp_lt (pc := 2) (tgt := 11) hx hb ⟨by omega, by omega⟩ ⟨by omega, by omega⟩ dX5_reached_2 (by decide) (fun hc_2 => ?_) (fun hc_2 => ?_)
  · skip
    obtain ⟨sa_11, hsa_11⟩ := ns_184 hB
    rw [hQ9]
    exact vx_throwS (pc := 11) (own := RX5) (cls := xIA) (names := ["java/lang/RuntimeException", "java/lang/Exception"]) (ik := 112) (is := 184) (ic := 116) (A := A) hx hb hl0 hown (by decide +kernel) (by decide +kernel) (hts (.classLink RX5 112 "java/lang/IllegalArgumentException") (by decide +kernel)) (hts (.initialized "java/lang/IllegalArgumentException") (by decide +kernel)) hsa_11 (gx_hat hB (E := xIA) (i := 0) rfl (fun w h => hts w (hxw_xIA_116 w h)) (by decide +kernel)) (by decide +kernel) hZ.1 hZ.2 hS (hl.1.trans hml.symm) dX5_reached_11 dX5_reached_14 dX5_reached_15 dX5_reached_17 dX5_reached_20 (fun x h => (hE x h).elim) (Nat.le_of_ble_eq_true rfl) (Nat.le_of_ble_eq_true rfl) (Nat.le_of_ble_eq_true rfl) (Nat.le_of_ble_eq_true rfl) hlocks (fun t hW hz hk => ⟨⟨rfl, by omega⟩, fun r x hr => (hP r x hr).kept (hk _ (hP r x hr).lt), hD, Nat.le_trans hS.1 hz, fun q h1 h2 => (hk q (Nat.lt_of_lt_of_le h1 hS.1)).trans (hS.2.1 q h1 h2)⟩) hS.2.2 (Nat.le_of_ble_eq_true rfl) (Nat.le_of_ble_eq_true rfl)
  · skip
    refine lv_iload_n (pc := 5) hx hb dX5_reached_5 rfl (lv_at hl 1 rfl) ?_
    refine k_bipush (pc := 6) hx hb dX5_reached_6 (by decide +kernel) ?_
    refine k_icmp_le (pc := 8) (tgt := 21) hx hb ⟨by omega, by omega⟩ ⟨by omega, by omega⟩ dX5_reached_8 (by decide) (fun hc_8 => ?_) (fun hc_8 => ?_)
    · skip
      refine lv_aload_n (pc := 21) hx hb dX5_reached_21 rfl (lv_at hl 0 rfl) ?_
      refine k_call1 (pc := 22) (va_runV (As := []) (rest := []) ⟨hx, hb, hml, hown, hts⟩ (c_X5_reckon l D cA ad w H.size sc fn rk F S hI h0 h1 h2 h3 h4 h5 h6 h7 h9 h10 h11 hcv hF hS9 hrk) (cwV 0 hts gX5_reached_X5_reckon rfl rfl rfl (by decide +kernel) ⟨Nat.le_of_ble_eq_true rfl, Nat.le_of_ble_eq_true rfl⟩) (gV_V hP hD hK hB hS hA hZ 0 (ci := 5) rfl h0) rfl rfl hl.1 rfl (lv_room (Nat.le_of_ble_eq_true rfl)) dX5_reached_22 ⟨Nat.le_of_ble_eq_true rfl, Nat.le_of_ble_eq_true rfl⟩) hS (gA_sub hD hS hA) (fun v_22 ad_22 w_22 H locs hv_22 hP hD hS => ?_)
      obtain ⟨hv1, hv2, hv3⟩ := hv_22
      subst hv1
      rw [hv2, hv3] at hP hD
      refine W.eq (g2 := F0 m 25 ls []) rfl ?_
      refine W.cs (cells' := 0) (slots' := 0) rfl rfl ?_
      refine lv_aload_n (pc := 25) hx hb dX5_reached_25 rfl (lv_at hl 0 rfl) ?_
      refine k_get (pc := 26) (ci := 5) (C := RX5) (T := TX5) (N := 13) hx hb hts hi5 hown hK hP 0 (up_s _ _ _) rfl 7 (by decide) hf49 (fun _ h9 => h9) rfl dX5_reached_26 ?_
      refine lv_aload_n (pc := 29) hx hb dX5_reached_29 rfl (lv_at hl 0 rfl) ?_
      refine k_get (pc := 30) (ci := 5) (C := RX5) (T := TX5) (N := 13) hx hb hts hi5 hown hK hP 0 (up_s _ _ _) rfl 6 (by decide) hf42 (fun _ h9 => h9) rfl dX5_reached_30 ?_
      refine k_call1 (pc := 33) (va_runV (As := [.ref (ad 9)]) (rest := []) ⟨hx, hb, hml, hown, hts⟩ (c_X3_rank l D cA ad (up (up (up w 10 (eJ (cA 2) 400 (tbF sc fn))) 11 (eI (cA 0) 400 (tbS sc fn))) 0 (oB 5 [.ref (ad 1), .ref (ad 2), .ref (ad 5), .ref (ad 6), .ref (ad 7), .ref (ad 8), .ref (ad 9), .ref (ad 12), .int (iI (sc 0)), .int (iI (sc 4)), .int (iI (sc 2)), .int (iI (sc 3)), .int (iI 1)])) H.size (tbF sc fn) (tbS sc fn) rn rd rm_ rz (up_n (by decide) (up_n (by decide) (up_n (by decide) h9))) (up_n (by decide) (up_n (by decide) (up_s _ _ _))) (up_n (by decide) (up_s _ _ _)) (up_n (by decide) (up_n (by decide) (up_n (by decide) h12))) (up_n (by decide) (up_n (by decide) (up_n (by decide) h13))) (up_n (by decide) (up_n (by decide) (up_n (by decide) h14))) (up_n (by decide) (up_n (by decide) (up_n (by decide) h15))) (tbOk_tb hI).1 (tbOk_tb hI).2.1 ) (cwV 1 hts gX5_reached_X3_rank rfl rfl rfl (by decide +kernel) ⟨Nat.le_of_ble_eq_true rfl, Nat.le_of_ble_eq_true rfl⟩) (gV_V hP hD hK hB hS hA hZ 12 (ci := 3) rfl (up_n (by decide) (up_n (by decide) (up_n (by decide) h12)))) rfl rfl hl.1 rfl (lv_room (Nat.le_of_ble_eq_true rfl)) dX5_reached_33 ⟨Nat.le_of_ble_eq_true rfl, Nat.le_of_ble_eq_true rfl⟩) hS (gA_sub hD hS hA) (fun v_33 ad_33 w_33 H locs hv_33 hP hD hS => ?_)
      obtain ⟨hv1, hv2, f_33, g_33, hv3, hr_33⟩ := hv_33
      subst hv1
      rw [hv2, hv3] at hP hD
      refine W.eq (g2 := F0 m 36 ls []) rfl ?_
      refine W.cs (cells' := 0) (slots' := 0) rfl rfl ?_
      refine k_iconst (pc := 36) hx hb dX5_reached_36 ?_
      refine lv_aload_n (pc := 37) hx hb dX5_reached_37 rfl (lv_at hl 0 rfl) ?_
      refine k_get (pc := 38) (ci := 5) (C := RX5) (T := TX5) (N := 13) hx hb hts hi5 hown hK hP 0 (up_n (by decide) (up_n (by decide) (up_n (by decide) (up_s _ _ _)))) rfl 7 (by decide) hf49 (fun _ h9 => h9) rfl dX5_reached_38 ?_
      refine k_call0 (pc := 41) (va_runV (As := []) (rest := [.int (iI 1)]) ⟨hx, hb, hml, hown, hts⟩ (c_X3_size l D cA ad (up (up (up (up (up (up w 10 (eJ (cA 2) 400 (tbF sc fn))) 11 (eI (cA 0) 400 (tbS sc fn))) 0 (oB 5 [.ref (ad 1), .ref (ad 2), .ref (ad 5), .ref (ad 6), .ref (ad 7), .ref (ad 8), .ref (ad 9), .ref (ad 12), .int (iI (sc 0)), .int (iI (sc 4)), .int (iI (sc 2)), .int (iI (sc 3)), .int (iI 1)])) 12 (oB 3 [.ref (ad 13), .ref (ad 14), .ref (ad 15), .int (iI (cntT (tbS sc fn) 0 400))])) 13 (eI (cA 0) 400 f_33)) 14 (eI (cA 0) 400 g_33)) (tbF sc fn) (tbS sc fn) (cntT (tbS sc fn) 0 400) f_33 g_33 rz (up_n (by decide) (up_n (by decide) (up_n (by decide) (up_n (by decide) (up_n (by decide) (up_n (by decide) h9)))))) (up_n (by decide) (up_n (by decide) (up_n (by decide) (up_n (by decide) (up_n (by decide) (up_s _ _ _)))))) (up_n (by decide) (up_n (by decide) (up_n (by decide) (up_n (by decide) (up_s _ _ _))))) (up_n (by decide) (up_n (by decide) (up_s _ _ _))) (up_n (by decide) (up_s _ _ _)) (up_s _ _ _) (up_n (by decide) (up_n (by decide) (up_n (by decide) (up_n (by decide) (up_n (by decide) (up_n (by decide) h15)))))) (tbOk_tb hI).1 (tbOk_tb hI).2.1 (cntT_b (tbS sc fn) 0 400)) (cwV 0 hts gX5_reached_X3_size rfl rfl rfl (by decide +kernel) ⟨Nat.le_of_ble_eq_true rfl, Nat.le_of_ble_eq_true rfl⟩) (gR_V hP hK hB 12 (ci := 3) rfl (up_n (by decide) (up_n (by decide) (up_s _ _ _)))) rfl rfl hl.1 rfl (lv_room (Nat.le_of_ble_eq_true rfl)) dX5_reached_41 ⟨Nat.le_of_ble_eq_true rfl, Nat.le_of_ble_eq_true rfl⟩) (fun v_41 hv_41 => ?_)
      obtain ⟨z_41, rfl, hz_41⟩ := hv_41
      refine W.eq (g2 := F0 m 44 ls [.int (iI z_41), .int (iI 1)]) rfl ?_
      have cb_ := cntT_b (tbS sc fn) 0 400
      have m9_ := mulB (a := z_41) (b := pt) (M := 400) (N := 100) ⟨by omega, by omega⟩ ⟨by omega, by omega⟩
      have m8_ := Int.mul_nonneg (show 0 ≤ z_41 by omega) (show 0 ≤ pt by omega)
      refine lv_iload_n (pc := 44) hx hb dX5_reached_44 rfl (lv_at hl 1 rfl) ?_
      refine k_imul (pc := 45) hx hb dX5_reached_45 ?_
      refine k_bipush (pc := 46) hx hb dX5_reached_46 (by decide +kernel) ?_
      refine k_idiv (pc := 48) hx hb ⟨by omega, by omega⟩ ⟨by omega, by omega⟩ (by omega) dX5_reached_48 ?_
      have t9_ : Int.tdiv (z_41 * pt) 100 = z_41 * pt / 100 := Int.tdiv_eq_ediv_of_nonneg (by omega)
      refine k_mmax (pc := 49) hx hb (hml.trans hl.1.symm) hown (hts (.methodLink RX5 191 Lib.Math.max.name) (by decide +kernel)) (hts (.static Lib.Math.max.name) (by decide +kernel)) (hts (.initialized "java/lang/Math") (by decide +kernel)) (hts (.code Lib.Math.max.name Lib.Math.max.code 2 (some .int)) (by decide +kernel)) (Nat.le_of_ble_eq_true rfl) (Nat.le_of_ble_eq_true rfl) (Nat.le_of_ble_eq_true rfl) (Nat.le_of_ble_eq_true rfl) ⟨by omega, by omega⟩ ⟨by omega, by omega⟩ dX5_reached_49 ?_
      obtain ⟨r9, hr9⟩ : ∃ x9 : Int, x9 = max 1 (Int.tdiv (z_41 * pt) 100) := ⟨_, rfl⟩
      rw [← hr9]
      refine lv_istore_n (pc := 52) (lv' := [(2, .int (iI r9)), (0, .ref (ad 0)), (1, .int (iI pt))]) hx hb dX5_reached_52 rfl hl (by decide) rfl (fun ls hl => ?_)
      refine lv_aload_n (pc := 53) hx hb dX5_reached_53 rfl (lv_at hl 1 rfl) ?_
      refine k_get (pc := 54) (ci := 5) (C := RX5) (T := TX5) (N := 13) hx hb hts hi5 hown hK hP 0 (up_n (by decide) (up_n (by decide) (up_n (by decide) (up_s _ _ _)))) rfl 6 (by decide) hf42 (fun _ h9 => h9) rfl dX5_reached_54 ?_
      refine lv_aload_n (pc := 57) hx hb dX5_reached_57 rfl (lv_at hl 1 rfl) ?_
      refine k_get (pc := 58) (ci := 5) (C := RX5) (T := TX5) (N := 13) hx hb hts hi5 hown hK hP 0 (up_n (by decide) (up_n (by decide) (up_n (by decide) (up_s _ _ _)))) rfl 7 (by decide) hf49 (fun _ h9 => h9) rfl dX5_reached_58 ?_
      refine lv_iload_n (pc := 61) hx hb dX5_reached_61 rfl (lv_at hl 0 rfl) ?_
      refine k_call0 (pc := 62) (va_runV (As := [.int (iI r9)]) (rest := [.ref (ad 9)]) ⟨hx, hb, hml, hown, hts⟩ (c_X3_dayOfRank l D cA ad (up (up (up (up (up (up w 10 (eJ (cA 2) 400 (tbF sc fn))) 11 (eI (cA 0) 400 (tbS sc fn))) 0 (oB 5 [.ref (ad 1), .ref (ad 2), .ref (ad 5), .ref (ad 6), .ref (ad 7), .ref (ad 8), .ref (ad 9), .ref (ad 12), .int (iI (sc 0)), .int (iI (sc 4)), .int (iI (sc 2)), .int (iI (sc 3)), .int (iI 1)])) 12 (oB 3 [.ref (ad 13), .ref (ad 14), .ref (ad 15), .int (iI (cntT (tbS sc fn) 0 400))])) 13 (eI (cA 0) 400 f_33)) 14 (eI (cA 0) 400 g_33)) (tbF sc fn) (tbS sc fn) (cntT (tbS sc fn) 0 400) f_33 g_33 rz (up_n (by decide) (up_n (by decide) (up_n (by decide) (up_n (by decide) (up_n (by decide) (up_n (by decide) h9)))))) (up_n (by decide) (up_n (by decide) (up_n (by decide) (up_n (by decide) (up_n (by decide) (up_s _ _ _)))))) (up_n (by decide) (up_n (by decide) (up_n (by decide) (up_n (by decide) (up_s _ _ _))))) (up_n (by decide) (up_n (by decide) (up_s _ _ _))) (up_n (by decide) (up_s _ _ _)) (up_s _ _ _) (up_n (by decide) (up_n (by decide) (up_n (by decide) (up_n (by decide) (up_n (by decide) (up_n (by decide) h15)))))) (tbOk_tb hI).1 (tbOk_tb hI).2.1 (cntT_b (tbS sc fn) 0 400) r9 ⟨by omega, by omega⟩) (cwV 1 hts gX5_reached_X3_dayOfRank rfl rfl rfl (by decide +kernel) ⟨Nat.le_of_ble_eq_true rfl, Nat.le_of_ble_eq_true rfl⟩) (gR_V hP hK hB 12 (ci := 3) rfl (up_n (by decide) (up_n (by decide) (up_s _ _ _)))) rfl rfl hl.1 rfl (lv_room (Nat.le_of_ble_eq_true rfl)) dX5_reached_62 ⟨Nat.le_of_ble_eq_true rfl, Nat.le_of_ble_eq_true rfl⟩) (fun v_62 hv_62 => ?_)
      obtain ⟨z_62, rfl, hz_62⟩ := hv_62
      refine W.eq (g2 := F0 m 65 ls [.int (iI z_62), .ref (ad 9)]) rfl ?_
      have q9_ : -2147483648 ≤ z_62 ∧ z_62 < 2147483648 := by rcases hz_62 with ⟨a1, a2, a3⟩ | ⟨a1, a2⟩; have t_ := hr_33.2.1 (r9 - 1) (by omega) (by omega); omega; omega
      refine k_call0 (pc := 65) (va_runV (As := [.int (iI z_62)]) (rest := []) ⟨hx, hb, hml, hown, hts⟩ (c_X1_flowOn l D cA ad (up (up (up (up (up (up w 10 (eJ (cA 2) 400 (tbF sc fn))) 11 (eI (cA 0) 400 (tbS sc fn))) 0 (oB 5 [.ref (ad 1), .ref (ad 2), .ref (ad 5), .ref (ad 6), .ref (ad 7), .ref (ad 8), .ref (ad 9), .ref (ad 12), .int (iI (sc 0)), .int (iI (sc 4)), .int (iI (sc 2)), .int (iI (sc 3)), .int (iI 1)])) 12 (oB 3 [.ref (ad 13), .ref (ad 14), .ref (ad 15), .int (iI (cntT (tbS sc fn) 0 400))])) 13 (eI (cA 0) 400 f_33)) 14 (eI (cA 0) 400 g_33)) 9 10 11 (tbF sc fn) (tbS sc fn) (up_n (by decide) (up_n (by decide) (up_n (by decide) (up_n (by decide) (up_n (by decide) (up_n (by decide) h9)))))) (up_n (by decide) (up_n (by decide) (up_n (by decide) (up_n (by decide) (up_n (by decide) (up_s _ _ _)))))) (up_n (by decide) (up_n (by decide) (up_n (by decide) (up_n (by decide) (up_s _ _ _))))) (tbOk_tb hI).1 (tbOk_tb hI).2.1 z_62 ⟨by omega, by omega⟩) (cwV 1 hts gX5_reached_X1_flowOn rfl rfl rfl (by decide +kernel) ⟨Nat.le_of_ble_eq_true rfl, Nat.le_of_ble_eq_true rfl⟩) (gR_V hP hK hB 9 (ci := 1) rfl (up_n (by decide) (up_n (by decide) (up_n (by decide) (up_n (by decide) (up_n (by decide) (up_n (by decide) h9))))))) rfl rfl hl.1 rfl (lv_room (Nat.le_of_ble_eq_true rfl)) dX5_reached_65 ⟨Nat.le_of_ble_eq_true rfl, Nat.le_of_ble_eq_true rfl⟩) (fun v_65 hv_65 => ?_)
      obtain ⟨z_65, rfl, hz_65⟩ := hv_65
      have hb_65 := (tbOk_tb hI).1 z_62
      refine W.eq (g2 := F0 m 68 ls [.long (lI z_65)]) rfl ?_
      have hrc : rcP (tbF sc fn) (tbS sc fn) r9 z_65 := by
        rcases hz_62 with ⟨a1, a2, a3⟩ | ⟨a1, a2⟩
        · have t_ := hr_33.2.1 (r9 - 1) (by omega) (by omega)
          rw [a3] at hz_65
          rw [show z_65 = tbF sc fn (f_33 (r9 - 1)) by omega]
          exact rc_is hr_33 ⟨by omega, by omega⟩
        · rw [show z_65 = -1 by omega]
          exact rc_no hr_33 (by omega) (by omega)
      rw [hr9, hz_41] at hrc
      rw [hQ9]
      refine vx_ret ?_
      refine W.widen (k := 2) (n := 12) (by decide) (by decide) ?_
      exact W.lret (v := lI z_65) hx hb hret (fun t ht hW => ⟨⟨some (.long (lI z_65)), ad, (up (up (up (up (up (up w 10 (eJ (cA 2) 400 (tbF sc fn))) 11 (eI (cA 0) 400 (tbS sc fn))) 0 (oB 5 [.ref (ad 1), .ref (ad 2), .ref (ad 5), .ref (ad 6), .ref (ad 7), .ref (ad 8), .ref (ad 9), .ref (ad 12), .int (iI (sc 0)), .int (iI (sc 4)), .int (iI (sc 2)), .int (iI (sc 3)), .int (iI 1)])) 12 (oB 3 [.ref (ad 13), .ref (ad 14), .ref (ad 15), .int (iI (cntT (tbS sc fn) 0 400))])) 13 (eI (cA 0) 400 f_33)) 14 (eI (cA 0) 400 g_33)), rfl, ⟨sc, fn, ⟨1, (tbF sc fn), (tbS sc fn), (cntT (tbS sc fn) 0 400), f_33, g_33, rz, ⟨(up_n (by decide) (up_n (by decide) (up_n (by decide) (up_s _ _ _)))), (up_n (by decide) (up_n (by decide) (up_n (by decide) (up_n (by decide) (up_n (by decide) (up_n (by decide) h1)))))), (up_n (by decide) (up_n (by decide) (up_n (by decide) (up_n (by decide) (up_n (by decide) (up_n (by decide) h2)))))), (up_n (by decide) (up_n (by decide) (up_n (by decide) (up_n (by decide) (up_n (by decide) (up_n (by decide) h3)))))), (up_n (by decide) (up_n (by decide) (up_n (by decide) (up_n (by decide) (up_n (by decide) (up_n (by decide) h4)))))), (up_n (by decide) (up_n (by decide) (up_n (by decide) (up_n (by decide) (up_n (by decide) (up_n (by decide) h5)))))), (up_n (by decide) (up_n (by decide) (up_n (by decide) (up_n (by decide) (up_n (by decide) (up_n (by decide) h6)))))), (up_n (by decide) (up_n (by decide) (up_n (by decide) (up_n (by decide) (up_n (by decide) (up_n (by decide) h7)))))), (up_n (by decide) (up_n (by decide) (up_n (by decide) (up_n (by decide) (up_n (by decide) (up_n (by decide) h8)))))), (up_n (by decide) (up_n (by decide) (up_n (by decide) (up_n (by decide) (up_n (by decide) (up_n (by decide) h9)))))), (up_n (by decide) (up_n (by decide) (up_n (by decide) (up_n (by decide) (up_n (by decide) (up_s _ _ _)))))), (up_n (by decide) (up_n (by decide) (up_n (by decide) (up_n (by decide) (up_s _ _ _))))), (up_n (by decide) (up_n (by decide) (up_s _ _ _))), (up_n (by decide) (up_s _ _ _)), (up_s _ _ _), (up_n (by decide) (up_n (by decide) (up_n (by decide) (up_n (by decide) (up_n (by decide) (up_n (by decide) h15)))))), (fun k9 hk9 => by have h9_ := hcv k9 hk9; have i9_ := hI.1.1; exact ⟨(up_n (by omega) (up_n (by omega) (up_n (by omega) (up_n (by omega) (up_n (by omega) (up_n (by omega) h9_.1)))))), (up_n (by omega) (up_n (by omega) (up_n (by omega) (up_n (by omega) (up_n (by omega) (up_n (by omega) h9_.2.1)))))), (up_n (by omega) (up_n (by omega) (up_n (by omega) (up_n (by omega) (up_n (by omega) (up_n (by omega) h9_.2.2))))))⟩), (fun k9 hk9 => by have h9_ := hms k9 hk9; have i9_ := hI.1.2.2.2.2; exact (up_n (by omega) (up_n (by omega) (up_n (by omega) (up_n (by omega) (up_n (by omega) (up_n (by omega) h9_)))))))⟩, (Or.inr ⟨rfl, rfl, rfl⟩), (tbOk_tb hI).1, (tbOk_tb hI).2.1⟩, hI, ⟨rfl, fun r hr => ⟨(up_n (by omega) (up_n (by omega) (up_n (by omega) (up_n (by omega) (up_n (by omega) (up_n (by omega) rfl)))))), rfl⟩⟩, ⟨rfl, rfl, by omega, by omega, z_65, rfl, hrc⟩⟩, by rw [ht]; exact hP, hD⟩, hS.F ht⟩) hS.2.2 dX5_reached_68
    · skip
      obtain ⟨sa_11, hsa_11⟩ := ns_184 hB
      rw [hQ9]
      exact vx_throwS (pc := 11) (own := RX5) (cls := xIA) (names := ["java/lang/RuntimeException", "java/lang/Exception"]) (ik := 112) (is := 184) (ic := 116) (A := A) hx hb hl0 hown (by decide +kernel) (by decide +kernel) (hts (.classLink RX5 112 "java/lang/IllegalArgumentException") (by decide +kernel)) (hts (.initialized "java/lang/IllegalArgumentException") (by decide +kernel)) hsa_11 (gx_hat hB (E := xIA) (i := 0) rfl (fun w h => hts w (hxw_xIA_116 w h)) (by decide +kernel)) (by decide +kernel) hZ.1 hZ.2 hS (hl.1.trans hml.symm) dX5_reached_11 dX5_reached_14 dX5_reached_15 dX5_reached_17 dX5_reached_20 (fun x h => (hE x h).elim) (Nat.le_of_ble_eq_true rfl) (Nat.le_of_ble_eq_true rfl) (Nat.le_of_ble_eq_true rfl) (Nat.le_of_ble_eq_true rfl) hlocks (fun t hW hz hk => ⟨⟨rfl, by omega⟩, fun r x hr => (hP r x hr).kept (hk _ (hP r x hr).lt), hD, Nat.le_trans hS.1 hz, fun q h1 h2 => (hk q (Nat.lt_of_lt_of_le h1 hS.1)).trans (hS.2.1 q h1 h2)⟩) hS.2.2 (Nat.le_of_ble_eq_true rfl) (Nat.le_of_ble_eq_true rfl)

abbrev rmX5_peaks : Room := { frames := 7, cells := 2, slots := 12, locals := 113 }
theorem hxwX5_peaks_xIA_116 : ∀ w ∈ (vx_atS RX5 116 xIA ["java/lang/RuntimeException", "java/lang/Exception"]).filter goodWord, w ∈ wsX5_peaks := by decide +kernel
theorem hiX5_peaks_5 : ∀ w ∈ wsX50, w ∈ wsX5_peaks := by decide +kernel
set_option maxHeartbeats 4000000 in
set_option maxRecDepth 100000 in
theorem c_X5_peaks (l : Launch) (hl0 : l.stackTraces = false) (D : va_G) (cA : Nat → ClassId) (ad : Nat → Nat) (w : Nat → Option va_E) (sz : Nat) (sc : Nat → Int) (fn : Nat → Int → Int) (hI : bkInv sc fn) (hbk : bookS cA ad w sc fn) (lm ap : Int) (hlm : (-9223372036854775808 ≤ lm ∧ lm < 9223372036854775808)) (hap : (-2147483648 ≤ ap ∧ ap < 2147483648)) : vx_Met l yX5_peaks wsX5_peaks rmX5_peaks (gV D cA ad w sz [.ref (ad 0), .long (lI lm), .int (iI ap)]) (gW D (fun v9 ad1 w1 => ∃ (sc2 : Nat → Int) (fn2 : Nat → Int → Int), bookS cA ad1 w1 sc2 fn2 ∧ bkInv sc2 fn2 ∧ keepR ad ad1 w w1 ∧ (sc2 = sc ∧ fn2 = fn ∧ 0 ≤ lm ∧ 1 ≤ ap ∧ ap ≤ 100 ∧ ∃ v : Int, v9 = some (.int (iI v)) ∧ pkE (tbF sc fn) (tbS sc fn) lm ap (fun _ => False) 0 v)) (gA ad w sz)) (gX D (fun E => E = xIA ∧ ¬ (0 ≤ lm ∧ 1 ≤ ap ∧ ap ≤ 100)) ad w (gA ad w sz)) 2 12 (gA ad w sz) := by
  refine vx_ofW (cc := cX5_peaks) (maxL := 4) (ret := (some .int)) (by decide) rfl ?_
  intro p e s m args below meth c s₁ B hml hE hv
  obtain ⟨hav, hsz, hP, hD0, hK, hB, hZ⟩ := hv
  have hx := B.exec
  have hb := B.bytes
  have hret := B.returns
  have hts := atoms_spec (ws := wsX5_peaks) B.pre
  have hown : s.vm.findClass RX5 = some m.cls := findClass_of_methodNamed B.named
  have hlocks := B.notSynchronized
  subst hsz
  have hD := hD0.self (sz := s.heap.size)
  generalize hAe : gA ad w s.heap.size = A at hD hZ ⊢
  have hA : ∀ q : Nat, s.heap.size ≤ q → A q := fun q h => by rw [← hAe]; exact Or.inr h
  have hS : va_S A s.heap s.heap [] := va_S.rf
  have hi5 := hiX5_peaks_5
  have hxw_xIA_116 := hxwX5_peaks_xIA_116
  have hf42 := hts (.fieldLink RX5 42 "GaugeBook" "table" "LGaugeBook$FlowTable;") (by decide +kernel)
  have hf49 := hts (.fieldLink RX5 49 "GaugeBook" "ranking" "LGaugeBook$Ranking;") (by decide +kernel)
  have he9 : entryFrame m args 4 = F0 m 0 ((lg_sl ([.ref (ad 0), .long (lI lm), .int (iI ap)] : List Value) ++ List.replicate (4 - (lg_sl ([.ref (ad 0), .long (lI lm), .int (iI ap)] : List Value)).length) Slot.unset).toArray) [] := by rw [hav, lg_entry_eq]
  rw [he9]
  have hl := lv_entry ([.ref (ad 0), .long (lI lm), .int (iI ap)] : List Value) (n := 4) (Nat.le_of_ble_eq_true rfl)
  generalize (lg_sl ([.ref (ad 0), .long (lI lm), .int (iI ap)] : List Value) ++ List.replicate (4 - (lg_sl ([.ref (ad 0), .long (lI lm), .int (iI ap)] : List Value)).length) Slot.unset).toArray = ls at hl ⊢
  have hl : lv_has ls 4 [(0, .ref (ad 0)), (1, .long (lI lm)), (3, .int (iI ap))] := hl
  obtain ⟨Q9, hQ9⟩ : ∃ z, z = vx_MQ below (gW D (fun v9 ad1 w1 => ∃ (sc2 : Nat → Int) (fn2 : Nat → Int → Int), bookS cA ad1 w1 sc2 fn2 ∧ bkInv sc2 fn2 ∧ keepR ad ad1 w w1 ∧ (sc2 = sc ∧ fn2 = fn ∧ 0 ≤ lm ∧ 1 ≤ ap ∧ ap ≤ 100 ∧ ∃ v : Int, v9 = some (.int (iI v)) ∧ pkE (tbF sc fn) (tbS sc fn) lm ap (fun _ => False) 0 v)) A) (gX D (fun E => E = xIA ∧ ¬ (0 ≤ lm ∧ 1 ≤ ap ∧ ap ≤ 100)) ad w A) args s 2 12 A := ⟨_, rfl⟩
  rw [← hQ9]
  show W p l e rmX5_peaks s m args below meth c s.heap [] 0 0 Q9 (F0 m 0 ls [])
  obtain ⟨H, hHe⟩ : ∃ z, z = s.heap := ⟨_, rfl⟩
  obtain ⟨locs, hLe⟩ : ∃ z, z = ([] : List Loc) := ⟨_, rfl⟩
  have hP : gP D vwCl ad w H := by rw [hHe]; exact hP
  have hS : va_S A s.heap H locs := by rw [hHe, hLe]; exact va_S.rf
  rw [show W p l e rmX5_peaks s m args below meth c s.heap [] 0 0 Q9 (F0 m 0 ls []) = W p l e rmX5_peaks s m args below meth c H locs 0 0 Q9 (F0 m 0 ls []) by rw [hHe, hLe]]
  clear hHe hLe
  obtain ⟨rk, F, S, rn, rd, rm_, rz, ⟨h0, h1, h2, h3, h4, h5, h6, h7, h8, h9, h10, h11, h12, h13, h14, h15, hcv, hms⟩, hrk, hF, hS9⟩ := hbk
  have hI1 := hI.1
  refine lv_lload_n (pc := 0) hx hb dX5_peaks_0 rfl (lv_at hl 1 rfl) ?_
  refine k_callx (pc := 1) (vx_runS (As := [.long (lI lm)]) (rest := []) ⟨hx, hb, hml, hown, hts⟩ (c_X5_requireLimit l hl0 D cA ad w H.size lm ⟨by omega, by omega⟩) (va_cwS 1 hts gX5_peaks_X5_requireLimit rfl rfl rfl (by decide +kernel) ⟨Nat.le_of_ble_eq_true rfl, Nat.le_of_ble_eq_true rfl⟩) (gV_S hP hD hK hB hS hA hZ) rfl rfl hl.1 rfl (lv_room (Nat.le_of_ble_eq_true rfl)) dX5_peaks_1 ⟨Nat.le_of_ble_eq_true rfl, Nat.le_of_ble_eq_true rfl⟩) hS (gA_sub hD hS hA) (fun E_1 ce_1 q_1 H locs hpx_1 hP hD hS hce_1 hcv_1 hcl_1 => ?_) (fun v_1 ad_1 w_1 H locs hv_1 hP hD hS => ?_)
  · skip
    rw [hQ9]
    exact vx_out (fun x h => (hE x h).elim) hlocks hce_1 hcv_1 hcl_1 (fun t ht hW => ⟨⟨hpx_1.1, fun z => hpx_1.2 z.1⟩, by rw [ht]; exact hP, hD, hS.F ht⟩) hS.2.2 (by decide) (by decide)
  · skip
    obtain ⟨hv1, hv2, hv3, hq_1⟩ := hv_1
    subst hv1
    rw [hv2, hv3] at hP hD
    refine W.eq (g2 := F0 m 4 ls []) rfl ?_
    refine W.cs (cells' := 1) (slots' := 6) rfl rfl ?_
    refine lv_iload_n (pc := 4) hx hb dX5_peaks_4 rfl (lv_at hl 2 rfl) ?_
    refine k_iconst (pc := 5) hx hb dX5_peaks_5 ?_
    refine k_icmp_lt (pc := 6) (tgt := 15) hx hb ⟨by omega, by omega⟩ ⟨by omega, by omega⟩ dX5_peaks_6 (by decide) (fun hc_6 => ?_) (fun hc_6 => ?_)
    · skip
      obtain ⟨sa_15, hsa_15⟩ := ns_202 hB
      rw [hQ9]
      exact vx_throwS (pc := 15) (own := RX5) (cls := xIA) (names := ["java/lang/RuntimeException", "java/lang/Exception"]) (ik := 112) (is := 202) (ic := 116) (A := A) hx hb hl0 hown (by decide +kernel) (by decide +kernel) (hts (.classLink RX5 112 "java/lang/IllegalArgumentException") (by decide +kernel)) (hts (.initialized "java/lang/IllegalArgumentException") (by decide +kernel)) hsa_15 (gx_hat hB (E := xIA) (i := 0) rfl (fun w h => hts w (hxw_xIA_116 w h)) (by decide +kernel)) (by decide +kernel) hZ.1 hZ.2 hS (hl.1.trans hml.symm) dX5_peaks_15 dX5_peaks_18 dX5_peaks_19 dX5_peaks_21 dX5_peaks_24 (fun x h => (hE x h).elim) (Nat.le_of_ble_eq_true rfl) (Nat.le_of_ble_eq_true rfl) (Nat.le_of_ble_eq_true rfl) (Nat.le_of_ble_eq_true rfl) hlocks (fun t hW hz hk => ⟨⟨rfl, by omega⟩, fun r x hr => (hP r x hr).kept (hk _ (hP r x hr).lt), hD, Nat.le_trans hS.1 hz, fun q h1 h2 => (hk q (Nat.lt_of_lt_of_le h1 hS.1)).trans (hS.2.1 q h1 h2)⟩) hS.2.2 (Nat.le_of_ble_eq_true rfl) (Nat.le_of_ble_eq_true rfl)
    · skip
      refine lv_iload_n (pc := 9) hx hb dX5_peaks_9 rfl (lv_at hl 2 rfl) ?_
      refine k_bipush (pc := 10) hx hb dX5_peaks_10 (by decide +kernel) ?_
      refine k_icmp_le (pc := 12) (tgt := 25) hx hb ⟨by omega, by omega⟩ ⟨by omega, by omega⟩ dX5_peaks_12 (by decide) (fun hc_12 => ?_) (fun hc_12 => ?_)
      · skip
        refine lv_aload_n (pc := 25) hx hb dX5_peaks_25 rfl (lv_at hl 0 rfl) ?_
        refine k_call1 (pc := 26) (va_runV (As := []) (rest := []) ⟨hx, hb, hml, hown, hts⟩ (c_X5_reckon l D cA ad w H.size sc fn rk F S hI h0 h1 h2 h3 h4 h5 h6 h7 h9 h10 h11 hcv hF hS9 hrk) (cwV 0 hts gX5_peaks_X5_reckon rfl rfl rfl (by decide +kernel) ⟨Nat.le_of_ble_eq_true rfl, Nat.le_of_ble_eq_true rfl⟩) (gV_V hP hD hK hB hS hA hZ 0 (ci := 5) rfl h0) rfl rfl hl.1 rfl (lv_room (Nat.le_of_ble_eq_true rfl)) dX5_peaks_26 ⟨Nat.le_of_ble_eq_true rfl, Nat.le_of_ble_eq_true rfl⟩) hS (gA_sub hD hS hA) (fun v_26 ad_26 w_26 H locs hv_26 hP hD hS => ?_)
        obtain ⟨hv1, hv2, hv3⟩ := hv_26
        subst hv1
        rw [hv2, hv3] at hP hD
        refine W.eq (g2 := F0 m 29 ls []) rfl ?_
        refine W.cs (cells' := 1) (slots' := 6) rfl rfl ?_
        refine lv_aload_n (pc := 29) hx hb dX5_peaks_29 rfl (lv_at hl 0 rfl) ?_
        refine k_get (pc := 30) (ci := 5) (C := RX5) (T := TX5) (N := 13) hx hb hts hi5 hown hK hP 0 (up_s _ _ _) rfl 7 (by decide) hf49 (fun _ h9 => h9) rfl dX5_peaks_30 ?_
        refine lv_aload_n (pc := 33) hx hb dX5_peaks_33 rfl (lv_at hl 0 rfl) ?_
        refine k_get (pc := 34) (ci := 5) (C := RX5) (T := TX5) (N := 13) hx hb hts hi5 hown hK hP 0 (up_s _ _ _) rfl 6 (by decide) hf42 (fun _ h9 => h9) rfl dX5_peaks_34 ?_
        refine k_call1 (pc := 37) (va_runV (As := [.ref (ad 9)]) (rest := []) ⟨hx, hb, hml, hown, hts⟩ (c_X3_rank l D cA ad (up (up (up w 10 (eJ (cA 2) 400 (tbF sc fn))) 11 (eI (cA 0) 400 (tbS sc fn))) 0 (oB 5 [.ref (ad 1), .ref (ad 2), .ref (ad 5), .ref (ad 6), .ref (ad 7), .ref (ad 8), .ref (ad 9), .ref (ad 12), .int (iI (sc 0)), .int (iI (sc 4)), .int (iI (sc 2)), .int (iI (sc 3)), .int (iI 1)])) H.size (tbF sc fn) (tbS sc fn) rn rd rm_ rz (up_n (by decide) (up_n (by decide) (up_n (by decide) h9))) (up_n (by decide) (up_n (by decide) (up_s _ _ _))) (up_n (by decide) (up_s _ _ _)) (up_n (by decide) (up_n (by decide) (up_n (by decide) h12))) (up_n (by decide) (up_n (by decide) (up_n (by decide) h13))) (up_n (by decide) (up_n (by decide) (up_n (by decide) h14))) (up_n (by decide) (up_n (by decide) (up_n (by decide) h15))) (tbOk_tb hI).1 (tbOk_tb hI).2.1 ) (cwV 1 hts gX5_peaks_X3_rank rfl rfl rfl (by decide +kernel) ⟨Nat.le_of_ble_eq_true rfl, Nat.le_of_ble_eq_true rfl⟩) (gV_V hP hD hK hB hS hA hZ 12 (ci := 3) rfl (up_n (by decide) (up_n (by decide) (up_n (by decide) h12)))) rfl rfl hl.1 rfl (lv_room (Nat.le_of_ble_eq_true rfl)) dX5_peaks_37 ⟨Nat.le_of_ble_eq_true rfl, Nat.le_of_ble_eq_true rfl⟩) hS (gA_sub hD hS hA) (fun v_37 ad_37 w_37 H locs hv_37 hP hD hS => ?_)
        obtain ⟨hv1, hv2, f_37, g_37, hv3, hr_37⟩ := hv_37
        subst hv1
        rw [hv2, hv3] at hP hD
        refine W.eq (g2 := F0 m 40 ls []) rfl ?_
        refine W.cs (cells' := 1) (slots' := 6) rfl rfl ?_
        refine lv_aload_n (pc := 40) hx hb dX5_peaks_40 rfl (lv_at hl 0 rfl) ?_
        refine k_get (pc := 41) (ci := 5) (C := RX5) (T := TX5) (N := 13) hx hb hts hi5 hown hK hP 0 (up_n (by decide) (up_n (by decide) (up_n (by decide) (up_s _ _ _)))) rfl 7 (by decide) hf49 (fun _ h9 => h9) rfl dX5_peaks_41 ?_
        refine lv_aload_n (pc := 44) hx hb dX5_peaks_44 rfl (lv_at hl 0 rfl) ?_
        refine k_get (pc := 45) (ci := 5) (C := RX5) (T := TX5) (N := 13) hx hb hts hi5 hown hK hP 0 (up_n (by decide) (up_n (by decide) (up_n (by decide) (up_s _ _ _)))) rfl 6 (by decide) hf42 (fun _ h9 => h9) rfl dX5_peaks_45 ?_
        refine lv_lload_n (pc := 48) hx hb dX5_peaks_48 rfl (lv_at hl 1 rfl) ?_
        refine lv_iload_n (pc := 49) hx hb dX5_peaks_49 rfl (lv_at hl 2 rfl) ?_
        refine k_call1 (pc := 50) (va_runV (As := [.ref (ad 9), .long (lI lm), .int (iI ap)]) (rest := []) ⟨hx, hb, hml, hown, hts⟩ (c_X3_countPeaks l D cA ad (up (up (up (up (up (up w 10 (eJ (cA 2) 400 (tbF sc fn))) 11 (eI (cA 0) 400 (tbS sc fn))) 0 (oB 5 [.ref (ad 1), .ref (ad 2), .ref (ad 5), .ref (ad 6), .ref (ad 7), .ref (ad 8), .ref (ad 9), .ref (ad 12), .int (iI (sc 0)), .int (iI (sc 4)), .int (iI (sc 2)), .int (iI (sc 3)), .int (iI 1)])) 12 (oB 3 [.ref (ad 13), .ref (ad 14), .ref (ad 15), .int (iI (cntT (tbS sc fn) 0 400))])) 13 (eI (cA 0) 400 f_37)) 14 (eI (cA 0) 400 g_37)) H.size (tbF sc fn) (tbS sc fn) (cntT (tbS sc fn) 0 400) f_37 g_37 rz (up_n (by decide) (up_n (by decide) (up_n (by decide) (up_n (by decide) (up_n (by decide) (up_n (by decide) h9)))))) (up_n (by decide) (up_n (by decide) (up_n (by decide) (up_n (by decide) (up_n (by decide) (up_s _ _ _)))))) (up_n (by decide) (up_n (by decide) (up_n (by decide) (up_n (by decide) (up_s _ _ _))))) (up_n (by decide) (up_n (by decide) (up_s _ _ _))) (up_n (by decide) (up_s _ _ _)) (up_s _ _ _) (up_n (by decide) (up_n (by decide) (up_n (by decide) (up_n (by decide) (up_n (by decide) (up_n (by decide) h15)))))) (tbOk_tb hI).1 (tbOk_tb hI).2.1 (cntT_b (tbS sc fn) 0 400) lm ap (by omega) (by omega) hr_37) (cwV 3 hts gX5_peaks_X3_countPeaks rfl rfl rfl (by decide +kernel) ⟨Nat.le_of_ble_eq_true rfl, Nat.le_of_ble_eq_true rfl⟩) (gV_V hP hD hK hB hS hA hZ 12 (ci := 3) rfl (up_n (by decide) (up_n (by decide) (up_s _ _ _)))) rfl rfl hl.1 rfl (lv_room (Nat.le_of_ble_eq_true rfl)) dX5_peaks_50 ⟨Nat.le_of_ble_eq_true rfl, Nat.le_of_ble_eq_true rfl⟩) hS (gA_sub hD hS hA) (fun v_50 ad_50 w_50 H locs hv_50 hP hD hS => ?_)
        obtain ⟨hv1, p_50, z_50, rfl, hv2, hp_50⟩ := hv_50
        rw [hv1, hv2] at hP hD
        refine W.eq (g2 := F0 m 53 ls [.int (iI p_50)]) rfl ?_
        refine W.cs (cells' := 1) (slots' := 6) rfl rfl ?_
        rw [hQ9]
        refine vx_ret ?_
        refine W.widen (k := 2) (n := 12) (by decide) (by decide) ?_
        exact W.iret (v := iI p_50) hx hb hret (fun t ht hW => ⟨⟨some (.int (iI p_50)), ad, (up (up (up (up (up (up (up w 10 (eJ (cA 2) 400 (tbF sc fn))) 11 (eI (cA 0) 400 (tbS sc fn))) 0 (oB 5 [.ref (ad 1), .ref (ad 2), .ref (ad 5), .ref (ad 6), .ref (ad 7), .ref (ad 8), .ref (ad 9), .ref (ad 12), .int (iI (sc 0)), .int (iI (sc 4)), .int (iI (sc 2)), .int (iI (sc 3)), .int (iI 1)])) 12 (oB 3 [.ref (ad 13), .ref (ad 14), .ref (ad 15), .int (iI (cntT (tbS sc fn) 0 400))])) 13 (eI (cA 0) 400 f_37)) 14 (eI (cA 0) 400 g_37)) 15 (eI (cA 1) 400 z_50)), rfl, ⟨sc, fn, ⟨1, (tbF sc fn), (tbS sc fn), (cntT (tbS sc fn) 0 400), f_37, g_37, z_50, ⟨(up_n (by decide) (up_n (by decide) (up_n (by decide) (up_n (by decide) (up_s _ _ _))))), (up_n (by decide) (up_n (by decide) (up_n (by decide) (up_n (by decide) (up_n (by decide) (up_n (by decide) (up_n (by decide) h1))))))), (up_n (by decide) (up_n (by decide) (up_n (by decide) (up_n (by decide) (up_n (by decide) (up_n (by decide) (up_n (by decide) h2))))))), (up_n (by decide) (up_n (by decide) (up_n (by decide) (up_n (by decide) (up_n (by decide) (up_n (by decide) (up_n (by decide) h3))))))), (up_n (by decide) (up_n (by decide) (up_n (by decide) (up_n (by decide) (up_n (by decide) (up_n (by decide) (up_n (by decide) h4))))))), (up_n (by decide) (up_n (by decide) (up_n (by decide) (up_n (by decide) (up_n (by decide) (up_n (by decide) (up_n (by decide) h5))))))), (up_n (by decide) (up_n (by decide) (up_n (by decide) (up_n (by decide) (up_n (by decide) (up_n (by decide) (up_n (by decide) h6))))))), (up_n (by decide) (up_n (by decide) (up_n (by decide) (up_n (by decide) (up_n (by decide) (up_n (by decide) (up_n (by decide) h7))))))), (up_n (by decide) (up_n (by decide) (up_n (by decide) (up_n (by decide) (up_n (by decide) (up_n (by decide) (up_n (by decide) h8))))))), (up_n (by decide) (up_n (by decide) (up_n (by decide) (up_n (by decide) (up_n (by decide) (up_n (by decide) (up_n (by decide) h9))))))), (up_n (by decide) (up_n (by decide) (up_n (by decide) (up_n (by decide) (up_n (by decide) (up_n (by decide) (up_s _ _ _))))))), (up_n (by decide) (up_n (by decide) (up_n (by decide) (up_n (by decide) (up_n (by decide) (up_s _ _ _)))))), (up_n (by decide) (up_n (by decide) (up_n (by decide) (up_s _ _ _)))), (up_n (by decide) (up_n (by decide) (up_s _ _ _))), (up_n (by decide) (up_s _ _ _)), (up_s _ _ _), (fun k9 hk9 => by have h9_ := hcv k9 hk9; have i9_ := hI.1.1; exact ⟨(up_n (by omega) (up_n (by omega) (up_n (by omega) (up_n (by omega) (up_n (by omega) (up_n (by omega) (up_n (by omega) h9_.1))))))), (up_n (by omega) (up_n (by omega) (up_n (by omega) (up_n (by omega) (up_n (by omega) (up_n (by omega) (up_n (by omega) h9_.2.1))))))), (up_n (by omega) (up_n (by omega) (up_n (by omega) (up_n (by omega) (up_n (by omega) (up_n (by omega) (up_n (by omega) h9_.2.2)))))))⟩), (fun k9 hk9 => by have h9_ := hms k9 hk9; have i9_ := hI.1.2.2.2.2; exact (up_n (by omega) (up_n (by omega) (up_n (by omega) (up_n (by omega) (up_n (by omega) (up_n (by omega) (up_n (by omega) h9_))))))))⟩, (Or.inr ⟨rfl, rfl, rfl⟩), (tbOk_tb hI).1, (tbOk_tb hI).2.1⟩, hI, ⟨rfl, fun r hr => ⟨(up_n (by omega) (up_n (by omega) (up_n (by omega) (up_n (by omega) (up_n (by omega) (up_n (by omega) (up_n (by omega) rfl))))))), rfl⟩⟩, ⟨rfl, rfl, by omega, by omega, by omega, p_50, rfl, hp_50⟩⟩, by rw [ht]; exact hP, hD⟩, hS.F ht⟩) hS.2.2 dX5_peaks_53
      · skip
        obtain ⟨sa_15, hsa_15⟩ := ns_202 hB
        rw [hQ9]
        exact vx_throwS (pc := 15) (own := RX5) (cls := xIA) (names := ["java/lang/RuntimeException", "java/lang/Exception"]) (ik := 112) (is := 202) (ic := 116) (A := A) hx hb hl0 hown (by decide +kernel) (by decide +kernel) (hts (.classLink RX5 112 "java/lang/IllegalArgumentException") (by decide +kernel)) (hts (.initialized "java/lang/IllegalArgumentException") (by decide +kernel)) hsa_15 (gx_hat hB (E := xIA) (i := 0) rfl (fun w h => hts w (hxw_xIA_116 w h)) (by decide +kernel)) (by decide +kernel) hZ.1 hZ.2 hS (hl.1.trans hml.symm) dX5_peaks_15 dX5_peaks_18 dX5_peaks_19 dX5_peaks_21 dX5_peaks_24 (fun x h => (hE x h).elim) (Nat.le_of_ble_eq_true rfl) (Nat.le_of_ble_eq_true rfl) (Nat.le_of_ble_eq_true rfl) (Nat.le_of_ble_eq_true rfl) hlocks (fun t hW hz hk => ⟨⟨rfl, by omega⟩, fun r x hr => (hP r x hr).kept (hk _ (hP r x hr).lt), hD, Nat.le_trans hS.1 hz, fun q h1 h2 => (hk q (Nat.lt_of_lt_of_le h1 hS.1)).trans (hS.2.1 q h1 h2)⟩) hS.2.2 (Nat.le_of_ble_eq_true rfl) (Nat.le_of_ble_eq_true rfl)
