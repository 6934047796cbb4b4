theorem fp_dvs : ∀ n : Fin 401, n ≠ 0 → (match Jvm.FP.Core.round Jvm.FP.Core.b64 (Jvm.FP.Core.ofInt ((n : Nat) : Int)) with | .fin _ d _ => decide (d ≠ 0) | _ => false) = true := by decide +kernel
theorem fp_no {f : Jvm.FP.Core.Fmt} {s : Bool} {a b : Nat} {e : Int} : Jvm.FP.Core.roundRatio f s a b e ≠ .nan := by
  unfold Jvm.FP.Core.roundRatio Jvm.FP.Core.roundAt Jvm.FP.Core.settle Jvm.FP.Core.bound
  repeat' split
  all_goals (intro h; cases h)
theorem fp_qn {x y : UInt64} {i j : Int} (hx : Jvm.FP.Core.val64 x = Jvm.FP.Core.round Jvm.FP.Core.b64 (Jvm.FP.Core.ofInt i)) (hy : Jvm.FP.Core.val64 y = Jvm.FP.Core.round Jvm.FP.Core.b64 (Jvm.FP.Core.ofInt j)) (hj : 1 ≤ j ∧ j ≤ 400) : vf_n64 (FP.ddiv x y) := by
  have h1 : Jvm.FP.Core.val64 (FP.ddiv x y) ≠ .nan := by
    show Jvm.FP.Core.val64 (Jvm.FP.Core.ddiv x y) ≠ .nan
    rw [Jvm.FP.Core.val64_ddiv, hx, hy]
    have h2 := fp_dvs ⟨j.toNat, by omega⟩ (by intro h; have := congrArg Fin.val h; simp at this; omega)
    rw [show (((⟨j.toNat, by omega⟩ : Fin 401) : Nat) : Int) = j by show (j.toNat : Int) = j; omega] at h2
    generalize Jvm.FP.Core.round Jvm.FP.Core.b64 (Jvm.FP.Core.ofInt j) = z at h2 ⊢
    obtain ⟨s, a, b, e, g⟩ : ∃ s a b e, Jvm.FP.Core.round Jvm.FP.Core.b64 (Jvm.FP.Core.ofInt i) = Jvm.FP.Core.roundRatio Jvm.FP.Core.b64 s a b e := ⟨_, _, _, _, rfl⟩
    have g2 := fp_no (f := Jvm.FP.Core.b64) (s := s) (a := a) (b := b) (e := e)
    rw [← g] at g2
    clear g
    generalize Jvm.FP.Core.round Jvm.FP.Core.b64 (Jvm.FP.Core.ofInt i) = y1 at g2 ⊢
    cases z with
    | nan => simp at h2
    | inf t => simp at h2
    | fin t d r =>
      have h3 : d ≠ 0 := of_decide_eq_true h2
      cases y1 with
      | nan => exact absurd rfl g2
      | inf t2 => intro h; cases h
      | fin t2 d2 r2 =>
        show (if d = 0 then _ else _) ≠ _
        rw [if_neg h3]
        exact fp_no
  have h4 : Jvm.FP.Core.dIsNaN (FP.ddiv x y) = false := by
    show decide (Jvm.FP.Core.val64 _ = .nan) = false
    exact decide_eq_false h1
  have h5 : ¬ 9218868437227405312 < (FP.ddiv x y).toNat % 2 ^ 63 := fun h => by
    rw [(Jvm.FP.Core.isNaN_bits _).mpr h] at h4
    cases h4
  show FP.ddiv x y &&& 0x7fffffffffffffff ≤ 0x7ff0000000000000
  rw [UInt64.le_iff_toNat_le, UInt64.toNat_and]
  have h6 := Nat.and_two_pow_sub_one_eq_mod (FP.ddiv x y).toNat 63
  rw [show (0x7fffffffffffffff : UInt64).toNat = 2 ^ 63 - 1 by decide, h6, show (0x7ff0000000000000 : UInt64).toNat = 9218868437227405312 by decide]
  omega
theorem fp_qi {t n : Int} (ht : -9223372036854775808 ≤ t ∧ t < 9223372036854775808) (hn : 1 ≤ n ∧ n ≤ 400) : vf_n64 (FP.ddiv (FP.l2d (lI t)) (FP.i2d (iI n))) :=
  fp_qn (i := t) (j := n) (by rw [show FP.l2d (lI t) = Jvm.FP.Core.l2d (lI t) from rfl, Jvm.FP.Core.val64_l2d, lI_toInt ht]) (by rw [show FP.i2d (iI n) = Jvm.FP.Core.i2d (iI n) from rfl, Jvm.FP.Core.val64_i2d, iI_toInt ⟨by omega, by omega⟩]) hn
theorem fp_ql {t n : Int} (ht : -9223372036854775808 ≤ t ∧ t < 9223372036854775808) (hn : 1 ≤ n ∧ n ≤ 400) : vf_n64 (FP.ddiv (FP.l2d (lI t)) (FP.l2d (lI n))) :=
  fp_qn (i := t) (j := n) (by rw [show FP.l2d (lI t) = Jvm.FP.Core.l2d (lI t) from rfl, Jvm.FP.Core.val64_l2d, lI_toInt ht]) (by rw [show FP.l2d (lI n) = Jvm.FP.Core.l2d (lI n) from rfl, Jvm.FP.Core.val64_l2d, lI_toInt ⟨by omega, by omega⟩]) hn
theorem fp_il {n : Int} (hn : 0 ≤ n ∧ n ≤ 400) : FP.i2d (iI n) = FP.l2d (lI n) := by
  show Jvm.FP.Core.i2d (iI n) = Jvm.FP.Core.l2d (lI n)
  unfold Jvm.FP.Core.i2d Jvm.FP.Core.l2d
  rw [iI_toInt ⟨by omega, by omega⟩, lI_toInt ⟨by omega, by omega⟩]
theorem cv_pt {cA : Nat → ClassId} {ad : Nat → Nat} {w : Nat → Option va_E} {sc : Nat → Int} {fn : Nat → Int → Int} {k : Nat} {p s q : Int} {x : va_E} (h6 : sc 0 ≤ 6) (hcv : ∀ j : Nat, (j : Int) < sc 0 → w (30 + 3 * j) = some (oB 0 [.int (iI (fn 8 (j : Int))), .ref (ad (31 + 3 * j)), .ref (ad (32 + 3 * j)), .int (iI (fn 9 (j : Int)))]) ∧ w (31 + 3 * j) = some (eI (cA 0) 12 (fn (20 + j))) ∧ w (32 + 3 * j) = some (eI (cA 0) 12 (fn (30 + j)))) (hk : (k : Int) < sc 0) : ∀ j : Nat, (j : Int) < sc 0 → (up (up (up (up w (31 + 3 * k) (eI (cA 0) 12 (insF (fn (20 + k)) (fn 9 (k : Int)) p s))) (32 + 3 * k) (eI (cA 0) 12 (insF (fn (30 + k)) (fn 9 (k : Int)) p q))) (30 + 3 * k) (oB 0 [.int (iI (fn 8 (k : Int))), .ref (ad (31 + 3 * k)), .ref (ad (32 + 3 * k)), .int (iI (fn 9 (k : Int) + 1))])) 0 x) (30 + 3 * j) = some (oB 0 [.int (iI ((ptF fn k p s q) 8 (j : Int))), .ref (ad (31 + 3 * j)), .ref (ad (32 + 3 * j)), .int (iI ((ptF fn k p s q) 9 (j : Int)))]) ∧ (up (up (up (up w (31 + 3 * k) (eI (cA 0) 12 (insF (fn (20 + k)) (fn 9 (k : Int)) p s))) (32 + 3 * k) (eI (cA 0) 12 (insF (fn (30 + k)) (fn 9 (k : Int)) p q))) (30 + 3 * k) (oB 0 [.int (iI (fn 8 (k : Int))), .ref (ad (31 + 3 * k)), .ref (ad (32 + 3 * k)), .int (iI (fn 9 (k : Int) + 1))])) 0 x) (31 + 3 * j) = some (eI (cA 0) 12 ((ptF fn k p s q) (20 + j))) ∧ (up (up (up (up w (31 + 3 * k) (eI (cA 0) 12 (insF (fn (20 + k)) (fn 9 (k : Int)) p s))) (32 + 3 * k) (eI (cA 0) 12 (insF (fn (30 + k)) (fn 9 (k : Int)) p q))) (30 + 3 * k) (oB 0 [.int (iI (fn 8 (k : Int))), .ref (ad (31 + 3 * k)), .ref (ad (32 + 3 * k)), .int (iI (fn 9 (k : Int) + 1))])) 0 x) (32 + 3 * j) = some (eI (cA 0) 12 ((ptF fn k p s q) (30 + j))) := by
  intro j hj
  rw [ptF_low (by omega), ptF_n, ptF_st (by omega), ptF_fl (by omega) (by omega)]
  by_cases e : j = k
  · subst e
    rw [updI_s, if_pos rfl, if_pos rfl]
    exact ⟨up_n (by omega) (up_s _ _ _), up_n (by omega) (up_n (by omega) (up_n (by omega) (up_s _ _ _))), up_n (by omega) (up_n (by omega) (up_s _ _ _))⟩
  · rw [updI_n _ _ (by omega), if_neg e, if_neg e]
    have h := hcv j hj
    exact ⟨up_n (by omega) (up_n (by omega) (up_n (by omega) (up_n (by omega) h.1))), up_n (by omega) (up_n (by omega) (up_n (by omega) (up_n (by omega) h.2.1))), up_n (by omega) (up_n (by omega) (up_n (by omega) (up_n (by omega) h.2.2)))⟩
/-- digest(): the counts, and then the days -/
def dgC (sc : Nat → Int) (fn : Nat → Int → Int) : Nat → Int
  | 0 => 317
  | n + 1 => dgC sc fn n * 31 + cntV sc fn (n : Int)
noncomputable def dgD (sc : Nat → Int) (fn : Nat → Int → Int) (z : Int) : Nat → Int
  | 0 => z
  | n + 1 => ((dgD sc fn z n * 31 + sftF (fn 0) (fn 1) (sc 1) (n : Int)) * 31 + tbS sc fn (n : Int)) * 31 + tbF sc fn (n : Int)
noncomputable def dgV (sc : Nat → Int) (fn : Nat → Int → Int) : Int := dgD sc fn ((dgC sc fn 5 * 31 + sc 2) * 31 + sc 3) 400
theorem dgC_s {sc : Nat → Int} {fn : Nat → Int → Int} {i : Int} (h : 0 ≤ i) : dgC sc fn (i + 1).toNat = dgC sc fn i.toNat * 31 + cntV sc fn i := by
  rw [show (i + 1).toNat = i.toNat + 1 by omega]
  show dgC sc fn i.toNat * 31 + cntV sc fn (i.toNat : Int) = _
  rw [show (i.toNat : Int) = i by omega]
theorem dgD_s {sc : Nat → Int} {fn : Nat → Int → Int} {z i : Int} (h : 0 ≤ i) : dgD sc fn z (i + 1).toNat = ((dgD sc fn z i.toNat * 31 + sftF (fn 0) (fn 1) (sc 1) i) * 31 + tbS sc fn i) * 31 + tbF sc fn i := by
  rw [show (i + 1).toNat = i.toNat + 1 by omega]
  show ((dgD sc fn z i.toNat * 31 + sftF (fn 0) (fn 1) (sc 1) (i.toNat : Int)) * 31 + tbS sc fn (i.toNat : Int)) * 31 + tbF sc fn (i.toNat : Int) = _
  rw [show (i.toNat : Int) = i by omega]
theorem cntV_b {sc : Nat → Int} {fn : Nat → Int → Int} (h : bkInv sc fn) {x : Int} : 0 ≤ cntV sc fn x ∧ cntV sc fn x ≤ 400 := by
  have h1 := h.1
  have h2 := cntT_b (fn 3) 0 400
  have h3 := cntT_b (fn 4) 0 400
  unfold cntV
  repeat' split
  all_goals omega

abbrev rmX5_addPoint : Room := { frames := 7, cells := 3, slots := 18, locals := 103 }
theorem hxwX5_addPoint_xIS_71 : ∀ w ∈ (vx_atS RX5 71 xIS ["java/lang/RuntimeException", "java/lang/Exception"]).filter goodWord, w ∈ wsX5_addPoint := by decide +kernel
theorem hxwX5_addPoint_xIX_94 : ∀ w ∈ (vx_atS RX5 94 xIX ["java/lang/RuntimeException", "java/lang/Exception"]).filter goodWord, w ∈ wsX5_addPoint := by decide +kernel
theorem hiX5_addPoint_5 : ∀ w ∈ wsX50, w ∈ wsX5_addPoint := by decide +kernel
set_option maxHeartbeats 4000000 in
set_option maxRecDepth 100000 in
theorem c_X5_addPoint (l : Launch) (hl0 : l.stackTraces = false) (D : va_G) (cA : Nat → ClassId) (ad : Nat → Nat) (w : Nat → Option va_E) (sz : Nat) (sc : Nat → Int) (fn : Nat → Int → Int) (hI : bkInv sc fn) (hbk : bookS cA ad w sc fn) (ci sg q : Int) (hci : (-2147483648 ≤ ci ∧ ci < 2147483648)) (hs_ : (-2147483648 ≤ sg ∧ sg < 2147483648)) (hq_ : (-2147483648 ≤ q ∧ q < 2147483648)) : vx_Met l yX5_addPoint wsX5_addPoint rmX5_addPoint (gV D cA ad w sz [.ref (ad 0), .int (iI ci), .int (iI sg), .int (iI q)]) (gW D (fun v9 ad1 w1 => ∃ (sc2 : Nat → Int) (fn2 : Nat → Int → Int), bookS cA ad1 w1 sc2 fn2 ∧ bkInv sc2 fn2 ∧ keepR ad ad1 w w1 ∧ (sc2 = sc ∧ ∃ (k : Nat) (p : Int), ci = (k : Int) ∧ (k : Int) < sc 0 ∧ fn2 = ptF fn k p sg q ∧ clP (fn (20 + k)) (fn 9 (k : Int)) sg p ∧ canP (fn (20 + k)) (fn (30 + k)) (fn 9 (k : Int)) sg q p ∧ ((-500 ≤ sg ∧ sg ≤ 2000) ∧ (0 ≤ q ∧ q ≤ 1000000)) ∧ v9 = some (.int (iI (fn 9 ci + 1))))) (gA ad w sz)) (gX D (fun E => (E = xIX ∧ ¬ (0 ≤ ci ∧ ci < sc 0)) ∨ (E = xIA ∧ (0 ≤ ci ∧ ci < sc 0) ∧ ¬ ((-500 ≤ sg ∧ sg ≤ 2000) ∧ (0 ≤ q ∧ q ≤ 1000000))) ∨ (E = xIS ∧ ((-500 ≤ sg ∧ sg ≤ 2000) ∧ (0 ≤ q ∧ q ≤ 1000000)) ∧ ∃ (k : Nat) (p : Int), ci = (k : Int) ∧ (k : Int) < sc 0 ∧ clP (fn (20 + k)) (fn 9 (k : Int)) sg p ∧ ¬ canP (fn (20 + k)) (fn (30 + k)) (fn 9 (k : Int)) sg q p)) ad w (gA ad w sz)) 3 18 (gA ad w sz) := by
  refine vx_ofW (cc := cX5_addPoint) (maxL := 5) (ret := (some .int)) (by decide) rfl ?_
  intro p e s m args below meth c s₁ B hml hE hv
  obtain ⟨hav, hsz, hP, hD0, hK, hB, hZ⟩ := hv
  have hx := B.exec
  have hb := B.bytes
  have hret := B.returns
  have hts := atoms_spec (ws := wsX5_addPoint) B.pre
  have hown : s.vm.findClass RX5 = some m.cls := findClass_of_methodNamed B.named
  have hlocks := B.notSynchronized
  subst hsz
  have hD := hD0.self (sz := s.heap.size)
  generalize hAe : gA ad w s.heap.size = A at hD hZ ⊢
  have hA : ∀ q : Nat, s.heap.size ≤ q → A q := fun q h => by rw [← hAe]; exact Or.inr h
  have hS : va_S A s.heap s.heap [] := va_S.rf
  have hi5 := hiX5_addPoint_5
  have hxw_xIS_71 := hxwX5_addPoint_xIS_71
  have hxw_xIX_94 := hxwX5_addPoint_xIX_94
  have hf82 := hts (.fieldLink RX5 82 "GaugeBook" "isReckoned" "Z") (by decide +kernel)
  have he9 : entryFrame m args 5 = F0 m 0 ((lg_sl ([.ref (ad 0), .int (iI ci), .int (iI sg), .int (iI q)] : List Value) ++ List.replicate (5 - (lg_sl ([.ref (ad 0), .int (iI ci), .int (iI sg), .int (iI q)] : List Value)).length) Slot.unset).toArray) [] := by rw [hav, lg_entry_eq]
  rw [he9]
  have hl := lv_entry ([.ref (ad 0), .int (iI ci), .int (iI sg), .int (iI q)] : List Value) (n := 5) (Nat.le_of_ble_eq_true rfl)
  generalize (lg_sl ([.ref (ad 0), .int (iI ci), .int (iI sg), .int (iI q)] : List Value) ++ List.replicate (5 - (lg_sl ([.ref (ad 0), .int (iI ci), .int (iI sg), .int (iI q)] : List Value)).length) Slot.unset).toArray = ls at hl ⊢
  have hl : lv_has ls 5 [(0, .ref (ad 0)), (1, .int (iI ci)), (2, .int (iI sg)), (3, .int (iI q))] := hl
  obtain ⟨Q9, hQ9⟩ : ∃ z, z = vx_MQ below (gW D (fun v9 ad1 w1 => ∃ (sc2 : Nat → Int) (fn2 : Nat → Int → Int), bookS cA ad1 w1 sc2 fn2 ∧ bkInv sc2 fn2 ∧ keepR ad ad1 w w1 ∧ (sc2 = sc ∧ ∃ (k : Nat) (p : Int), ci = (k : Int) ∧ (k : Int) < sc 0 ∧ fn2 = ptF fn k p sg q ∧ clP (fn (20 + k)) (fn 9 (k : Int)) sg p ∧ canP (fn (20 + k)) (fn (30 + k)) (fn 9 (k : Int)) sg q p ∧ ((-500 ≤ sg ∧ sg ≤ 2000) ∧ (0 ≤ q ∧ q ≤ 1000000)) ∧ v9 = some (.int (iI (fn 9 ci + 1))))) A) (gX D (fun E => (E = xIX ∧ ¬ (0 ≤ ci ∧ ci < sc 0)) ∨ (E = xIA ∧ (0 ≤ ci ∧ ci < sc 0) ∧ ¬ ((-500 ≤ sg ∧ sg ≤ 2000) ∧ (0 ≤ q ∧ q ≤ 1000000))) ∨ (E = xIS ∧ ((-500 ≤ sg ∧ sg ≤ 2000) ∧ (0 ≤ q ∧ q ≤ 1000000)) ∧ ∃ (k : Nat) (p : Int), ci = (k : Int) ∧ (k : Int) < sc 0 ∧ clP (fn (20 + k)) (fn 9 (k : Int)) sg p ∧ ¬ canP (fn (20 + k)) (fn (30 + k)) (fn 9 (k : Int)) sg q p)) ad w A) args s 3 18 A := ⟨_, rfl⟩
  rw [← hQ9]
  show W p l e rmX5_addPoint s m args below meth c s.heap [] 0 0 Q9 (F0 m 0 ls [])
  obtain ⟨H, hHe⟩ : ∃ z, z = s.heap := ⟨_, rfl⟩
  obtain ⟨locs, hLe⟩ : ∃ z, z = ([] : List Loc) := ⟨_, rfl⟩
  have hP : gP D vwCl ad w H := by rw [hHe]; exact hP
  have hS : va_S A s.heap H locs := by rw [hHe, hLe]; exact va_S.rf
  rw [show W p l e rmX5_addPoint s m args below meth c s.heap [] 0 0 Q9 (F0 m 0 ls []) = W p l e rmX5_addPoint s m args below meth c H locs 0 0 Q9 (F0 m 0 ls []) by rw [hHe, hLe]]
  clear hHe hLe
  obtain ⟨rk, F, S, rn, rd, rm_, rz, ⟨h0, h1, h2, h3, h4, h5, h6, h7, h8, h9, h10, h11, h12, h13, h14, h15, hcv, hms⟩, hrk, hF, hS9⟩ := hbk
  have hI1 := hI.1
  refine lv_aload_n (pc := 0) hx hb dX5_addPoint_0 rfl (lv_at hl 0 rfl) ?_
  refine lv_iload_n (pc := 1) hx hb dX5_addPoint_1 rfl (lv_at hl 1 rfl) ?_
  refine k_call0 (pc := 2) (va_runV (As := [.int (iI ci)]) (rest := []) ⟨hx, hb, hml, hown, hts⟩ (c_X5_curveAt l D cA ad w sc fn rk hI h0 h1 ci ⟨by omega, by omega⟩) (cwV 1 hts gX5_addPoint_X5_curveAt rfl rfl rfl (by decide +kernel) ⟨Nat.le_of_ble_eq_true rfl, Nat.le_of_ble_eq_true rfl⟩) (gR_V hP hK hB 0 (ci := 5) rfl h0) rfl rfl hl.1 rfl (lv_room (Nat.le_of_ble_eq_true rfl)) dX5_addPoint_2 ⟨Nat.le_of_ble_eq_true rfl, Nat.le_of_ble_eq_true rfl⟩) (fun v_2 hv_2 => ?_)
  rcases hv_2 with ⟨k_2, hk_2, he_2, hv_2⟩ | ⟨he_2, hv_2⟩
  · skip
    subst hv_2
    refine W.eq (g2 := F0 m 5 ls [.ref (ad (30 + 3 * k_2))]) rfl ?_
    refine lv_astore (pc := 5) (lv' := [(4, .ref (ad (30 + 3 * k_2))), (0, .ref (ad 0)), (1, .int (iI ci)), (2, .int (iI sg)), (3, .int (iI q))]) hx hb dX5_addPoint_5 hl (by decide) rfl (fun ls hl => ?_)
    refine lv_aload (pc := 7) hx hb dX5_addPoint_7 (lv_at hl 0 rfl) ?_
    refine lv_ifnonnull (pc := 9) (tgt := 22) hx hb dX5_addPoint_9 (by decide) ?_
    refine lv_iload_n (pc := 22) hx hb dX5_addPoint_22 rfl (lv_at hl 3 rfl) ?_
    refine k_i2l (pc := 23) hx hb ⟨by omega, by omega⟩ dX5_addPoint_23 ?_
    refine k_callx (pc := 24) (vx_runS (As := [.long (lI sg)]) (rest := []) ⟨hx, hb, hml, hown, hts⟩ (c_X5_requireStage l hl0 D cA ad w H.size sg ⟨by omega, by omega⟩) (va_cwS 1 hts gX5_addPoint_X5_requireStage rfl rfl rfl (by decide +kernel) ⟨Nat.le_of_ble_eq_true rfl, Nat.le_of_ble_eq_true rfl⟩) (gV_S hP hD hK hB hS hA hZ) rfl rfl hl.1 rfl (lv_room (Nat.le_of_ble_eq_true rfl)) dX5_addPoint_24 ⟨Nat.le_of_ble_eq_true rfl, Nat.le_of_ble_eq_true rfl⟩) hS (gA_sub hD hS hA) (fun E_24 ce_24 q_24 H locs hpx_24 hP hD hS hce_24 hcv_24 hcl_24 => ?_) (fun v_24 ad_24 w_24 H locs hv_24 hP hD hS => ?_)
    · skip
      rw [hQ9]
      exact vx_out (fun x h => (hE x h).elim) hlocks hce_24 hcv_24 hcl_24 (fun t ht hW => ⟨Or.inr (Or.inl ⟨hpx_24.1, by omega, fun z => hpx_24.2 z.1⟩), by rw [ht]; exact hP, hD, hS.F ht⟩) hS.2.2 (by decide) (by decide)
    · skip
      obtain ⟨hv1, hv2, hv3, hq_24⟩ := hv_24
      subst hv1
      rw [hv2, hv3] at hP hD
      refine W.eq (g2 := F0 m 27 ls []) rfl ?_
      refine W.cs (cells' := 1) (slots' := 6) rfl rfl ?_
      refine lv_iload_n (pc := 27) hx hb dX5_addPoint_27 rfl (lv_at hl 4 rfl) ?_
      refine k_callx (pc := 28) (vx_runS (As := [.int (iI q)]) (rest := []) ⟨hx, hb, hml, hown, hts⟩ (c_X5_requireFlow l hl0 D cA ad w H.size q ⟨by omega, by omega⟩) (va_cwS 1 hts gX5_addPoint_X5_requireFlow rfl rfl rfl (by decide +kernel) ⟨Nat.le_of_ble_eq_true rfl, Nat.le_of_ble_eq_true rfl⟩) (gV_S hP hD hK hB hS hA hZ) rfl rfl hl.1 rfl (lv_room (Nat.le_of_ble_eq_true rfl)) dX5_addPoint_28 ⟨Nat.le_of_ble_eq_true rfl, Nat.le_of_ble_eq_true rfl⟩) hS (gA_sub hD hS hA) (fun E_28 ce_28 q_28 H locs hpx_28 hP hD hS hce_28 hcv_28 hcl_28 => ?_) (fun v_28 ad_28 w_28 H locs hv_28 hP hD hS => ?_)
      · skip
        rw [hQ9]
        exact vx_out (fun x h => (hE x h).elim) hlocks hce_28 hcv_28 hcl_28 (fun t ht hW => ⟨Or.inr (Or.inl ⟨hpx_28.1, by omega, fun z => hpx_28.2 z.2⟩), by rw [ht]; exact hP, hD, hS.F ht⟩) hS.2.2 (by decide) (by decide)
      · skip
        obtain ⟨hv1, hv2, hv3, hq_28⟩ := hv_28
        subst hv1
        rw [hv2, hv3] at hP hD
        refine W.eq (g2 := F0 m 31 ls []) rfl ?_
        refine W.cs (cells' := 2) (slots' := 12) rfl rfl ?_
        refine lv_aload (pc := 31) hx hb dX5_addPoint_31 (lv_at hl 0 rfl) ?_
        refine lv_iload_n (pc := 33) hx hb dX5_addPoint_33 rfl (lv_at hl 3 rfl) ?_
        refine lv_iload_n (pc := 34) hx hb dX5_addPoint_34 rfl (lv_at hl 4 rfl) ?_
        refine k_call1 (pc := 35) (va_runV (As := [.int (iI sg), .int (iI q)]) (rest := []) ⟨hx, hb, hml, hown, hts⟩ (c_X0_insert l D cA ad w H.size (30 + 3 * k_2) (31 + 3 * k_2) (32 + 3 * k_2) (fn 8 (k_2 : Int)) (fn 9 (k_2 : Int)) (fn (20 + k_2)) (fn (30 + k_2)) (hcv k_2 hk_2).1 (hcv k_2 hk_2).2.1 (hcv k_2 hk_2).2.2 (by have h9_ := hI.2.2.2.2.2.2.2.2.2.1 (k_2 : Int); omega) (hI.2.2.2.2.2.2.2.2.2.2 k_2 hk_2) (by omega) (by omega) (by omega) sg q (by omega) (by omega)) (cwV 2 hts gX5_addPoint_X0_insert rfl rfl rfl (by decide +kernel) ⟨Nat.le_of_ble_eq_true rfl, Nat.le_of_ble_eq_true rfl⟩) (gV_V hP hD hK hB hS hA hZ (30 + 3 * k_2) (ci := 0) rfl (hcv k_2 hk_2).1) rfl rfl hl.1 rfl (lv_room (Nat.le_of_ble_eq_true rfl)) dX5_addPoint_35 ⟨Nat.le_of_ble_eq_true rfl, Nat.le_of_ble_eq_true rfl⟩) hS (gA_sub hD hS hA) (fun v_35 ad_35 w_35 H locs hv_35 hP hD hS => ?_)
        obtain ⟨p_35, hp_35, hv2, ⟨hcp_35, hv1, hv3⟩ | ⟨hcp_35, hv1, hv3⟩⟩ := hv_35
        · skip
          subst hv1
          rw [hv2, hv3] at hP hD
          refine W.eq (g2 := F0 m 38 ls [.int (iI 1)]) rfl ?_
          refine W.cs (cells' := 2) (slots' := 12) rfl rfl ?_
          refine k_if_ne (pc := 38) (tgt := 51) hx hb ⟨by omega, by omega⟩ dX5_addPoint_38 (by decide) (fun hc_38 => ?_) (fun hc_38 => ?_)
          · skip
            refine lv_aload_n (pc := 51) hx hb dX5_addPoint_51 rfl (lv_at hl 1 rfl) ?_
            refine k_iconst (pc := 52) hx hb dX5_addPoint_52 ?_
            refine k_put (pc := 53) (ci := 5) (C := RX5) (T := TX5) (N := 13) (ty := .boolean) (v := .int (iI 0)) (w1 := (up (up (up (up w (31 + 3 * k_2) (eI (cA 0) 12 (insF (fn (20 + k_2)) (fn 9 (k_2 : Int)) p_35 sg))) (32 + 3 * k_2) (eI (cA 0) 12 (insF (fn (30 + k_2)) (fn 9 (k_2 : Int)) p_35 q))) (30 + 3 * k_2) (oB 0 [.int (iI (fn 8 (k_2 : Int))), .ref (ad (31 + 3 * k_2)), .ref (ad (32 + 3 * k_2)), .int (iI ((fn 9 (k_2 : Int)) + 1))])) 0 (oB 5 [.ref (ad 1), .ref (ad 2), .ref (ad 5), .ref (ad 6), .ref (ad 7), .ref (ad 8), .ref (ad 9), .ref (ad 12), .int (iI (sc 0)), .int (iI (sc 4)), .int (iI (sc 2)), .int (iI (sc 3)), .int (iI 0)]))) hx hb hts hi5 tyX5 tyX5_ok nmX5 hown hK hP hD hS 0 (up_n (by omega) (up_n (by omega) (up_n (by omega) h0))) rfl 12 (by decide) hf82 (fun _ h9 => h9) rfl (by decide +kernel) (by decide +kernel) rfl (Nat.le_of_ble_eq_true rfl) rfl dX5_addPoint_53 (fun H locs hP hD hS => ?_)
            refine lv_aload (pc := 56) hx hb dX5_addPoint_56 (lv_at hl 0 rfl) ?_
            refine k_call0 (pc := 58) (va_runV (As := []) (rest := []) ⟨hx, hb, hml, hown, hts⟩ (c_X0_size l D cA ad (up (up (up (up w (31 + 3 * k_2) (eI (cA 0) 12 (insF (fn (20 + k_2)) (fn 9 (k_2 : Int)) p_35 sg))) (32 + 3 * k_2) (eI (cA 0) 12 (insF (fn (30 + k_2)) (fn 9 (k_2 : Int)) p_35 q))) (30 + 3 * k_2) (oB 0 [.int (iI (fn 8 (k_2 : Int))), .ref (ad (31 + 3 * k_2)), .ref (ad (32 + 3 * k_2)), .int (iI ((fn 9 (k_2 : Int)) + 1))])) 0 (oB 5 [.ref (ad 1), .ref (ad 2), .ref (ad 5), .ref (ad 6), .ref (ad 7), .ref (ad 8), .ref (ad 9), .ref (ad 12), .int (iI (sc 0)), .int (iI (sc 4)), .int (iI (sc 2)), .int (iI (sc 3)), .int (iI 0)])) (30 + 3 * k_2) (31 + 3 * k_2) (32 + 3 * k_2) (fn 8 (k_2 : Int)) ((fn 9 (k_2 : Int)) + 1) (insF (fn (20 + k_2)) (fn 9 (k_2 : Int)) p_35 sg) (insF (fn (30 + k_2)) (fn 9 (k_2 : Int)) p_35 q) (up_n (by omega) (up_s _ _ _)) (up_n (by omega) (up_n (by omega) (up_n (by omega) (up_s _ _ _)))) (up_n (by omega) (up_n (by omega) (up_s _ _ _))) (by have h9_ := hI.2.2.2.2.2.2.2.2.2.1 (k_2 : Int); have g9_ := hcp_35.1; omega) (cvOk_ins (hI.2.2.2.2.2.2.2.2.2.2 k_2 hk_2) (hI.2.2.2.2.2.2.2.2.2.1 (k_2 : Int)).1 hq_24 hq_28 hp_35 hcp_35)) (cwV 0 hts gX5_addPoint_X0_size rfl rfl rfl (by decide +kernel) ⟨Nat.le_of_ble_eq_true rfl, Nat.le_of_ble_eq_true rfl⟩) (gR_V hP hK hB (30 + 3 * k_2) (ci := 0) rfl (up_n (by omega) (up_s _ _ _))) rfl rfl hl.1 rfl (lv_room (Nat.le_of_ble_eq_true rfl)) dX5_addPoint_58 ⟨Nat.le_of_ble_eq_true rfl, Nat.le_of_ble_eq_true rfl⟩) (fun v_58 hv_58 => ?_)
            obtain ⟨z_58, rfl, rfl⟩ := hv_58
            refine W.eq (g2 := F0 m 61 ls [.int (iI ((fn 9 (k_2 : Int)) + 1))]) rfl ?_
            have hbk2 : bookS cA ad (up (up (up (up w (31 + 3 * k_2) (eI (cA 0) 12 (insF (fn (20 + k_2)) (fn 9 (k_2 : Int)) p_35 sg))) (32 + 3 * k_2) (eI (cA 0) 12 (insF (fn (30 + k_2)) (fn 9 (k_2 : Int)) p_35 q))) (30 + 3 * k_2) (oB 0 [.int (iI (fn 8 (k_2 : Int))), .ref (ad (31 + 3 * k_2)), .ref (ad (32 + 3 * k_2)), .int (iI ((fn 9 (k_2 : Int)) + 1))])) 0 (oB 5 [.ref (ad 1), .ref (ad 2), .ref (ad 5), .ref (ad 6), .ref (ad 7), .ref (ad 8), .ref (ad 9), .ref (ad 12), .int (iI (sc 0)), .int (iI (sc 4)), .int (iI (sc 2)), .int (iI (sc 3)), .int (iI 0)])) sc (ptF fn k_2 p_35 sg q) := by refine ⟨0, F, S, rn, rd, rm_, rz, ?_, Or.inl rfl, hF, hS9⟩; unfold bookAt; rw [ptF_low (i := 0) (by omega)]; rw [ptF_low (i := 1) (by omega)]; rw [ptF_low (i := 2) (by omega)]; rw [ptF_low (i := 3) (by omega)]; rw [ptF_low (i := 4) (by omega)]; rw [ptF_low (i := 5) (by omega)]; rw [ptF_low (i := 6) (by omega)]; rw [ptF_low (i := 7) (by omega)]; exact ⟨(up_s _ _ _), (up_n (by decide) (up_n (by omega) (up_n (by omega) (up_n (by omega) h1)))), (up_n (by decide) (up_n (by omega) (up_n (by omega) (up_n (by omega) h2)))), (up_n (by decide) (up_n (by omega) (up_n (by omega) (up_n (by omega) h3)))), (up_n (by decide) (up_n (by omega) (up_n (by omega) (up_n (by omega) h4)))), (up_n (by decide) (up_n (by omega) (up_n (by omega) (up_n (by omega) h5)))), (up_n (by decide) (up_n (by omega) (up_n (by omega) (up_n (by omega) h6)))), (up_n (by decide) (up_n (by omega) (up_n (by omega) (up_n (by omega) h7)))), (up_n (by decide) (up_n (by omega) (up_n (by omega) (up_n (by omega) h8)))), (up_n (by decide) (up_n (by omega) (up_n (by omega) (up_n (by omega) h9)))), (up_n (by decide) (up_n (by omega) (up_n (by omega) (up_n (by omega) h10)))), (up_n (by decide) (up_n (by omega) (up_n (by omega) (up_n (by omega) h11)))), (up_n (by decide) (up_n (by omega) (up_n (by omega) (up_n (by omega) h12)))), (up_n (by decide) (up_n (by omega) (up_n (by omega) (up_n (by omega) h13)))), (up_n (by decide) (up_n (by omega) (up_n (by omega) (up_n (by omega) h14)))), (up_n (by decide) (up_n (by omega) (up_n (by omega) (up_n (by omega) h15)))), (cv_pt (by omega) hcv hk_2), (fun k9 hk9 => by have h9_ := hms k9 hk9; have i9_ := hI.1.2.2.2.2; exact (up_n (by omega) (up_n (by omega) (up_n (by omega) (up_n (by omega) h9_)))))⟩
            rw [hQ9]
            refine vx_ret ?_
            refine W.widen (k := 3) (n := 18) (by decide) (by decide) ?_
            exact W.iret (v := iI ((fn 9 (k_2 : Int)) + 1)) hx hb hret (fun t ht hW => ⟨⟨some (.int (iI ((fn 9 (k_2 : Int)) + 1))), ad, (up (up (up (up w (31 + 3 * k_2) (eI (cA 0) 12 (insF (fn (20 + k_2)) (fn 9 (k_2 : Int)) p_35 sg))) (32 + 3 * k_2) (eI (cA 0) 12 (insF (fn (30 + k_2)) (fn 9 (k_2 : Int)) p_35 q))) (30 + 3 * k_2) (oB 0 [.int (iI (fn 8 (k_2 : Int))), .ref (ad (31 + 3 * k_2)), .ref (ad (32 + 3 * k_2)), .int (iI ((fn 9 (k_2 : Int)) + 1))])) 0 (oB 5 [.ref (ad 1), .ref (ad 2), .ref (ad 5), .ref (ad 6), .ref (ad 7), .ref (ad 8), .ref (ad 9), .ref (ad 12), .int (iI (sc 0)), .int (iI (sc 4)), .int (iI (sc 2)), .int (iI (sc 3)), .int (iI 0)])), rfl, ⟨sc, (ptF fn k_2 p_35 sg q), hbk2, (inv_pt hI hk_2 hq_24 hq_28 hp_35 hcp_35), ⟨rfl, fun r hr => ⟨(up_n (by omega) (up_n (by omega) (up_n (by omega) (up_n (by omega) rfl)))), rfl⟩⟩, ⟨rfl, k_2, p_35, he_2, hk_2, rfl, hp_35, hcp_35, ⟨hq_24, hq_28⟩, by rw [he_2]⟩⟩, by rw [ht]; exact hP, hD⟩, hS.F ht⟩) hS.2.2 dX5_addPoint_61
          · skip
            exfalso
            omega
        · skip
          subst hv1
          rw [hv2, hv3] at hP hD
          refine W.eq (g2 := F0 m 38 ls [.int (iI 0)]) rfl ?_
          refine W.cs (cells' := 2) (slots' := 12) rfl rfl ?_
          refine k_if_ne (pc := 38) (tgt := 51) hx hb ⟨by omega, by omega⟩ dX5_addPoint_38 (by decide) (fun hc_38 => ?_) (fun hc_38 => ?_)
          · skip
            exfalso
            omega
          · skip
            obtain ⟨sa_41, hsa_41⟩ := ns_106 hB
            rw [hQ9]
            exact vx_throwS (pc := 41) (own := RX5) (cls := xIS) (names := ["java/lang/RuntimeException", "java/lang/Exception"]) (ik := 67) (is := 106) (ic := 71) (A := A) hx hb hl0 hown (by decide +kernel) (by decide +kernel) (hts (.classLink RX5 67 "java/lang/IllegalStateException") (by decide +kernel)) (hts (.initialized "java/lang/IllegalStateException") (by decide +kernel)) hsa_41 (gx_hat hB (E := xIS) (i := 1) rfl (fun w h => hts w (hxw_xIS_71 w h)) (by decide +kernel)) (by decide +kernel) hZ.1 hZ.2 hS (hl.1.trans hml.symm) dX5_addPoint_41 dX5_addPoint_44 dX5_addPoint_45 dX5_addPoint_47 dX5_addPoint_50 (fun x h => (hE x h).elim) (Nat.le_of_ble_eq_true rfl) (Nat.le_of_ble_eq_true rfl) (Nat.le_of_ble_eq_true rfl) (Nat.le_of_ble_eq_true rfl) hlocks (fun t hW hz hk => ⟨Or.inr (Or.inr ⟨rfl, ⟨hq_24, hq_28⟩, k_2, p_35, he_2, hk_2, hp_35, hcp_35⟩), fun r x hr => (hP r x hr).kept (hk _ (hP r x hr).lt), hD, Nat.le_trans hS.1 hz, fun q h1 h2 => (hk q (Nat.lt_of_lt_of_le h1 hS.1)).trans (hS.2.1 q h1 h2)⟩) hS.2.2 (Nat.le_of_ble_eq_true rfl) (Nat.le_of_ble_eq_true rfl)
  · skip
    subst hv_2
    refine W.eq (g2 := F0 m 5 ls [.null]) rfl ?_
    refine lv_astoreN (pc := 5) (lv' := [(4, .null), (0, .ref (ad 0)), (1, .int (iI ci)), (2, .int (iI sg)), (3, .int (iI q))]) hx hb dX5_addPoint_5 hl (by decide) rfl (fun ls hl => ?_)
    refine lv_aloadN (pc := 7) hx hb dX5_addPoint_7 (lv_at hl 0 rfl) ?_
    refine lv_ifnonnullN (pc := 9) hx hb dX5_addPoint_9 ?_
    obtain ⟨sa_12, hsa_12⟩ := ns_92 hB
    rw [hQ9]
    exact vx_throwS (pc := 12) (own := RX5) (cls := xIX) (names := ["java/lang/RuntimeException", "java/lang/Exception"]) (ik := 90) (is := 92) (ic := 94) (A := A) hx hb hl0 hown (by decide +kernel) (by decide +kernel) (hts (.classLink RX5 90 "java/lang/IndexOutOfBoundsException") (by decide +kernel)) (hts (.initialized "java/lang/IndexOutOfBoundsException") (by decide +kernel)) hsa_12 (gx_hat hB (E := xIX) (i := 2) rfl (fun w h => hts w (hxw_xIX_94 w h)) (by decide +kernel)) (by decide +kernel) hZ.1 hZ.2 hS (hl.1.trans hml.symm) dX5_addPoint_12 dX5_addPoint_15 dX5_addPoint_16 dX5_addPoint_18 dX5_addPoint_21 (fun x h => (hE x h).elim) (Nat.le_of_ble_eq_true rfl) (Nat.le_of_ble_eq_true rfl) (Nat.le_of_ble_eq_true rfl) (Nat.le_of_ble_eq_true rfl) hlocks (fun t hW hz hk => ⟨Or.inl ⟨rfl, by omega⟩, fun r x hr => (hP r x hr).kept (hk _ (hP r x hr).lt), hD, Nat.le_trans hS.1 hz, fun q h1 h2 => (hk q (Nat.lt_of_lt_of_le h1 hS.1)).trans (hS.2.1 q h1 h2)⟩) hS.2.2 (Nat.le_of_ble_eq_true rfl) (Nat.le_of_ble_eq_true rfl)


