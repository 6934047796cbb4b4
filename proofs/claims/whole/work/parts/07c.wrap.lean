theorem rC_i (o : Int → Int) (y : Int) : rC (some (.int (iI y))) (updI o 0 (wI y) 0) := by
  intro z
  rw [updI_s]
  refine ⟨fun h => ?_, fun h => by cases h⟩
  have h1 := Option.some.inj h
  have h2 : iI y = iI z := by injection h1
  unfold wI
  rw [h2]
theorem rC_l (o : Int → Int) (y : Int) : rC (some (.long (lI y))) (updI o 0 y 0) := by
  intro z
  rw [updI_s]
  refine ⟨fun h => (by cases h), fun h => ?_⟩
  have h1 := Option.some.inj h
  injection h1
theorem rD_d (o : Int → UInt64) (y : UInt64) : rD (some (.double y)) (updD o 0 y 0) := by
  intro z h
  have h1 := Option.some.inj h
  have h2 : y = z := by injection h1
  rw [← h2]
  unfold updD
  rw [if_pos rfl]

abbrev rmL_addCurve : Room := { frames := 8, cells := 4, slots := 34, locals := 124 }
set_option maxHeartbeats 4000000 in
set_option maxRecDepth 100000 in
theorem c_L_addCurve (l : Launch) (hl0 : l.stackTraces = false) (D : va_G) (cA : Nat → ClassId) (ad : Nat → Nat) (w : Nat → Option va_E) (sz : Nat) (sc : Nat → Int) (fn : Nat → Int → Int) (hI : bkInv sc fn) (hbk : bookS cA ad w sc fn) (d : Int) (hd_ : (-2147483648 ≤ d ∧ d < 2147483648)) (o : Int → Int) (ho : w 301 = some (eJ (cA 2) 1 o)) : Met l yL_addCurve wsL_addCurve rmL_addCurve (gV D cA ad w sz [.ref (ad 0), .int (iI d), .ref (ad 301)]) (gW D (fun v9 ad1 w1 => ∃ (k : Int) (sc2 : Nat → Int) (fn2 : Nat → Int → Int) (v : Option Value) (o2 : Int → Int), v9 = some (.int (iI k)) ∧ bookS cA ad1 w1 sc2 fn2 ∧ bkInv sc2 fn2 ∧ keepL 301 ad ad1 w w1 ∧ w1 301 = some (eJ (cA 2) 1 o2) ∧ rlP (okM_addCurve sc fn d) (erM_addCurve sc fn d) sc fn k sc2 fn2 v ∧ (k = 0 → rC v (o2 0)) ∧ 0 ≤ k ∧ k ≤ 3) (gA ad w sz)) 4 34 (gA ad w sz) := by
  refine g_ofH (cc := cL_addCurve) (maxL := 4) (ret := (some .int)) (hh := [(0, 9, 12, 13), (0, 9, 15, 15)]) (by decide) rfl ?_
  intro p e s m args below meth c s₁ B hml hv
  obtain ⟨hav, hsz, hP, hD0, hK, hB, hZ⟩ := hv
  have hx := B.exec
  have hb := B.bytes
  have hret := B.returns
  have hts := atoms_spec (ws := wsL_addCurve) B.pre
  have hown : s.vm.findClass RL = some m.cls := findClass_of_methodNamed B.named
  have hlocks := B.notSynchronized
  have hex := vx_table (x := yL_addCurve) B (hts (.codeWith yL_addCurve cL_addCurve 4 (some .int) [(0, 9, 12, 13), (0, 9, 15, 15)]) (by decide +kernel))
  subst hsz
  have hD := hD0.self (sz := s.heap.size)
  generalize hAe : gA ad w s.heap.size = A at hD hZ ⊢
  have hA : ∀ q : Nat, s.heap.size ≤ q → A q := fun q h => by rw [← hAe]; exact Or.inr h
  have hS : va_S A s.heap s.heap [] := va_S.rf
  have he9 : entryFrame m args 4 = F0 m 0 ((lg_sl ([.ref (ad 0), .int (iI d), .ref (ad 301)] : List Value) ++ List.replicate (4 - (lg_sl ([.ref (ad 0), .int (iI d), .ref (ad 301)] : List Value)).length) Slot.unset).toArray) [] := by rw [hav, lg_entry_eq]
  rw [he9]
  have hl := lv_entry ([.ref (ad 0), .int (iI d), .ref (ad 301)] : List Value) (n := 4) (Nat.le_of_ble_eq_true rfl)
  generalize (lg_sl ([.ref (ad 0), .int (iI d), .ref (ad 301)] : List Value) ++ List.replicate (4 - (lg_sl ([.ref (ad 0), .int (iI d), .ref (ad 301)] : List Value)).length) Slot.unset).toArray = ls at hl ⊢
  have hl : lv_has ls 4 [(0, .ref (ad 0)), (1, .int (iI d)), (2, .ref (ad 301))] := hl
  obtain ⟨Q9, hQ9⟩ : ∃ z, z = MQ below (gW D (fun v9 ad1 w1 => ∃ (k : Int) (sc2 : Nat → Int) (fn2 : Nat → Int → Int) (v : Option Value) (o2 : Int → Int), v9 = some (.int (iI k)) ∧ bookS cA ad1 w1 sc2 fn2 ∧ bkInv sc2 fn2 ∧ keepL 301 ad ad1 w w1 ∧ w1 301 = some (eJ (cA 2) 1 o2) ∧ rlP (okM_addCurve sc fn d) (erM_addCurve sc fn d) sc fn k sc2 fn2 v ∧ (k = 0 → rC v (o2 0)) ∧ 0 ≤ k ∧ k ≤ 3) A) args s 4 34 A := ⟨_, rfl⟩
  rw [← hQ9]
  show W p l e rmL_addCurve s m args below meth c s.heap [] 0 0 Q9 (F0 m 0 ls [])
  obtain ⟨H, hHe⟩ : ∃ z, z = s.heap := ⟨_, rfl⟩
  obtain ⟨locs, hLe⟩ : ∃ z, z = ([] : List Loc) := ⟨_, rfl⟩
  have hP : gP D vwCl ad w H := by rw [hHe]; exact hP
  have hS : va_S A s.heap H locs := by rw [hHe, hLe]; exact va_S.rf
  rw [show W p l e rmL_addCurve s m args below meth c s.heap [] 0 0 Q9 (F0 m 0 ls []) = W p l e rmL_addCurve s m args below meth c H locs 0 0 Q9 (F0 m 0 ls []) by rw [hHe, hLe]]
  clear hHe hLe
  obtain ⟨fs0, hq0⟩ := bookS_0 hbk
  refine lv_aload_n (pc := 0) hx hb dL_addCurve_0 rfl (lv_at hl 2 rfl) ?_
  refine k_iconst (pc := 1) hx hb dL_addCurve_1 ?_
  refine lv_aload_n (pc := 2) hx hb dL_addCurve_2 rfl (lv_at hl 0 rfl) ?_
  refine lv_iload_n (pc := 3) hx hb dL_addCurve_3 rfl (lv_at hl 1 rfl) ?_
  refine k_callx (pc := 4) (vx_runV (As := [.int (iI d)]) (rest := [.int (iI 0), .ref (ad 301)]) ⟨hx, hb, hml, hown, hts⟩ (c_X5_addCurve l hl0 D cA ad w H.size sc fn hI hbk d hd_) (cwV 1 hts gL_addCurve_X5_addCurve rfl rfl rfl (by decide +kernel) ⟨Nat.le_of_ble_eq_true rfl, Nat.le_of_ble_eq_true rfl⟩) (gV_V hP hD hK hB hS hA hZ 0 (ci := 5) rfl hq0) rfl rfl hl.1 rfl (lv_room (Nat.le_of_ble_eq_true rfl)) dL_addCurve_4 ⟨Nat.le_of_ble_eq_true rfl, Nat.le_of_ble_eq_true rfl⟩) hS (gA_sub hD hS hA) (fun E_4 ce_4 q_4 H locs hpx_4 hP hD hS hce_4 hcv_4 hcl_4 => ?_) (fun v_4 ad_4 w_4 H locs hv_4 hP hD hS => ?_)
  · skip
    rcases hpx_4 with ⟨hE9, hx9⟩ | ⟨hE9, hx9⟩
    · skip
      subst hE9
      refine vx_catch (own := RL) (name := "java/lang/IllegalArgumentException") (E := xIA) hown [] ⟨0, 9, 12, 13⟩ [⟨0, 9, 15, 15⟩] hex (fun z hz => by cases hz) rfl (by decide) (hts (.classLink RL 13 "java/lang/IllegalArgumentException") (by decide +kernel)) (ca_0 hB _) hce_4 hcv_4 hcl_4 ?_
      refine W.eq (g2 := F0 m 12 ls [.ref q_4]) rfl ?_
      refine W.cs (cells' := 4) (slots' := 34) rfl rfl ?_
      refine lv_astore_n (pc := 12) (lv' := [(3, .ref q_4), (0, .ref (ad 0)), (1, .int (iI d)), (2, .ref (ad 301))]) hx hb dL_addCurve_12 rfl hl (by decide) rfl (fun ls hl => ?_)
      refine k_iconst (pc := 13) hx hb dL_addCurve_13 ?_
      rw [hQ9]
      exact W.iret (v := iI 1) hx hb hret (fun t ht hW => ⟨⟨some (.int (iI 1)), ad, w, rfl, ⟨1, sc, fn, none, o, rfl, hbk, hI, ⟨rfl, fun r hr => ⟨rfl, fun _ => rfl⟩⟩, ho, Or.inr ⟨rfl, rfl, Or.inl (⟨rfl, hx9⟩)⟩, (fun h9 => absurd h9 (by decide)), by decide⟩, by rw [ht]; exact hP, hD⟩, hS.F ht⟩) hS.2.2 dL_addCurve_14
    · skip
      subst hE9
      refine vx_catch (own := RL) (name := "java/lang/IllegalStateException") (E := xIS) hown [⟨0, 9, 12, 13⟩] ⟨0, 9, 15, 15⟩ [] hex (fun z hz => by rcases List.mem_cons.mp hz with hz | hz; (subst hz; exact Or.inr ⟨by decide, _, hts (.classLink RL 13 "java/lang/IllegalArgumentException") (by decide +kernel), nc_2 hB⟩); cases hz) rfl (by decide) (hts (.classLink RL 15 "java/lang/IllegalStateException") (by decide +kernel)) (ca_1 hB _) hce_4 hcv_4 hcl_4 ?_
      refine W.eq (g2 := F0 m 15 ls [.ref q_4]) rfl ?_
      refine W.cs (cells' := 4) (slots' := 34) rfl rfl ?_
      refine lv_astore_n (pc := 15) (lv' := [(3, .ref q_4), (0, .ref (ad 0)), (1, .int (iI d)), (2, .ref (ad 301))]) hx hb dL_addCurve_15 rfl hl (by decide) rfl (fun ls hl => ?_)
      refine k_iconst (pc := 16) hx hb dL_addCurve_16 ?_
      rw [hQ9]
      exact W.iret (v := iI 2) hx hb hret (fun t ht hW => ⟨⟨some (.int (iI 2)), ad, w, rfl, ⟨2, sc, fn, none, o, rfl, hbk, hI, ⟨rfl, fun r hr => ⟨rfl, fun _ => rfl⟩⟩, ho, Or.inr ⟨rfl, rfl, Or.inr (⟨rfl, hx9⟩)⟩, (fun h9 => absurd h9 (by decide)), by decide⟩, by rw [ht]; exact hP, hD⟩, hS.F ht⟩) hS.2.2 dL_addCurve_17
  · skip
    obtain ⟨sc2, fn2, hb2, hI2, hkp, hok⟩ := hv_4
    have hok : okM_addCurve sc fn d sc2 fn2 v_4 := hok
    obtain ⟨z_4, hz_4⟩ := okv_addCurve hok
    subst hz_4
    have ho2 : w_4 301 = some (eJ (cA 2) 1 o) := (hkp.2 301 (by omega)).1.trans ho
    rw [← hkp.1, ← (hkp.2 301 (by omega)).2] at hl
    rw [← (hkp.2 301 (by omega)).2]
    refine W.eq (g2 := F0 m 7 ls [.int (iI z_4), .int (iI 0), .ref (ad_4 301)]) rfl ?_
    refine W.cs (cells' := 4) (slots' := 34) rfl rfl ?_
    refine k_i2lw (pc := 7) hx hb dL_addCurve_7 ?_
    refine k_last (pc := 8) (w1 := (up w_4 301 (eJ (cA 2) 1 (updI o 0 (wI z_4))))) hx hb hK hP hD hS 301 2 ho2 rfl (by omega) (by omega) (by omega) rfl dL_addCurve_8 (fun H locs hP hD hS => ?_)
    refine lv_goto (pc := 9) (tgt := 18) hx hb dL_addCurve_9 (by decide) ?_
    refine k_iconst (pc := 18) hx hb dL_addCurve_18 ?_
    rw [hQ9]
    exact W.iret (v := iI 0) hx hb hret (fun t ht hW => ⟨⟨some (.int (iI 0)), ad_4, (up w_4 301 (eJ (cA 2) 1 (updI o 0 (wI z_4)))), rfl, ⟨0, sc2, fn2, some (.int (iI z_4)), updI o 0 (wI z_4), rfl, bookS_of hI2 (fun r hr => ⟨up_n (by omega) rfl, rfl⟩) hb2, hI2, ⟨hkp.1, fun r hr => ⟨(hkp.2 r hr).2, fun h9 => up_n h9 (hkp.2 r hr).1⟩⟩, up_s _ _ _, Or.inl ⟨rfl, hok⟩, (fun _ => rC_i o z_4), by decide⟩, by rw [ht]; exact hP, hD⟩, hS.F ht⟩) hS.2.2 dL_addCurve_19

abbrev rmL_addPoint : Room := { frames := 8, cells := 3, slots := 18, locals := 127 }
set_option maxHeartbeats 4000000 in
set_option maxRecDepth 100000 in
theorem c_L_addPoint (l : Launch) (hl0 : l.stackTraces = false) (D : va_G) (cA : Nat → ClassId) (ad : Nat → Nat) (w : Nat → Option va_E) (sz : Nat) (sc : Nat → Int) (fn : Nat → Int → Int) (hI : bkInv sc fn) (hbk : bookS cA ad w sc fn) (ci sg q : Int) (hci : (-2147483648 ≤ ci ∧ ci < 2147483648)) (hs_ : (-2147483648 ≤ sg ∧ sg < 2147483648)) (hq_ : (-2147483648 ≤ q ∧ q < 2147483648)) (o : Int → Int) (ho : w 301 = some (eJ (cA 2) 1 o)) : Met l yL_addPoint wsL_addPoint rmL_addPoint (gV D cA ad w sz [.ref (ad 0), .int (iI ci), .int (iI sg), .int (iI q), .ref (ad 301)]) (gW D (fun v9 ad1 w1 => ∃ (k : Int) (sc2 : Nat → Int) (fn2 : Nat → Int → Int) (v : Option Value) (o2 : Int → Int), v9 = some (.int (iI k)) ∧ bookS cA ad1 w1 sc2 fn2 ∧ bkInv sc2 fn2 ∧ keepL 301 ad ad1 w w1 ∧ w1 301 = some (eJ (cA 2) 1 o2) ∧ rlP (okM_addPoint sc fn ci sg q) (erM_addPoint sc fn ci sg q) sc fn k sc2 fn2 v ∧ (k = 0 → rC v (o2 0)) ∧ 0 ≤ k ∧ k ≤ 3) (gA ad w sz)) 3 18 (gA ad w sz) := by
  refine g_ofH (cc := cL_addPoint) (maxL := 6) (ret := (some .int)) (hh := [(0, 12, 15, 21), (0, 12, 19, 13), (0, 12, 23, 15)]) (by decide) rfl ?_
  intro p e s m args below meth c s₁ B hml hv
  obtain ⟨hav, hsz, hP, hD0, hK, hB, hZ⟩ := hv
  have hx := B.exec
  have hb := B.bytes
  have hret := B.returns
  have hts := atoms_spec (ws := wsL_addPoint) B.pre
  have hown : s.vm.findClass RL = some m.cls := findClass_of_methodNamed B.named
  have hlocks := B.notSynchronized
  have hex := vx_table (x := yL_addPoint) B (hts (.codeWith yL_addPoint cL_addPoint 6 (some .int) [(0, 12, 15, 21), (0, 12, 19, 13), (0, 12, 23, 15)]) (by decide +kernel))
  subst hsz
  have hD := hD0.self (sz := s.heap.size)
  generalize hAe : gA ad w s.heap.size = A at hD hZ ⊢
  have hA : ∀ q : Nat, s.heap.size ≤ q → A q := fun q h => by rw [← hAe]; exact Or.inr h
  have hS : va_S A s.heap s.heap [] := va_S.rf
  have he9 : entryFrame m args 6 = F0 m 0 ((lg_sl ([.ref (ad 0), .int (iI ci), .int (iI sg), .int (iI q), .ref (ad 301)] : List Value) ++ List.replicate (6 - (lg_sl ([.ref (ad 0), .int (iI ci), .int (iI sg), .int (iI q), .ref (ad 301)] : List Value)).length) Slot.unset).toArray) [] := by rw [hav, lg_entry_eq]
  rw [he9]
  have hl := lv_entry ([.ref (ad 0), .int (iI ci), .int (iI sg), .int (iI q), .ref (ad 301)] : List Value) (n := 6) (Nat.le_of_ble_eq_true rfl)
  generalize (lg_sl ([.ref (ad 0), .int (iI ci), .int (iI sg), .int (iI q), .ref (ad 301)] : List Value) ++ List.replicate (6 - (lg_sl ([.ref (ad 0), .int (iI ci), .int (iI sg), .int (iI q), .ref (ad 301)] : List Value)).length) Slot.unset).toArray = ls at hl ⊢
  have hl : lv_has ls 6 [(0, .ref (ad 0)), (1, .int (iI ci)), (2, .int (iI sg)), (3, .int (iI q)), (4, .ref (ad 301))] := hl
  obtain ⟨Q9, hQ9⟩ : ∃ z, z = MQ below (gW D (fun v9 ad1 w1 => ∃ (k : Int) (sc2 : Nat → Int) (fn2 : Nat → Int → Int) (v : Option Value) (o2 : Int → Int), v9 = some (.int (iI k)) ∧ bookS cA ad1 w1 sc2 fn2 ∧ bkInv sc2 fn2 ∧ keepL 301 ad ad1 w w1 ∧ w1 301 = some (eJ (cA 2) 1 o2) ∧ rlP (okM_addPoint sc fn ci sg q) (erM_addPoint sc fn ci sg q) sc fn k sc2 fn2 v ∧ (k = 0 → rC v (o2 0)) ∧ 0 ≤ k ∧ k ≤ 3) A) args s 3 18 A := ⟨_, rfl⟩
  rw [← hQ9]
  show W p l e rmL_addPoint s m args below meth c s.heap [] 0 0 Q9 (F0 m 0 ls [])
  obtain ⟨H, hHe⟩ : ∃ z, z = s.heap := ⟨_, rfl⟩
  obtain ⟨locs, hLe⟩ : ∃ z, z = ([] : List Loc) := ⟨_, rfl⟩
  have hP : gP D vwCl ad w H := by rw [hHe]; exact hP
  have hS : va_S A s.heap H locs := by rw [hHe, hLe]; exact va_S.rf
  rw [show W p l e rmL_addPoint s m args below meth c s.heap [] 0 0 Q9 (F0 m 0 ls []) = W p l e rmL_addPoint s m args below meth c H locs 0 0 Q9 (F0 m 0 ls []) by rw [hHe, hLe]]
  clear hHe hLe
  obtain ⟨fs0, hq0⟩ := bookS_0 hbk
  refine lv_aload (pc := 0) hx hb dL_addPoint_0 (lv_at hl 4 rfl) ?_
  refine k_iconst (pc := 2) hx hb dL_addPoint_2 ?_
  refine lv_aload_n (pc := 3) hx hb dL_addPoint_3 rfl (lv_at hl 0 rfl) ?_
  refine lv_iload_n (pc := 4) hx hb dL_addPoint_4 rfl (lv_at hl 1 rfl) ?_
  refine lv_iload_n (pc := 5) hx hb dL_addPoint_5 rfl (lv_at hl 2 rfl) ?_
  refine lv_iload_n (pc := 6) hx hb dL_addPoint_6 rfl (lv_at hl 3 rfl) ?_
  refine k_callx (pc := 7) (vx_runV (As := [.int (iI ci), .int (iI sg), .int (iI q)]) (rest := [.int (iI 0), .ref (ad 301)]) ⟨hx, hb, hml, hown, hts⟩ (c_X5_addPoint l hl0 D cA ad w H.size sc fn hI hbk ci sg q hci hs_ hq_) (cwV 3 hts gL_addPoint_X5_addPoint rfl rfl rfl (by decide +kernel) ⟨Nat.le_of_ble_eq_true rfl, Nat.le_of_ble_eq_true rfl⟩) (gV_V hP hD hK hB hS hA hZ 0 (ci := 5) rfl hq0) rfl rfl hl.1 rfl (lv_room (Nat.le_of_ble_eq_true rfl)) dL_addPoint_7 ⟨Nat.le_of_ble_eq_true rfl, Nat.le_of_ble_eq_true rfl⟩) hS (gA_sub hD hS hA) (fun E_7 ce_7 q_7 H locs hpx_7 hP hD hS hce_7 hcv_7 hcl_7 => ?_) (fun v_7 ad_7 w_7 H locs hv_7 hP hD hS => ?_)
  · skip
    rcases hpx_7 with ⟨hE9, hx9⟩ | ⟨hE9, hx9⟩ | ⟨hE9, hx9⟩
    · skip
      subst hE9
      refine vx_catch (own := RL) (name := "java/lang/IndexOutOfBoundsException") (E := xIX) hown [] ⟨0, 12, 15, 21⟩ [⟨0, 12, 19, 13⟩, ⟨0, 12, 23, 15⟩] hex (fun z hz => by cases hz) rfl (by decide) (hts (.classLink RL 21 "java/lang/IndexOutOfBoundsException") (by decide +kernel)) (ca_2 hB _) hce_7 hcv_7 hcl_7 ?_
      refine W.eq (g2 := F0 m 15 ls [.ref q_7]) rfl ?_
      refine W.cs (cells' := 3) (slots' := 18) rfl rfl ?_
      refine lv_astore (pc := 15) (lv' := [(5, .ref q_7), (0, .ref (ad 0)), (1, .int (iI ci)), (2, .int (iI sg)), (3, .int (iI q)), (4, .ref (ad 301))]) hx hb dL_addPoint_15 hl (by decide) rfl (fun ls hl => ?_)
      refine k_iconst (pc := 17) hx hb dL_addPoint_17 ?_
      rw [hQ9]
      exact W.iret (v := iI 1) hx hb hret (fun t ht hW => ⟨⟨some (.int (iI 1)), ad, w, rfl, ⟨1, sc, fn, none, o, rfl, hbk, hI, ⟨rfl, fun r hr => ⟨rfl, fun _ => rfl⟩⟩, ho, Or.inr ⟨rfl, rfl, Or.inl (⟨rfl, hx9⟩)⟩, (fun h9 => absurd h9 (by decide)), by decide⟩, by rw [ht]; exact hP, hD⟩, hS.F ht⟩) hS.2.2 dL_addPoint_18
    · skip
      subst hE9
      refine vx_catch (own := RL) (name := "java/lang/IllegalArgumentException") (E := xIA) hown [⟨0, 12, 15, 21⟩] ⟨0, 12, 19, 13⟩ [⟨0, 12, 23, 15⟩] hex (fun z hz => by rcases List.mem_cons.mp hz with hz | hz; (subst hz; exact Or.inr ⟨by decide, _, hts (.classLink RL 21 "java/lang/IndexOutOfBoundsException") (by decide +kernel), nc_1 hB⟩); cases hz) rfl (by decide) (hts (.classLink RL 13 "java/lang/IllegalArgumentException") (by decide +kernel)) (ca_0 hB _) hce_7 hcv_7 hcl_7 ?_
      refine W.eq (g2 := F0 m 19 ls [.ref q_7]) rfl ?_
      refine W.cs (cells' := 3) (slots' := 18) rfl rfl ?_
      refine lv_astore (pc := 19) (lv' := [(5, .ref q_7), (0, .ref (ad 0)), (1, .int (iI ci)), (2, .int (iI sg)), (3, .int (iI q)), (4, .ref (ad 301))]) hx hb dL_addPoint_19 hl (by decide) rfl (fun ls hl => ?_)
      refine k_iconst (pc := 21) hx hb dL_addPoint_21 ?_
      rw [hQ9]
      exact W.iret (v := iI 2) hx hb hret (fun t ht hW => ⟨⟨some (.int (iI 2)), ad, w, rfl, ⟨2, sc, fn, none, o, rfl, hbk, hI, ⟨rfl, fun r hr => ⟨rfl, fun _ => rfl⟩⟩, ho, Or.inr ⟨rfl, rfl, Or.inr (Or.inl (⟨rfl, hx9⟩))⟩, (fun h9 => absurd h9 (by decide)), by decide⟩, by rw [ht]; exact hP, hD⟩, hS.F ht⟩) hS.2.2 dL_addPoint_22
    · skip
      subst hE9
      refine vx_catch (own := RL) (name := "java/lang/IllegalStateException") (E := xIS) hown [⟨0, 12, 15, 21⟩, ⟨0, 12, 19, 13⟩] ⟨0, 12, 23, 15⟩ [] hex (fun z hz => by rcases List.mem_cons.mp hz with hz | hz; (subst hz; exact Or.inr ⟨by decide, _, hts (.classLink RL 21 "java/lang/IndexOutOfBoundsException") (by decide +kernel), nc_3 hB⟩); rcases List.mem_cons.mp hz with hz | hz; (subst hz; exact Or.inr ⟨by decide, _, hts (.classLink RL 13 "java/lang/IllegalArgumentException") (by decide +kernel), nc_2 hB⟩); cases hz) rfl (by decide) (hts (.classLink RL 15 "java/lang/IllegalStateException") (by decide +kernel)) (ca_1 hB _) hce_7 hcv_7 hcl_7 ?_
      refine W.eq (g2 := F0 m 23 ls [.ref q_7]) rfl ?_
      refine W.cs (cells' := 3) (slots' := 18) rfl rfl ?_
      refine lv_astore (pc := 23) (lv' := [(5, .ref q_7), (0, .ref (ad 0)), (1, .int (iI ci)), (2, .int (iI sg)), (3, .int (iI q)), (4, .ref (ad 301))]) hx hb dL_addPoint_23 hl (by decide) rfl (fun ls hl => ?_)
      refine k_iconst (pc := 25) hx hb dL_addPoint_25 ?_
      rw [hQ9]
      exact W.iret (v := iI 3) hx hb hret (fun t ht hW => ⟨⟨some (.int (iI 3)), ad, w, rfl, ⟨3, sc, fn, none, o, rfl, hbk, hI, ⟨rfl, fun r hr => ⟨rfl, fun _ => rfl⟩⟩, ho, Or.inr ⟨rfl, rfl, Or.inr (Or.inr (⟨rfl, hx9⟩))⟩, (fun h9 => absurd h9 (by decide)), by decide⟩, by rw [ht]; exact hP, hD⟩, hS.F ht⟩) hS.2.2 dL_addPoint_26
  · skip
    obtain ⟨sc2, fn2, hb2, hI2, hkp, hok⟩ := hv_7
    have hok : okM_addPoint sc fn ci sg q sc2 fn2 v_7 := hok
    obtain ⟨z_7, hz_7⟩ := okv_addPoint hok
    subst hz_7
    have ho2 : w_7 301 = some (eJ (cA 2) 1 o) := (hkp.2 301 (by omega)).1.trans ho
    rw [← hkp.1, ← (hkp.2 301 (by omega)).2] at hl
    rw [← (hkp.2 301 (by omega)).2]
    refine W.eq (g2 := F0 m 10 ls [.int (iI z_7), .int (iI 0), .ref (ad_7 301)]) rfl ?_
    refine W.cs (cells' := 3) (slots' := 18) rfl rfl ?_
    refine k_i2lw (pc := 10) hx hb dL_addPoint_10 ?_
    refine k_last (pc := 11) (w1 := (up w_7 301 (eJ (cA 2) 1 (updI o 0 (wI z_7))))) hx hb hK hP hD hS 301 2 ho2 rfl (by omega) (by omega) (by omega) rfl dL_addPoint_11 (fun H locs hP hD hS => ?_)
    refine lv_goto (pc := 12) (tgt := 27) hx hb dL_addPoint_12 (by decide) ?_
    refine k_iconst (pc := 27) hx hb dL_addPoint_27 ?_
    rw [hQ9]
    exact W.iret (v := iI 0) hx hb hret (fun t ht hW => ⟨⟨some (.int (iI 0)), ad_7, (up w_7 301 (eJ (cA 2) 1 (updI o 0 (wI z_7)))), rfl, ⟨0, sc2, fn2, some (.int (iI z_7)), updI o 0 (wI z_7), rfl, bookS_of hI2 (fun r hr => ⟨up_n (by omega) rfl, rfl⟩) hb2, hI2, ⟨hkp.1, fun r hr => ⟨(hkp.2 r hr).2, fun h9 => up_n h9 (hkp.2 r hr).1⟩⟩, up_s _ _ _, Or.inl ⟨rfl, hok⟩, (fun _ => rC_i o z_7), by decide⟩, by rw [ht]; exact hP, hD⟩, hS.F ht⟩) hS.2.2 dL_addPoint_28

abbrev rmL_flowBy : Room := { frames := 7, cells := 1, slots := 6, locals := 105 }
set_option maxHeartbeats 4000000 in
set_option maxRecDepth 100000 in
theorem c_L_flowBy (l : Launch) (hl0 : l.stackTraces = false) (D : va_G) (cA : Nat → ClassId) (ad : Nat → Nat) (w : Nat → Option va_E) (sz : Nat) (sc : Nat → Int) (fn : Nat → Int → Int) (hI : bkInv sc fn) (hbk : bookS cA ad w sc fn) (ci sg : Int) (hci : (-2147483648 ≤ ci ∧ ci < 2147483648)) (hsg : (-2147483648 ≤ sg ∧ sg < 2147483648)) (o : Int → Int) (ho : w 301 = some (eJ (cA 2) 1 o)) : Met l yL_flowBy wsL_flowBy rmL_flowBy (gV D cA ad w sz [.ref (ad 0), .int (iI ci), .int (iI sg), .ref (ad 301)]) (gW D (fun v9 ad1 w1 => ∃ (k : Int) (sc2 : Nat → Int) (fn2 : Nat → Int → Int) (v : Option Value) (o2 : Int → Int), v9 = some (.int (iI k)) ∧ bookS cA ad1 w1 sc2 fn2 ∧ bkInv sc2 fn2 ∧ keepL 301 ad ad1 w w1 ∧ w1 301 = some (eJ (cA 2) 1 o2) ∧ rlP (okM_flowBy sc fn ci sg) (erM_flowBy sc fn ci sg) sc fn k sc2 fn2 v ∧ (k = 0 → rC v (o2 0)) ∧ 0 ≤ k ∧ k ≤ 3) (gA ad w sz)) 1 6 (gA ad w sz) := by
  refine g_ofH (cc := cL_flowBy) (maxL := 5) (ret := (some .int)) (hh := [(0, 9, 12, 21), (0, 9, 16, 13), (0, 9, 20, 15)]) (by decide) rfl ?_
  intro p e s m args below meth c s₁ B hml hv
  obtain ⟨hav, hsz, hP, hD0, hK, hB, hZ⟩ := hv
  have hx := B.exec
  have hb := B.bytes
  have hret := B.returns
  have hts := atoms_spec (ws := wsL_flowBy) B.pre
  have hown : s.vm.findClass RL = some m.cls := findClass_of_methodNamed B.named
  have hlocks := B.notSynchronized
  have hex := vx_table (x := yL_flowBy) B (hts (.codeWith yL_flowBy cL_flowBy 5 (some .int) [(0, 9, 12, 21), (0, 9, 16, 13), (0, 9, 20, 15)]) (by decide +kernel))
  subst hsz
  have hD := hD0.self (sz := s.heap.size)
  generalize hAe : gA ad w s.heap.size = A at hD hZ ⊢
  have hA : ∀ q : Nat, s.heap.size ≤ q → A q := fun q h => by rw [← hAe]; exact Or.inr h
  have hS : va_S A s.heap s.heap [] := va_S.rf
  have he9 : entryFrame m args 5 = F0 m 0 ((lg_sl ([.ref (ad 0), .int (iI ci), .int (iI sg), .ref (ad 301)] : List Value) ++ List.replicate (5 - (lg_sl ([.ref (ad 0), .int (iI ci), .int (iI sg), .ref (ad 301)] : List Value)).length) Slot.unset).toArray) [] := by rw [hav, lg_entry_eq]
  rw [he9]
  have hl := lv_entry ([.ref (ad 0), .int (iI ci), .int (iI sg), .ref (ad 301)] : List Value) (n := 5) (Nat.le_of_ble_eq_true rfl)
  generalize (lg_sl ([.ref (ad 0), .int (iI ci), .int (iI sg), .ref (ad 301)] : List Value) ++ List.replicate (5 - (lg_sl ([.ref (ad 0), .int (iI ci), .int (iI sg), .ref (ad 301)] : List Value)).length) Slot.unset).toArray = ls at hl ⊢
  have hl : lv_has ls 5 [(0, .ref (ad 0)), (1, .int (iI ci)), (2, .int (iI sg)), (3, .ref (ad 301))] := hl
  obtain ⟨Q9, hQ9⟩ : ∃ z, z = MQ below (gW D (fun v9 ad1 w1 => ∃ (k : Int) (sc2 : Nat → Int) (fn2 : Nat → Int → Int) (v : Option Value) (o2 : Int → Int), v9 = some (.int (iI k)) ∧ bookS cA ad1 w1 sc2 fn2 ∧ bkInv sc2 fn2 ∧ keepL 301 ad ad1 w w1 ∧ w1 301 = some (eJ (cA 2) 1 o2) ∧ rlP (okM_flowBy sc fn ci sg) (erM_flowBy sc fn ci sg) sc fn k sc2 fn2 v ∧ (k = 0 → rC v (o2 0)) ∧ 0 ≤ k ∧ k ≤ 3) A) args s 1 6 A := ⟨_, rfl⟩
  rw [← hQ9]
  show W p l e rmL_flowBy s m args below meth c s.heap [] 0 0 Q9 (F0 m 0 ls [])
  obtain ⟨H, hHe⟩ : ∃ z, z = s.heap := ⟨_, rfl⟩
  obtain ⟨locs, hLe⟩ : ∃ z, z = ([] : List Loc) := ⟨_, rfl⟩
  have hP : gP D vwCl ad w H := by rw [hHe]; exact hP
  have hS : va_S A s.heap H locs := by rw [hHe, hLe]; exact va_S.rf
  rw [show W p l e rmL_flowBy s m args below meth c s.heap [] 0 0 Q9 (F0 m 0 ls []) = W p l e rmL_flowBy s m args below meth c H locs 0 0 Q9 (F0 m 0 ls []) by rw [hHe, hLe]]
  clear hHe hLe
  obtain ⟨fs0, hq0⟩ := bookS_0 hbk
  refine lv_aload_n (pc := 0) hx hb dL_flowBy_0 rfl (lv_at hl 3 rfl) ?_
  refine k_iconst (pc := 1) hx hb dL_flowBy_1 ?_
  refine lv_aload_n (pc := 2) hx hb dL_flowBy_2 rfl (lv_at hl 0 rfl) ?_
  refine lv_iload_n (pc := 3) hx hb dL_flowBy_3 rfl (lv_at hl 1 rfl) ?_
  refine lv_iload_n (pc := 4) hx hb dL_flowBy_4 rfl (lv_at hl 2 rfl) ?_
  refine k_callx (pc := 5) (vx_runV (As := [.int (iI ci), .int (iI sg)]) (rest := [.int (iI 0), .ref (ad 301)]) ⟨hx, hb, hml, hown, hts⟩ (c_X5_flowBy l hl0 D cA ad w H.size sc fn hI hbk ci sg hci hsg) (cwV 2 hts gL_flowBy_X5_flowBy rfl rfl rfl (by decide +kernel) ⟨Nat.le_of_ble_eq_true rfl, Nat.le_of_ble_eq_true rfl⟩) (gV_V hP hD hK hB hS hA hZ 0 (ci := 5) rfl hq0) rfl rfl hl.1 rfl (lv_room (Nat.le_of_ble_eq_true rfl)) dL_flowBy_5 ⟨Nat.le_of_ble_eq_true rfl, Nat.le_of_ble_eq_true rfl⟩) hS (gA_sub hD hS hA) (fun E_5 ce_5 q_5 H locs hpx_5 hP hD hS hce_5 hcv_5 hcl_5 => ?_) (fun v_5 ad_5 w_5 H locs hv_5 hP hD hS => ?_)
  · skip
    rcases hpx_5 with ⟨hE9, hx9⟩ | ⟨hE9, hx9⟩ | ⟨hE9, hx9⟩
    · skip
      subst hE9
      refine vx_catch (own := RL) (name := "java/lang/IndexOutOfBoundsException") (E := xIX) hown [] ⟨0, 9, 12, 21⟩ [⟨0, 9, 16, 13⟩, ⟨0, 9, 20, 15⟩] hex (fun z hz => by cases hz) rfl (by decide) (hts (.classLink RL 21 "java/lang/IndexOutOfBoundsException") (by decide +kernel)) (ca_2 hB _) hce_5 hcv_5 hcl_5 ?_
      refine W.eq (g2 := F0 m 12 ls [.ref q_5]) rfl ?_
      refine W.cs (cells' := 1) (slots' := 6) rfl rfl ?_
      refine lv_astore (pc := 12) (lv' := [(4, .ref q_5), (0, .ref (ad 0)), (1, .int (iI ci)), (2, .int (iI sg)), (3, .ref (ad 301))]) hx hb dL_flowBy_12 hl (by decide) rfl (fun ls hl => ?_)
      refine k_iconst (pc := 14) hx hb dL_flowBy_14 ?_
      rw [hQ9]
      exact W.iret (v := iI 1) hx hb hret (fun t ht hW => ⟨⟨some (.int (iI 1)), ad, w, rfl, ⟨1, sc, fn, none, o, rfl, hbk, hI, ⟨rfl, fun r hr => ⟨rfl, fun _ => rfl⟩⟩, ho, Or.inr ⟨rfl, rfl, Or.inl (⟨rfl, hx9⟩)⟩, (fun h9 => absurd h9 (by decide)), by decide⟩, by rw [ht]; exact hP, hD⟩, hS.F ht⟩) hS.2.2 dL_flowBy_15
    · skip
      subst hE9
      refine vx_catch (own := RL) (name := "java/lang/IllegalArgumentException") (E := xIA) hown [⟨0, 9, 12, 21⟩] ⟨0, 9, 16, 13⟩ [⟨0, 9, 20, 15⟩] hex (fun z hz => by rcases List.mem_cons.mp hz with hz | hz; (subst hz; exact Or.inr ⟨by decide, _, hts (.classLink RL 21 "java/lang/IndexOutOfBoundsException") (by decide +kernel), nc_1 hB⟩); cases hz) rfl (by decide) (hts (.classLink RL 13 "java/lang/IllegalArgumentException") (by decide +kernel)) (ca_0 hB _) hce_5 hcv_5 hcl_5 ?_
      refine W.eq (g2 := F0 m 16 ls [.ref q_5]) rfl ?_
      refine W.cs (cells' := 1) (slots' := 6) rfl rfl ?_
      refine lv_astore (pc := 16) (lv' := [(4, .ref q_5), (0, .ref (ad 0)), (1, .int (iI ci)), (2, .int (iI sg)), (3, .ref (ad 301))]) hx hb dL_flowBy_16 hl (by decide) rfl (fun ls hl => ?_)
      refine k_iconst (pc := 18) hx hb dL_flowBy_18 ?_
      rw [hQ9]
      exact W.iret (v := iI 2) hx hb hret (fun t ht hW => ⟨⟨some (.int (iI 2)), ad, w, rfl, ⟨2, sc, fn, none, o, rfl, hbk, hI, ⟨rfl, fun r hr => ⟨rfl, fun _ => rfl⟩⟩, ho, Or.inr ⟨rfl, rfl, Or.inr (Or.inl (⟨rfl, hx9⟩))⟩, (fun h9 => absurd h9 (by decide)), by decide⟩, by rw [ht]; exact hP, hD⟩, hS.F ht⟩) hS.2.2 dL_flowBy_19
    · skip
      subst hE9
      refine vx_catch (own := RL) (name := "java/lang/IllegalStateException") (E := xIS) hown [⟨0, 9, 12, 21⟩, ⟨0, 9, 16, 13⟩] ⟨0, 9, 20, 15⟩ [] hex (fun z hz => by rcases List.mem_cons.mp hz with hz | hz; (subst hz; exact Or.inr ⟨by decide, _, hts (.classLink RL 21 "java/lang/IndexOutOfBoundsException") (by decide +kernel), nc_3 hB⟩); rcases List.mem_cons.mp hz with hz | hz; (subst hz; exact Or.inr ⟨by decide, _, hts (.classLink RL 13 "java/lang/IllegalArgumentException") (by decide +kernel), nc_2 hB⟩); cases hz) rfl (by decide) (hts (.classLink RL 15 "java/lang/IllegalStateException") (by decide +kernel)) (ca_1 hB _) hce_5 hcv_5 hcl_5 ?_
      refine W.eq (g2 := F0 m 20 ls [.ref q_5]) rfl ?_
      refine W.cs (cells' := 1) (slots' := 6) rfl rfl ?_
      refine lv_astore (pc := 20) (lv' := [(4, .ref q_5), (0, .ref (ad 0)), (1, .int (iI ci)), (2, .int (iI sg)), (3, .ref (ad 301))]) hx hb dL_flowBy_20 hl (by decide) rfl (fun ls hl => ?_)
      refine k_iconst (pc := 22) hx hb dL_flowBy_22 ?_
      rw [hQ9]
      exact W.iret (v := iI 3) hx hb hret (fun t ht hW => ⟨⟨some (.int (iI 3)), ad, w, rfl, ⟨3, sc, fn, none, o, rfl, hbk, hI, ⟨rfl, fun r hr => ⟨rfl, fun _ => rfl⟩⟩, ho, Or.inr ⟨rfl, rfl, Or.inr (Or.inr (⟨rfl, hx9⟩))⟩, (fun h9 => absurd h9 (by decide)), by decide⟩, by rw [ht]; exact hP, hD⟩, hS.F ht⟩) hS.2.2 dL_flowBy_23
  · skip
    obtain ⟨sc2, fn2, hb2, hI2, hkp, hok⟩ := hv_5
    have hok : okM_flowBy sc fn ci sg sc2 fn2 v_5 := hok
    obtain ⟨z_5, hz_5⟩ := okv_flowBy hok
    subst hz_5
    have ho2 : w_5 301 = some (eJ (cA 2) 1 o) := (hkp.2 301 (by omega)).1.trans ho
    rw [← hkp.1, ← (hkp.2 301 (by omega)).2] at hl
    rw [← (hkp.2 301 (by omega)).2]
    refine W.eq (g2 := F0 m 8 ls [.long (lI z_5), .int (iI 0), .ref (ad_5 301)]) rfl ?_
    refine W.cs (cells' := 1) (slots' := 6) rfl rfl ?_
    refine k_last (pc := 8) (w1 := (up w_5 301 (eJ (cA 2) 1 (updI o 0 z_5)))) hx hb hK hP hD hS 301 2 ho2 rfl (by omega) (by omega) (by omega) rfl dL_flowBy_8 (fun H locs hP hD hS => ?_)
    refine lv_goto (pc := 9) (tgt := 24) hx hb dL_flowBy_9 (by decide) ?_
    refine k_iconst (pc := 24) hx hb dL_flowBy_24 ?_
    rw [hQ9]
    exact W.iret (v := iI 0) hx hb hret (fun t ht hW => ⟨⟨some (.int (iI 0)), ad_5, (up w_5 301 (eJ (cA 2) 1 (updI o 0 z_5))), rfl, ⟨0, sc2, fn2, some (.long (lI z_5)), updI o 0 z_5, rfl, bookS_of hI2 (fun r hr => ⟨up_n (by omega) rfl, rfl⟩) hb2, hI2, ⟨hkp.1, fun r hr => ⟨(hkp.2 r hr).2, fun h9 => up_n h9 (hkp.2 r hr).1⟩⟩, up_s _ _ _, Or.inl ⟨rfl, hok⟩, (fun _ => rC_l o z_5), by decide⟩, by rw [ht]; exact hP, hD⟩, hS.F ht⟩) hS.2.2 dL_flowBy_25

abbrev rmL_stageBy : Room := { frames := 8, cells := 2, slots := 12, locals := 125 }
set_option maxHeartbeats 4000000 in
set_option maxRecDepth 100000 in
theorem c_L_stageBy (l : Launch) (hl0 : l.stackTraces = false) (D : va_G) (cA : Nat → ClassId) (ad : Nat → Nat) (w : Nat → Option va_E) (sz : Nat) (sc : Nat → Int) (fn : Nat → Int → Int) (hI : bkInv sc fn) (hbk : bookS cA ad w sc fn) (ci q : Int) (hci : (-2147483648 ≤ ci ∧ ci < 2147483648)) (hq : (-2147483648 ≤ q ∧ q < 2147483648)) (o : Int → Int) (ho : w 301 = some (eJ (cA 2) 1 o)) : Met l yL_stageBy wsL_stageBy rmL_stageBy (gV D cA ad w sz [.ref (ad 0), .int (iI ci), .int (iI q), .ref (ad 301)]) (gW D (fun v9 ad1 w1 => ∃ (k : Int) (sc2 : Nat → Int) (fn2 : Nat → Int → Int) (v : Option Value) (o2 : Int → Int), v9 = some (.int (iI k)) ∧ bookS cA ad1 w1 sc2 fn2 ∧ bkInv sc2 fn2 ∧ keepL 301 ad ad1 w w1 ∧ w1 301 = some (eJ (cA 2) 1 o2) ∧ rlP (okM_stageBy sc fn ci q) (erM_stageBy sc fn ci q) sc fn k sc2 fn2 v ∧ (k = 0 → rC v (o2 0)) ∧ 0 ≤ k ∧ k ≤ 3) (gA ad w sz)) 2 12 (gA ad w sz) := by
  refine g_ofH (cc := cL_stageBy) (maxL := 5) (ret := (some .int)) (hh := [(0, 10, 13, 21), (0, 10, 17, 13), (0, 10, 21, 15)]) (by decide) rfl ?_
  intro p e s m args below meth c s₁ B hml hv
  obtain ⟨hav, hsz, hP, hD0, hK, hB, hZ⟩ := hv
  have hx := B.exec
  have hb := B.bytes
  have hret := B.returns
  have hts := atoms_spec (ws := wsL_stageBy) B.pre
  have hown : s.vm.findClass RL = some m.cls := findClass_of_methodNamed B.named
  have hlocks := B.notSynchronized
  have hex := vx_table (x := yL_stageBy) B (hts (.codeWith yL_stageBy cL_stageBy 5 (some .int) [(0, 10, 13, 21), (0, 10, 17, 13), (0, 10, 21, 15)]) (by decide +kernel))
  subst hsz
  have hD := hD0.self (sz := s.heap.size)
  generalize hAe : gA ad w s.heap.size = A at hD hZ ⊢
  have hA : ∀ q : Nat, s.heap.size ≤ q → A q := fun q h => by rw [← hAe]; exact Or.inr h
  have hS : va_S A s.heap s.heap [] := va_S.rf
  have he9 : entryFrame m args 5 = F0 m 0 ((lg_sl ([.ref (ad 0), .int (iI ci), .int (iI q), .ref (ad 301)] : List Value) ++ List.replicate (5 - (lg_sl ([.ref (ad 0), .int (iI ci), .int (iI q), .ref (ad 301)] : List Value)).length) Slot.unset).toArray) [] := by rw [hav, lg_entry_eq]
  rw [he9]
  have hl := lv_entry ([.ref (ad 0), .int (iI ci), .int (iI q), .ref (ad 301)] : List Value) (n := 5) (Nat.le_of_ble_eq_true rfl)
  generalize (lg_sl ([.ref (ad 0), .int (iI ci), .int (iI q), .ref (ad 301)] : List Value) ++ List.replicate (5 - (lg_sl ([.ref (ad 0), .int (iI ci), .int (iI q), .ref (ad 301)] : List Value)).length) Slot.unset).toArray = ls at hl ⊢
  have hl : lv_has ls 5 [(0, .ref (ad 0)), (1, .int (iI ci)), (2, .int (iI q)), (3, .ref (ad 301))] := hl
  obtain ⟨Q9, hQ9⟩ : ∃ z, z = MQ below (gW D (fun v9 ad1 w1 => ∃ (k : Int) (sc2 : Nat → Int) (fn2 : Nat → Int → Int) (v : Option Value) (o2 : Int → Int), v9 = some (.int (iI k)) ∧ bookS cA ad1 w1 sc2 fn2 ∧ bkInv sc2 fn2 ∧ keepL 301 ad ad1 w w1 ∧ w1 301 = some (eJ (cA 2) 1 o2) ∧ rlP (okM_stageBy sc fn ci q) (erM_stageBy sc fn ci q) sc fn k sc2 fn2 v ∧ (k = 0 → rC v (o2 0)) ∧ 0 ≤ k ∧ k ≤ 3) A) args s 2 12 A := ⟨_, rfl⟩
  rw [← hQ9]
  show W p l e rmL_stageBy s m args below meth c s.heap [] 0 0 Q9 (F0 m 0 ls [])
  obtain ⟨H, hHe⟩ : ∃ z, z = s.heap := ⟨_, rfl⟩
  obtain ⟨locs, hLe⟩ : ∃ z, z = ([] : List Loc) := ⟨_, rfl⟩
  have hP : gP D vwCl ad w H := by rw [hHe]; exact hP
  have hS : va_S A s.heap H locs := by rw [hHe, hLe]; exact va_S.rf
  rw [show W p l e rmL_stageBy s m args below meth c s.heap [] 0 0 Q9 (F0 m 0 ls []) = W p l e rmL_stageBy s m args below meth c H locs 0 0 Q9 (F0 m 0 ls []) by rw [hHe, hLe]]
  clear hHe hLe
  obtain ⟨fs0, hq0⟩ := bookS_0 hbk
  refine lv_aload_n (pc := 0) hx hb dL_stageBy_0 rfl (lv_at hl 3 rfl) ?_
  refine k_iconst (pc := 1) hx hb dL_stageBy_1 ?_
  refine lv_aload_n (pc := 2) hx hb dL_stageBy_2 rfl (lv_at hl 0 rfl) ?_
  refine lv_iload_n (pc := 3) hx hb dL_stageBy_3 rfl (lv_at hl 1 rfl) ?_
  refine lv_iload_n (pc := 4) hx hb dL_stageBy_4 rfl (lv_at hl 2 rfl) ?_
  refine k_callx (pc := 5) (vx_runV (As := [.int (iI ci), .int (iI q)]) (rest := [.int (iI 0), .ref (ad 301)]) ⟨hx, hb, hml, hown, hts⟩ (c_X5_stageBy l hl0 D cA ad w H.size sc fn hI hbk ci q hci hq) (cwV 2 hts gL_stageBy_X5_stageBy rfl rfl rfl (by decide +kernel) ⟨Nat.le_of_ble_eq_true rfl, Nat.le_of_ble_eq_true rfl⟩) (gV_V hP hD hK hB hS hA hZ 0 (ci := 5) rfl hq0) rfl rfl hl.1 rfl (lv_room (Nat.le_of_ble_eq_true rfl)) dL_stageBy_5 ⟨Nat.le_of_ble_eq_true rfl, Nat.le_of_ble_eq_true rfl⟩) hS (gA_sub hD hS hA) (fun E_5 ce_5 q_5 H locs hpx_5 hP hD hS hce_5 hcv_5 hcl_5 => ?_) (fun v_5 ad_5 w_5 H locs hv_5 hP hD hS => ?_)
  · skip
    rcases hpx_5 with ⟨hE9, hx9⟩ | ⟨hE9, hx9⟩ | ⟨hE9, hx9⟩
    · skip
      subst hE9
      refine vx_catch (own := RL) (name := "java/lang/IndexOutOfBoundsException") (E := xIX) hown [] ⟨0, 10, 13, 21⟩ [⟨0, 10, 17, 13⟩, ⟨0, 10, 21, 15⟩] hex (fun z hz => by cases hz) rfl (by decide) (hts (.classLink RL 21 "java/lang/IndexOutOfBoundsException") (by decide +kernel)) (ca_2 hB _) hce_5 hcv_5 hcl_5 ?_
      refine W.eq (g2 := F0 m 13 ls [.ref q_5]) rfl ?_
      refine W.cs (cells' := 2) (slots' := 12) rfl rfl ?_
      refine lv_astore (pc := 13) (lv' := [(4, .ref q_5), (0, .ref (ad 0)), (1, .int (iI ci)), (2, .int (iI q)), (3, .ref (ad 301))]) hx hb dL_stageBy_13 hl (by decide) rfl (fun ls hl => ?_)
      refine k_iconst (pc := 15) hx hb dL_stageBy_15 ?_
      rw [hQ9]
      exact W.iret (v := iI 1) hx hb hret (fun t ht hW => ⟨⟨some (.int (iI 1)), ad, w, rfl, ⟨1, sc, fn, none, o, rfl, hbk, hI, ⟨rfl, fun r hr => ⟨rfl, fun _ => rfl⟩⟩, ho, Or.inr ⟨rfl, rfl, Or.inl (⟨rfl, hx9⟩)⟩, (fun h9 => absurd h9 (by decide)), by decide⟩, by rw [ht]; exact hP, hD⟩, hS.F ht⟩) hS.2.2 dL_stageBy_16
    · skip
      subst hE9
      refine vx_catch (own := RL) (name := "java/lang/IllegalArgumentException") (E := xIA) hown [⟨0, 10, 13, 21⟩] ⟨0, 10, 17, 13⟩ [⟨0, 10, 21, 15⟩] hex (fun z hz => by rcases List.mem_cons.mp hz with hz | hz; (subst hz; exact Or.inr ⟨by decide, _, hts (.classLink RL 21 "java/lang/IndexOutOfBoundsException") (by decide +kernel), nc_1 hB⟩); cases hz) rfl (by decide) (hts (.classLink RL 13 "java/lang/IllegalArgumentException") (by decide +kernel)) (ca_0 hB _) hce_5 hcv_5 hcl_5 ?_
      refine W.eq (g2 := F0 m 17 ls [.ref q_5]) rfl ?_
      refine W.cs (cells' := 2) (slots' := 12) rfl rfl ?_
      refine lv_astore (pc := 17) (lv' := [(4, .ref q_5), (0, .ref (ad 0)), (1, .int (iI ci)), (2, .int (iI q)), (3, .ref (ad 301))]) hx hb dL_stageBy_17 hl (by decide) rfl (fun ls hl => ?_)
      refine k_iconst (pc := 19) hx hb dL_stageBy_19 ?_
      rw [hQ9]
      exact W.iret (v := iI 2) hx hb hret (fun t ht hW => ⟨⟨some (.int (iI 2)), ad, w, rfl, ⟨2, sc, fn, none, o, rfl, hbk, hI, ⟨rfl, fun r hr => ⟨rfl, fun _ => rfl⟩⟩, ho, Or.inr ⟨rfl, rfl, Or.inr (Or.inl (⟨rfl, hx9⟩))⟩, (fun h9 => absurd h9 (by decide)), by decide⟩, by rw [ht]; exact hP, hD⟩, hS.F ht⟩) hS.2.2 dL_stageBy_20
    · skip
      subst hE9
      refine vx_catch (own := RL) (name := "java/lang/IllegalStateException") (E := xIS) hown [⟨0, 10, 13, 21⟩, ⟨0, 10, 17, 13⟩] ⟨0, 10, 21, 15⟩ [] hex (fun z hz => by rcases List.mem_cons.mp hz with hz | hz; (subst hz; exact Or.inr ⟨by decide, _, hts (.classLink RL 21 "java/lang/IndexOutOfBoundsException") (by decide +kernel), nc_3 hB⟩); rcases List.mem_cons.mp hz with hz | hz; (subst hz; exact Or.inr ⟨by decide, _, hts (.classLink RL 13 "java/lang/IllegalArgumentException") (by decide +kernel), nc_2 hB⟩); cases hz) rfl (by decide) (hts (.classLink RL 15 "java/lang/IllegalStateException") (by decide +kernel)) (ca_1 hB _) hce_5 hcv_5 hcl_5 ?_
      refine W.eq (g2 := F0 m 21 ls [.ref q_5]) rfl ?_
      refine W.cs (cells' := 2) (slots' := 12) rfl rfl ?_
      refine lv_astore (pc := 21) (lv' := [(4, .ref q_5), (0, .ref (ad 0)), (1, .int (iI ci)), (2, .int (iI q)), (3, .ref (ad 301))]) hx hb dL_stageBy_21 hl (by decide) rfl (fun ls hl => ?_)
      refine k_iconst (pc := 23) hx hb dL_stageBy_23 ?_
      rw [hQ9]
      exact W.iret (v := iI 3) hx hb hret (fun t ht hW => ⟨⟨some (.int (iI 3)), ad, w, rfl, ⟨3, sc, fn, none, o, rfl, hbk, hI, ⟨rfl, fun r hr => ⟨rfl, fun _ => rfl⟩⟩, ho, Or.inr ⟨rfl, rfl, Or.inr (Or.inr (⟨rfl, hx9⟩))⟩, (fun h9 => absurd h9 (by decide)), by decide⟩, by rw [ht]; exact hP, hD⟩, hS.F ht⟩) hS.2.2 dL_stageBy_24
  · skip
    obtain ⟨sc2, fn2, hb2, hI2, hkp, hok⟩ := hv_5
    have hok : okM_stageBy sc fn ci q sc2 fn2 v_5 := hok
    obtain ⟨z_5, hz_5⟩ := okv_stageBy hok
    subst hz_5
    have ho2 : w_5 301 = some (eJ (cA 2) 1 o) := (hkp.2 301 (by omega)).1.trans ho
    rw [← hkp.1, ← (hkp.2 301 (by omega)).2] at hl
    rw [← (hkp.2 301 (by omega)).2]
    refine W.eq (g2 := F0 m 8 ls [.int (iI z_5), .int (iI 0), .ref (ad_5 301)]) rfl ?_
    refine W.cs (cells' := 2) (slots' := 12) rfl rfl ?_
    refine k_i2lw (pc := 8) hx hb dL_stageBy_8 ?_
    refine k_last (pc := 9) (w1 := (up w_5 301 (eJ (cA 2) 1 (updI o 0 (wI z_5))))) hx hb hK hP hD hS 301 2 ho2 rfl (by omega) (by omega) (by omega) rfl dL_stageBy_9 (fun H locs hP hD hS => ?_)
    refine lv_goto (pc := 10) (tgt := 25) hx hb dL_stageBy_10 (by decide) ?_
    refine k_iconst (pc := 25) hx hb dL_stageBy_25 ?_
    rw [hQ9]
    exact W.iret (v := iI 0) hx hb hret (fun t ht hW => ⟨⟨some (.int (iI 0)), ad_5, (up w_5 301 (eJ (cA 2) 1 (updI o 0 (wI z_5)))), rfl, ⟨0, sc2, fn2, some (.int (iI z_5)), updI o 0 (wI z_5), rfl, bookS_of hI2 (fun r hr => ⟨up_n (by omega) rfl, rfl⟩) hb2, hI2, ⟨hkp.1, fun r hr => ⟨(hkp.2 r hr).2, fun h9 => up_n h9 (hkp.2 r hr).1⟩⟩, up_s _ _ _, Or.inl ⟨rfl, hok⟩, (fun _ => rC_i o z_5), by decide⟩, by rw [ht]; exact hP, hD⟩, hS.F ht⟩) hS.2.2 dL_stageBy_26

abbrev rmL_curveOf : Room := { frames := 8, cells := 1, slots := 6, locals := 123 }
set_option maxHeartbeats 4000000 in
set_option maxRecDepth 100000 in
theorem c_L_curveOf (l : Launch) (hl0 : l.stackTraces = false) (D : va_G) (cA : Nat → ClassId) (ad : Nat → Nat) (w : Nat → Option va_E) (sz : Nat) (sc : Nat → Int) (fn : Nat → Int → Int) (hI : bkInv sc fn) (hbk : bookS cA ad w sc fn) (d : Int) (hd : (-2147483648 ≤ d ∧ d < 2147483648)) (o : Int → Int) (ho : w 301 = some (eJ (cA 2) 1 o)) : Met l yL_curveOf wsL_curveOf rmL_curveOf (gV D cA ad w sz [.ref (ad 0), .int (iI d), .ref (ad 301)]) (gW D (fun v9 ad1 w1 => ∃ (k : Int) (sc2 : Nat → Int) (fn2 : Nat → Int → Int) (v : Option Value) (o2 : Int → Int), v9 = some (.int (iI k)) ∧ bookS cA ad1 w1 sc2 fn2 ∧ bkInv sc2 fn2 ∧ keepL 301 ad ad1 w w1 ∧ w1 301 = some (eJ (cA 2) 1 o2) ∧ rlP (okM_curveOf sc fn d) (erM_curveOf sc fn d) sc fn k sc2 fn2 v ∧ (k = 0 → rC v (o2 0)) ∧ 0 ≤ k ∧ k ≤ 3) (gA ad w sz)) 1 6 (gA ad w sz) := by
  refine g_ofH (cc := cL_curveOf) (maxL := 4) (ret := (some .int)) (hh := [(0, 9, 12, 13)]) (by decide) rfl ?_
  intro p e s m args below meth c s₁ B hml hv
  obtain ⟨hav, hsz, hP, hD0, hK, hB, hZ⟩ := hv
  have hx := B.exec
  have hb := B.bytes
  have hret := B.returns
  have hts := atoms_spec (ws := wsL_curveOf) B.pre
  have hown : s.vm.findClass RL = some m.cls := findClass_of_methodNamed B.named
  have hlocks := B.notSynchronized
  have hex := vx_table (x := yL_curveOf) B (hts (.codeWith yL_curveOf cL_curveOf 4 (some .int) [(0, 9, 12, 13)]) (by decide +kernel))
  subst hsz
  have hD := hD0.self (sz := s.heap.size)
  generalize hAe : gA ad w s.heap.size = A at hD hZ ⊢
  have hA : ∀ q : Nat, s.heap.size ≤ q → A q := fun q h => by rw [← hAe]; exact Or.inr h
  have hS : va_S A s.heap s.heap [] := va_S.rf
  have he9 : entryFrame m args 4 = F0 m 0 ((lg_sl ([.ref (ad 0), .int (iI d), .ref (ad 301)] : List Value) ++ List.replicate (4 - (lg_sl ([.ref (ad 0), .int (iI d), .ref (ad 301)] : List Value)).length) Slot.unset).toArray) [] := by rw [hav, lg_entry_eq]
  rw [he9]
  have hl := lv_entry ([.ref (ad 0), .int (iI d), .ref (ad 301)] : List Value) (n := 4) (Nat.le_of_ble_eq_true rfl)
  generalize (lg_sl ([.ref (ad 0), .int (iI d), .ref (ad 301)] : List Value) ++ List.replicate (4 - (lg_sl ([.ref (ad 0), .int (iI d), .ref (ad 301)] : List Value)).length) Slot.unset).toArray = ls at hl ⊢
  have hl : lv_has ls 4 [(0, .ref (ad 0)), (1, .int (iI d)), (2, .ref (ad 301))] := hl
  obtain ⟨Q9, hQ9⟩ : ∃ z, z = MQ below (gW D (fun v9 ad1 w1 => ∃ (k : Int) (sc2 : Nat → Int) (fn2 : Nat → Int → Int) (v : Option Value) (o2 : Int → Int), v9 = some (.int (iI k)) ∧ bookS cA ad1 w1 sc2 fn2 ∧ bkInv sc2 fn2 ∧ keepL 301 ad ad1 w w1 ∧ w1 301 = some (eJ (cA 2) 1 o2) ∧ rlP (okM_curveOf sc fn d) (erM_curveOf sc fn d) sc fn k sc2 fn2 v ∧ (k = 0 → rC v (o2 0)) ∧ 0 ≤ k ∧ k ≤ 3) A) args s 1 6 A := ⟨_, rfl⟩
  rw [← hQ9]
  show W p l e rmL_curveOf s m args below meth c s.heap [] 0 0 Q9 (F0 m 0 ls [])
  obtain ⟨H, hHe⟩ : ∃ z, z = s.heap := ⟨_, rfl⟩
  obtain ⟨locs, hLe⟩ : ∃ z, z = ([] : List Loc) := ⟨_, rfl⟩
  have hP : gP D vwCl ad w H := by rw [hHe]; exact hP
  have hS : va_S A s.heap H locs := by rw [hHe, hLe]; exact va_S.rf
  rw [show W p l e rmL_curveOf s m args below meth c s.heap [] 0 0 Q9 (F0 m 0 ls []) = W p l e rmL_curveOf s m args below meth c H locs 0 0 Q9 (F0 m 0 ls []) by rw [hHe, hLe]]
  clear hHe hLe
  obtain ⟨fs0, hq0⟩ := bookS_0 hbk
  refine lv_aload_n (pc := 0) hx hb dL_curveOf_0 rfl (lv_at hl 2 rfl) ?_
  refine k_iconst (pc := 1) hx hb dL_curveOf_1 ?_
  refine lv_aload_n (pc := 2) hx hb dL_curveOf_2 rfl (lv_at hl 0 rfl) ?_
  refine lv_iload_n (pc := 3) hx hb dL_curveOf_3 rfl (lv_at hl 1 rfl) ?_
  refine k_callx (pc := 4) (vx_runV (As := [.int (iI d)]) (rest := [.int (iI 0), .ref (ad 301)]) ⟨hx, hb, hml, hown, hts⟩ (c_X5_curveOf l hl0 D cA ad w H.size sc fn hI hbk d hd) (cwV 1 hts gL_curveOf_X5_curveOf rfl rfl rfl (by decide +kernel) ⟨Nat.le_of_ble_eq_true rfl, Nat.le_of_ble_eq_true rfl⟩) (gV_V hP hD hK hB hS hA hZ 0 (ci := 5) rfl hq0) rfl rfl hl.1 rfl (lv_room (Nat.le_of_ble_eq_true rfl)) dL_curveOf_4 ⟨Nat.le_of_ble_eq_true rfl, Nat.le_of_ble_eq_true rfl⟩) hS (gA_sub hD hS hA) (fun E_4 ce_4 q_4 H locs hpx_4 hP hD hS hce_4 hcv_4 hcl_4 => ?_) (fun v_4 ad_4 w_4 H locs hv_4 hP hD hS => ?_)
  · skip
    obtain ⟨hE9, hx9⟩ := hpx_4
    subst hE9
    refine vx_catch (own := RL) (name := "java/lang/IllegalArgumentException") (E := xIA) hown [] ⟨0, 9, 12, 13⟩ [] hex (fun z hz => by cases hz) rfl (by decide) (hts (.classLink RL 13 "java/lang/IllegalArgumentException") (by decide +kernel)) (ca_0 hB _) hce_4 hcv_4 hcl_4 ?_
    refine W.eq (g2 := F0 m 12 ls [.ref q_4]) rfl ?_
    refine W.cs (cells' := 1) (slots' := 6) rfl rfl ?_
    refine lv_astore_n (pc := 12) (lv' := [(3, .ref q_4), (0, .ref (ad 0)), (1, .int (iI d)), (2, .ref (ad 301))]) hx hb dL_curveOf_12 rfl hl (by decide) rfl (fun ls hl => ?_)
    refine k_iconst (pc := 13) hx hb dL_curveOf_13 ?_
    rw [hQ9]
    exact W.iret (v := iI 1) hx hb hret (fun t ht hW => ⟨⟨some (.int (iI 1)), ad, w, rfl, ⟨1, sc, fn, none, o, rfl, hbk, hI, ⟨rfl, fun r hr => ⟨rfl, fun _ => rfl⟩⟩, ho, Or.inr ⟨rfl, rfl, ⟨rfl, hx9⟩⟩, (fun h9 => absurd h9 (by decide)), by decide⟩, by rw [ht]; exact hP, hD⟩, hS.F ht⟩) hS.2.2 dL_curveOf_14
  · skip
    obtain ⟨sc2, fn2, hb2, hI2, hkp, hok⟩ := hv_4
    have hok : okM_curveOf sc fn d sc2 fn2 v_4 := hok
    obtain ⟨z_4, hz_4⟩ := okv_curveOf hok
    subst hz_4
    have ho2 : w_4 301 = some (eJ (cA 2) 1 o) := (hkp.2 301 (by omega)).1.trans ho
    rw [← hkp.1, ← (hkp.2 301 (by omega)).2] at hl
    rw [← (hkp.2 301 (by omega)).2]
    refine W.eq (g2 := F0 m 7 ls [.int (iI z_4), .int (iI 0), .ref (ad_4 301)]) rfl ?_
    refine W.cs (cells' := 1) (slots' := 6) rfl rfl ?_
    refine k_i2lw (pc := 7) hx hb dL_curveOf_7 ?_
    refine k_last (pc := 8) (w1 := (up w_4 301 (eJ (cA 2) 1 (updI o 0 (wI z_4))))) hx hb hK hP hD hS 301 2 ho2 rfl (by omega) (by omega) (by omega) rfl dL_curveOf_8 (fun H locs hP hD hS => ?_)
    refine lv_goto (pc := 9) (tgt := 15) hx hb dL_curveOf_9 (by decide) ?_
    refine k_iconst (pc := 15) hx hb dL_curveOf_15 ?_
    rw [hQ9]
    exact W.iret (v := iI 0) hx hb hret (fun t ht hW => ⟨⟨some (.int (iI 0)), ad_4, (up w_4 301 (eJ (cA 2) 1 (updI o 0 (wI z_4)))), rfl, ⟨0, sc2, fn2, some (.int (iI z_4)), updI o 0 (wI z_4), rfl, bookS_of hI2 (fun r hr => ⟨up_n (by omega) rfl, rfl⟩) hb2, hI2, ⟨hkp.1, fun r hr => ⟨(hkp.2 r hr).2, fun h9 => up_n h9 (hkp.2 r hr).1⟩⟩, up_s _ _ _, Or.inl ⟨rfl, hok⟩, (fun _ => rC_i o z_4), by decide⟩, by rw [ht]; exact hP, hD⟩, hS.F ht⟩) hS.2.2 dL_curveOf_16

abbrev rmL_setShift : Room := { frames := 8, cells := 2, slots := 12, locals := 125 }
set_option maxHeartbeats 4000000 in
set_option maxRecDepth 100000 in
theorem c_L_setShift (l : Launch) (hl0 : l.stackTraces = false) (D : va_G) (cA : Nat → ClassId) (ad : Nat → Nat) (w : Nat → Option va_E) (sz : Nat) (sc : Nat → Int) (fn : Nat → Int → Int) (hI : bkInv sc fn) (hbk : bookS cA ad w sc fn) (d sv : Int) (hd : (-2147483648 ≤ d ∧ d < 2147483648)) (hsv : (-2147483648 ≤ sv ∧ sv < 2147483648)) (o : Int → Int) (ho : w 301 = some (eJ (cA 2) 1 o)) : Met l yL_setShift wsL_setShift rmL_setShift (gV D cA ad w sz [.ref (ad 0), .int (iI d), .int (iI sv), .ref (ad 301)]) (gW D (fun v9 ad1 w1 => ∃ (k : Int) (sc2 : Nat → Int) (fn2 : Nat → Int → Int) (v : Option Value) (o2 : Int → Int), v9 = some (.int (iI k)) ∧ bookS cA ad1 w1 sc2 fn2 ∧ bkInv sc2 fn2 ∧ keepL 301 ad ad1 w w1 ∧ w1 301 = some (eJ (cA 2) 1 o2) ∧ rlP (okM_setShift sc fn d sv) (erM_setShift sc fn d sv) sc fn k sc2 fn2 v ∧ (k = 0 → rC v (o2 0)) ∧ 0 ≤ k ∧ k ≤ 3) (gA ad w sz)) 2 12 (gA ad w sz) := by
  refine g_ofH (cc := cL_setShift) (maxL := 5) (ret := (some .int)) (hh := [(0, 10, 13, 13), (0, 10, 17, 15)]) (by decide) rfl ?_
  intro p e s m args below meth c s₁ B hml hv
  obtain ⟨hav, hsz, hP, hD0, hK, hB, hZ⟩ := hv
  have hx := B.exec
  have hb := B.bytes
  have hret := B.returns
  have hts := atoms_spec (ws := wsL_setShift) B.pre
  have hown : s.vm.findClass RL = some m.cls := findClass_of_methodNamed B.named
  have hlocks := B.notSynchronized
  have hex := vx_table (x := yL_setShift) B (hts (.codeWith yL_setShift cL_setShift 5 (some .int) [(0, 10, 13, 13), (0, 10, 17, 15)]) (by decide +kernel))
  subst hsz
  have hD := hD0.self (sz := s.heap.size)
  generalize hAe : gA ad w s.heap.size = A at hD hZ ⊢
  have hA : ∀ q : Nat, s.heap.size ≤ q → A q := fun q h => by rw [← hAe]; exact Or.inr h
  have hS : va_S A s.heap s.heap [] := va_S.rf
  have he9 : entryFrame m args 5 = F0 m 0 ((lg_sl ([.ref (ad 0), .int (iI d), .int (iI sv), .ref (ad 301)] : List Value) ++ List.replicate (5 - (lg_sl ([.ref (ad 0), .int (iI d), .int (iI sv), .ref (ad 301)] : List Value)).length) Slot.unset).toArray) [] := by rw [hav, lg_entry_eq]
  rw [he9]
  have hl := lv_entry ([.ref (ad 0), .int (iI d), .int (iI sv), .ref (ad 301)] : List Value) (n := 5) (Nat.le_of_ble_eq_true rfl)
  generalize (lg_sl ([.ref (ad 0), .int (iI d), .int (iI sv), .ref (ad 301)] : List Value) ++ List.replicate (5 - (lg_sl ([.ref (ad 0), .int (iI d), .int (iI sv), .ref (ad 301)] : List Value)).length) Slot.unset).toArray = ls at hl ⊢
  have hl : lv_has ls 5 [(0, .ref (ad 0)), (1, .int (iI d)), (2, .int (iI sv)), (3, .ref (ad 301))] := hl
  obtain ⟨Q9, hQ9⟩ : ∃ z, z = MQ below (gW D (fun v9 ad1 w1 => ∃ (k : Int) (sc2 : Nat → Int) (fn2 : Nat → Int → Int) (v : Option Value) (o2 : Int → Int), v9 = some (.int (iI k)) ∧ bookS cA ad1 w1 sc2 fn2 ∧ bkInv sc2 fn2 ∧ keepL 301 ad ad1 w w1 ∧ w1 301 = some (eJ (cA 2) 1 o2) ∧ rlP (okM_setShift sc fn d sv) (erM_setShift sc fn d sv) sc fn k sc2 fn2 v ∧ (k = 0 → rC v (o2 0)) ∧ 0 ≤ k ∧ k ≤ 3) A) args s 2 12 A := ⟨_, rfl⟩
  rw [← hQ9]
  show W p l e rmL_setShift s m args below meth c s.heap [] 0 0 Q9 (F0 m 0 ls [])
  obtain ⟨H, hHe⟩ : ∃ z, z = s.heap := ⟨_, rfl⟩
  obtain ⟨locs, hLe⟩ : ∃ z, z = ([] : List Loc) := ⟨_, rfl⟩
  have hP : gP D vwCl ad w H := by rw [hHe]; exact hP
  have hS : va_S A s.heap H locs := by rw [hHe, hLe]; exact va_S.rf
  rw [show W p l e rmL_setShift s m args below meth c s.heap [] 0 0 Q9 (F0 m 0 ls []) = W p l e rmL_setShift s m args below meth c H locs 0 0 Q9 (F0 m 0 ls []) by rw [hHe, hLe]]
  clear hHe hLe
  obtain ⟨fs0, hq0⟩ := bookS_0 hbk
  refine lv_aload_n (pc := 0) hx hb dL_setShift_0 rfl (lv_at hl 3 rfl) ?_
  refine k_iconst (pc := 1) hx hb dL_setShift_1 ?_
  refine lv_aload_n (pc := 2) hx hb dL_setShift_2 rfl (lv_at hl 0 rfl) ?_
  refine lv_iload_n (pc := 3) hx hb dL_setShift_3 rfl (lv_at hl 1 rfl) ?_
  refine lv_iload_n (pc := 4) hx hb dL_setShift_4 rfl (lv_at hl 2 rfl) ?_
  refine k_callx (pc := 5) (vx_runV (As := [.int (iI d), .int (iI sv)]) (rest := [.int (iI 0), .ref (ad 301)]) ⟨hx, hb, hml, hown, hts⟩ (c_X5_setShift l hl0 D cA ad w H.size sc fn hI hbk d sv hd hsv) (cwV 2 hts gL_setShift_X5_setShift rfl rfl rfl (by decide +kernel) ⟨Nat.le_of_ble_eq_true rfl, Nat.le_of_ble_eq_true rfl⟩) (gV_V hP hD hK hB hS hA hZ 0 (ci := 5) rfl hq0) rfl rfl hl.1 rfl (lv_room (Nat.le_of_ble_eq_true rfl)) dL_setShift_5 ⟨Nat.le_of_ble_eq_true rfl, Nat.le_of_ble_eq_true rfl⟩) hS (gA_sub hD hS hA) (fun E_5 ce_5 q_5 H locs hpx_5 hP hD hS hce_5 hcv_5 hcl_5 => ?_) (fun v_5 ad_5 w_5 H locs hv_5 hP hD hS => ?_)
  · skip
    rcases hpx_5 with ⟨hE9, hx9⟩ | ⟨hE9, hx9⟩
    · skip
      subst hE9
      refine vx_catch (own := RL) (name := "java/lang/IllegalArgumentException") (E := xIA) hown [] ⟨0, 10, 13, 13⟩ [⟨0, 10, 17, 15⟩] hex (fun z hz => by cases hz) rfl (by decide) (hts (.classLink RL 13 "java/lang/IllegalArgumentException") (by decide +kernel)) (ca_0 hB _) hce_5 hcv_5 hcl_5 ?_
      refine W.eq (g2 := F0 m 13 ls [.ref q_5]) rfl ?_
      refine W.cs (cells' := 2) (slots' := 12) rfl rfl ?_
      refine lv_astore (pc := 13) (lv' := [(4, .ref q_5), (0, .ref (ad 0)), (1, .int (iI d)), (2, .int (iI sv)), (3, .ref (ad 301))]) hx hb dL_setShift_13 hl (by decide) rfl (fun ls hl => ?_)
      refine k_iconst (pc := 15) hx hb dL_setShift_15 ?_
      rw [hQ9]
      exact W.iret (v := iI 1) hx hb hret (fun t ht hW => ⟨⟨some (.int (iI 1)), ad, w, rfl, ⟨1, sc, fn, none, o, rfl, hbk, hI, ⟨rfl, fun r hr => ⟨rfl, fun _ => rfl⟩⟩, ho, Or.inr ⟨rfl, rfl, Or.inl (⟨rfl, hx9⟩)⟩, (fun h9 => absurd h9 (by decide)), by decide⟩, by rw [ht]; exact hP, hD⟩, hS.F ht⟩) hS.2.2 dL_setShift_16
    · skip
      subst hE9
      refine vx_catch (own := RL) (name := "java/lang/IllegalStateException") (E := xIS) hown [⟨0, 10, 13, 13⟩] ⟨0, 10, 17, 15⟩ [] hex (fun z hz => by rcases List.mem_cons.mp hz with hz | hz; (subst hz; exact Or.inr ⟨by decide, _, hts (.classLink RL 13 "java/lang/IllegalArgumentException") (by decide +kernel), nc_2 hB⟩); cases hz) rfl (by decide) (hts (.classLink RL 15 "java/lang/IllegalStateException") (by decide +kernel)) (ca_1 hB _) hce_5 hcv_5 hcl_5 ?_
      refine W.eq (g2 := F0 m 17 ls [.ref q_5]) rfl ?_
      refine W.cs (cells' := 2) (slots' := 12) rfl rfl ?_
      refine lv_astore (pc := 17) (lv' := [(4, .ref q_5), (0, .ref (ad 0)), (1, .int (iI d)), (2, .int (iI sv)), (3, .ref (ad 301))]) hx hb dL_setShift_17 hl (by decide) rfl (fun ls hl => ?_)
      refine k_iconst (pc := 19) hx hb dL_setShift_19 ?_
      rw [hQ9]
      exact W.iret (v := iI 2) hx hb hret (fun t ht hW => ⟨⟨some (.int (iI 2)), ad, w, rfl, ⟨2, sc, fn, none, o, rfl, hbk, hI, ⟨rfl, fun r hr => ⟨rfl, fun _ => rfl⟩⟩, ho, Or.inr ⟨rfl, rfl, Or.inr (⟨rfl, hx9⟩)⟩, (fun h9 => absurd h9 (by decide)), by decide⟩, by rw [ht]; exact hP, hD⟩, hS.F ht⟩) hS.2.2 dL_setShift_20
  · skip
    obtain ⟨sc2, fn2, hb2, hI2, hkp, hok⟩ := hv_5
    have hok : okM_setShift sc fn d sv sc2 fn2 v_5 := hok
    obtain ⟨z_5, hz_5⟩ := okv_setShift hok
    subst hz_5
    have ho2 : w_5 301 = some (eJ (cA 2) 1 o) := (hkp.2 301 (by omega)).1.trans ho
    rw [← hkp.1, ← (hkp.2 301 (by omega)).2] at hl
    rw [← (hkp.2 301 (by omega)).2]
    refine W.eq (g2 := F0 m 8 ls [.int (iI z_5), .int (iI 0), .ref (ad_5 301)]) rfl ?_
    refine W.cs (cells' := 2) (slots' := 12) rfl rfl ?_
    refine k_i2lw (pc := 8) hx hb dL_setShift_8 ?_
    refine k_last (pc := 9) (w1 := (up w_5 301 (eJ (cA 2) 1 (updI o 0 (wI z_5))))) hx hb hK hP hD hS 301 2 ho2 rfl (by omega) (by omega) (by omega) rfl dL_setShift_9 (fun H locs hP hD hS => ?_)
    refine lv_goto (pc := 10) (tgt := 21) hx hb dL_setShift_10 (by decide) ?_
    refine k_iconst (pc := 21) hx hb dL_setShift_21 ?_
    rw [hQ9]
    exact W.iret (v := iI 0) hx hb hret (fun t ht hW => ⟨⟨some (.int (iI 0)), ad_5, (up w_5 301 (eJ (cA 2) 1 (updI o 0 (wI z_5)))), rfl, ⟨0, sc2, fn2, some (.int (iI z_5)), updI o 0 (wI z_5), rfl, bookS_of hI2 (fun r hr => ⟨up_n (by omega) rfl, rfl⟩) hb2, hI2, ⟨hkp.1, fun r hr => ⟨(hkp.2 r hr).2, fun h9 => up_n h9 (hkp.2 r hr).1⟩⟩, up_s _ _ _, Or.inl ⟨rfl, hok⟩, (fun _ => rC_i o z_5), by decide⟩, by rw [ht]; exact hP, hD⟩, hS.F ht⟩) hS.2.2 dL_setShift_22

abbrev rmL_shift : Room := { frames := 8, cells := 1, slots := 6, locals := 123 }
set_option maxHeartbeats 4000000 in
set_option maxRecDepth 100000 in
theorem c_L_shift (l : Launch) (hl0 : l.stackTraces = false) (D : va_G) (cA : Nat → ClassId) (ad : Nat → Nat) (w : Nat → Option va_E) (sz : Nat) (sc : Nat → Int) (fn : Nat → Int → Int) (hI : bkInv sc fn) (hbk : bookS cA ad w sc fn) (d : Int) (hd : (-2147483648 ≤ d ∧ d < 2147483648)) (o : Int → Int) (ho : w 301 = some (eJ (cA 2) 1 o)) : Met l yL_shift wsL_shift rmL_shift (gV D cA ad w sz [.ref (ad 0), .int (iI d), .ref (ad 301)]) (gW D (fun v9 ad1 w1 => ∃ (k : Int) (sc2 : Nat → Int) (fn2 : Nat → Int → Int) (v : Option Value) (o2 : Int → Int), v9 = some (.int (iI k)) ∧ bookS cA ad1 w1 sc2 fn2 ∧ bkInv sc2 fn2 ∧ keepL 301 ad ad1 w w1 ∧ w1 301 = some (eJ (cA 2) 1 o2) ∧ rlP (okM_shift sc fn d) (erM_shift sc fn d) sc fn k sc2 fn2 v ∧ (k = 0 → rC v (o2 0)) ∧ 0 ≤ k ∧ k ≤ 3) (gA ad w sz)) 1 6 (gA ad w sz) := by
  refine g_ofH (cc := cL_shift) (maxL := 4) (ret := (some .int)) (hh := [(0, 9, 12, 13)]) (by decide) rfl ?_
  intro p e s m args below meth c s₁ B hml hv
  obtain ⟨hav, hsz, hP, hD0, hK, hB, hZ⟩ := hv
  have hx := B.exec
  have hb := B.bytes
  have hret := B.returns
  have hts := atoms_spec (ws := wsL_shift) B.pre
  have hown : s.vm.findClass RL = some m.cls := findClass_of_methodNamed B.named
  have hlocks := B.notSynchronized
  have hex := vx_table (x := yL_shift) B (hts (.codeWith yL_shift cL_shift 4 (some .int) [(0, 9, 12, 13)]) (by decide +kernel))
  subst hsz
  have hD := hD0.self (sz := s.heap.size)
  generalize hAe : gA ad w s.heap.size = A at hD hZ ⊢
  have hA : ∀ q : Nat, s.heap.size ≤ q → A q := fun q h => by rw [← hAe]; exact Or.inr h
  have hS : va_S A s.heap s.heap [] := va_S.rf
  have he9 : entryFrame m args 4 = F0 m 0 ((lg_sl ([.ref (ad 0), .int (iI d), .ref (ad 301)] : List Value) ++ List.replicate (4 - (lg_sl ([.ref (ad 0), .int (iI d), .ref (ad 301)] : List Value)).length) Slot.unset).toArray) [] := by rw [hav, lg_entry_eq]
  rw [he9]
  have hl := lv_entry ([.ref (ad 0), .int (iI d), .ref (ad 301)] : List Value) (n := 4) (Nat.le_of_ble_eq_true rfl)
  generalize (lg_sl ([.ref (ad 0), .int (iI d), .ref (ad 301)] : List Value) ++ List.replicate (4 - (lg_sl ([.ref (ad 0), .int (iI d), .ref (ad 301)] : List Value)).length) Slot.unset).toArray = ls at hl ⊢
  have hl : lv_has ls 4 [(0, .ref (ad 0)), (1, .int (iI d)), (2, .ref (ad 301))] := hl
  obtain ⟨Q9, hQ9⟩ : ∃ z, z = MQ below (gW D (fun v9 ad1 w1 => ∃ (k : Int) (sc2 : Nat → Int) (fn2 : Nat → Int → Int) (v : Option Value) (o2 : Int → Int), v9 = some (.int (iI k)) ∧ bookS cA ad1 w1 sc2 fn2 ∧ bkInv sc2 fn2 ∧ keepL 301 ad ad1 w w1 ∧ w1 301 = some (eJ (cA 2) 1 o2) ∧ rlP (okM_shift sc fn d) (erM_shift sc fn d) sc fn k sc2 fn2 v ∧ (k = 0 → rC v (o2 0)) ∧ 0 ≤ k ∧ k ≤ 3) A) args s 1 6 A := ⟨_, rfl⟩
  rw [← hQ9]
  show W p l e rmL_shift s m args below meth c s.heap [] 0 0 Q9 (F0 m 0 ls [])
  obtain ⟨H, hHe⟩ : ∃ z, z = s.heap := ⟨_, rfl⟩
  obtain ⟨locs, hLe⟩ : ∃ z, z = ([] : List Loc) := ⟨_, rfl⟩
  have hP : gP D vwCl ad w H := by rw [hHe]; exact hP
  have hS : va_S A s.heap H locs := by rw [hHe, hLe]; exact va_S.rf
  rw [show W p l e rmL_shift s m args below meth c s.heap [] 0 0 Q9 (F0 m 0 ls []) = W p l e rmL_shift s m args below meth c H locs 0 0 Q9 (F0 m 0 ls []) by rw [hHe, hLe]]
  clear hHe hLe
  obtain ⟨fs0, hq0⟩ := bookS_0 hbk
  refine lv_aload_n (pc := 0) hx hb dL_shift_0 rfl (lv_at hl 2 rfl) ?_
  refine k_iconst (pc := 1) hx hb dL_shift_1 ?_
  refine lv_aload_n (pc := 2) hx hb dL_shift_2 rfl (lv_at hl 0 rfl) ?_
  refine lv_iload_n (pc := 3) hx hb dL_shift_3 rfl (lv_at hl 1 rfl) ?_
  refine k_callx (pc := 4) (vx_runV (As := [.int (iI d)]) (rest := [.int (iI 0), .ref (ad 301)]) ⟨hx, hb, hml, hown, hts⟩ (c_X5_shift l hl0 D cA ad w H.size sc fn hI hbk d hd) (cwV 1 hts gL_shift_X5_shift rfl rfl rfl (by decide +kernel) ⟨Nat.le_of_ble_eq_true rfl, Nat.le_of_ble_eq_true rfl⟩) (gV_V hP hD hK hB hS hA hZ 0 (ci := 5) rfl hq0) rfl rfl hl.1 rfl (lv_room (Nat.le_of_ble_eq_true rfl)) dL_shift_4 ⟨Nat.le_of_ble_eq_true rfl, Nat.le_of_ble_eq_true rfl⟩) hS (gA_sub hD hS hA) (fun E_4 ce_4 q_4 H locs hpx_4 hP hD hS hce_4 hcv_4 hcl_4 => ?_) (fun v_4 ad_4 w_4 H locs hv_4 hP hD hS => ?_)
  · skip
    obtain ⟨hE9, hx9⟩ := hpx_4
    subst hE9
    refine vx_catch (own := RL) (name := "java/lang/IllegalArgumentException") (E := xIA) hown [] ⟨0, 9, 12, 13⟩ [] hex (fun z hz => by cases hz) rfl (by decide) (hts (.classLink RL 13 "java/lang/IllegalArgumentException") (by decide +kernel)) (ca_0 hB _) hce_4 hcv_4 hcl_4 ?_
    refine W.eq (g2 := F0 m 12 ls [.ref q_4]) rfl ?_
    refine W.cs (cells' := 1) (slots' := 6) rfl rfl ?_
    refine lv_astore_n (pc := 12) (lv' := [(3, .ref q_4), (0, .ref (ad 0)), (1, .int (iI d)), (2, .ref (ad 301))]) hx hb dL_shift_12 rfl hl (by decide) rfl (fun ls hl => ?_)
    refine k_iconst (pc := 13) hx hb dL_shift_13 ?_
    rw [hQ9]
    exact W.iret (v := iI 1) hx hb hret (fun t ht hW => ⟨⟨some (.int (iI 1)), ad, w, rfl, ⟨1, sc, fn, none, o, rfl, hbk, hI, ⟨rfl, fun r hr => ⟨rfl, fun _ => rfl⟩⟩, ho, Or.inr ⟨rfl, rfl, ⟨rfl, hx9⟩⟩, (fun h9 => absurd h9 (by decide)), by decide⟩, by rw [ht]; exact hP, hD⟩, hS.F ht⟩) hS.2.2 dL_shift_14
  · skip
    obtain ⟨sc2, fn2, hb2, hI2, hkp, hok⟩ := hv_4
    have hok : okM_shift sc fn d sc2 fn2 v_4 := hok
    obtain ⟨z_4, hz_4⟩ := okv_shift hok
    subst hz_4
    have ho2 : w_4 301 = some (eJ (cA 2) 1 o) := (hkp.2 301 (by omega)).1.trans ho
    rw [← hkp.1, ← (hkp.2 301 (by omega)).2] at hl
    rw [← (hkp.2 301 (by omega)).2]
    refine W.eq (g2 := F0 m 7 ls [.int (iI z_4), .int (iI 0), .ref (ad_4 301)]) rfl ?_
    refine W.cs (cells' := 1) (slots' := 6) rfl rfl ?_
    refine k_i2lw (pc := 7) hx hb dL_shift_7 ?_
    refine k_last (pc := 8) (w1 := (up w_4 301 (eJ (cA 2) 1 (updI o 0 (wI z_4))))) hx hb hK hP hD hS 301 2 ho2 rfl (by omega) (by omega) (by omega) rfl dL_shift_8 (fun H locs hP hD hS => ?_)
    refine lv_goto (pc := 9) (tgt := 15) hx hb dL_shift_9 (by decide) ?_
    refine k_iconst (pc := 15) hx hb dL_shift_15 ?_
    rw [hQ9]
    exact W.iret (v := iI 0) hx hb hret (fun t ht hW => ⟨⟨some (.int (iI 0)), ad_4, (up w_4 301 (eJ (cA 2) 1 (updI o 0 (wI z_4)))), rfl, ⟨0, sc2, fn2, some (.int (iI z_4)), updI o 0 (wI z_4), rfl, bookS_of hI2 (fun r hr => ⟨up_n (by omega) rfl, rfl⟩) hb2, hI2, ⟨hkp.1, fun r hr => ⟨(hkp.2 r hr).2, fun h9 => up_n h9 (hkp.2 r hr).1⟩⟩, up_s _ _ _, Or.inl ⟨rfl, hok⟩, (fun _ => rC_i o z_4), by decide⟩, by rw [ht]; exact hP, hD⟩, hS.F ht⟩) hS.2.2 dL_shift_16

abbrev rmL_read : Room := { frames := 9, cells := 4, slots := 24, locals := 149 }
set_option maxHeartbeats 4000000 in
set_option maxRecDepth 100000 in
theorem c_L_read (l : Launch) (hl0 : l.stackTraces = false) (D : va_G) (cA : Nat → ClassId) (ad : Nat → Nat) (w : Nat → Option va_E) (sz : Nat) (sc : Nat → Int) (fn : Nat → Int → Int) (hI : bkInv sc fn) (hbk : bookS cA ad w sc fn) (d n : Int) (hd : (-2147483648 ≤ d ∧ d < 2147483648)) (hn : (-2147483648 ≤ n ∧ n < 2147483648)) (sg ri : Int) (hsg : (-2147483648 ≤ sg ∧ sg < 2147483648)) (hri : (-2147483648 ≤ ri ∧ ri < 2147483648)) (o : Int → Int) (ho : w 301 = some (eJ (cA 2) 1 o)) : Met l yL_read wsL_read rmL_read (gV D cA ad w sz [.ref (ad 0), .int (iI d), .int (iI n), .int (iI sg), .int (iI ri), .ref (ad 301)]) (gW D (fun v9 ad1 w1 => ∃ (k : Int) (sc2 : Nat → Int) (fn2 : Nat → Int → Int) (v : Option Value) (o2 : Int → Int), v9 = some (.int (iI k)) ∧ bookS cA ad1 w1 sc2 fn2 ∧ bkInv sc2 fn2 ∧ keepL 301 ad ad1 w w1 ∧ w1 301 = some (eJ (cA 2) 1 o2) ∧ rlP (okM_read sc fn d n sg ri) (erM_read sc fn d n sg ri) sc fn k sc2 fn2 v ∧ (k = 0 → rC v (o2 0)) ∧ 0 ≤ k ∧ k ≤ 3) (gA ad w sz)) 4 24 (gA ad w sz) := by
  refine g_ofH (cc := cL_read) (maxL := 7) (ret := (some .int)) (hh := [(0, 14, 17, 13)]) (by decide) rfl ?_
  intro p e s m args below meth c s₁ B hml hv
  obtain ⟨hav, hsz, hP, hD0, hK, hB, hZ⟩ := hv
  have hx := B.exec
  have hb := B.bytes
  have hret := B.returns
  have hts := atoms_spec (ws := wsL_read) B.pre
  have hown : s.vm.findClass RL = some m.cls := findClass_of_methodNamed B.named
  have hlocks := B.notSynchronized
  have hex := vx_table (x := yL_read) B (hts (.codeWith yL_read cL_read 7 (some .int) [(0, 14, 17, 13)]) (by decide +kernel))
  subst hsz
  have hD := hD0.self (sz := s.heap.size)
  generalize hAe : gA ad w s.heap.size = A at hD hZ ⊢
  have hA : ∀ q : Nat, s.heap.size ≤ q → A q := fun q h => by rw [← hAe]; exact Or.inr h
  have hS : va_S A s.heap s.heap [] := va_S.rf
  have he9 : entryFrame m args 7 = F0 m 0 ((lg_sl ([.ref (ad 0), .int (iI d), .int (iI n), .int (iI sg), .int (iI ri), .ref (ad 301)] : List Value) ++ List.replicate (7 - (lg_sl ([.ref (ad 0), .int (iI d), .int (iI n), .int (iI sg), .int (iI ri), .ref (ad 301)] : List Value)).length) Slot.unset).toArray) [] := by rw [hav, lg_entry_eq]
  rw [he9]
  have hl := lv_entry ([.ref (ad 0), .int (iI d), .int (iI n), .int (iI sg), .int (iI ri), .ref (ad 301)] : List Value) (n := 7) (Nat.le_of_ble_eq_true rfl)
  generalize (lg_sl ([.ref (ad 0), .int (iI d), .int (iI n), .int (iI sg), .int (iI ri), .ref (ad 301)] : List Value) ++ List.replicate (7 - (lg_sl ([.ref (ad 0), .int (iI d), .int (iI n), .int (iI sg), .int (iI ri), .ref (ad 301)] : List Value)).length) Slot.unset).toArray = ls at hl ⊢
  have hl : lv_has ls 7 [(0, .ref (ad 0)), (1, .int (iI d)), (2, .int (iI n)), (3, .int (iI sg)), (4, .int (iI ri)), (5, .ref (ad 301))] := hl
  obtain ⟨Q9, hQ9⟩ : ∃ z, z = MQ below (gW D (fun v9 ad1 w1 => ∃ (k : Int) (sc2 : Nat → Int) (fn2 : Nat → Int → Int) (v : Option Value) (o2 : Int → Int), v9 = some (.int (iI k)) ∧ bookS cA ad1 w1 sc2 fn2 ∧ bkInv sc2 fn2 ∧ keepL 301 ad ad1 w w1 ∧ w1 301 = some (eJ (cA 2) 1 o2) ∧ rlP (okM_read sc fn d n sg ri) (erM_read sc fn d n sg ri) sc fn k sc2 fn2 v ∧ (k = 0 → rC v (o2 0)) ∧ 0 ≤ k ∧ k ≤ 3) A) args s 4 24 A := ⟨_, rfl⟩
  rw [← hQ9]
  show W p l e rmL_read s m args below meth c s.heap [] 0 0 Q9 (F0 m 0 ls [])
  obtain ⟨H, hHe⟩ : ∃ z, z = s.heap := ⟨_, rfl⟩
  obtain ⟨locs, hLe⟩ : ∃ z, z = ([] : List Loc) := ⟨_, rfl⟩
  have hP : gP D vwCl ad w H := by rw [hHe]; exact hP
  have hS : va_S A s.heap H locs := by rw [hHe, hLe]; exact va_S.rf
  rw [show W p l e rmL_read s m args below meth c s.heap [] 0 0 Q9 (F0 m 0 ls []) = W p l e rmL_read s m args below meth c H locs 0 0 Q9 (F0 m 0 ls []) by rw [hHe, hLe]]
  clear hHe hLe
  obtain ⟨fs0, hq0⟩ := bookS_0 hbk
  refine lv_aload (pc := 0) hx hb dL_read_0 (lv_at hl 5 rfl) ?_
  refine k_iconst (pc := 2) hx hb dL_read_2 ?_
  refine lv_aload_n (pc := 3) hx hb dL_read_3 rfl (lv_at hl 0 rfl) ?_
  refine lv_iload_n (pc := 4) hx hb dL_read_4 rfl (lv_at hl 1 rfl) ?_
  refine lv_iload_n (pc := 5) hx hb dL_read_5 rfl (lv_at hl 2 rfl) ?_
  refine lv_iload_n (pc := 6) hx hb dL_read_6 rfl (lv_at hl 3 rfl) ?_
  refine lv_iload (pc := 7) hx hb dL_read_7 (lv_at hl 4 rfl) ?_
  refine k_callx (pc := 9) (vx_runV (As := [.int (iI d), .int (iI n), .int (iI sg), .int (iI ri)]) (rest := [.int (iI 0), .ref (ad 301)]) ⟨hx, hb, hml, hown, hts⟩ (c_X5_read l hl0 D cA ad w H.size sc fn hI hbk d n hd hn sg ri hsg hri) (cwV 4 hts gL_read_X5_read rfl rfl rfl (by decide +kernel) ⟨Nat.le_of_ble_eq_true rfl, Nat.le_of_ble_eq_true rfl⟩) (gV_V hP hD hK hB hS hA hZ 0 (ci := 5) rfl hq0) rfl rfl hl.1 rfl (lv_room (Nat.le_of_ble_eq_true rfl)) dL_read_9 ⟨Nat.le_of_ble_eq_true rfl, Nat.le_of_ble_eq_true rfl⟩) hS (gA_sub hD hS hA) (fun E_9 ce_9 q_9 H locs hpx_9 hP hD hS hce_9 hcv_9 hcl_9 => ?_) (fun v_9 ad_9 w_9 H locs hv_9 hP hD hS => ?_)
  · skip
    obtain ⟨hE9, hx9⟩ := hpx_9
    subst hE9
    refine vx_catch (own := RL) (name := "java/lang/IllegalArgumentException") (E := xIA) hown [] ⟨0, 14, 17, 13⟩ [] hex (fun z hz => by cases hz) rfl (by decide) (hts (.classLink RL 13 "java/lang/IllegalArgumentException") (by decide +kernel)) (ca_0 hB _) hce_9 hcv_9 hcl_9 ?_
    refine W.eq (g2 := F0 m 17 ls [.ref q_9]) rfl ?_
    refine W.cs (cells' := 4) (slots' := 24) rfl rfl ?_
    refine lv_astore (pc := 17) (lv' := [(6, .ref q_9), (0, .ref (ad 0)), (1, .int (iI d)), (2, .int (iI n)), (3, .int (iI sg)), (4, .int (iI ri)), (5, .ref (ad 301))]) hx hb dL_read_17 hl (by decide) rfl (fun ls hl => ?_)
    refine k_iconst (pc := 19) hx hb dL_read_19 ?_
    rw [hQ9]
    exact W.iret (v := iI 1) hx hb hret (fun t ht hW => ⟨⟨some (.int (iI 1)), ad, w, rfl, ⟨1, sc, fn, none, o, rfl, hbk, hI, ⟨rfl, fun r hr => ⟨rfl, fun _ => rfl⟩⟩, ho, Or.inr ⟨rfl, rfl, ⟨rfl, hx9⟩⟩, (fun h9 => absurd h9 (by decide)), by decide⟩, by rw [ht]; exact hP, hD⟩, hS.F ht⟩) hS.2.2 dL_read_20
  · skip
    obtain ⟨sc2, fn2, hb2, hI2, hkp, hok⟩ := hv_9
    have hok : okM_read sc fn d n sg ri sc2 fn2 v_9 := hok
    obtain ⟨z_9, hz_9⟩ := okv_read hok
    subst hz_9
    have ho2 : w_9 301 = some (eJ (cA 2) 1 o) := (hkp.2 301 (by omega)).1.trans ho
    rw [← hkp.1, ← (hkp.2 301 (by omega)).2] at hl
    rw [← (hkp.2 301 (by omega)).2]
    refine W.eq (g2 := F0 m 12 ls [.int (iI z_9), .int (iI 0), .ref (ad_9 301)]) rfl ?_
    refine W.cs (cells' := 4) (slots' := 24) rfl rfl ?_
    refine k_i2lw (pc := 12) hx hb dL_read_12 ?_
    refine k_last (pc := 13) (w1 := (up w_9 301 (eJ (cA 2) 1 (updI o 0 (wI z_9))))) hx hb hK hP hD hS 301 2 ho2 rfl (by omega) (by omega) (by omega) rfl dL_read_13 (fun H locs hP hD hS => ?_)
    refine lv_goto (pc := 14) (tgt := 21) hx hb dL_read_14 (by decide) ?_
    refine k_iconst (pc := 21) hx hb dL_read_21 ?_
    rw [hQ9]
    exact W.iret (v := iI 0) hx hb hret (fun t ht hW => ⟨⟨some (.int (iI 0)), ad_9, (up w_9 301 (eJ (cA 2) 1 (updI o 0 (wI z_9)))), rfl, ⟨0, sc2, fn2, some (.int (iI z_9)), updI o 0 (wI z_9), rfl, bookS_of hI2 (fun r hr => ⟨up_n (by omega) rfl, rfl⟩) hb2, hI2, ⟨hkp.1, fun r hr => ⟨(hkp.2 r hr).2, fun h9 => up_n h9 (hkp.2 r hr).1⟩⟩, up_s _ _ _, Or.inl ⟨rfl, hok⟩, (fun _ => rC_i o z_9), by decide⟩, by rw [ht]; exact hP, hD⟩, hS.F ht⟩) hS.2.2 dL_read_22

abbrev rmL_erase : Room := { frames := 9, cells := 2, slots := 12, locals := 147 }
set_option maxHeartbeats 4000000 in
set_option maxRecDepth 100000 in
theorem c_L_erase (l : Launch) (hl0 : l.stackTraces = false) (D : va_G) (cA : Nat → ClassId) (ad : Nat → Nat) (w : Nat → Option va_E) (sz : Nat) (sc : Nat → Int) (fn : Nat → Int → Int) (hI : bkInv sc fn) (hbk : bookS cA ad w sc fn) (d n : Int) (hd : (-2147483648 ≤ d ∧ d < 2147483648)) (hn : (-2147483648 ≤ n ∧ n < 2147483648)) (o : Int → Int) (ho : w 301 = some (eJ (cA 2) 1 o)) : Met l yL_erase wsL_erase rmL_erase (gV D cA ad w sz [.ref (ad 0), .int (iI d), .int (iI n), .ref (ad 301)]) (gW D (fun v9 ad1 w1 => ∃ (k : Int) (sc2 : Nat → Int) (fn2 : Nat → Int → Int) (v : Option Value) (o2 : Int → Int), v9 = some (.int (iI k)) ∧ bookS cA ad1 w1 sc2 fn2 ∧ bkInv sc2 fn2 ∧ keepL 301 ad ad1 w w1 ∧ w1 301 = some (eJ (cA 2) 1 o2) ∧ rlP (okM_erase sc fn d n) (erM_erase sc fn d n) sc fn k sc2 fn2 v ∧ (k = 0 → rC v (o2 0)) ∧ 0 ≤ k ∧ k ≤ 3) (gA ad w sz)) 2 12 (gA ad w sz) := by
  refine g_ofH (cc := cL_erase) (maxL := 5) (ret := (some .int)) (hh := [(0, 10, 13, 13)]) (by decide) rfl ?_
  intro p e s m args below meth c s₁ B hml hv
  obtain ⟨hav, hsz, hP, hD0, hK, hB, hZ⟩ := hv
  have hx := B.exec
  have hb := B.bytes
  have hret := B.returns
  have hts := atoms_spec (ws := wsL_erase) B.pre
  have hown : s.vm.findClass RL = some m.cls := findClass_of_methodNamed B.named
  have hlocks := B.notSynchronized
  have hex := vx_table (x := yL_erase) B (hts (.codeWith yL_erase cL_erase 5 (some .int) [(0, 10, 13, 13)]) (by decide +kernel))
  subst hsz
  have hD := hD0.self (sz := s.heap.size)
  generalize hAe : gA ad w s.heap.size = A at hD hZ ⊢
  have hA : ∀ q : Nat, s.heap.size ≤ q → A q := fun q h => by rw [← hAe]; exact Or.inr h
  have hS : va_S A s.heap s.heap [] := va_S.rf
  have he9 : entryFrame m args 5 = F0 m 0 ((lg_sl ([.ref (ad 0), .int (iI d), .int (iI n), .ref (ad 301)] : List Value) ++ List.replicate (5 - (lg_sl ([.ref (ad 0), .int (iI d), .int (iI n), .ref (ad 301)] : List Value)).length) Slot.unset).toArray) [] := by rw [hav, lg_entry_eq]
  rw [he9]
  have hl := lv_entry ([.ref (ad 0), .int (iI d), .int (iI n), .ref (ad 301)] : List Value) (n := 5) (Nat.le_of_ble_eq_true rfl)
  generalize (lg_sl ([.ref (ad 0), .int (iI d), .int (iI n), .ref (ad 301)] : List Value) ++ List.replicate (5 - (lg_sl ([.ref (ad 0), .int (iI d), .int (iI n), .ref (ad 301)] : List Value)).length) Slot.unset).toArray = ls at hl ⊢
  have hl : lv_has ls 5 [(0, .ref (ad 0)), (1, .int (iI d)), (2, .int (iI n)), (3, .ref (ad 301))] := hl
  obtain ⟨Q9, hQ9⟩ : ∃ z, z = MQ below (gW D (fun v9 ad1 w1 => ∃ (k : Int) (sc2 : Nat → Int) (fn2 : Nat → Int → Int) (v : Option Value) (o2 : Int → Int), v9 = some (.int (iI k)) ∧ bookS cA ad1 w1 sc2 fn2 ∧ bkInv sc2 fn2 ∧ keepL 301 ad ad1 w w1 ∧ w1 301 = some (eJ (cA 2) 1 o2) ∧ rlP (okM_erase sc fn d n) (erM_erase sc fn d n) sc fn k sc2 fn2 v ∧ (k = 0 → rC v (o2 0)) ∧ 0 ≤ k ∧ k ≤ 3) A) args s 2 12 A := ⟨_, rfl⟩
  rw [← hQ9]
  show W p l e rmL_erase s m args below meth c s.heap [] 0 0 Q9 (F0 m 0 ls [])
  obtain ⟨H, hHe⟩ : ∃ z, z = s.heap := ⟨_, rfl⟩
  obtain ⟨locs, hLe⟩ : ∃ z, z = ([] : List Loc) := ⟨_, rfl⟩
  have hP : gP D vwCl ad w H := by rw [hHe]; exact hP
  have hS : va_S A s.heap H locs := by rw [hHe, hLe]; exact va_S.rf
  rw [show W p l e rmL_erase s m args below meth c s.heap [] 0 0 Q9 (F0 m 0 ls []) = W p l e rmL_erase s m args below meth c H locs 0 0 Q9 (F0 m 0 ls []) by rw [hHe, hLe]]
  clear hHe hLe
  obtain ⟨fs0, hq0⟩ := bookS_0 hbk
  refine lv_aload_n (pc := 0) hx hb dL_erase_0 rfl (lv_at hl 3 rfl) ?_
  refine k_iconst (pc := 1) hx hb dL_erase_1 ?_
  refine lv_aload_n (pc := 2) hx hb dL_erase_2 rfl (lv_at hl 0 rfl) ?_
  refine lv_iload_n (pc := 3) hx hb dL_erase_3 rfl (lv_at hl 1 rfl) ?_
  refine lv_iload_n (pc := 4) hx hb dL_erase_4 rfl (lv_at hl 2 rfl) ?_
  refine k_callx (pc := 5) (vx_runV (As := [.int (iI d), .int (iI n)]) (rest := [.int (iI 0), .ref (ad 301)]) ⟨hx, hb, hml, hown, hts⟩ (c_X5_erase l hl0 D cA ad w H.size sc fn hI hbk d n hd hn) (cwV 2 hts gL_erase_X5_erase rfl rfl rfl (by decide +kernel) ⟨Nat.le_of_ble_eq_true rfl, Nat.le_of_ble_eq_true rfl⟩) (gV_V hP hD hK hB hS hA hZ 0 (ci := 5) rfl hq0) rfl rfl hl.1 rfl (lv_room (Nat.le_of_ble_eq_true rfl)) dL_erase_5 ⟨Nat.le_of_ble_eq_true rfl, Nat.le_of_ble_eq_true rfl⟩) hS (gA_sub hD hS hA) (fun E_5 ce_5 q_5 H locs hpx_5 hP hD hS hce_5 hcv_5 hcl_5 => ?_) (fun v_5 ad_5 w_5 H locs hv_5 hP hD hS => ?_)
  · skip
    obtain ⟨hE9, hx9⟩ := hpx_5
    subst hE9
    refine vx_catch (own := RL) (name := "java/lang/IllegalArgumentException") (E := xIA) hown [] ⟨0, 10, 13, 13⟩ [] hex (fun z hz => by cases hz) rfl (by decide) (hts (.classLink RL 13 "java/lang/IllegalArgumentException") (by decide +kernel)) (ca_0 hB _) hce_5 hcv_5 hcl_5 ?_
    refine W.eq (g2 := F0 m 13 ls [.ref q_5]) rfl ?_
    refine W.cs (cells' := 2) (slots' := 12) rfl rfl ?_
    refine lv_astore (pc := 13) (lv' := [(4, .ref q_5), (0, .ref (ad 0)), (1, .int (iI d)), (2, .int (iI n)), (3, .ref (ad 301))]) hx hb dL_erase_13 hl (by decide) rfl (fun ls hl => ?_)
    refine k_iconst (pc := 15) hx hb dL_erase_15 ?_
    rw [hQ9]
    exact W.iret (v := iI 1) hx hb hret (fun t ht hW => ⟨⟨some (.int (iI 1)), ad, w, rfl, ⟨1, sc, fn, none, o, rfl, hbk, hI, ⟨rfl, fun r hr => ⟨rfl, fun _ => rfl⟩⟩, ho, Or.inr ⟨rfl, rfl, ⟨rfl, hx9⟩⟩, (fun h9 => absurd h9 (by decide)), by decide⟩, by rw [ht]; exact hP, hD⟩, hS.F ht⟩) hS.2.2 dL_erase_16
  · skip
    obtain ⟨sc2, fn2, hb2, hI2, hkp, hok⟩ := hv_5
    have hok : okM_erase sc fn d n sc2 fn2 v_5 := hok
    obtain ⟨z_5, hz_5⟩ := okv_erase hok
    subst hz_5
    have ho2 : w_5 301 = some (eJ (cA 2) 1 o) := (hkp.2 301 (by omega)).1.trans ho
    rw [← hkp.1, ← (hkp.2 301 (by omega)).2] at hl
    rw [← (hkp.2 301 (by omega)).2]
    refine W.eq (g2 := F0 m 8 ls [.int (iI z_5), .int (iI 0), .ref (ad_5 301)]) rfl ?_
    refine W.cs (cells' := 2) (slots' := 12) rfl rfl ?_
    refine k_i2lw (pc := 8) hx hb dL_erase_8 ?_
    refine k_last (pc := 9) (w1 := (up w_5 301 (eJ (cA 2) 1 (updI o 0 (wI z_5))))) hx hb hK hP hD hS 301 2 ho2 rfl (by omega) (by omega) (by omega) rfl dL_erase_9 (fun H locs hP hD hS => ?_)
    refine lv_goto (pc := 10) (tgt := 17) hx hb dL_erase_10 (by decide) ?_
    refine k_iconst (pc := 17) hx hb dL_erase_17 ?_
    rw [hQ9]
    exact W.iret (v := iI 0) hx hb hret (fun t ht hW => ⟨⟨some (.int (iI 0)), ad_5, (up w_5 301 (eJ (cA 2) 1 (updI o 0 (wI z_5)))), rfl, ⟨0, sc2, fn2, some (.int (iI z_5)), updI o 0 (wI z_5), rfl, bookS_of hI2 (fun r hr => ⟨up_n (by omega) rfl, rfl⟩) hb2, hI2, ⟨hkp.1, fun r hr => ⟨(hkp.2 r hr).2, fun h9 => up_n h9 (hkp.2 r hr).1⟩⟩, up_s _ _ _, Or.inl ⟨rfl, hok⟩, (fun _ => rC_i o z_5), by decide⟩, by rw [ht]; exact hP, hD⟩, hS.F ht⟩) hS.2.2 dL_erase_18

abbrev rmL_freeze : Room := { frames := 9, cells := 2, slots := 12, locals := 148 }
set_option maxHeartbeats 4000000 in
set_option maxRecDepth 100000 in
theorem c_L_freeze (l : Launch) (hl0 : l.stackTraces = false) (D : va_G) (cA : Nat → ClassId) (ad : Nat → Nat) (w : Nat → Option va_E) (sz : Nat) (sc : Nat → Int) (fn : Nat → Int → Int) (hI : bkInv sc fn) (hbk : bookS cA ad w sc fn) (d n : Int) (hd : (-2147483648 ≤ d ∧ d < 2147483648)) (hn : (-2147483648 ≤ n ∧ n < 2147483648)) (ib : Int) (hib : ib = 0 ∨ ib = 1) (o : Int → Int) (ho : w 301 = some (eJ (cA 2) 1 o)) : Met l yL_freeze wsL_freeze rmL_freeze (gV D cA ad w sz [.ref (ad 0), .int (iI d), .int (iI n), .int (iI ib), .ref (ad 301)]) (gW D (fun v9 ad1 w1 => ∃ (k : Int) (sc2 : Nat → Int) (fn2 : Nat → Int → Int) (v : Option Value) (o2 : Int → Int), v9 = some (.int (iI k)) ∧ bookS cA ad1 w1 sc2 fn2 ∧ bkInv sc2 fn2 ∧ keepL 301 ad ad1 w w1 ∧ w1 301 = some (eJ (cA 2) 1 o2) ∧ rlP (okM_freeze sc fn d n ib) (erM_freeze sc fn d n ib) sc fn k sc2 fn2 v ∧ (k = 0 → rC v (o2 0)) ∧ 0 ≤ k ∧ k ≤ 3) (gA ad w sz)) 2 12 (gA ad w sz) := by
  refine g_ofH (cc := cL_freeze) (maxL := 6) (ret := (some .int)) (hh := [(0, 12, 15, 13)]) (by decide) rfl ?_
  intro p e s m args below meth c s₁ B hml hv
  obtain ⟨hav, hsz, hP, hD0, hK, hB, hZ⟩ := hv
  have hx := B.exec
  have hb := B.bytes
  have hret := B.returns
  have hts := atoms_spec (ws := wsL_freeze) B.pre
  have hown : s.vm.findClass RL = some m.cls := findClass_of_methodNamed B.named
  have hlocks := B.notSynchronized
  have hex := vx_table (x := yL_freeze) B (hts (.codeWith yL_freeze cL_freeze 6 (some .int) [(0, 12, 15, 13)]) (by decide +kernel))
  subst hsz
  have hD := hD0.self (sz := s.heap.size)
  generalize hAe : gA ad w s.heap.size = A at hD hZ ⊢
  have hA : ∀ q : Nat, s.heap.size ≤ q → A q := fun q h => by rw [← hAe]; exact Or.inr h
  have hS : va_S A s.heap s.heap [] := va_S.rf
  have he9 : entryFrame m args 6 = F0 m 0 ((lg_sl ([.ref (ad 0), .int (iI d), .int (iI n), .int (iI ib), .ref (ad 301)] : List Value) ++ List.replicate (6 - (lg_sl ([.ref (ad 0), .int (iI d), .int (iI n), .int (iI ib), .ref (ad 301)] : List Value)).length) Slot.unset).toArray) [] := by rw [hav, lg_entry_eq]
  rw [he9]
  have hl := lv_entry ([.ref (ad 0), .int (iI d), .int (iI n), .int (iI ib), .ref (ad 301)] : List Value) (n := 6) (Nat.le_of_ble_eq_true rfl)
  generalize (lg_sl ([.ref (ad 0), .int (iI d), .int (iI n), .int (iI ib), .ref (ad 301)] : List Value) ++ List.replicate (6 - (lg_sl ([.ref (ad 0), .int (iI d), .int (iI n), .int (iI ib), .ref (ad 301)] : List Value)).length) Slot.unset).toArray = ls at hl ⊢
  have hl : lv_has ls 6 [(0, .ref (ad 0)), (1, .int (iI d)), (2, .int (iI n)), (3, .int (iI ib)), (4, .ref (ad 301))] := hl
  obtain ⟨Q9, hQ9⟩ : ∃ z, z = MQ below (gW D (fun v9 ad1 w1 => ∃ (k : Int) (sc2 : Nat → Int) (fn2 : Nat → Int → Int) (v : Option Value) (o2 : Int → Int), v9 = some (.int (iI k)) ∧ bookS cA ad1 w1 sc2 fn2 ∧ bkInv sc2 fn2 ∧ keepL 301 ad ad1 w w1 ∧ w1 301 = some (eJ (cA 2) 1 o2) ∧ rlP (okM_freeze sc fn d n ib) (erM_freeze sc fn d n ib) sc fn k sc2 fn2 v ∧ (k = 0 → rC v (o2 0)) ∧ 0 ≤ k ∧ k ≤ 3) A) args s 2 12 A := ⟨_, rfl⟩
  rw [← hQ9]
  show W p l e rmL_freeze s m args below meth c s.heap [] 0 0 Q9 (F0 m 0 ls [])
  obtain ⟨H, hHe⟩ : ∃ z, z = s.heap := ⟨_, rfl⟩
  obtain ⟨locs, hLe⟩ : ∃ z, z = ([] : List Loc) := ⟨_, rfl⟩
  have hP : gP D vwCl ad w H := by rw [hHe]; exact hP
  have hS : va_S A s.heap H locs := by rw [hHe, hLe]; exact va_S.rf
  rw [show W p l e rmL_freeze s m args below meth c s.heap [] 0 0 Q9 (F0 m 0 ls []) = W p l e rmL_freeze s m args below meth c H locs 0 0 Q9 (F0 m 0 ls []) by rw [hHe, hLe]]
  clear hHe hLe
  obtain ⟨fs0, hq0⟩ := bookS_0 hbk
  refine lv_aload (pc := 0) hx hb dL_freeze_0 (lv_at hl 4 rfl) ?_
  refine k_iconst (pc := 2) hx hb dL_freeze_2 ?_
  refine lv_aload_n (pc := 3) hx hb dL_freeze_3 rfl (lv_at hl 0 rfl) ?_
  refine lv_iload_n (pc := 4) hx hb dL_freeze_4 rfl (lv_at hl 1 rfl) ?_
  refine lv_iload_n (pc := 5) hx hb dL_freeze_5 rfl (lv_at hl 2 rfl) ?_
  refine lv_iload_n (pc := 6) hx hb dL_freeze_6 rfl (lv_at hl 3 rfl) ?_
  refine k_callx (pc := 7) (vx_runV (As := [.int (iI d), .int (iI n), .int (iI ib)]) (rest := [.int (iI 0), .ref (ad 301)]) ⟨hx, hb, hml, hown, hts⟩ (c_X5_freeze l hl0 D cA ad w H.size sc fn hI hbk d n hd hn ib hib) (cwV 3 hts gL_freeze_X5_freeze rfl rfl rfl (by decide +kernel) ⟨Nat.le_of_ble_eq_true rfl, Nat.le_of_ble_eq_true rfl⟩) (gV_V hP hD hK hB hS hA hZ 0 (ci := 5) rfl hq0) rfl rfl hl.1 rfl (lv_room (Nat.le_of_ble_eq_true rfl)) dL_freeze_7 ⟨Nat.le_of_ble_eq_true rfl, Nat.le_of_ble_eq_true rfl⟩) hS (gA_sub hD hS hA) (fun E_7 ce_7 q_7 H locs hpx_7 hP hD hS hce_7 hcv_7 hcl_7 => ?_) (fun v_7 ad_7 w_7 H locs hv_7 hP hD hS => ?_)
  · skip
    obtain ⟨hE9, hx9⟩ := hpx_7
    subst hE9
    refine vx_catch (own := RL) (name := "java/lang/IllegalArgumentException") (E := xIA) hown [] ⟨0, 12, 15, 13⟩ [] hex (fun z hz => by cases hz) rfl (by decide) (hts (.classLink RL 13 "java/lang/IllegalArgumentException") (by decide +kernel)) (ca_0 hB _) hce_7 hcv_7 hcl_7 ?_
    refine W.eq (g2 := F0 m 15 ls [.ref q_7]) rfl ?_
    refine W.cs (cells' := 2) (slots' := 12) rfl rfl ?_
    refine lv_astore (pc := 15) (lv' := [(5, .ref q_7), (0, .ref (ad 0)), (1, .int (iI d)), (2, .int (iI n)), (3, .int (iI ib)), (4, .ref (ad 301))]) hx hb dL_freeze_15 hl (by decide) rfl (fun ls hl => ?_)
    refine k_iconst (pc := 17) hx hb dL_freeze_17 ?_
    rw [hQ9]
    exact W.iret (v := iI 1) hx hb hret (fun t ht hW => ⟨⟨some (.int (iI 1)), ad, w, rfl, ⟨1, sc, fn, none, o, rfl, hbk, hI, ⟨rfl, fun r hr => ⟨rfl, fun _ => rfl⟩⟩, ho, Or.inr ⟨rfl, rfl, ⟨rfl, hx9⟩⟩, (fun h9 => absurd h9 (by decide)), by decide⟩, by rw [ht]; exact hP, hD⟩, hS.F ht⟩) hS.2.2 dL_freeze_18
  · skip
    obtain ⟨sc2, fn2, hb2, hI2, hkp, hok⟩ := hv_7
    have hok : okM_freeze sc fn d n ib sc2 fn2 v_7 := hok
    obtain ⟨z_7, hz_7⟩ := okv_freeze hok
    subst hz_7
    have ho2 : w_7 301 = some (eJ (cA 2) 1 o) := (hkp.2 301 (by omega)).1.trans ho
    rw [← hkp.1, ← (hkp.2 301 (by omega)).2] at hl
    rw [← (hkp.2 301 (by omega)).2]
    refine W.eq (g2 := F0 m 10 ls [.int (iI z_7), .int (iI 0), .ref (ad_7 301)]) rfl ?_
    refine W.cs (cells' := 2) (slots' := 12) rfl rfl ?_
    refine k_i2lw (pc := 10) hx hb dL_freeze_10 ?_
    refine k_last (pc := 11) (w1 := (up w_7 301 (eJ (cA 2) 1 (updI o 0 (wI z_7))))) hx hb hK hP hD hS 301 2 ho2 rfl (by omega) (by omega) (by omega) rfl dL_freeze_11 (fun H locs hP hD hS => ?_)
    refine lv_goto (pc := 12) (tgt := 19) hx hb dL_freeze_12 (by decide) ?_
    refine k_iconst (pc := 19) hx hb dL_freeze_19 ?_
    rw [hQ9]
    exact W.iret (v := iI 0) hx hb hret (fun t ht hW => ⟨⟨some (.int (iI 0)), ad_7, (up w_7 301 (eJ (cA 2) 1 (updI o 0 (wI z_7)))), rfl, ⟨0, sc2, fn2, some (.int (iI z_7)), updI o 0 (wI z_7), rfl, bookS_of hI2 (fun r hr => ⟨up_n (by omega) rfl, rfl⟩) hb2, hI2, ⟨hkp.1, fun r hr => ⟨(hkp.2 r hr).2, fun h9 => up_n h9 (hkp.2 r hr).1⟩⟩, up_s _ _ _, Or.inl ⟨rfl, hok⟩, (fun _ => rC_i o z_7), by decide⟩, by rw [ht]; exact hP, hD⟩, hS.F ht⟩) hS.2.2 dL_freeze_20

abbrev rmL_setRules : Room := { frames := 7, cells := 1, slots := 6, locals := 105 }
set_option maxHeartbeats 4000000 in
set_option maxRecDepth 100000 in
theorem c_L_setRules (l : Launch) (hl0 : l.stackTraces = false) (D : va_G) (cA : Nat → ClassId) (ad : Nat → Nat) (w : Nat → Option va_E) (sz : Nat) (sc : Nat → Int) (fn : Nat → Int → Int) (hI : bkInv sc fn) (hbk : bookS cA ad w sc fn) (fa li : Int) (hfa : (-2147483648 ≤ fa ∧ fa < 2147483648)) (hli : (-2147483648 ≤ li ∧ li < 2147483648)) (o : Int → Int) (ho : w 301 = some (eJ (cA 2) 1 o)) : Met l yL_setRules wsL_setRules rmL_setRules (gV D cA ad w sz [.ref (ad 0), .int (iI fa), .int (iI li), .ref (ad 301)]) (gW D (fun v9 ad1 w1 => ∃ (k : Int) (sc2 : Nat → Int) (fn2 : Nat → Int → Int) (v : Option Value) (o2 : Int → Int), v9 = some (.int (iI k)) ∧ bookS cA ad1 w1 sc2 fn2 ∧ bkInv sc2 fn2 ∧ keepL 301 ad ad1 w w1 ∧ w1 301 = some (eJ (cA 2) 1 o2) ∧ rlP (okM_setRules sc fn fa li) (erM_setRules sc fn fa li) sc fn k sc2 fn2 v ∧ (k = 0 → rC v (o2 0)) ∧ 0 ≤ k ∧ k ≤ 3) (gA ad w sz)) 1 6 (gA ad w sz) := by
  refine g_ofH (cc := cL_setRules) (maxL := 5) (ret := (some .int)) (hh := [(0, 10, 13, 13)]) (by decide) rfl ?_
  intro p e s m args below meth c s₁ B hml hv
  obtain ⟨hav, hsz, hP, hD0, hK, hB, hZ⟩ := hv
  have hx := B.exec
  have hb := B.bytes
  have hret := B.returns
  have hts := atoms_spec (ws := wsL_setRules) B.pre
  have hown : s.vm.findClass RL = some m.cls := findClass_of_methodNamed B.named
  have hlocks := B.notSynchronized
  have hex := vx_table (x := yL_setRules) B (hts (.codeWith yL_setRules cL_setRules 5 (some .int) [(0, 10, 13, 13)]) (by decide +kernel))
  subst hsz
  have hD := hD0.self (sz := s.heap.size)
  generalize hAe : gA ad w s.heap.size = A at hD hZ ⊢
  have hA : ∀ q : Nat, s.heap.size ≤ q → A q := fun q h => by rw [← hAe]; exact Or.inr h
  have hS : va_S A s.heap s.heap [] := va_S.rf
  have he9 : entryFrame m args 5 = F0 m 0 ((lg_sl ([.ref (ad 0), .int (iI fa), .int (iI li), .ref (ad 301)] : List Value) ++ List.replicate (5 - (lg_sl ([.ref (ad 0), .int (iI fa), .int (iI li), .ref (ad 301)] : List Value)).length) Slot.unset).toArray) [] := by rw [hav, lg_entry_eq]
  rw [he9]
  have hl := lv_entry ([.ref (ad 0), .int (iI fa), .int (iI li), .ref (ad 301)] : List Value) (n := 5) (Nat.le_of_ble_eq_true rfl)
  generalize (lg_sl ([.ref (ad 0), .int (iI fa), .int (iI li), .ref (ad 301)] : List Value) ++ List.replicate (5 - (lg_sl ([.ref (ad 0), .int (iI fa), .int (iI li), .ref (ad 301)] : List Value)).length) Slot.unset).toArray = ls at hl ⊢
  have hl : lv_has ls 5 [(0, .ref (ad 0)), (1, .int (iI fa)), (2, .int (iI li)), (3, .ref (ad 301))] := hl
  obtain ⟨Q9, hQ9⟩ : ∃ z, z = MQ below (gW D (fun v9 ad1 w1 => ∃ (k : Int) (sc2 : Nat → Int) (fn2 : Nat → Int → Int) (v : Option Value) (o2 : Int → Int), v9 = some (.int (iI k)) ∧ bookS cA ad1 w1 sc2 fn2 ∧ bkInv sc2 fn2 ∧ keepL 301 ad ad1 w w1 ∧ w1 301 = some (eJ (cA 2) 1 o2) ∧ rlP (okM_setRules sc fn fa li) (erM_setRules sc fn fa li) sc fn k sc2 fn2 v ∧ (k = 0 → rC v (o2 0)) ∧ 0 ≤ k ∧ k ≤ 3) A) args s 1 6 A := ⟨_, rfl⟩
  rw [← hQ9]
  show W p l e rmL_setRules s m args below meth c s.heap [] 0 0 Q9 (F0 m 0 ls [])
  obtain ⟨H, hHe⟩ : ∃ z, z = s.heap := ⟨_, rfl⟩
  obtain ⟨locs, hLe⟩ : ∃ z, z = ([] : List Loc) := ⟨_, rfl⟩
  have hP : gP D vwCl ad w H := by rw [hHe]; exact hP
  have hS : va_S A s.heap H locs := by rw [hHe, hLe]; exact va_S.rf
  rw [show W p l e rmL_setRules s m args below meth c s.heap [] 0 0 Q9 (F0 m 0 ls []) = W p l e rmL_setRules s m args below meth c H locs 0 0 Q9 (F0 m 0 ls []) by rw [hHe, hLe]]
  clear hHe hLe
  obtain ⟨fs0, hq0⟩ := bookS_0 hbk
  refine lv_aload_n (pc := 0) hx hb dL_setRules_0 rfl (lv_at hl 3 rfl) ?_
  refine k_iconst (pc := 1) hx hb dL_setRules_1 ?_
  refine lv_aload_n (pc := 2) hx hb dL_setRules_2 rfl (lv_at hl 0 rfl) ?_
  refine lv_iload_n (pc := 3) hx hb dL_setRules_3 rfl (lv_at hl 1 rfl) ?_
  refine lv_iload_n (pc := 4) hx hb dL_setRules_4 rfl (lv_at hl 2 rfl) ?_
  refine k_callx (pc := 5) (vx_runV (As := [.int (iI fa), .int (iI li)]) (rest := [.int (iI 0), .ref (ad 301)]) ⟨hx, hb, hml, hown, hts⟩ (c_X5_setRules l hl0 D cA ad w H.size sc fn hI hbk fa li hfa hli) (cwV 2 hts gL_setRules_X5_setRules rfl rfl rfl (by decide +kernel) ⟨Nat.le_of_ble_eq_true rfl, Nat.le_of_ble_eq_true rfl⟩) (gV_V hP hD hK hB hS hA hZ 0 (ci := 5) rfl hq0) rfl rfl hl.1 rfl (lv_room (Nat.le_of_ble_eq_true rfl)) dL_setRules_5 ⟨Nat.le_of_ble_eq_true rfl, Nat.le_of_ble_eq_true rfl⟩) hS (gA_sub hD hS hA) (fun E_5 ce_5 q_5 H locs hpx_5 hP hD hS hce_5 hcv_5 hcl_5 => ?_) (fun v_5 ad_5 w_5 H locs hv_5 hP hD hS => ?_)
  · skip
    obtain ⟨hE9, hx9⟩ := hpx_5
    subst hE9
    refine vx_catch (own := RL) (name := "java/lang/IllegalArgumentException") (E := xIA) hown [] ⟨0, 10, 13, 13⟩ [] hex (fun z hz => by cases hz) rfl (by decide) (hts (.classLink RL 13 "java/lang/IllegalArgumentException") (by decide +kernel)) (ca_0 hB _) hce_5 hcv_5 hcl_5 ?_
    refine W.eq (g2 := F0 m 13 ls [.ref q_5]) rfl ?_
    refine W.cs (cells' := 1) (slots' := 6) rfl rfl ?_
    refine lv_astore (pc := 13) (lv' := [(4, .ref q_5), (0, .ref (ad 0)), (1, .int (iI fa)), (2, .int (iI li)), (3, .ref (ad 301))]) hx hb dL_setRules_13 hl (by decide) rfl (fun ls hl => ?_)
    refine k_iconst (pc := 15) hx hb dL_setRules_15 ?_
    rw [hQ9]
    exact W.iret (v := iI 1) hx hb hret (fun t ht hW => ⟨⟨some (.int (iI 1)), ad, w, rfl, ⟨1, sc, fn, none, o, rfl, hbk, hI, ⟨rfl, fun r hr => ⟨rfl, fun _ => rfl⟩⟩, ho, Or.inr ⟨rfl, rfl, ⟨rfl, hx9⟩⟩, (fun h9 => absurd h9 (by decide)), by decide⟩, by rw [ht]; exact hP, hD⟩, hS.F ht⟩) hS.2.2 dL_setRules_16
  · skip
    obtain ⟨sc2, fn2, hb2, hI2, hkp, hok⟩ := hv_5
    have hok : okM_setRules sc fn fa li sc2 fn2 v_5 := hok
    obtain ⟨z_5, hz_5⟩ := okv_setRules hok
    subst hz_5
    have ho2 : w_5 301 = some (eJ (cA 2) 1 o) := (hkp.2 301 (by omega)).1.trans ho
    rw [← hkp.1, ← (hkp.2 301 (by omega)).2] at hl
    rw [← (hkp.2 301 (by omega)).2]
    refine W.eq (g2 := F0 m 8 ls [.int (iI z_5), .int (iI 0), .ref (ad_5 301)]) rfl ?_
    refine W.cs (cells' := 1) (slots' := 6) rfl rfl ?_
    refine k_i2lw (pc := 8) hx hb dL_setRules_8 ?_
    refine k_last (pc := 9) (w1 := (up w_5 301 (eJ (cA 2) 1 (updI o 0 (wI z_5))))) hx hb hK hP hD hS 301 2 ho2 rfl (by omega) (by omega) (by omega) rfl dL_setRules_9 (fun H locs hP hD hS => ?_)
    refine lv_goto (pc := 10) (tgt := 17) hx hb dL_setRules_10 (by decide) ?_
    refine k_iconst (pc := 17) hx hb dL_setRules_17 ?_
    rw [hQ9]
    exact W.iret (v := iI 0) hx hb hret (fun t ht hW => ⟨⟨some (.int (iI 0)), ad_5, (up w_5 301 (eJ (cA 2) 1 (updI o 0 (wI z_5)))), rfl, ⟨0, sc2, fn2, some (.int (iI z_5)), updI o 0 (wI z_5), rfl, bookS_of hI2 (fun r hr => ⟨up_n (by omega) rfl, rfl⟩) hb2, hI2, ⟨hkp.1, fun r hr => ⟨(hkp.2 r hr).2, fun h9 => up_n h9 (hkp.2 r hr).1⟩⟩, up_s _ _ _, Or.inl ⟨rfl, hok⟩, (fun _ => rC_i o z_5), by decide⟩, by rw [ht]; exact hP, hD⟩, hS.F ht⟩) hS.2.2 dL_setRules_18

abbrev rmL_state : Room := { frames := 8, cells := 1, slots := 6, locals := 134 }
set_option maxHeartbeats 4000000 in
set_option maxRecDepth 100000 in
theorem c_L_state (l : Launch) (hl0 : l.stackTraces = false) (D : va_G) (cA : Nat → ClassId) (ad : Nat → Nat) (w : Nat → Option va_E) (sz : Nat) (sc : Nat → Int) (fn : Nat → Int → Int) (hI : bkInv sc fn) (hbk : bookS cA ad w sc fn) (d : Int) (hd : (-2147483648 ≤ d ∧ d < 2147483648)) (o : Int → Int) (ho : w 301 = some (eJ (cA 2) 1 o)) : Met l yL_state wsL_state rmL_state (gV D cA ad w sz [.ref (ad 0), .int (iI d), .ref (ad 301)]) (gW D (fun v9 ad1 w1 => ∃ (k : Int) (sc2 : Nat → Int) (fn2 : Nat → Int → Int) (v : Option Value) (o2 : Int → Int), v9 = some (.int (iI k)) ∧ bookS cA ad1 w1 sc2 fn2 ∧ bkInv sc2 fn2 ∧ keepL 301 ad ad1 w w1 ∧ w1 301 = some (eJ (cA 2) 1 o2) ∧ rlP (okM_state sc fn d) (erM_state sc fn d) sc fn k sc2 fn2 v ∧ (k = 0 → rC v (o2 0)) ∧ 0 ≤ k ∧ k ≤ 3) (gA ad w sz)) 1 6 (gA ad w sz) := by
  refine g_ofH (cc := cL_state) (maxL := 4) (ret := (some .int)) (hh := [(0, 9, 12, 13)]) (by decide) rfl ?_
  intro p e s m args below meth c s₁ B hml hv
  obtain ⟨hav, hsz, hP, hD0, hK, hB, hZ⟩ := hv
  have hx := B.exec
  have hb := B.bytes
  have hret := B.returns
  have hts := atoms_spec (ws := wsL_state) B.pre
  have hown : s.vm.findClass RL = some m.cls := findClass_of_methodNamed B.named
  have hlocks := B.notSynchronized
  have hex := vx_table (x := yL_state) B (hts (.codeWith yL_state cL_state 4 (some .int) [(0, 9, 12, 13)]) (by decide +kernel))
  subst hsz
  have hD := hD0.self (sz := s.heap.size)
  generalize hAe : gA ad w s.heap.size = A at hD hZ ⊢
  have hA : ∀ q : Nat, s.heap.size ≤ q → A q := fun q h => by rw [← hAe]; exact Or.inr h
  have hS : va_S A s.heap s.heap [] := va_S.rf
  have he9 : entryFrame m args 4 = F0 m 0 ((lg_sl ([.ref (ad 0), .int (iI d), .ref (ad 301)] : List Value) ++ List.replicate (4 - (lg_sl ([.ref (ad 0), .int (iI d), .ref (ad 301)] : List Value)).length) Slot.unset).toArray) [] := by rw [hav, lg_entry_eq]
  rw [he9]
  have hl := lv_entry ([.ref (ad 0), .int (iI d), .ref (ad 301)] : List Value) (n := 4) (Nat.le_of_ble_eq_true rfl)
  generalize (lg_sl ([.ref (ad 0), .int (iI d), .ref (ad 301)] : List Value) ++ List.replicate (4 - (lg_sl ([.ref (ad 0), .int (iI d), .ref (ad 301)] : List Value)).length) Slot.unset).toArray = ls at hl ⊢
  have hl : lv_has ls 4 [(0, .ref (ad 0)), (1, .int (iI d)), (2, .ref (ad 301))] := hl
  obtain ⟨Q9, hQ9⟩ : ∃ z, z = MQ below (gW D (fun v9 ad1 w1 => ∃ (k : Int) (sc2 : Nat → Int) (fn2 : Nat → Int → Int) (v : Option Value) (o2 : Int → Int), v9 = some (.int (iI k)) ∧ bookS cA ad1 w1 sc2 fn2 ∧ bkInv sc2 fn2 ∧ keepL 301 ad ad1 w w1 ∧ w1 301 = some (eJ (cA 2) 1 o2) ∧ rlP (okM_state sc fn d) (erM_state sc fn d) sc fn k sc2 fn2 v ∧ (k = 0 → rC v (o2 0)) ∧ 0 ≤ k ∧ k ≤ 3) A) args s 1 6 A := ⟨_, rfl⟩
  rw [← hQ9]
  show W p l e rmL_state s m args below meth c s.heap [] 0 0 Q9 (F0 m 0 ls [])
  obtain ⟨H, hHe⟩ : ∃ z, z = s.heap := ⟨_, rfl⟩
  obtain ⟨locs, hLe⟩ : ∃ z, z = ([] : List Loc) := ⟨_, rfl⟩
  have hP : gP D vwCl ad w H := by rw [hHe]; exact hP
  have hS : va_S A s.heap H locs := by rw [hHe, hLe]; exact va_S.rf
  rw [show W p l e rmL_state s m args below meth c s.heap [] 0 0 Q9 (F0 m 0 ls []) = W p l e rmL_state s m args below meth c H locs 0 0 Q9 (F0 m 0 ls []) by rw [hHe, hLe]]
  clear hHe hLe
  obtain ⟨fs0, hq0⟩ := bookS_0 hbk
  refine lv_aload_n (pc := 0) hx hb dL_state_0 rfl (lv_at hl 2 rfl) ?_
  refine k_iconst (pc := 1) hx hb dL_state_1 ?_
  refine lv_aload_n (pc := 2) hx hb dL_state_2 rfl (lv_at hl 0 rfl) ?_
  refine lv_iload_n (pc := 3) hx hb dL_state_3 rfl (lv_at hl 1 rfl) ?_
  refine k_callx (pc := 4) (vx_runV (As := [.int (iI d)]) (rest := [.int (iI 0), .ref (ad 301)]) ⟨hx, hb, hml, hown, hts⟩ (c_X5_state l hl0 D cA ad w H.size sc fn hI hbk d hd) (cwV 1 hts gL_state_X5_state rfl rfl rfl (by decide +kernel) ⟨Nat.le_of_ble_eq_true rfl, Nat.le_of_ble_eq_true rfl⟩) (gV_V hP hD hK hB hS hA hZ 0 (ci := 5) rfl hq0) rfl rfl hl.1 rfl (lv_room (Nat.le_of_ble_eq_true rfl)) dL_state_4 ⟨Nat.le_of_ble_eq_true rfl, Nat.le_of_ble_eq_true rfl⟩) hS (gA_sub hD hS hA) (fun E_4 ce_4 q_4 H locs hpx_4 hP hD hS hce_4 hcv_4 hcl_4 => ?_) (fun v_4 ad_4 w_4 H locs hv_4 hP hD hS => ?_)
  · skip
    obtain ⟨hE9, hx9⟩ := hpx_4
    subst hE9
    refine vx_catch (own := RL) (name := "java/lang/IllegalArgumentException") (E := xIA) hown [] ⟨0, 9, 12, 13⟩ [] hex (fun z hz => by cases hz) rfl (by decide) (hts (.classLink RL 13 "java/lang/IllegalArgumentException") (by decide +kernel)) (ca_0 hB _) hce_4 hcv_4 hcl_4 ?_
    refine W.eq (g2 := F0 m 12 ls [.ref q_4]) rfl ?_
    refine W.cs (cells' := 1) (slots' := 6) rfl rfl ?_
    refine lv_astore_n (pc := 12) (lv' := [(3, .ref q_4), (0, .ref (ad 0)), (1, .int (iI d)), (2, .ref (ad 301))]) hx hb dL_state_12 rfl hl (by decide) rfl (fun ls hl => ?_)
    refine k_iconst (pc := 13) hx hb dL_state_13 ?_
    rw [hQ9]
    exact W.iret (v := iI 1) hx hb hret (fun t ht hW => ⟨⟨some (.int (iI 1)), ad, w, rfl, ⟨1, sc, fn, none, o, rfl, hbk, hI, ⟨rfl, fun r hr => ⟨rfl, fun _ => rfl⟩⟩, ho, Or.inr ⟨rfl, rfl, ⟨rfl, hx9⟩⟩, (fun h9 => absurd h9 (by decide)), by decide⟩, by rw [ht]; exact hP, hD⟩, hS.F ht⟩) hS.2.2 dL_state_14
  · skip
    obtain ⟨sc2, fn2, hb2, hI2, hkp, hok⟩ := hv_4
    have hok : okM_state sc fn d sc2 fn2 v_4 := hok
    obtain ⟨z_4, hz_4⟩ := okv_state hok
    subst hz_4
    have ho2 : w_4 301 = some (eJ (cA 2) 1 o) := (hkp.2 301 (by omega)).1.trans ho
    rw [← hkp.1, ← (hkp.2 301 (by omega)).2] at hl
    rw [← (hkp.2 301 (by omega)).2]
    refine W.eq (g2 := F0 m 7 ls [.int (iI z_4), .int (iI 0), .ref (ad_4 301)]) rfl ?_
    refine W.cs (cells' := 1) (slots' := 6) rfl rfl ?_
    refine k_i2lw (pc := 7) hx hb dL_state_7 ?_
    refine k_last (pc := 8) (w1 := (up w_4 301 (eJ (cA 2) 1 (updI o 0 (wI z_4))))) hx hb hK hP hD hS 301 2 ho2 rfl (by omega) (by omega) (by omega) rfl dL_state_8 (fun H locs hP hD hS => ?_)
    refine lv_goto (pc := 9) (tgt := 15) hx hb dL_state_9 (by decide) ?_
    refine k_iconst (pc := 15) hx hb dL_state_15 ?_
    rw [hQ9]
    exact W.iret (v := iI 0) hx hb hret (fun t ht hW => ⟨⟨some (.int (iI 0)), ad_4, (up w_4 301 (eJ (cA 2) 1 (updI o 0 (wI z_4)))), rfl, ⟨0, sc2, fn2, some (.int (iI z_4)), updI o 0 (wI z_4), rfl, bookS_of hI2 (fun r hr => ⟨up_n (by omega) rfl, rfl⟩) hb2, hI2, ⟨hkp.1, fun r hr => ⟨(hkp.2 r hr).2, fun h9 => up_n h9 (hkp.2 r hr).1⟩⟩, up_s _ _ _, Or.inl ⟨rfl, hok⟩, (fun _ => rC_i o z_4), by decide⟩, by rw [ht]; exact hP, hD⟩, hS.F ht⟩) hS.2.2 dL_state_16

abbrev rmL_flow : Room := { frames := 8, cells := 1, slots := 6, locals := 134 }
set_option maxHeartbeats 4000000 in
set_option maxRecDepth 100000 in
theorem c_L_flow (l : Launch) (hl0 : l.stackTraces = false) (D : va_G) (cA : Nat → ClassId) (ad : Nat → Nat) (w : Nat → Option va_E) (sz : Nat) (sc : Nat → Int) (fn : Nat → Int → Int) (hI : bkInv sc fn) (hbk : bookS cA ad w sc fn) (d : Int) (hd : (-2147483648 ≤ d ∧ d < 2147483648)) (o : Int → Int) (ho : w 301 = some (eJ (cA 2) 1 o)) : Met l yL_flow wsL_flow rmL_flow (gV D cA ad w sz [.ref (ad 0), .int (iI d), .ref (ad 301)]) (gW D (fun v9 ad1 w1 => ∃ (k : Int) (sc2 : Nat → Int) (fn2 : Nat → Int → Int) (v : Option Value) (o2 : Int → Int), v9 = some (.int (iI k)) ∧ bookS cA ad1 w1 sc2 fn2 ∧ bkInv sc2 fn2 ∧ keepL 301 ad ad1 w w1 ∧ w1 301 = some (eJ (cA 2) 1 o2) ∧ rlP (okM_flow sc fn d) (erM_flow sc fn d) sc fn k sc2 fn2 v ∧ (k = 0 → rC v (o2 0)) ∧ 0 ≤ k ∧ k ≤ 3) (gA ad w sz)) 1 6 (gA ad w sz) := by
  refine g_ofH (cc := cL_flow) (maxL := 4) (ret := (some .int)) (hh := [(0, 8, 11, 13)]) (by decide) rfl ?_
  intro p e s m args below meth c s₁ B hml hv
  obtain ⟨hav, hsz, hP, hD0, hK, hB, hZ⟩ := hv
  have hx := B.exec
  have hb := B.bytes
  have hret := B.returns
  have hts := atoms_spec (ws := wsL_flow) B.pre
  have hown : s.vm.findClass RL = some m.cls := findClass_of_methodNamed B.named
  have hlocks := B.notSynchronized
  have hex := vx_table (x := yL_flow) B (hts (.codeWith yL_flow cL_flow 4 (some .int) [(0, 8, 11, 13)]) (by decide +kernel))
  subst hsz
  have hD := hD0.self (sz := s.heap.size)
  generalize hAe : gA ad w s.heap.size = A at hD hZ ⊢
  have hA : ∀ q : Nat, s.heap.size ≤ q → A q := fun q h => by rw [← hAe]; exact Or.inr h
  have hS : va_S A s.heap s.heap [] := va_S.rf
  have he9 : entryFrame m args 4 = F0 m 0 ((lg_sl ([.ref (ad 0), .int (iI d), .ref (ad 301)] : List Value) ++ List.replicate (4 - (lg_sl ([.ref (ad 0), .int (iI d), .ref (ad 301)] : List Value)).length) Slot.unset).toArray) [] := by rw [hav, lg_entry_eq]
  rw [he9]
  have hl := lv_entry ([.ref (ad 0), .int (iI d), .ref (ad 301)] : List Value) (n := 4) (Nat.le_of_ble_eq_true rfl)
  generalize (lg_sl ([.ref (ad 0), .int (iI d), .ref (ad 301)] : List Value) ++ List.replicate (4 - (lg_sl ([.ref (ad 0), .int (iI d), .ref (ad 301)] : List Value)).length) Slot.unset).toArray = ls at hl ⊢
  have hl : lv_has ls 4 [(0, .ref (ad 0)), (1, .int (iI d)), (2, .ref (ad 301))] := hl
  obtain ⟨Q9, hQ9⟩ : ∃ z, z = MQ below (gW D (fun v9 ad1 w1 => ∃ (k : Int) (sc2 : Nat → Int) (fn2 : Nat → Int → Int) (v : Option Value) (o2 : Int → Int), v9 = some (.int (iI k)) ∧ bookS cA ad1 w1 sc2 fn2 ∧ bkInv sc2 fn2 ∧ keepL 301 ad ad1 w w1 ∧ w1 301 = some (eJ (cA 2) 1 o2) ∧ rlP (okM_flow sc fn d) (erM_flow sc fn d) sc fn k sc2 fn2 v ∧ (k = 0 → rC v (o2 0)) ∧ 0 ≤ k ∧ k ≤ 3) A) args s 1 6 A := ⟨_, rfl⟩
  rw [← hQ9]
  show W p l e rmL_flow s m args below meth c s.heap [] 0 0 Q9 (F0 m 0 ls [])
  obtain ⟨H, hHe⟩ : ∃ z, z = s.heap := ⟨_, rfl⟩
  obtain ⟨locs, hLe⟩ : ∃ z, z = ([] : List Loc) := ⟨_, rfl⟩
  have hP : gP D vwCl ad w H := by rw [hHe]; exact hP
  have hS : va_S A s.heap H locs := by rw [hHe, hLe]; exact va_S.rf
  rw [show W p l e rmL_flow s m args below meth c s.heap [] 0 0 Q9 (F0 m 0 ls []) = W p l e rmL_flow s m args below meth c H locs 0 0 Q9 (F0 m 0 ls []) by rw [hHe, hLe]]
  clear hHe hLe
  obtain ⟨fs0, hq0⟩ := bookS_0 hbk
  refine lv_aload_n (pc := 0) hx hb dL_flow_0 rfl (lv_at hl 2 rfl) ?_
  refine k_iconst (pc := 1) hx hb dL_flow_1 ?_
  refine lv_aload_n (pc := 2) hx hb dL_flow_2 rfl (lv_at hl 0 rfl) ?_
  refine lv_iload_n (pc := 3) hx hb dL_flow_3 rfl (lv_at hl 1 rfl) ?_
  refine k_callx (pc := 4) (vx_runV (As := [.int (iI d)]) (rest := [.int (iI 0), .ref (ad 301)]) ⟨hx, hb, hml, hown, hts⟩ (c_X5_flow l hl0 D cA ad w H.size sc fn hI hbk d hd) (cwV 1 hts gL_flow_X5_flow rfl rfl rfl (by decide +kernel) ⟨Nat.le_of_ble_eq_true rfl, Nat.le_of_ble_eq_true rfl⟩) (gV_V hP hD hK hB hS hA hZ 0 (ci := 5) rfl hq0) rfl rfl hl.1 rfl (lv_room (Nat.le_of_ble_eq_true rfl)) dL_flow_4 ⟨Nat.le_of_ble_eq_true rfl, Nat.le_of_ble_eq_true rfl⟩) hS (gA_sub hD hS hA) (fun E_4 ce_4 q_4 H locs hpx_4 hP hD hS hce_4 hcv_4 hcl_4 => ?_) (fun v_4 ad_4 w_4 H locs hv_4 hP hD hS => ?_)
  · skip
    obtain ⟨hE9, hx9⟩ := hpx_4
    subst hE9
    refine vx_catch (own := RL) (name := "java/lang/IllegalArgumentException") (E := xIA) hown [] ⟨0, 8, 11, 13⟩ [] hex (fun z hz => by cases hz) rfl (by decide) (hts (.classLink RL 13 "java/lang/IllegalArgumentException") (by decide +kernel)) (ca_0 hB _) hce_4 hcv_4 hcl_4 ?_
    refine W.eq (g2 := F0 m 11 ls [.ref q_4]) rfl ?_
    refine W.cs (cells' := 1) (slots' := 6) rfl rfl ?_
    refine lv_astore_n (pc := 11) (lv' := [(3, .ref q_4), (0, .ref (ad 0)), (1, .int (iI d)), (2, .ref (ad 301))]) hx hb dL_flow_11 rfl hl (by decide) rfl (fun ls hl => ?_)
    refine k_iconst (pc := 12) hx hb dL_flow_12 ?_
    rw [hQ9]
    exact W.iret (v := iI 1) hx hb hret (fun t ht hW => ⟨⟨some (.int (iI 1)), ad, w, rfl, ⟨1, sc, fn, none, o, rfl, hbk, hI, ⟨rfl, fun r hr => ⟨rfl, fun _ => rfl⟩⟩, ho, Or.inr ⟨rfl, rfl, ⟨rfl, hx9⟩⟩, (fun h9 => absurd h9 (by decide)), by decide⟩, by rw [ht]; exact hP, hD⟩, hS.F ht⟩) hS.2.2 dL_flow_13
  · skip
    obtain ⟨sc2, fn2, hb2, hI2, hkp, hok⟩ := hv_4
    have hok : okM_flow sc fn d sc2 fn2 v_4 := hok
    obtain ⟨z_4, hz_4⟩ := okv_flow hok
    subst hz_4
    have ho2 : w_4 301 = some (eJ (cA 2) 1 o) := (hkp.2 301 (by omega)).1.trans ho
    rw [← hkp.1, ← (hkp.2 301 (by omega)).2] at hl
    rw [← (hkp.2 301 (by omega)).2]
    refine W.eq (g2 := F0 m 7 ls [.long (lI z_4), .int (iI 0), .ref (ad_4 301)]) rfl ?_
    refine W.cs (cells' := 1) (slots' := 6) rfl rfl ?_
    refine k_last (pc := 7) (w1 := (up w_4 301 (eJ (cA 2) 1 (updI o 0 z_4)))) hx hb hK hP hD hS 301 2 ho2 rfl (by omega) (by omega) (by omega) rfl dL_flow_7 (fun H locs hP hD hS => ?_)
    refine lv_goto (pc := 8) (tgt := 14) hx hb dL_flow_8 (by decide) ?_
    refine k_iconst (pc := 14) hx hb dL_flow_14 ?_
    rw [hQ9]
    exact W.iret (v := iI 0) hx hb hret (fun t ht hW => ⟨⟨some (.int (iI 0)), ad_4, (up w_4 301 (eJ (cA 2) 1 (updI o 0 z_4))), rfl, ⟨0, sc2, fn2, some (.long (lI z_4)), updI o 0 z_4, rfl, bookS_of hI2 (fun r hr => ⟨up_n (by omega) rfl, rfl⟩) hb2, hI2, ⟨hkp.1, fun r hr => ⟨(hkp.2 r hr).2, fun h9 => up_n h9 (hkp.2 r hr).1⟩⟩, up_s _ _ _, Or.inl ⟨rfl, hok⟩, (fun _ => rC_l o z_4), by decide⟩, by rw [ht]; exact hP, hD⟩, hS.F ht⟩) hS.2.2 dL_flow_15

abbrev rmL_sum : Room := { frames := 8, cells := 2, slots := 12, locals := 136 }
set_option maxHeartbeats 4000000 in
set_option maxRecDepth 100000 in
theorem c_L_sum (l : Launch) (hl0 : l.stackTraces = false) (D : va_G) (cA : Nat → ClassId) (ad : Nat → Nat) (w : Nat → Option va_E) (sz : Nat) (sc : Nat → Int) (fn : Nat → Int → Int) (hI : bkInv sc fn) (hbk : bookS cA ad w sc fn) (fr to_ wh : Int) (h1_ : (-2147483648 ≤ fr ∧ fr < 2147483648)) (h2_ : (-2147483648 ≤ to_ ∧ to_ < 2147483648)) (h3_ : (-2147483648 ≤ wh ∧ wh < 2147483648)) (o : Int → Int) (ho : w 301 = some (eJ (cA 2) 1 o)) : Met l yL_sum wsL_sum rmL_sum (gV D cA ad w sz [.ref (ad 0), .int (iI fr), .int (iI to_), .int (iI wh), .ref (ad 301)]) (gW D (fun v9 ad1 w1 => ∃ (k : Int) (sc2 : Nat → Int) (fn2 : Nat → Int → Int) (v : Option Value) (o2 : Int → Int), v9 = some (.int (iI k)) ∧ bookS cA ad1 w1 sc2 fn2 ∧ bkInv sc2 fn2 ∧ keepL 301 ad ad1 w w1 ∧ w1 301 = some (eJ (cA 2) 1 o2) ∧ rlP (okM_sum sc fn fr to_ wh) (erM_sum sc fn fr to_ wh) sc fn k sc2 fn2 v ∧ (k = 0 → rC v (o2 0)) ∧ 0 ≤ k ∧ k ≤ 3) (gA ad w sz)) 2 12 (gA ad w sz) := by
  refine g_ofH (cc := cL_sum) (maxL := 6) (ret := (some .int)) (hh := [(0, 11, 14, 21), (0, 11, 18, 13)]) (by decide) rfl ?_
  intro p e s m args below meth c s₁ B hml hv
  obtain ⟨hav, hsz, hP, hD0, hK, hB, hZ⟩ := hv
  have hx := B.exec
  have hb := B.bytes
  have hret := B.returns
  have hts := atoms_spec (ws := wsL_sum) B.pre
  have hown : s.vm.findClass RL = some m.cls := findClass_of_methodNamed B.named
  have hlocks := B.notSynchronized
  have hex := vx_table (x := yL_sum) B (hts (.codeWith yL_sum cL_sum 6 (some .int) [(0, 11, 14, 21), (0, 11, 18, 13)]) (by decide +kernel))
  subst hsz
  have hD := hD0.self (sz := s.heap.size)
  generalize hAe : gA ad w s.heap.size = A at hD hZ ⊢
  have hA : ∀ q : Nat, s.heap.size ≤ q → A q := fun q h => by rw [← hAe]; exact Or.inr h
  have hS : va_S A s.heap s.heap [] := va_S.rf
  have he9 : entryFrame m args 6 = F0 m 0 ((lg_sl ([.ref (ad 0), .int (iI fr), .int (iI to_), .int (iI wh), .ref (ad 301)] : List Value) ++ List.replicate (6 - (lg_sl ([.ref (ad 0), .int (iI fr), .int (iI to_), .int (iI wh), .ref (ad 301)] : List Value)).length) Slot.unset).toArray) [] := by rw [hav, lg_entry_eq]
  rw [he9]
  have hl := lv_entry ([.ref (ad 0), .int (iI fr), .int (iI to_), .int (iI wh), .ref (ad 301)] : List Value) (n := 6) (Nat.le_of_ble_eq_true rfl)
  generalize (lg_sl ([.ref (ad 0), .int (iI fr), .int (iI to_), .int (iI wh), .ref (ad 301)] : List Value) ++ List.replicate (6 - (lg_sl ([.ref (ad 0), .int (iI fr), .int (iI to_), .int (iI wh), .ref (ad 301)] : List Value)).length) Slot.unset).toArray = ls at hl ⊢
  have hl : lv_has ls 6 [(0, .ref (ad 0)), (1, .int (iI fr)), (2, .int (iI to_)), (3, .int (iI wh)), (4, .ref (ad 301))] := hl
  obtain ⟨Q9, hQ9⟩ : ∃ z, z = MQ below (gW D (fun v9 ad1 w1 => ∃ (k : Int) (sc2 : Nat → Int) (fn2 : Nat → Int → Int) (v : Option Value) (o2 : Int → Int), v9 = some (.int (iI k)) ∧ bookS cA ad1 w1 sc2 fn2 ∧ bkInv sc2 fn2 ∧ keepL 301 ad ad1 w w1 ∧ w1 301 = some (eJ (cA 2) 1 o2) ∧ rlP (okM_sum sc fn fr to_ wh) (erM_sum sc fn fr to_ wh) sc fn k sc2 fn2 v ∧ (k = 0 → rC v (o2 0)) ∧ 0 ≤ k ∧ k ≤ 3) A) args s 2 12 A := ⟨_, rfl⟩
  rw [← hQ9]
  show W p l e rmL_sum s m args below meth c s.heap [] 0 0 Q9 (F0 m 0 ls [])
  obtain ⟨H, hHe⟩ : ∃ z, z = s.heap := ⟨_, rfl⟩
  obtain ⟨locs, hLe⟩ : ∃ z, z = ([] : List Loc) := ⟨_, rfl⟩
  have hP : gP D vwCl ad w H := by rw [hHe]; exact hP
  have hS : va_S A s.heap H locs := by rw [hHe, hLe]; exact va_S.rf
  rw [show W p l e rmL_sum s m args below meth c s.heap [] 0 0 Q9 (F0 m 0 ls []) = W p l e rmL_sum s m args below meth c H locs 0 0 Q9 (F0 m 0 ls []) by rw [hHe, hLe]]
  clear hHe hLe
  obtain ⟨fs0, hq0⟩ := bookS_0 hbk
  refine lv_aload (pc := 0) hx hb dL_sum_0 (lv_at hl 4 rfl) ?_
  refine k_iconst (pc := 2) hx hb dL_sum_2 ?_
  refine lv_aload_n (pc := 3) hx hb dL_sum_3 rfl (lv_at hl 0 rfl) ?_
  refine lv_iload_n (pc := 4) hx hb dL_sum_4 rfl (lv_at hl 1 rfl) ?_
  refine lv_iload_n (pc := 5) hx hb dL_sum_5 rfl (lv_at hl 2 rfl) ?_
  refine lv_iload_n (pc := 6) hx hb dL_sum_6 rfl (lv_at hl 3 rfl) ?_
  refine k_callx (pc := 7) (vx_runV (As := [.int (iI fr), .int (iI to_), .int (iI wh)]) (rest := [.int (iI 0), .ref (ad 301)]) ⟨hx, hb, hml, hown, hts⟩ (c_X5_sum l hl0 D cA ad w H.size sc fn hI hbk fr to_ wh h1_ h2_ h3_) (cwV 3 hts gL_sum_X5_sum rfl rfl rfl (by decide +kernel) ⟨Nat.le_of_ble_eq_true rfl, Nat.le_of_ble_eq_true rfl⟩) (gV_V hP hD hK hB hS hA hZ 0 (ci := 5) rfl hq0) rfl rfl hl.1 rfl (lv_room (Nat.le_of_ble_eq_true rfl)) dL_sum_7 ⟨Nat.le_of_ble_eq_true rfl, Nat.le_of_ble_eq_true rfl⟩) hS (gA_sub hD hS hA) (fun E_7 ce_7 q_7 H locs hpx_7 hP hD hS hce_7 hcv_7 hcl_7 => ?_) (fun v_7 ad_7 w_7 H locs hv_7 hP hD hS => ?_)
  · skip
    rcases hpx_7 with ⟨hE9, hx9⟩ | ⟨hE9, hx9⟩
    · skip
      subst hE9
      refine vx_catch (own := RL) (name := "java/lang/IndexOutOfBoundsException") (E := xIX) hown [] ⟨0, 11, 14, 21⟩ [⟨0, 11, 18, 13⟩] hex (fun z hz => by cases hz) rfl (by decide) (hts (.classLink RL 21 "java/lang/IndexOutOfBoundsException") (by decide +kernel)) (ca_2 hB _) hce_7 hcv_7 hcl_7 ?_
      refine W.eq (g2 := F0 m 14 ls [.ref q_7]) rfl ?_
      refine W.cs (cells' := 2) (slots' := 12) rfl rfl ?_
      refine lv_astore (pc := 14) (lv' := [(5, .ref q_7), (0, .ref (ad 0)), (1, .int (iI fr)), (2, .int (iI to_)), (3, .int (iI wh)), (4, .ref (ad 301))]) hx hb dL_sum_14 hl (by decide) rfl (fun ls hl => ?_)
      refine k_iconst (pc := 16) hx hb dL_sum_16 ?_
      rw [hQ9]
      exact W.iret (v := iI 1) hx hb hret (fun t ht hW => ⟨⟨some (.int (iI 1)), ad, w, rfl, ⟨1, sc, fn, none, o, rfl, hbk, hI, ⟨rfl, fun r hr => ⟨rfl, fun _ => rfl⟩⟩, ho, Or.inr ⟨rfl, rfl, Or.inl (⟨rfl, hx9⟩)⟩, (fun h9 => absurd h9 (by decide)), by decide⟩, by rw [ht]; exact hP, hD⟩, hS.F ht⟩) hS.2.2 dL_sum_17
    · skip
      subst hE9
      refine vx_catch (own := RL) (name := "java/lang/IllegalArgumentException") (E := xIA) hown [⟨0, 11, 14, 21⟩] ⟨0, 11, 18, 13⟩ [] hex (fun z hz => by rcases List.mem_cons.mp hz with hz | hz; (subst hz; exact Or.inr ⟨by decide, _, hts (.classLink RL 21 "java/lang/IndexOutOfBoundsException") (by decide +kernel), nc_1 hB⟩); cases hz) rfl (by decide) (hts (.classLink RL 13 "java/lang/IllegalArgumentException") (by decide +kernel)) (ca_0 hB _) hce_7 hcv_7 hcl_7 ?_
      refine W.eq (g2 := F0 m 18 ls [.ref q_7]) rfl ?_
      refine W.cs (cells' := 2) (slots' := 12) rfl rfl ?_
      refine lv_astore (pc := 18) (lv' := [(5, .ref q_7), (0, .ref (ad 0)), (1, .int (iI fr)), (2, .int (iI to_)), (3, .int (iI wh)), (4, .ref (ad 301))]) hx hb dL_sum_18 hl (by decide) rfl (fun ls hl => ?_)
      refine k_iconst (pc := 20) hx hb dL_sum_20 ?_
      rw [hQ9]
      exact W.iret (v := iI 2) hx hb hret (fun t ht hW => ⟨⟨some (.int (iI 2)), ad, w, rfl, ⟨2, sc, fn, none, o, rfl, hbk, hI, ⟨rfl, fun r hr => ⟨rfl, fun _ => rfl⟩⟩, ho, Or.inr ⟨rfl, rfl, Or.inr (⟨rfl, hx9⟩)⟩, (fun h9 => absurd h9 (by decide)), by decide⟩, by rw [ht]; exact hP, hD⟩, hS.F ht⟩) hS.2.2 dL_sum_21
  · skip
    obtain ⟨sc2, fn2, hb2, hI2, hkp, hok⟩ := hv_7
    have hok : okM_sum sc fn fr to_ wh sc2 fn2 v_7 := hok
    obtain ⟨z_7, hz_7⟩ := okv_sum hok
    subst hz_7
    have ho2 : w_7 301 = some (eJ (cA 2) 1 o) := (hkp.2 301 (by omega)).1.trans ho
    rw [← hkp.1, ← (hkp.2 301 (by omega)).2] at hl
    rw [← (hkp.2 301 (by omega)).2]
    refine W.eq (g2 := F0 m 10 ls [.long (lI z_7), .int (iI 0), .ref (ad_7 301)]) rfl ?_
    refine W.cs (cells' := 2) (slots' := 12) rfl rfl ?_
    refine k_last (pc := 10) (w1 := (up w_7 301 (eJ (cA 2) 1 (updI o 0 z_7)))) hx hb hK hP hD hS 301 2 ho2 rfl (by omega) (by omega) (by omega) rfl dL_sum_10 (fun H locs hP hD hS => ?_)
    refine lv_goto (pc := 11) (tgt := 22) hx hb dL_sum_11 (by decide) ?_
    refine k_iconst (pc := 22) hx hb dL_sum_22 ?_
    rw [hQ9]
    exact W.iret (v := iI 0) hx hb hret (fun t ht hW => ⟨⟨some (.int (iI 0)), ad_7, (up w_7 301 (eJ (cA 2) 1 (updI o 0 z_7))), rfl, ⟨0, sc2, fn2, some (.long (lI z_7)), updI o 0 z_7, rfl, bookS_of hI2 (fun r hr => ⟨up_n (by omega) rfl, rfl⟩) hb2, hI2, ⟨hkp.1, fun r hr => ⟨(hkp.2 r hr).2, fun h9 => up_n h9 (hkp.2 r hr).1⟩⟩, up_s _ _ _, Or.inl ⟨rfl, hok⟩, (fun _ => rC_l o z_7), by decide⟩, by rw [ht]; exact hP, hD⟩, hS.F ht⟩) hS.2.2 dL_sum_23

abbrev rmL_mean : Room := { frames := 8, cells := 2, slots := 12, locals := 136 }
set_option maxHeartbeats 4000000 in
set_option maxRecDepth 100000 in
theorem c_L_mean (l : Launch) (hl0 : l.stackTraces = false) (D : va_G) (cA : Nat → ClassId) (ad : Nat → Nat) (w : Nat → Option va_E) (sz : Nat) (sc : Nat → Int) (fn : Nat → Int → Int) (hI : bkInv sc fn) (hbk : bookS cA ad w sc fn) (fr to_ : Int) (h1_ : (-2147483648 ≤ fr ∧ fr < 2147483648)) (h2_ : (-2147483648 ≤ to_ ∧ to_ < 2147483648)) (o : Int → UInt64) (ho : w 302 = some (eD (cA 3) 1 o)) : Met l yL_mean wsL_mean rmL_mean (gV D cA ad w sz [.ref (ad 0), .int (iI fr), .int (iI to_), .ref (ad 302)]) (gW D (fun v9 ad1 w1 => ∃ (k : Int) (sc2 : Nat → Int) (fn2 : Nat → Int → Int) (v : Option Value) (o2 : Int → UInt64), v9 = some (.int (iI k)) ∧ bookS cA ad1 w1 sc2 fn2 ∧ bkInv sc2 fn2 ∧ keepL 302 ad ad1 w w1 ∧ w1 302 = some (eD (cA 3) 1 o2) ∧ rlP (okM_mean sc fn fr to_) (erM_mean sc fn fr to_) sc fn k sc2 fn2 v ∧ (k = 0 → rD v (o2 0)) ∧ 0 ≤ k ∧ k ≤ 3) (gA ad w sz)) 2 12 (gA ad w sz) := by
  refine g_ofH (cc := cL_mean) (maxL := 5) (ret := (some .int)) (hh := [(0, 9, 12, 13)]) (by decide) rfl ?_
  intro p e s m args below meth c s₁ B hml hv
  obtain ⟨hav, hsz, hP, hD0, hK, hB, hZ⟩ := hv
  have hx := B.exec
  have hb := B.bytes
  have hret := B.returns
  have hts := atoms_spec (ws := wsL_mean) B.pre
  have hown : s.vm.findClass RL = some m.cls := findClass_of_methodNamed B.named
  have hlocks := B.notSynchronized
  have hex := vx_table (x := yL_mean) B (hts (.codeWith yL_mean cL_mean 5 (some .int) [(0, 9, 12, 13)]) (by decide +kernel))
  subst hsz
  have hD := hD0.self (sz := s.heap.size)
  generalize hAe : gA ad w s.heap.size = A at hD hZ ⊢
  have hA : ∀ q : Nat, s.heap.size ≤ q → A q := fun q h => by rw [← hAe]; exact Or.inr h
  have hS : va_S A s.heap s.heap [] := va_S.rf
  have he9 : entryFrame m args 5 = F0 m 0 ((lg_sl ([.ref (ad 0), .int (iI fr), .int (iI to_), .ref (ad 302)] : List Value) ++ List.replicate (5 - (lg_sl ([.ref (ad 0), .int (iI fr), .int (iI to_), .ref (ad 302)] : List Value)).length) Slot.unset).toArray) [] := by rw [hav, lg_entry_eq]
  rw [he9]
  have hl := lv_entry ([.ref (ad 0), .int (iI fr), .int (iI to_), .ref (ad 302)] : List Value) (n := 5) (Nat.le_of_ble_eq_true rfl)
  generalize (lg_sl ([.ref (ad 0), .int (iI fr), .int (iI to_), .ref (ad 302)] : List Value) ++ List.replicate (5 - (lg_sl ([.ref (ad 0), .int (iI fr), .int (iI to_), .ref (ad 302)] : List Value)).length) Slot.unset).toArray = ls at hl ⊢
  have hl : lv_has ls 5 [(0, .ref (ad 0)), (1, .int (iI fr)), (2, .int (iI to_)), (3, .ref (ad 302))] := hl
  obtain ⟨Q9, hQ9⟩ : ∃ z, z = MQ below (gW D (fun v9 ad1 w1 => ∃ (k : Int) (sc2 : Nat → Int) (fn2 : Nat → Int → Int) (v : Option Value) (o2 : Int → UInt64), v9 = some (.int (iI k)) ∧ bookS cA ad1 w1 sc2 fn2 ∧ bkInv sc2 fn2 ∧ keepL 302 ad ad1 w w1 ∧ w1 302 = some (eD (cA 3) 1 o2) ∧ rlP (okM_mean sc fn fr to_) (erM_mean sc fn fr to_) sc fn k sc2 fn2 v ∧ (k = 0 → rD v (o2 0)) ∧ 0 ≤ k ∧ k ≤ 3) A) args s 2 12 A := ⟨_, rfl⟩
  rw [← hQ9]
  show W p l e rmL_mean s m args below meth c s.heap [] 0 0 Q9 (F0 m 0 ls [])
  obtain ⟨H, hHe⟩ : ∃ z, z = s.heap := ⟨_, rfl⟩
  obtain ⟨locs, hLe⟩ : ∃ z, z = ([] : List Loc) := ⟨_, rfl⟩
  have hP : gP D vwCl ad w H := by rw [hHe]; exact hP
  have hS : va_S A s.heap H locs := by rw [hHe, hLe]; exact va_S.rf
  rw [show W p l e rmL_mean s m args below meth c s.heap [] 0 0 Q9 (F0 m 0 ls []) = W p l e rmL_mean s m args below meth c H locs 0 0 Q9 (F0 m 0 ls []) by rw [hHe, hLe]]
  clear hHe hLe
  obtain ⟨fs0, hq0⟩ := bookS_0 hbk
  refine lv_aload_n (pc := 0) hx hb dL_mean_0 rfl (lv_at hl 3 rfl) ?_
  refine k_iconst (pc := 1) hx hb dL_mean_1 ?_
  refine lv_aload_n (pc := 2) hx hb dL_mean_2 rfl (lv_at hl 0 rfl) ?_
  refine lv_iload_n (pc := 3) hx hb dL_mean_3 rfl (lv_at hl 1 rfl) ?_
  refine lv_iload_n (pc := 4) hx hb dL_mean_4 rfl (lv_at hl 2 rfl) ?_
  refine k_callx (pc := 5) (vx_runV (As := [.int (iI fr), .int (iI to_)]) (rest := [.int (iI 0), .ref (ad 302)]) ⟨hx, hb, hml, hown, hts⟩ (c_X5_mean l hl0 D cA ad w H.size sc fn hI hbk fr to_ h1_ h2_) (cwV 2 hts gL_mean_X5_mean rfl rfl rfl (by decide +kernel) ⟨Nat.le_of_ble_eq_true rfl, Nat.le_of_ble_eq_true rfl⟩) (gV_V hP hD hK hB hS hA hZ 0 (ci := 5) rfl hq0) rfl rfl hl.1 rfl (lv_room (Nat.le_of_ble_eq_true rfl)) dL_mean_5 ⟨Nat.le_of_ble_eq_true rfl, Nat.le_of_ble_eq_true rfl⟩) hS (gA_sub hD hS hA) (fun E_5 ce_5 q_5 H locs hpx_5 hP hD hS hce_5 hcv_5 hcl_5 => ?_) (fun v_5 ad_5 w_5 H locs hv_5 hP hD hS => ?_)
  · skip
    obtain ⟨hE9, hx9⟩ := hpx_5
    subst hE9
    refine vx_catch (own := RL) (name := "java/lang/IllegalArgumentException") (E := xIA) hown [] ⟨0, 9, 12, 13⟩ [] hex (fun z hz => by cases hz) rfl (by decide) (hts (.classLink RL 13 "java/lang/IllegalArgumentException") (by decide +kernel)) (ca_0 hB _) hce_5 hcv_5 hcl_5 ?_
    refine W.eq (g2 := F0 m 12 ls [.ref q_5]) rfl ?_
    refine W.cs (cells' := 2) (slots' := 12) rfl rfl ?_
    refine lv_astore (pc := 12) (lv' := [(4, .ref q_5), (0, .ref (ad 0)), (1, .int (iI fr)), (2, .int (iI to_)), (3, .ref (ad 302))]) hx hb dL_mean_12 hl (by decide) rfl (fun ls hl => ?_)
    refine k_iconst (pc := 14) hx hb dL_mean_14 ?_
    rw [hQ9]
    exact W.iret (v := iI 1) hx hb hret (fun t ht hW => ⟨⟨some (.int (iI 1)), ad, w, rfl, ⟨1, sc, fn, none, o, rfl, hbk, hI, ⟨rfl, fun r hr => ⟨rfl, fun _ => rfl⟩⟩, ho, Or.inr ⟨rfl, rfl, ⟨rfl, hx9⟩⟩, (fun h9 => absurd h9 (by decide)), by decide⟩, by rw [ht]; exact hP, hD⟩, hS.F ht⟩) hS.2.2 dL_mean_15
  · skip
    obtain ⟨sc2, fn2, hb2, hI2, hkp, hok⟩ := hv_5
    have hok : okM_mean sc fn fr to_ sc2 fn2 v_5 := hok
    obtain ⟨z_5, hz_5⟩ := okv_mean hok
    subst hz_5
    have ho2 : w_5 302 = some (eD (cA 3) 1 o) := (hkp.2 302 (by omega)).1.trans ho
    rw [← hkp.1, ← (hkp.2 302 (by omega)).2] at hl
    rw [← (hkp.2 302 (by omega)).2]
    refine W.eq (g2 := F0 m 8 ls [.double z_5, .int (iI 0), .ref (ad_5 302)]) rfl ?_
    refine W.cs (cells' := 2) (slots' := 12) rfl rfl ?_
    refine k_dast (pc := 8) (w1 := (up w_5 302 (eD (cA 3) 1 (updD o 0 z_5)))) hx hb hK hP hD hS 302 3 ho2 rfl (by omega) (by omega) (by omega) rfl dL_mean_8 (fun H locs hP hD hS => ?_)
    refine lv_goto (pc := 9) (tgt := 16) hx hb dL_mean_9 (by decide) ?_
    refine k_iconst (pc := 16) hx hb dL_mean_16 ?_
    rw [hQ9]
    exact W.iret (v := iI 0) hx hb hret (fun t ht hW => ⟨⟨some (.int (iI 0)), ad_5, (up w_5 302 (eD (cA 3) 1 (updD o 0 z_5))), rfl, ⟨0, sc2, fn2, some (.double z_5), updD o 0 z_5, rfl, bookS_of hI2 (fun r hr => ⟨up_n (by omega) rfl, rfl⟩) hb2, hI2, ⟨hkp.1, fun r hr => ⟨(hkp.2 r hr).2, fun h9 => up_n h9 (hkp.2 r hr).1⟩⟩, up_s _ _ _, Or.inl ⟨rfl, hok⟩, (fun _ => rD_d o z_5), by decide⟩, by rw [ht]; exact hP, hD⟩, hS.F ht⟩) hS.2.2 dL_mean_17

abbrev rmL_reached : Room := { frames := 7, cells := 2, slots := 12, locals := 135 }
set_option maxHeartbeats 4000000 in
set_option maxRecDepth 100000 in
theorem c_L_reached (l : Launch) (hl0 : l.stackTraces = false) (D : va_G) (cA : Nat → ClassId) (ad : Nat → Nat) (w : Nat → Option va_E) (sz : Nat) (sc : Nat → Int) (fn : Nat → Int → Int) (hI : bkInv sc fn) (hbk : bookS cA ad w sc fn) (pt : Int) (hpt : (-2147483648 ≤ pt ∧ pt < 2147483648)) (o : Int → Int) (ho : w 301 = some (eJ (cA 2) 1 o)) : Met l yL_reached wsL_reached rmL_reached (gV D cA ad w sz [.ref (ad 0), .int (iI pt), .ref (ad 301)]) (gW D (fun v9 ad1 w1 => ∃ (k : Int) (sc2 : Nat → Int) (fn2 : Nat → Int → Int) (v : Option Value) (o2 : Int → Int), v9 = some (.int (iI k)) ∧ bookS cA ad1 w1 sc2 fn2 ∧ bkInv sc2 fn2 ∧ keepL 301 ad ad1 w w1 ∧ w1 301 = some (eJ (cA 2) 1 o2) ∧ rlP (okM_reached sc fn pt) (erM_reached sc fn pt) sc fn k sc2 fn2 v ∧ (k = 0 → rC v (o2 0)) ∧ 0 ≤ k ∧ k ≤ 3) (gA ad w sz)) 2 12 (gA ad w sz) := by
  refine g_ofH (cc := cL_reached) (maxL := 4) (ret := (some .int)) (hh := [(0, 8, 11, 13)]) (by decide) rfl ?_
  intro p e s m args below meth c s₁ B hml hv
  obtain ⟨hav, hsz, hP, hD0, hK, hB, hZ⟩ := hv
  have hx := B.exec
  have hb := B.bytes
  have hret := B.returns
  have hts := atoms_spec (ws := wsL_reached) B.pre
  have hown : s.vm.findClass RL = some m.cls := findClass_of_methodNamed B.named
  have hlocks := B.notSynchronized
  have hex := vx_table (x := yL_reached) B (hts (.codeWith yL_reached cL_reached 4 (some .int) [(0, 8, 11, 13)]) (by decide +kernel))
  subst hsz
  have hD := hD0.self (sz := s.heap.size)
  generalize hAe : gA ad w s.heap.size = A at hD hZ ⊢
  have hA : ∀ q : Nat, s.heap.size ≤ q → A q := fun q h => by rw [← hAe]; exact Or.inr h
  have hS : va_S A s.heap s.heap [] := va_S.rf
  have he9 : entryFrame m args 4 = F0 m 0 ((lg_sl ([.ref (ad 0), .int (iI pt), .ref (ad 301)] : List Value) ++ List.replicate (4 - (lg_sl ([.ref (ad 0), .int (iI pt), .ref (ad 301)] : List Value)).length) Slot.unset).toArray) [] := by rw [hav, lg_entry_eq]
  rw [he9]
  have hl := lv_entry ([.ref (ad 0), .int (iI pt), .ref (ad 301)] : List Value) (n := 4) (Nat.le_of_ble_eq_true rfl)
  generalize (lg_sl ([.ref (ad 0), .int (iI pt), .ref (ad 301)] : List Value) ++ List.replicate (4 - (lg_sl ([.ref (ad 0), .int (iI pt), .ref (ad 301)] : List Value)).length) Slot.unset).toArray = ls at hl ⊢
  have hl : lv_has ls 4 [(0, .ref (ad 0)), (1, .int (iI pt)), (2, .ref (ad 301))] := hl
  obtain ⟨Q9, hQ9⟩ : ∃ z, z = MQ below (gW D (fun v9 ad1 w1 => ∃ (k : Int) (sc2 : Nat → Int) (fn2 : Nat → Int → Int) (v : Option Value) (o2 : Int → Int), v9 = some (.int (iI k)) ∧ bookS cA ad1 w1 sc2 fn2 ∧ bkInv sc2 fn2 ∧ keepL 301 ad ad1 w w1 ∧ w1 301 = some (eJ (cA 2) 1 o2) ∧ rlP (okM_reached sc fn pt) (erM_reached sc fn pt) sc fn k sc2 fn2 v ∧ (k = 0 → rC v (o2 0)) ∧ 0 ≤ k ∧ k ≤ 3) A) args s 2 12 A := ⟨_, rfl⟩
  rw [← hQ9]
  show W p l e rmL_reached s m args below meth c s.heap [] 0 0 Q9 (F0 m 0 ls [])
  obtain ⟨H, hHe⟩ : ∃ z, z = s.heap := ⟨_, rfl⟩
  obtain ⟨locs, hLe⟩ : ∃ z, z = ([] : List Loc) := ⟨_, rfl⟩
  have hP : gP D vwCl ad w H := by rw [hHe]; exact hP
  have hS : va_S A s.heap H locs := by rw [hHe, hLe]; exact va_S.rf
  rw [show W p l e rmL_reached s m args below meth c s.heap [] 0 0 Q9 (F0 m 0 ls []) = W p l e rmL_reached s m args below meth c H locs 0 0 Q9 (F0 m 0 ls []) by rw [hHe, hLe]]
  clear hHe hLe
  obtain ⟨fs0, hq0⟩ := bookS_0 hbk
  refine lv_aload_n (pc := 0) hx hb dL_reached_0 rfl (lv_at hl 2 rfl) ?_
  refine k_iconst (pc := 1) hx hb dL_reached_1 ?_
  refine lv_aload_n (pc := 2) hx hb dL_reached_2 rfl (lv_at hl 0 rfl) ?_
  refine lv_iload_n (pc := 3) hx hb dL_reached_3 rfl (lv_at hl 1 rfl) ?_
  refine k_callx (pc := 4) (vx_runV (As := [.int (iI pt)]) (rest := [.int (iI 0), .ref (ad 301)]) ⟨hx, hb, hml, hown, hts⟩ (c_X5_reached l hl0 D cA ad w H.size sc fn hI hbk pt hpt) (cwV 1 hts gL_reached_X5_reached rfl rfl rfl (by decide +kernel) ⟨Nat.le_of_ble_eq_true rfl, Nat.le_of_ble_eq_true rfl⟩) (gV_V hP hD hK hB hS hA hZ 0 (ci := 5) rfl hq0) rfl rfl hl.1 rfl (lv_room (Nat.le_of_ble_eq_true rfl)) dL_reached_4 ⟨Nat.le_of_ble_eq_true rfl, Nat.le_of_ble_eq_true rfl⟩) hS (gA_sub hD hS hA) (fun E_4 ce_4 q_4 H locs hpx_4 hP hD hS hce_4 hcv_4 hcl_4 => ?_) (fun v_4 ad_4 w_4 H locs hv_4 hP hD hS => ?_)
  · skip
    obtain ⟨hE9, hx9⟩ := hpx_4
    subst hE9
    refine vx_catch (own := RL) (name := "java/lang/IllegalArgumentException") (E := xIA) hown [] ⟨0, 8, 11, 13⟩ [] hex (fun z hz => by cases hz) rfl (by decide) (hts (.classLink RL 13 "java/lang/IllegalArgumentException") (by decide +kernel)) (ca_0 hB _) hce_4 hcv_4 hcl_4 ?_
    refine W.eq (g2 := F0 m 11 ls [.ref q_4]) rfl ?_
    refine W.cs (cells' := 2) (slots' := 12) rfl rfl ?_
    refine lv_astore_n (pc := 11) (lv' := [(3, .ref q_4), (0, .ref (ad 0)), (1, .int (iI pt)), (2, .ref (ad 301))]) hx hb dL_reached_11 rfl hl (by decide) rfl (fun ls hl => ?_)
    refine k_iconst (pc := 12) hx hb dL_reached_12 ?_
    rw [hQ9]
    exact W.iret (v := iI 1) hx hb hret (fun t ht hW => ⟨⟨some (.int (iI 1)), ad, w, rfl, ⟨1, sc, fn, none, o, rfl, hbk, hI, ⟨rfl, fun r hr => ⟨rfl, fun _ => rfl⟩⟩, ho, Or.inr ⟨rfl, rfl, ⟨rfl, hx9⟩⟩, (fun h9 => absurd h9 (by decide)), by decide⟩, by rw [ht]; exact hP, hD⟩, hS.F ht⟩) hS.2.2 dL_reached_13
  · skip
    obtain ⟨sc2, fn2, hb2, hI2, hkp, hok⟩ := hv_4
    have hok : okM_reached sc fn pt sc2 fn2 v_4 := hok
    obtain ⟨z_4, hz_4⟩ := okv_reached hok
    subst hz_4
    have ho2 : w_4 301 = some (eJ (cA 2) 1 o) := (hkp.2 301 (by omega)).1.trans ho
    rw [← hkp.1, ← (hkp.2 301 (by omega)).2] at hl
    rw [← (hkp.2 301 (by omega)).2]
    refine W.eq (g2 := F0 m 7 ls [.long (lI z_4), .int (iI 0), .ref (ad_4 301)]) rfl ?_
    refine W.cs (cells' := 2) (slots' := 12) rfl rfl ?_
    refine k_last (pc := 7) (w1 := (up w_4 301 (eJ (cA 2) 1 (updI o 0 z_4)))) hx hb hK hP hD hS 301 2 ho2 rfl (by omega) (by omega) (by omega) rfl dL_reached_7 (fun H locs hP hD hS => ?_)
    refine lv_goto (pc := 8) (tgt := 14) hx hb dL_reached_8 (by decide) ?_
    refine k_iconst (pc := 14) hx hb dL_reached_14 ?_
    rw [hQ9]
    exact W.iret (v := iI 0) hx hb hret (fun t ht hW => ⟨⟨some (.int (iI 0)), ad_4, (up w_4 301 (eJ (cA 2) 1 (updI o 0 z_4))), rfl, ⟨0, sc2, fn2, some (.long (lI z_4)), updI o 0 z_4, rfl, bookS_of hI2 (fun r hr => ⟨up_n (by omega) rfl, rfl⟩) hb2, hI2, ⟨hkp.1, fun r hr => ⟨(hkp.2 r hr).2, fun h9 => up_n h9 (hkp.2 r hr).1⟩⟩, up_s _ _ _, Or.inl ⟨rfl, hok⟩, (fun _ => rC_l o z_4), by decide⟩, by rw [ht]; exact hP, hD⟩, hS.F ht⟩) hS.2.2 dL_reached_15

abbrev rmL_peaks : Room := { frames := 8, cells := 2, slots := 12, locals := 136 }
set_option maxHeartbeats 4000000 in
set_option maxRecDepth 100000 in
theorem c_L_peaks (l : Launch) (hl0 : l.stackTraces = false) (D : va_G) (cA : Nat → ClassId) (ad : Nat → Nat) (w : Nat → Option va_E) (sz : Nat) (sc : Nat → Int) (fn : Nat → Int → Int) (hI : bkInv sc fn) (hbk : bookS cA ad w sc fn) (lm ap : Int) (hlm : (-9223372036854775808 ≤ lm ∧ lm < 9223372036854775808)) (hap : (-2147483648 ≤ ap ∧ ap < 2147483648)) (o : Int → Int) (ho : w 301 = some (eJ (cA 2) 1 o)) : Met l yL_peaks wsL_peaks rmL_peaks (gV D cA ad w sz [.ref (ad 0), .long (lI lm), .int (iI ap), .ref (ad 301)]) (gW D (fun v9 ad1 w1 => ∃ (k : Int) (sc2 : Nat → Int) (fn2 : Nat → Int → Int) (v : Option Value) (o2 : Int → Int), v9 = some (.int (iI k)) ∧ bookS cA ad1 w1 sc2 fn2 ∧ bkInv sc2 fn2 ∧ keepL 301 ad ad1 w w1 ∧ w1 301 = some (eJ (cA 2) 1 o2) ∧ rlP (okM_peaks sc fn lm ap) (erM_peaks sc fn lm ap) sc fn k sc2 fn2 v ∧ (k = 0 → rC v (o2 0)) ∧ 0 ≤ k ∧ k ≤ 3) (gA ad w sz)) 2 12 (gA ad w sz) := by
  refine g_ofH (cc := cL_peaks) (maxL := 6) (ret := (some .int)) (hh := [(0, 11, 14, 13)]) (by decide) rfl ?_
  intro p e s m args below meth c s₁ B hml hv
  obtain ⟨hav, hsz, hP, hD0, hK, hB, hZ⟩ := hv
  have hx := B.exec
  have hb := B.bytes
  have hret := B.returns
  have hts := atoms_spec (ws := wsL_peaks) B.pre
  have hown : s.vm.findClass RL = some m.cls := findClass_of_methodNamed B.named
  have hlocks := B.notSynchronized
  have hex := vx_table (x := yL_peaks) B (hts (.codeWith yL_peaks cL_peaks 6 (some .int) [(0, 11, 14, 13)]) (by decide +kernel))
  subst hsz
  have hD := hD0.self (sz := s.heap.size)
  generalize hAe : gA ad w s.heap.size = A at hD hZ ⊢
  have hA : ∀ q : Nat, s.heap.size ≤ q → A q := fun q h => by rw [← hAe]; exact Or.inr h
  have hS : va_S A s.heap s.heap [] := va_S.rf
  have he9 : entryFrame m args 6 = F0 m 0 ((lg_sl ([.ref (ad 0), .long (lI lm), .int (iI ap), .ref (ad 301)] : List Value) ++ List.replicate (6 - (lg_sl ([.ref (ad 0), .long (lI lm), .int (iI ap), .ref (ad 301)] : List Value)).length) Slot.unset).toArray) [] := by rw [hav, lg_entry_eq]
  rw [he9]
  have hl := lv_entry ([.ref (ad 0), .long (lI lm), .int (iI ap), .ref (ad 301)] : List Value) (n := 6) (Nat.le_of_ble_eq_true rfl)
  generalize (lg_sl ([.ref (ad 0), .long (lI lm), .int (iI ap), .ref (ad 301)] : List Value) ++ List.replicate (6 - (lg_sl ([.ref (ad 0), .long (lI lm), .int (iI ap), .ref (ad 301)] : List Value)).length) Slot.unset).toArray = ls at hl ⊢
  have hl : lv_has ls 6 [(0, .ref (ad 0)), (1, .long (lI lm)), (3, .int (iI ap)), (4, .ref (ad 301))] := hl
  obtain ⟨Q9, hQ9⟩ : ∃ z, z = MQ below (gW D (fun v9 ad1 w1 => ∃ (k : Int) (sc2 : Nat → Int) (fn2 : Nat → Int → Int) (v : Option Value) (o2 : Int → Int), v9 = some (.int (iI k)) ∧ bookS cA ad1 w1 sc2 fn2 ∧ bkInv sc2 fn2 ∧ keepL 301 ad ad1 w w1 ∧ w1 301 = some (eJ (cA 2) 1 o2) ∧ rlP (okM_peaks sc fn lm ap) (erM_peaks sc fn lm ap) sc fn k sc2 fn2 v ∧ (k = 0 → rC v (o2 0)) ∧ 0 ≤ k ∧ k ≤ 3) A) args s 2 12 A := ⟨_, rfl⟩
  rw [← hQ9]
  show W p l e rmL_peaks s m args below meth c s.heap [] 0 0 Q9 (F0 m 0 ls [])
  obtain ⟨H, hHe⟩ : ∃ z, z = s.heap := ⟨_, rfl⟩
  obtain ⟨locs, hLe⟩ : ∃ z, z = ([] : List Loc) := ⟨_, rfl⟩
  have hP : gP D vwCl ad w H := by rw [hHe]; exact hP
  have hS : va_S A s.heap H locs := by rw [hHe, hLe]; exact va_S.rf
  rw [show W p l e rmL_peaks s m args below meth c s.heap [] 0 0 Q9 (F0 m 0 ls []) = W p l e rmL_peaks s m args below meth c H locs 0 0 Q9 (F0 m 0 ls []) by rw [hHe, hLe]]
  clear hHe hLe
  obtain ⟨fs0, hq0⟩ := bookS_0 hbk
  refine lv_aload (pc := 0) hx hb dL_peaks_0 (lv_at hl 3 rfl) ?_
  refine k_iconst (pc := 2) hx hb dL_peaks_2 ?_
  refine lv_aload_n (pc := 3) hx hb dL_peaks_3 rfl (lv_at hl 0 rfl) ?_
  refine lv_lload_n (pc := 4) hx hb dL_peaks_4 rfl (lv_at hl 1 rfl) ?_
  refine lv_iload_n (pc := 5) hx hb dL_peaks_5 rfl (lv_at hl 2 rfl) ?_
  refine k_callx (pc := 6) (vx_runV (As := [.long (lI lm), .int (iI ap)]) (rest := [.int (iI 0), .ref (ad 301)]) ⟨hx, hb, hml, hown, hts⟩ (c_X5_peaks l hl0 D cA ad w H.size sc fn hI hbk lm ap hlm hap) (cwV 2 hts gL_peaks_X5_peaks rfl rfl rfl (by decide +kernel) ⟨Nat.le_of_ble_eq_true rfl, Nat.le_of_ble_eq_true rfl⟩) (gV_V hP hD hK hB hS hA hZ 0 (ci := 5) rfl hq0) rfl rfl hl.1 rfl (lv_room (Nat.le_of_ble_eq_true rfl)) dL_peaks_6 ⟨Nat.le_of_ble_eq_true rfl, Nat.le_of_ble_eq_true rfl⟩) hS (gA_sub hD hS hA) (fun E_6 ce_6 q_6 H locs hpx_6 hP hD hS hce_6 hcv_6 hcl_6 => ?_) (fun v_6 ad_6 w_6 H locs hv_6 hP hD hS => ?_)
  · skip
    obtain ⟨hE9, hx9⟩ := hpx_6
    subst hE9
    refine vx_catch (own := RL) (name := "java/lang/IllegalArgumentException") (E := xIA) hown [] ⟨0, 11, 14, 13⟩ [] hex (fun z hz => by cases hz) rfl (by decide) (hts (.classLink RL 13 "java/lang/IllegalArgumentException") (by decide +kernel)) (ca_0 hB _) hce_6 hcv_6 hcl_6 ?_
    refine W.eq (g2 := F0 m 14 ls [.ref q_6]) rfl ?_
    refine W.cs (cells' := 2) (slots' := 12) rfl rfl ?_
    refine lv_astore (pc := 14) (lv' := [(5, .ref q_6), (0, .ref (ad 0)), (1, .long (lI lm)), (3, .int (iI ap)), (4, .ref (ad 301))]) hx hb dL_peaks_14 hl (by decide) rfl (fun ls hl => ?_)
    refine k_iconst (pc := 16) hx hb dL_peaks_16 ?_
    rw [hQ9]
    exact W.iret (v := iI 1) hx hb hret (fun t ht hW => ⟨⟨some (.int (iI 1)), ad, w, rfl, ⟨1, sc, fn, none, o, rfl, hbk, hI, ⟨rfl, fun r hr => ⟨rfl, fun _ => rfl⟩⟩, ho, Or.inr ⟨rfl, rfl, ⟨rfl, hx9⟩⟩, (fun h9 => absurd h9 (by decide)), by decide⟩, by rw [ht]; exact hP, hD⟩, hS.F ht⟩) hS.2.2 dL_peaks_17
  · skip
    obtain ⟨sc2, fn2, hb2, hI2, hkp, hok⟩ := hv_6
    have hok : okM_peaks sc fn lm ap sc2 fn2 v_6 := hok
    obtain ⟨z_6, hz_6⟩ := okv_peaks hok
    subst hz_6
    have ho2 : w_6 301 = some (eJ (cA 2) 1 o) := (hkp.2 301 (by omega)).1.trans ho
    rw [← hkp.1, ← (hkp.2 301 (by omega)).2] at hl
    rw [← (hkp.2 301 (by omega)).2]
    refine W.eq (g2 := F0 m 9 ls [.int (iI z_6), .int (iI 0), .ref (ad_6 301)]) rfl ?_
    refine W.cs (cells' := 2) (slots' := 12) rfl rfl ?_
    refine k_i2lw (pc := 9) hx hb dL_peaks_9 ?_
    refine k_last (pc := 10) (w1 := (up w_6 301 (eJ (cA 2) 1 (updI o 0 (wI z_6))))) hx hb hK hP hD hS 301 2 ho2 rfl (by omega) (by omega) (by omega) rfl dL_peaks_10 (fun H locs hP hD hS => ?_)
    refine lv_goto (pc := 11) (tgt := 18) hx hb dL_peaks_11 (by decide) ?_
    refine k_iconst (pc := 18) hx hb dL_peaks_18 ?_
    rw [hQ9]
    exact W.iret (v := iI 0) hx hb hret (fun t ht hW => ⟨⟨some (.int (iI 0)), ad_6, (up w_6 301 (eJ (cA 2) 1 (updI o 0 (wI z_6)))), rfl, ⟨0, sc2, fn2, some (.int (iI z_6)), updI o 0 (wI z_6), rfl, bookS_of hI2 (fun r hr => ⟨up_n (by omega) rfl, rfl⟩) hb2, hI2, ⟨hkp.1, fun r hr => ⟨(hkp.2 r hr).2, fun h9 => up_n h9 (hkp.2 r hr).1⟩⟩, up_s _ _ _, Or.inl ⟨rfl, hok⟩, (fun _ => rC_i o z_6), by decide⟩, by rw [ht]; exact hP, hD⟩, hS.F ht⟩) hS.2.2 dL_peaks_19

abbrev rmL_spell : Room := { frames := 8, cells := 1, slots := 6, locals := 135 }
set_option maxHeartbeats 4000000 in
set_option maxRecDepth 100000 in
theorem c_L_spell (l : Launch) (hl0 : l.stackTraces = false) (D : va_G) (cA : Nat → ClassId) (ad : Nat → Nat) (w : Nat → Option va_E) (sz : Nat) (sc : Nat → Int) (fn : Nat → Int → Int) (hI : bkInv sc fn) (hbk : bookS cA ad w sc fn) (lm : Int) (hlm : (-9223372036854775808 ≤ lm ∧ lm < 9223372036854775808)) (o : Int → Int) (ho : w 301 = some (eJ (cA 2) 1 o)) : Met l yL_spell wsL_spell rmL_spell (gV D cA ad w sz [.ref (ad 0), .long (lI lm), .ref (ad 301)]) (gW D (fun v9 ad1 w1 => ∃ (k : Int) (sc2 : Nat → Int) (fn2 : Nat → Int → Int) (v : Option Value) (o2 : Int → Int), v9 = some (.int (iI k)) ∧ bookS cA ad1 w1 sc2 fn2 ∧ bkInv sc2 fn2 ∧ keepL 301 ad ad1 w w1 ∧ w1 301 = some (eJ (cA 2) 1 o2) ∧ rlP (okM_spell sc fn lm) (erM_spell sc fn lm) sc fn k sc2 fn2 v ∧ (k = 0 → rC v (o2 0)) ∧ 0 ≤ k ∧ k ≤ 3) (gA ad w sz)) 1 6 (gA ad w sz) := by
  refine g_ofH (cc := cL_spell) (maxL := 5) (ret := (some .int)) (hh := [(0, 9, 12, 13)]) (by decide) rfl ?_
  intro p e s m args below meth c s₁ B hml hv
  obtain ⟨hav, hsz, hP, hD0, hK, hB, hZ⟩ := hv
  have hx := B.exec
  have hb := B.bytes
  have hret := B.returns
  have hts := atoms_spec (ws := wsL_spell) B.pre
  have hown : s.vm.findClass RL = some m.cls := findClass_of_methodNamed B.named
  have hlocks := B.notSynchronized
  have hex := vx_table (x := yL_spell) B (hts (.codeWith yL_spell cL_spell 5 (some .int) [(0, 9, 12, 13)]) (by decide +kernel))
  subst hsz
  have hD := hD0.self (sz := s.heap.size)
  generalize hAe : gA ad w s.heap.size = A at hD hZ ⊢
  have hA : ∀ q : Nat, s.heap.size ≤ q → A q := fun q h => by rw [← hAe]; exact Or.inr h
  have hS : va_S A s.heap s.heap [] := va_S.rf
  have he9 : entryFrame m args 5 = F0 m 0 ((lg_sl ([.ref (ad 0), .long (lI lm), .ref (ad 301)] : List Value) ++ List.replicate (5 - (lg_sl ([.ref (ad 0), .long (lI lm), .ref (ad 301)] : List Value)).length) Slot.unset).toArray) [] := by rw [hav, lg_entry_eq]
  rw [he9]
  have hl := lv_entry ([.ref (ad 0), .long (lI lm), .ref (ad 301)] : List Value) (n := 5) (Nat.le_of_ble_eq_true rfl)
  generalize (lg_sl ([.ref (ad 0), .long (lI lm), .ref (ad 301)] : List Value) ++ List.replicate (5 - (lg_sl ([.ref (ad 0), .long (lI lm), .ref (ad 301)] : List Value)).length) Slot.unset).toArray = ls at hl ⊢
  have hl : lv_has ls 5 [(0, .ref (ad 0)), (1, .long (lI lm)), (3, .ref (ad 301))] := hl
  obtain ⟨Q9, hQ9⟩ : ∃ z, z = MQ below (gW D (fun v9 ad1 w1 => ∃ (k : Int) (sc2 : Nat → Int) (fn2 : Nat → Int → Int) (v : Option Value) (o2 : Int → Int), v9 = some (.int (iI k)) ∧ bookS cA ad1 w1 sc2 fn2 ∧ bkInv sc2 fn2 ∧ keepL 301 ad ad1 w w1 ∧ w1 301 = some (eJ (cA 2) 1 o2) ∧ rlP (okM_spell sc fn lm) (erM_spell sc fn lm) sc fn k sc2 fn2 v ∧ (k = 0 → rC v (o2 0)) ∧ 0 ≤ k ∧ k ≤ 3) A) args s 1 6 A := ⟨_, rfl⟩
  rw [← hQ9]
  show W p l e rmL_spell s m args below meth c s.heap [] 0 0 Q9 (F0 m 0 ls [])
  obtain ⟨H, hHe⟩ : ∃ z, z = s.heap := ⟨_, rfl⟩
  obtain ⟨locs, hLe⟩ : ∃ z, z = ([] : List Loc) := ⟨_, rfl⟩
  have hP : gP D vwCl ad w H := by rw [hHe]; exact hP
  have hS : va_S A s.heap H locs := by rw [hHe, hLe]; exact va_S.rf
  rw [show W p l e rmL_spell s m args below meth c s.heap [] 0 0 Q9 (F0 m 0 ls []) = W p l e rmL_spell s m args below meth c H locs 0 0 Q9 (F0 m 0 ls []) by rw [hHe, hLe]]
  clear hHe hLe
  obtain ⟨fs0, hq0⟩ := bookS_0 hbk
  refine lv_aload_n (pc := 0) hx hb dL_spell_0 rfl (lv_at hl 2 rfl) ?_
  refine k_iconst (pc := 1) hx hb dL_spell_1 ?_
  refine lv_aload_n (pc := 2) hx hb dL_spell_2 rfl (lv_at hl 0 rfl) ?_
  refine lv_lload_n (pc := 3) hx hb dL_spell_3 rfl (lv_at hl 1 rfl) ?_
  refine k_callx (pc := 4) (vx_runV (As := [.long (lI lm)]) (rest := [.int (iI 0), .ref (ad 301)]) ⟨hx, hb, hml, hown, hts⟩ (c_X5_spell l hl0 D cA ad w H.size sc fn hI hbk lm hlm) (cwV 1 hts gL_spell_X5_spell rfl rfl rfl (by decide +kernel) ⟨Nat.le_of_ble_eq_true rfl, Nat.le_of_ble_eq_true rfl⟩) (gV_V hP hD hK hB hS hA hZ 0 (ci := 5) rfl hq0) rfl rfl hl.1 rfl (lv_room (Nat.le_of_ble_eq_true rfl)) dL_spell_4 ⟨Nat.le_of_ble_eq_true rfl, Nat.le_of_ble_eq_true rfl⟩) hS (gA_sub hD hS hA) (fun E_4 ce_4 q_4 H locs hpx_4 hP hD hS hce_4 hcv_4 hcl_4 => ?_) (fun v_4 ad_4 w_4 H locs hv_4 hP hD hS => ?_)
  · skip
    obtain ⟨hE9, hx9⟩ := hpx_4
    subst hE9
    refine vx_catch (own := RL) (name := "java/lang/IllegalArgumentException") (E := xIA) hown [] ⟨0, 9, 12, 13⟩ [] hex (fun z hz => by cases hz) rfl (by decide) (hts (.classLink RL 13 "java/lang/IllegalArgumentException") (by decide +kernel)) (ca_0 hB _) hce_4 hcv_4 hcl_4 ?_
    refine W.eq (g2 := F0 m 12 ls [.ref q_4]) rfl ?_
    refine W.cs (cells' := 1) (slots' := 6) rfl rfl ?_
    refine lv_astore (pc := 12) (lv' := [(4, .ref q_4), (0, .ref (ad 0)), (1, .long (lI lm)), (3, .ref (ad 301))]) hx hb dL_spell_12 hl (by decide) rfl (fun ls hl => ?_)
    refine k_iconst (pc := 14) hx hb dL_spell_14 ?_
    rw [hQ9]
    exact W.iret (v := iI 1) hx hb hret (fun t ht hW => ⟨⟨some (.int (iI 1)), ad, w, rfl, ⟨1, sc, fn, none, o, rfl, hbk, hI, ⟨rfl, fun r hr => ⟨rfl, fun _ => rfl⟩⟩, ho, Or.inr ⟨rfl, rfl, ⟨rfl, hx9⟩⟩, (fun h9 => absurd h9 (by decide)), by decide⟩, by rw [ht]; exact hP, hD⟩, hS.F ht⟩) hS.2.2 dL_spell_15
  · skip
    obtain ⟨sc2, fn2, hb2, hI2, hkp, hok⟩ := hv_4
    have hok : okM_spell sc fn lm sc2 fn2 v_4 := hok
    obtain ⟨z_4, hz_4⟩ := okv_spell hok
    subst hz_4
    have ho2 : w_4 301 = some (eJ (cA 2) 1 o) := (hkp.2 301 (by omega)).1.trans ho
    rw [← hkp.1, ← (hkp.2 301 (by omega)).2] at hl
    rw [← (hkp.2 301 (by omega)).2]
    refine W.eq (g2 := F0 m 7 ls [.int (iI z_4), .int (iI 0), .ref (ad_4 301)]) rfl ?_
    refine W.cs (cells' := 1) (slots' := 6) rfl rfl ?_
    refine k_i2lw (pc := 7) hx hb dL_spell_7 ?_
    refine k_last (pc := 8) (w1 := (up w_4 301 (eJ (cA 2) 1 (updI o 0 (wI z_4))))) hx hb hK hP hD hS 301 2 ho2 rfl (by omega) (by omega) (by omega) rfl dL_spell_8 (fun H locs hP hD hS => ?_)
    refine lv_goto (pc := 9) (tgt := 16) hx hb dL_spell_9 (by decide) ?_
    refine k_iconst (pc := 16) hx hb dL_spell_16 ?_
    rw [hQ9]
    exact W.iret (v := iI 0) hx hb hret (fun t ht hW => ⟨⟨some (.int (iI 0)), ad_4, (up w_4 301 (eJ (cA 2) 1 (updI o 0 (wI z_4)))), rfl, ⟨0, sc2, fn2, some (.int (iI z_4)), updI o 0 (wI z_4), rfl, bookS_of hI2 (fun r hr => ⟨up_n (by omega) rfl, rfl⟩) hb2, hI2, ⟨hkp.1, fun r hr => ⟨(hkp.2 r hr).2, fun h9 => up_n h9 (hkp.2 r hr).1⟩⟩, up_s _ _ _, Or.inl ⟨rfl, hok⟩, (fun _ => rC_i o z_4), by decide⟩, by rw [ht]; exact hP, hD⟩, hS.F ht⟩) hS.2.2 dL_spell_17

abbrev rmL_measure : Room := { frames := 8, cells := 4, slots := 24, locals := 126 }
set_option maxHeartbeats 4000000 in
set_option maxRecDepth 100000 in
theorem c_L_measure (l : Launch) (hl0 : l.stackTraces = false) (D : va_G) (cA : Nat → ClassId) (ad : Nat → Nat) (w : Nat → Option va_E) (sz : Nat) (sc : Nat → Int) (fn : Nat → Int → Int) (hI : bkInv sc fn) (hbk : bookS cA ad w sc fn) (d sg q : Int) (hd_ : (-2147483648 ≤ d ∧ d < 2147483648)) (hs_ : (-2147483648 ≤ sg ∧ sg < 2147483648)) (hq_ : (-2147483648 ≤ q ∧ q < 2147483648)) (o : Int → Int) (ho : w 301 = some (eJ (cA 2) 1 o)) : Met l yL_measure wsL_measure rmL_measure (gV D cA ad w sz [.ref (ad 0), .int (iI d), .int (iI sg), .int (iI q), .ref (ad 301)]) (gW D (fun v9 ad1 w1 => ∃ (k : Int) (sc2 : Nat → Int) (fn2 : Nat → Int → Int) (v : Option Value) (o2 : Int → Int), v9 = some (.int (iI k)) ∧ bookS cA ad1 w1 sc2 fn2 ∧ bkInv sc2 fn2 ∧ keepL 301 ad ad1 w w1 ∧ w1 301 = some (eJ (cA 2) 1 o2) ∧ rlP (okM_measure sc fn d sg q) (erM_measure sc fn d sg q) sc fn k sc2 fn2 v ∧ (k = 0 → rC v (o2 0)) ∧ 0 ≤ k ∧ k ≤ 3) (gA ad w sz)) 4 24 (gA ad w sz) := by
  refine g_ofH (cc := cL_measure) (maxL := 6) (ret := (some .int)) (hh := [(0, 12, 15, 13), (0, 12, 19, 15)]) (by decide) rfl ?_
  intro p e s m args below meth c s₁ B hml hv
  obtain ⟨hav, hsz, hP, hD0, hK, hB, hZ⟩ := hv
  have hx := B.exec
  have hb := B.bytes
  have hret := B.returns
  have hts := atoms_spec (ws := wsL_measure) B.pre
  have hown : s.vm.findClass RL = some m.cls := findClass_of_methodNamed B.named
  have hlocks := B.notSynchronized
  have hex := vx_table (x := yL_measure) B (hts (.codeWith yL_measure cL_measure 6 (some .int) [(0, 12, 15, 13), (0, 12, 19, 15)]) (by decide +kernel))
  subst hsz
  have hD := hD0.self (sz := s.heap.size)
  generalize hAe : gA ad w s.heap.size = A at hD hZ ⊢
  have hA : ∀ q : Nat, s.heap.size ≤ q → A q := fun q h => by rw [← hAe]; exact Or.inr h
  have hS : va_S A s.heap s.heap [] := va_S.rf
  have he9 : entryFrame m args 6 = F0 m 0 ((lg_sl ([.ref (ad 0), .int (iI d), .int (iI sg), .int (iI q), .ref (ad 301)] : List Value) ++ List.replicate (6 - (lg_sl ([.ref (ad 0), .int (iI d), .int (iI sg), .int (iI q), .ref (ad 301)] : List Value)).length) Slot.unset).toArray) [] := by rw [hav, lg_entry_eq]
  rw [he9]
  have hl := lv_entry ([.ref (ad 0), .int (iI d), .int (iI sg), .int (iI q), .ref (ad 301)] : List Value) (n := 6) (Nat.le_of_ble_eq_true rfl)
  generalize (lg_sl ([.ref (ad 0), .int (iI d), .int (iI sg), .int (iI q), .ref (ad 301)] : List Value) ++ List.replicate (6 - (lg_sl ([.ref (ad 0), .int (iI d), .int (iI sg), .int (iI q), .ref (ad 301)] : List Value)).length) Slot.unset).toArray = ls at hl ⊢
  have hl : lv_has ls 6 [(0, .ref (ad 0)), (1, .int (iI d)), (2, .int (iI sg)), (3, .int (iI q)), (4, .ref (ad 301))] := hl
  obtain ⟨Q9, hQ9⟩ : ∃ z, z = MQ below (gW D (fun v9 ad1 w1 => ∃ (k : Int) (sc2 : Nat → Int) (fn2 : Nat → Int → Int) (v : Option Value) (o2 : Int → Int), v9 = some (.int (iI k)) ∧ bookS cA ad1 w1 sc2 fn2 ∧ bkInv sc2 fn2 ∧ keepL 301 ad ad1 w w1 ∧ w1 301 = some (eJ (cA 2) 1 o2) ∧ rlP (okM_measure sc fn d sg q) (erM_measure sc fn d sg q) sc fn k sc2 fn2 v ∧ (k = 0 → rC v (o2 0)) ∧ 0 ≤ k ∧ k ≤ 3) A) args s 4 24 A := ⟨_, rfl⟩
  rw [← hQ9]
  show W p l e rmL_measure s m args below meth c s.heap [] 0 0 Q9 (F0 m 0 ls [])
  obtain ⟨H, hHe⟩ : ∃ z, z = s.heap := ⟨_, rfl⟩
  obtain ⟨locs, hLe⟩ : ∃ z, z = ([] : List Loc) := ⟨_, rfl⟩
  have hP : gP D vwCl ad w H := by rw [hHe]; exact hP
  have hS : va_S A s.heap H locs := by rw [hHe, hLe]; exact va_S.rf
  rw [show W p l e rmL_measure s m args below meth c s.heap [] 0 0 Q9 (F0 m 0 ls []) = W p l e rmL_measure s m args below meth c H locs 0 0 Q9 (F0 m 0 ls []) by rw [hHe, hLe]]
  clear hHe hLe
  obtain ⟨fs0, hq0⟩ := bookS_0 hbk
  refine lv_aload (pc := 0) hx hb dL_measure_0 (lv_at hl 4 rfl) ?_
  refine k_iconst (pc := 2) hx hb dL_measure_2 ?_
  refine lv_aload_n (pc := 3) hx hb dL_measure_3 rfl (lv_at hl 0 rfl) ?_
  refine lv_iload_n (pc := 4) hx hb dL_measure_4 rfl (lv_at hl 1 rfl) ?_
  refine lv_iload_n (pc := 5) hx hb dL_measure_5 rfl (lv_at hl 2 rfl) ?_
  refine lv_iload_n (pc := 6) hx hb dL_measure_6 rfl (lv_at hl 3 rfl) ?_
  refine k_callx (pc := 7) (vx_runV (As := [.int (iI d), .int (iI sg), .int (iI q)]) (rest := [.int (iI 0), .ref (ad 301)]) ⟨hx, hb, hml, hown, hts⟩ (c_X5_measure l hl0 D cA ad w H.size sc fn hI hbk d sg q hd_ hs_ hq_) (cwV 3 hts gL_measure_X5_measure rfl rfl rfl (by decide +kernel) ⟨Nat.le_of_ble_eq_true rfl, Nat.le_of_ble_eq_true rfl⟩) (gV_V hP hD hK hB hS hA hZ 0 (ci := 5) rfl hq0) rfl rfl hl.1 rfl (lv_room (Nat.le_of_ble_eq_true rfl)) dL_measure_7 ⟨Nat.le_of_ble_eq_true rfl, Nat.le_of_ble_eq_true rfl⟩) hS (gA_sub hD hS hA) (fun E_7 ce_7 q_7 H locs hpx_7 hP hD hS hce_7 hcv_7 hcl_7 => ?_) (fun v_7 ad_7 w_7 H locs hv_7 hP hD hS => ?_)
  · skip
    rcases hpx_7 with ⟨hE9, hx9⟩ | ⟨hE9, hx9⟩
    · skip
      subst hE9
      refine vx_catch (own := RL) (name := "java/lang/IllegalArgumentException") (E := xIA) hown [] ⟨0, 12, 15, 13⟩ [⟨0, 12, 19, 15⟩] hex (fun z hz => by cases hz) rfl (by decide) (hts (.classLink RL 13 "java/lang/IllegalArgumentException") (by decide +kernel)) (ca_0 hB _) hce_7 hcv_7 hcl_7 ?_
      refine W.eq (g2 := F0 m 15 ls [.ref q_7]) rfl ?_
      refine W.cs (cells' := 4) (slots' := 24) rfl rfl ?_
      refine lv_astore (pc := 15) (lv' := [(5, .ref q_7), (0, .ref (ad 0)), (1, .int (iI d)), (2, .int (iI sg)), (3, .int (iI q)), (4, .ref (ad 301))]) hx hb dL_measure_15 hl (by decide) rfl (fun ls hl => ?_)
      refine k_iconst (pc := 17) hx hb dL_measure_17 ?_
      rw [hQ9]
      exact W.iret (v := iI 1) hx hb hret (fun t ht hW => ⟨⟨some (.int (iI 1)), ad, w, rfl, ⟨1, sc, fn, none, o, rfl, hbk, hI, ⟨rfl, fun r hr => ⟨rfl, fun _ => rfl⟩⟩, ho, Or.inr ⟨rfl, rfl, Or.inl (⟨rfl, hx9⟩)⟩, (fun h9 => absurd h9 (by decide)), by decide⟩, by rw [ht]; exact hP, hD⟩, hS.F ht⟩) hS.2.2 dL_measure_18
    · skip
      subst hE9
      refine vx_catch (own := RL) (name := "java/lang/IllegalStateException") (E := xIS) hown [⟨0, 12, 15, 13⟩] ⟨0, 12, 19, 15⟩ [] hex (fun z hz => by rcases List.mem_cons.mp hz with hz | hz; (subst hz; exact Or.inr ⟨by decide, _, hts (.classLink RL 13 "java/lang/IllegalArgumentException") (by decide +kernel), nc_2 hB⟩); cases hz) rfl (by decide) (hts (.classLink RL 15 "java/lang/IllegalStateException") (by decide +kernel)) (ca_1 hB _) hce_7 hcv_7 hcl_7 ?_
      refine W.eq (g2 := F0 m 19 ls [.ref q_7]) rfl ?_
      refine W.cs (cells' := 4) (slots' := 24) rfl rfl ?_
      refine lv_astore (pc := 19) (lv' := [(5, .ref q_7), (0, .ref (ad 0)), (1, .int (iI d)), (2, .int (iI sg)), (3, .int (iI q)), (4, .ref (ad 301))]) hx hb dL_measure_19 hl (by decide) rfl (fun ls hl => ?_)
      refine k_iconst (pc := 21) hx hb dL_measure_21 ?_
      rw [hQ9]
      exact W.iret (v := iI 2) hx hb hret (fun t ht hW => ⟨⟨some (.int (iI 2)), ad, w, rfl, ⟨2, sc, fn, none, o, rfl, hbk, hI, ⟨rfl, fun r hr => ⟨rfl, fun _ => rfl⟩⟩, ho, Or.inr ⟨rfl, rfl, Or.inr (⟨rfl, hx9⟩)⟩, (fun h9 => absurd h9 (by decide)), by decide⟩, by rw [ht]; exact hP, hD⟩, hS.F ht⟩) hS.2.2 dL_measure_22
  · skip
    obtain ⟨sc2, fn2, hb2, hI2, hkp, hok⟩ := hv_7
    have hok : okM_measure sc fn d sg q sc2 fn2 v_7 := hok
    obtain ⟨z_7, hz_7⟩ := okv_measure hok
    subst hz_7
    have ho2 : w_7 301 = some (eJ (cA 2) 1 o) := (hkp.2 301 (by omega)).1.trans ho
    rw [← hkp.1, ← (hkp.2 301 (by omega)).2] at hl
    rw [← (hkp.2 301 (by omega)).2]
    refine W.eq (g2 := F0 m 10 ls [.int (iI z_7), .int (iI 0), .ref (ad_7 301)]) rfl ?_
    refine W.cs (cells' := 4) (slots' := 24) rfl rfl ?_
    refine k_i2lw (pc := 10) hx hb dL_measure_10 ?_
    refine k_last (pc := 11) (w1 := (up w_7 301 (eJ (cA 2) 1 (updI o 0 (wI z_7))))) hx hb hK hP hD hS 301 2 ho2 rfl (by omega) (by omega) (by omega) rfl dL_measure_11 (fun H locs hP hD hS => ?_)
    refine lv_goto (pc := 12) (tgt := 23) hx hb dL_measure_12 (by decide) ?_
    refine k_iconst (pc := 23) hx hb dL_measure_23 ?_
    rw [hQ9]
    exact W.iret (v := iI 0) hx hb hret (fun t ht hW => ⟨⟨some (.int (iI 0)), ad_7, (up w_7 301 (eJ (cA 2) 1 (updI o 0 (wI z_7)))), rfl, ⟨0, sc2, fn2, some (.int (iI z_7)), updI o 0 (wI z_7), rfl, bookS_of hI2 (fun r hr => ⟨up_n (by omega) rfl, rfl⟩) hb2, hI2, ⟨hkp.1, fun r hr => ⟨(hkp.2 r hr).2, fun h9 => up_n h9 (hkp.2 r hr).1⟩⟩, up_s _ _ _, Or.inl ⟨rfl, hok⟩, (fun _ => rC_i o z_7), by decide⟩, by rw [ht]; exact hP, hD⟩, hS.F ht⟩) hS.2.2 dL_measure_24

abbrev rmL_deviation : Room := { frames := 7, cells := 1, slots := 6, locals := 105 }
set_option maxHeartbeats 4000000 in
set_option maxRecDepth 100000 in
theorem c_L_deviation (l : Launch) (hl0 : l.stackTraces = false) (D : va_G) (cA : Nat → ClassId) (ad : Nat → Nat) (w : Nat → Option va_E) (sz : Nat) (sc : Nat → Int) (fn : Nat → Int → Int) (hI : bkInv sc fn) (hbk : bookS cA ad w sc fn) (mi : Int) (hmi : (-2147483648 ≤ mi ∧ mi < 2147483648)) (o : Int → Int) (ho : w 301 = some (eJ (cA 2) 1 o)) : Met l yL_deviation wsL_deviation rmL_deviation (gV D cA ad w sz [.ref (ad 0), .int (iI mi), .ref (ad 301)]) (gW D (fun v9 ad1 w1 => ∃ (k : Int) (sc2 : Nat → Int) (fn2 : Nat → Int → Int) (v : Option Value) (o2 : Int → Int), v9 = some (.int (iI k)) ∧ bookS cA ad1 w1 sc2 fn2 ∧ bkInv sc2 fn2 ∧ keepL 301 ad ad1 w w1 ∧ w1 301 = some (eJ (cA 2) 1 o2) ∧ rlP (okM_deviation sc fn mi) (erM_deviation sc fn mi) sc fn k sc2 fn2 v ∧ (k = 0 → rC v (o2 0)) ∧ 0 ≤ k ∧ k ≤ 3) (gA ad w sz)) 1 6 (gA ad w sz) := by
  refine g_ofH (cc := cL_deviation) (maxL := 4) (ret := (some .int)) (hh := [(0, 8, 11, 21), (0, 8, 14, 15)]) (by decide) rfl ?_
  intro p e s m args below meth c s₁ B hml hv
  obtain ⟨hav, hsz, hP, hD0, hK, hB, hZ⟩ := hv
  have hx := B.exec
  have hb := B.bytes
  have hret := B.returns
  have hts := atoms_spec (ws := wsL_deviation) B.pre
  have hown : s.vm.findClass RL = some m.cls := findClass_of_methodNamed B.named
  have hlocks := B.notSynchronized
  have hex := vx_table (x := yL_deviation) B (hts (.codeWith yL_deviation cL_deviation 4 (some .int) [(0, 8, 11, 21), (0, 8, 14, 15)]) (by decide +kernel))
  subst hsz
  have hD := hD0.self (sz := s.heap.size)
  generalize hAe : gA ad w s.heap.size = A at hD hZ ⊢
  have hA : ∀ q : Nat, s.heap.size ≤ q → A q := fun q h => by rw [← hAe]; exact Or.inr h
  have hS : va_S A s.heap s.heap [] := va_S.rf
  have he9 : entryFrame m args 4 = F0 m 0 ((lg_sl ([.ref (ad 0), .int (iI mi), .ref (ad 301)] : List Value) ++ List.replicate (4 - (lg_sl ([.ref (ad 0), .int (iI mi), .ref (ad 301)] : List Value)).length) Slot.unset).toArray) [] := by rw [hav, lg_entry_eq]
  rw [he9]
  have hl := lv_entry ([.ref (ad 0), .int (iI mi), .ref (ad 301)] : List Value) (n := 4) (Nat.le_of_ble_eq_true rfl)
  generalize (lg_sl ([.ref (ad 0), .int (iI mi), .ref (ad 301)] : List Value) ++ List.replicate (4 - (lg_sl ([.ref (ad 0), .int (iI mi), .ref (ad 301)] : List Value)).length) Slot.unset).toArray = ls at hl ⊢
  have hl : lv_has ls 4 [(0, .ref (ad 0)), (1, .int (iI mi)), (2, .ref (ad 301))] := hl
  obtain ⟨Q9, hQ9⟩ : ∃ z, z = MQ below (gW D (fun v9 ad1 w1 => ∃ (k : Int) (sc2 : Nat → Int) (fn2 : Nat → Int → Int) (v : Option Value) (o2 : Int → Int), v9 = some (.int (iI k)) ∧ bookS cA ad1 w1 sc2 fn2 ∧ bkInv sc2 fn2 ∧ keepL 301 ad ad1 w w1 ∧ w1 301 = some (eJ (cA 2) 1 o2) ∧ rlP (okM_deviation sc fn mi) (erM_deviation sc fn mi) sc fn k sc2 fn2 v ∧ (k = 0 → rC v (o2 0)) ∧ 0 ≤ k ∧ k ≤ 3) A) args s 1 6 A := ⟨_, rfl⟩
  rw [← hQ9]
  show W p l e rmL_deviation s m args below meth c s.heap [] 0 0 Q9 (F0 m 0 ls [])
  obtain ⟨H, hHe⟩ : ∃ z, z = s.heap := ⟨_, rfl⟩
  obtain ⟨locs, hLe⟩ : ∃ z, z = ([] : List Loc) := ⟨_, rfl⟩
  have hP : gP D vwCl ad w H := by rw [hHe]; exact hP
  have hS : va_S A s.heap H locs := by rw [hHe, hLe]; exact va_S.rf
  rw [show W p l e rmL_deviation s m args below meth c s.heap [] 0 0 Q9 (F0 m 0 ls []) = W p l e rmL_deviation s m args below meth c H locs 0 0 Q9 (F0 m 0 ls []) by rw [hHe, hLe]]
  clear hHe hLe
  obtain ⟨fs0, hq0⟩ := bookS_0 hbk
  refine lv_aload_n (pc := 0) hx hb dL_deviation_0 rfl (lv_at hl 2 rfl) ?_
  refine k_iconst (pc := 1) hx hb dL_deviation_1 ?_
  refine lv_aload_n (pc := 2) hx hb dL_deviation_2 rfl (lv_at hl 0 rfl) ?_
  refine lv_iload_n (pc := 3) hx hb dL_deviation_3 rfl (lv_at hl 1 rfl) ?_
  refine k_callx (pc := 4) (vx_runV (As := [.int (iI mi)]) (rest := [.int (iI 0), .ref (ad 301)]) ⟨hx, hb, hml, hown, hts⟩ (c_X5_deviation l hl0 D cA ad w H.size sc fn hI hbk mi hmi) (cwV 1 hts gL_deviation_X5_deviation rfl rfl rfl (by decide +kernel) ⟨Nat.le_of_ble_eq_true rfl, Nat.le_of_ble_eq_true rfl⟩) (gV_V hP hD hK hB hS hA hZ 0 (ci := 5) rfl hq0) rfl rfl hl.1 rfl (lv_room (Nat.le_of_ble_eq_true rfl)) dL_deviation_4 ⟨Nat.le_of_ble_eq_true rfl, Nat.le_of_ble_eq_true rfl⟩) hS (gA_sub hD hS hA) (fun E_4 ce_4 q_4 H locs hpx_4 hP hD hS hce_4 hcv_4 hcl_4 => ?_) (fun v_4 ad_4 w_4 H locs hv_4 hP hD hS => ?_)
  · skip
    rcases hpx_4 with ⟨hE9, hx9⟩ | ⟨hE9, hx9⟩
    · skip
      subst hE9
      refine vx_catch (own := RL) (name := "java/lang/IndexOutOfBoundsException") (E := xIX) hown [] ⟨0, 8, 11, 21⟩ [⟨0, 8, 14, 15⟩] hex (fun z hz => by cases hz) rfl (by decide) (hts (.classLink RL 21 "java/lang/IndexOutOfBoundsException") (by decide +kernel)) (ca_2 hB _) hce_4 hcv_4 hcl_4 ?_
      refine W.eq (g2 := F0 m 11 ls [.ref q_4]) rfl ?_
      refine W.cs (cells' := 1) (slots' := 6) rfl rfl ?_
      refine lv_astore_n (pc := 11) (lv' := [(3, .ref q_4), (0, .ref (ad 0)), (1, .int (iI mi)), (2, .ref (ad 301))]) hx hb dL_deviation_11 rfl hl (by decide) rfl (fun ls hl => ?_)
      refine k_iconst (pc := 12) hx hb dL_deviation_12 ?_
      rw [hQ9]
      exact W.iret (v := iI 1) hx hb hret (fun t ht hW => ⟨⟨some (.int (iI 1)), ad, w, rfl, ⟨1, sc, fn, none, o, rfl, hbk, hI, ⟨rfl, fun r hr => ⟨rfl, fun _ => rfl⟩⟩, ho, Or.inr ⟨rfl, rfl, Or.inl (⟨rfl, hx9⟩)⟩, (fun h9 => absurd h9 (by decide)), by decide⟩, by rw [ht]; exact hP, hD⟩, hS.F ht⟩) hS.2.2 dL_deviation_13
    · skip
      subst hE9
      refine vx_catch (own := RL) (name := "java/lang/IllegalStateException") (E := xIS) hown [⟨0, 8, 11, 21⟩] ⟨0, 8, 14, 15⟩ [] hex (fun z hz => by rcases List.mem_cons.mp hz with hz | hz; (subst hz; exact Or.inr ⟨by decide, _, hts (.classLink RL 21 "java/lang/IndexOutOfBoundsException") (by decide +kernel), nc_3 hB⟩); cases hz) rfl (by decide) (hts (.classLink RL 15 "java/lang/IllegalStateException") (by decide +kernel)) (ca_1 hB _) hce_4 hcv_4 hcl_4 ?_
      refine W.eq (g2 := F0 m 14 ls [.ref q_4]) rfl ?_
      refine W.cs (cells' := 1) (slots' := 6) rfl rfl ?_
      refine lv_astore_n (pc := 14) (lv' := [(3, .ref q_4), (0, .ref (ad 0)), (1, .int (iI mi)), (2, .ref (ad 301))]) hx hb dL_deviation_14 rfl hl (by decide) rfl (fun ls hl => ?_)
      refine k_iconst (pc := 15) hx hb dL_deviation_15 ?_
      rw [hQ9]
      exact W.iret (v := iI 2) hx hb hret (fun t ht hW => ⟨⟨some (.int (iI 2)), ad, w, rfl, ⟨2, sc, fn, none, o, rfl, hbk, hI, ⟨rfl, fun r hr => ⟨rfl, fun _ => rfl⟩⟩, ho, Or.inr ⟨rfl, rfl, Or.inr (⟨rfl, hx9⟩)⟩, (fun h9 => absurd h9 (by decide)), by decide⟩, by rw [ht]; exact hP, hD⟩, hS.F ht⟩) hS.2.2 dL_deviation_16
  · skip
    obtain ⟨sc2, fn2, hb2, hI2, hkp, hok⟩ := hv_4
    have hok : okM_deviation sc fn mi sc2 fn2 v_4 := hok
    obtain ⟨z_4, hz_4⟩ := okv_deviation hok
    subst hz_4
    have ho2 : w_4 301 = some (eJ (cA 2) 1 o) := (hkp.2 301 (by omega)).1.trans ho
    rw [← hkp.1, ← (hkp.2 301 (by omega)).2] at hl
    rw [← (hkp.2 301 (by omega)).2]
    refine W.eq (g2 := F0 m 7 ls [.long (lI z_4), .int (iI 0), .ref (ad_4 301)]) rfl ?_
    refine W.cs (cells' := 1) (slots' := 6) rfl rfl ?_
    refine k_last (pc := 7) (w1 := (up w_4 301 (eJ (cA 2) 1 (updI o 0 z_4)))) hx hb hK hP hD hS 301 2 ho2 rfl (by omega) (by omega) (by omega) rfl dL_deviation_7 (fun H locs hP hD hS => ?_)
    refine lv_goto (pc := 8) (tgt := 17) hx hb dL_deviation_8 (by decide) ?_
    refine k_iconst (pc := 17) hx hb dL_deviation_17 ?_
    rw [hQ9]
    exact W.iret (v := iI 0) hx hb hret (fun t ht hW => ⟨⟨some (.int (iI 0)), ad_4, (up w_4 301 (eJ (cA 2) 1 (updI o 0 z_4))), rfl, ⟨0, sc2, fn2, some (.long (lI z_4)), updI o 0 z_4, rfl, bookS_of hI2 (fun r hr => ⟨up_n (by omega) rfl, rfl⟩) hb2, hI2, ⟨hkp.1, fun r hr => ⟨(hkp.2 r hr).2, fun h9 => up_n h9 (hkp.2 r hr).1⟩⟩, up_s _ _ _, Or.inl ⟨rfl, hok⟩, (fun _ => rC_l o z_4), by decide⟩, by rw [ht]; exact hP, hD⟩, hS.F ht⟩) hS.2.2 dL_deviation_18

abbrev rmL_wouldShift : Room := { frames := 7, cells := 1, slots := 6, locals := 106 }
set_option maxHeartbeats 4000000 in
set_option maxRecDepth 100000 in
theorem c_L_wouldShift (l : Launch) (hl0 : l.stackTraces = false) (D : va_G) (cA : Nat → ClassId) (ad : Nat → Nat) (w : Nat → Option va_E) (sz : Nat) (sc : Nat → Int) (fn : Nat → Int → Int) (hI : bkInv sc fn) (hbk : bookS cA ad w sc fn) (mi : Int) (hmi : (-2147483648 ≤ mi ∧ mi < 2147483648)) (o : Int → Int) (ho : w 301 = some (eJ (cA 2) 1 o)) : Met l yL_wouldShift wsL_wouldShift rmL_wouldShift (gV D cA ad w sz [.ref (ad 0), .int (iI mi), .ref (ad 301)]) (gW D (fun v9 ad1 w1 => ∃ (k : Int) (sc2 : Nat → Int) (fn2 : Nat → Int → Int) (v : Option Value) (o2 : Int → Int), v9 = some (.int (iI k)) ∧ bookS cA ad1 w1 sc2 fn2 ∧ bkInv sc2 fn2 ∧ keepL 301 ad ad1 w w1 ∧ w1 301 = some (eJ (cA 2) 1 o2) ∧ rlP (okM_wouldShift sc fn mi) (erM_wouldShift sc fn mi) sc fn k sc2 fn2 v ∧ (k = 0 → rC v (o2 0)) ∧ 0 ≤ k ∧ k ≤ 3) (gA ad w sz)) 1 6 (gA ad w sz) := by
  refine g_ofH (cc := cL_wouldShift) (maxL := 4) (ret := (some .int)) (hh := [(0, 9, 12, 21), (0, 9, 15, 15)]) (by decide) rfl ?_
  intro p e s m args below meth c s₁ B hml hv
  obtain ⟨hav, hsz, hP, hD0, hK, hB, hZ⟩ := hv
  have hx := B.exec
  have hb := B.bytes
  have hret := B.returns
  have hts := atoms_spec (ws := wsL_wouldShift) B.pre
  have hown : s.vm.findClass RL = some m.cls := findClass_of_methodNamed B.named
  have hlocks := B.notSynchronized
  have hex := vx_table (x := yL_wouldShift) B (hts (.codeWith yL_wouldShift cL_wouldShift 4 (some .int) [(0, 9, 12, 21), (0, 9, 15, 15)]) (by decide +kernel))
  subst hsz
  have hD := hD0.self (sz := s.heap.size)
  generalize hAe : gA ad w s.heap.size = A at hD hZ ⊢
  have hA : ∀ q : Nat, s.heap.size ≤ q → A q := fun q h => by rw [← hAe]; exact Or.inr h
  have hS : va_S A s.heap s.heap [] := va_S.rf
  have he9 : entryFrame m args 4 = F0 m 0 ((lg_sl ([.ref (ad 0), .int (iI mi), .ref (ad 301)] : List Value) ++ List.replicate (4 - (lg_sl ([.ref (ad 0), .int (iI mi), .ref (ad 301)] : List Value)).length) Slot.unset).toArray) [] := by rw [hav, lg_entry_eq]
  rw [he9]
  have hl := lv_entry ([.ref (ad 0), .int (iI mi), .ref (ad 301)] : List Value) (n := 4) (Nat.le_of_ble_eq_true rfl)
  generalize (lg_sl ([.ref (ad 0), .int (iI mi), .ref (ad 301)] : List Value) ++ List.replicate (4 - (lg_sl ([.ref (ad 0), .int (iI mi), .ref (ad 301)] : List Value)).length) Slot.unset).toArray = ls at hl ⊢
  have hl : lv_has ls 4 [(0, .ref (ad 0)), (1, .int (iI mi)), (2, .ref (ad 301))] := hl
  obtain ⟨Q9, hQ9⟩ : ∃ z, z = MQ below (gW D (fun v9 ad1 w1 => ∃ (k : Int) (sc2 : Nat → Int) (fn2 : Nat → Int → Int) (v : Option Value) (o2 : Int → Int), v9 = some (.int (iI k)) ∧ bookS cA ad1 w1 sc2 fn2 ∧ bkInv sc2 fn2 ∧ keepL 301 ad ad1 w w1 ∧ w1 301 = some (eJ (cA 2) 1 o2) ∧ rlP (okM_wouldShift sc fn mi) (erM_wouldShift sc fn mi) sc fn k sc2 fn2 v ∧ (k = 0 → rC v (o2 0)) ∧ 0 ≤ k ∧ k ≤ 3) A) args s 1 6 A := ⟨_, rfl⟩
  rw [← hQ9]
  show W p l e rmL_wouldShift s m args below meth c s.heap [] 0 0 Q9 (F0 m 0 ls [])
  obtain ⟨H, hHe⟩ : ∃ z, z = s.heap := ⟨_, rfl⟩
  obtain ⟨locs, hLe⟩ : ∃ z, z = ([] : List Loc) := ⟨_, rfl⟩
  have hP : gP D vwCl ad w H := by rw [hHe]; exact hP
  have hS : va_S A s.heap H locs := by rw [hHe, hLe]; exact va_S.rf
  rw [show W p l e rmL_wouldShift s m args below meth c s.heap [] 0 0 Q9 (F0 m 0 ls []) = W p l e rmL_wouldShift s m args below meth c H locs 0 0 Q9 (F0 m 0 ls []) by rw [hHe, hLe]]
  clear hHe hLe
  obtain ⟨fs0, hq0⟩ := bookS_0 hbk
  refine lv_aload_n (pc := 0) hx hb dL_wouldShift_0 rfl (lv_at hl 2 rfl) ?_
  refine k_iconst (pc := 1) hx hb dL_wouldShift_1 ?_
  refine lv_aload_n (pc := 2) hx hb dL_wouldShift_2 rfl (lv_at hl 0 rfl) ?_
  refine lv_iload_n (pc := 3) hx hb dL_wouldShift_3 rfl (lv_at hl 1 rfl) ?_
  refine k_callx (pc := 4) (vx_runV (As := [.int (iI mi)]) (rest := [.int (iI 0), .ref (ad 301)]) ⟨hx, hb, hml, hown, hts⟩ (c_X5_wouldShift l hl0 D cA ad w H.size sc fn hI hbk mi hmi) (cwV 1 hts gL_wouldShift_X5_wouldShift rfl rfl rfl (by decide +kernel) ⟨Nat.le_of_ble_eq_true rfl, Nat.le_of_ble_eq_true rfl⟩) (gV_V hP hD hK hB hS hA hZ 0 (ci := 5) rfl hq0) rfl rfl hl.1 rfl (lv_room (Nat.le_of_ble_eq_true rfl)) dL_wouldShift_4 ⟨Nat.le_of_ble_eq_true rfl, Nat.le_of_ble_eq_true rfl⟩) hS (gA_sub hD hS hA) (fun E_4 ce_4 q_4 H locs hpx_4 hP hD hS hce_4 hcv_4 hcl_4 => ?_) (fun v_4 ad_4 w_4 H locs hv_4 hP hD hS => ?_)
  · skip
    rcases hpx_4 with ⟨hE9, hx9⟩ | ⟨hE9, hx9⟩
    · skip
      subst hE9
      refine vx_catch (own := RL) (name := "java/lang/IndexOutOfBoundsException") (E := xIX) hown [] ⟨0, 9, 12, 21⟩ [⟨0, 9, 15, 15⟩] hex (fun z hz => by cases hz) rfl (by decide) (hts (.classLink RL 21 "java/lang/IndexOutOfBoundsException") (by decide +kernel)) (ca_2 hB _) hce_4 hcv_4 hcl_4 ?_
      refine W.eq (g2 := F0 m 12 ls [.ref q_4]) rfl ?_
      refine W.cs (cells' := 1) (slots' := 6) rfl rfl ?_
      refine lv_astore_n (pc := 12) (lv' := [(3, .ref q_4), (0, .ref (ad 0)), (1, .int (iI mi)), (2, .ref (ad 301))]) hx hb dL_wouldShift_12 rfl hl (by decide) rfl (fun ls hl => ?_)
      refine k_iconst (pc := 13) hx hb dL_wouldShift_13 ?_
      rw [hQ9]
      exact W.iret (v := iI 1) hx hb hret (fun t ht hW => ⟨⟨some (.int (iI 1)), ad, w, rfl, ⟨1, sc, fn, none, o, rfl, hbk, hI, ⟨rfl, fun r hr => ⟨rfl, fun _ => rfl⟩⟩, ho, Or.inr ⟨rfl, rfl, Or.inl (⟨rfl, hx9⟩)⟩, (fun h9 => absurd h9 (by decide)), by decide⟩, by rw [ht]; exact hP, hD⟩, hS.F ht⟩) hS.2.2 dL_wouldShift_14
    · skip
      subst hE9
      refine vx_catch (own := RL) (name := "java/lang/IllegalStateException") (E := xIS) hown [⟨0, 9, 12, 21⟩] ⟨0, 9, 15, 15⟩ [] hex (fun z hz => by rcases List.mem_cons.mp hz with hz | hz; (subst hz; exact Or.inr ⟨by decide, _, hts (.classLink RL 21 "java/lang/IndexOutOfBoundsException") (by decide +kernel), nc_3 hB⟩); cases hz) rfl (by decide) (hts (.classLink RL 15 "java/lang/IllegalStateException") (by decide +kernel)) (ca_1 hB _) hce_4 hcv_4 hcl_4 ?_
      refine W.eq (g2 := F0 m 15 ls [.ref q_4]) rfl ?_
      refine W.cs (cells' := 1) (slots' := 6) rfl rfl ?_
      refine lv_astore_n (pc := 15) (lv' := [(3, .ref q_4), (0, .ref (ad 0)), (1, .int (iI mi)), (2, .ref (ad 301))]) hx hb dL_wouldShift_15 rfl hl (by decide) rfl (fun ls hl => ?_)
      refine k_iconst (pc := 16) hx hb dL_wouldShift_16 ?_
      rw [hQ9]
      exact W.iret (v := iI 2) hx hb hret (fun t ht hW => ⟨⟨some (.int (iI 2)), ad, w, rfl, ⟨2, sc, fn, none, o, rfl, hbk, hI, ⟨rfl, fun r hr => ⟨rfl, fun _ => rfl⟩⟩, ho, Or.inr ⟨rfl, rfl, Or.inr (⟨rfl, hx9⟩)⟩, (fun h9 => absurd h9 (by decide)), by decide⟩, by rw [ht]; exact hP, hD⟩, hS.F ht⟩) hS.2.2 dL_wouldShift_17
  · skip
    obtain ⟨sc2, fn2, hb2, hI2, hkp, hok⟩ := hv_4
    have hok : okM_wouldShift sc fn mi sc2 fn2 v_4 := hok
    obtain ⟨z_4, hz_4⟩ := okv_wouldShift hok
    subst hz_4
    have ho2 : w_4 301 = some (eJ (cA 2) 1 o) := (hkp.2 301 (by omega)).1.trans ho
    rw [← hkp.1, ← (hkp.2 301 (by omega)).2] at hl
    rw [← (hkp.2 301 (by omega)).2]
    refine W.eq (g2 := F0 m 7 ls [.int (iI z_4), .int (iI 0), .ref (ad_4 301)]) rfl ?_
    refine W.cs (cells' := 1) (slots' := 6) rfl rfl ?_
    refine k_i2lw (pc := 7) hx hb dL_wouldShift_7 ?_
    refine k_last (pc := 8) (w1 := (up w_4 301 (eJ (cA 2) 1 (updI o 0 (wI z_4))))) hx hb hK hP hD hS 301 2 ho2 rfl (by omega) (by omega) (by omega) rfl dL_wouldShift_8 (fun H locs hP hD hS => ?_)
    refine lv_goto (pc := 9) (tgt := 18) hx hb dL_wouldShift_9 (by decide) ?_
    refine k_iconst (pc := 18) hx hb dL_wouldShift_18 ?_
    rw [hQ9]
    exact W.iret (v := iI 0) hx hb hret (fun t ht hW => ⟨⟨some (.int (iI 0)), ad_4, (up w_4 301 (eJ (cA 2) 1 (updI o 0 (wI z_4)))), rfl, ⟨0, sc2, fn2, some (.int (iI z_4)), updI o 0 (wI z_4), rfl, bookS_of hI2 (fun r hr => ⟨up_n (by omega) rfl, rfl⟩) hb2, hI2, ⟨hkp.1, fun r hr => ⟨(hkp.2 r hr).2, fun h9 => up_n h9 (hkp.2 r hr).1⟩⟩, up_s _ _ _, Or.inl ⟨rfl, hok⟩, (fun _ => rC_i o z_4), by decide⟩, by rw [ht]; exact hP, hD⟩, hS.F ht⟩) hS.2.2 dL_wouldShift_19

abbrev rmL_count : Room := { frames := 7, cells := 1, slots := 6, locals := 103 }
set_option maxHeartbeats 4000000 in
set_option maxRecDepth 100000 in
theorem c_L_count (l : Launch) (hl0 : l.stackTraces = false) (D : va_G) (cA : Nat → ClassId) (ad : Nat → Nat) (w : Nat → Option va_E) (sz : Nat) (sc : Nat → Int) (fn : Nat → Int → Int) (hI : bkInv sc fn) (hbk : bookS cA ad w sc fn) (wh : Int) (hwh : (-2147483648 ≤ wh ∧ wh < 2147483648)) (o : Int → Int) (ho : w 301 = some (eJ (cA 2) 1 o)) : Met l yL_count wsL_count rmL_count (gV D cA ad w sz [.ref (ad 0), .int (iI wh), .ref (ad 301)]) (gW D (fun v9 ad1 w1 => ∃ (k : Int) (sc2 : Nat → Int) (fn2 : Nat → Int → Int) (v : Option Value) (o2 : Int → Int), v9 = some (.int (iI k)) ∧ bookS cA ad1 w1 sc2 fn2 ∧ bkInv sc2 fn2 ∧ keepL 301 ad ad1 w w1 ∧ w1 301 = some (eJ (cA 2) 1 o2) ∧ rlP (okM_count sc fn wh) (erM_count sc fn wh) sc fn k sc2 fn2 v ∧ (k = 0 → rC v (o2 0)) ∧ 0 ≤ k ∧ k ≤ 3) (gA ad w sz)) 1 6 (gA ad w sz) := by
  refine g_ofH (cc := cL_count) (maxL := 4) (ret := (some .int)) (hh := [(0, 9, 12, 21)]) (by decide) rfl ?_
  intro p e s m args below meth c s₁ B hml hv
  obtain ⟨hav, hsz, hP, hD0, hK, hB, hZ⟩ := hv
  have hx := B.exec
  have hb := B.bytes
  have hret := B.returns
  have hts := atoms_spec (ws := wsL_count) B.pre
  have hown : s.vm.findClass RL = some m.cls := findClass_of_methodNamed B.named
  have hlocks := B.notSynchronized
  have hex := vx_table (x := yL_count) B (hts (.codeWith yL_count cL_count 4 (some .int) [(0, 9, 12, 21)]) (by decide +kernel))
  subst hsz
  have hD := hD0.self (sz := s.heap.size)
  generalize hAe : gA ad w s.heap.size = A at hD hZ ⊢
  have hA : ∀ q : Nat, s.heap.size ≤ q → A q := fun q h => by rw [← hAe]; exact Or.inr h
  have hS : va_S A s.heap s.heap [] := va_S.rf
  have he9 : entryFrame m args 4 = F0 m 0 ((lg_sl ([.ref (ad 0), .int (iI wh), .ref (ad 301)] : List Value) ++ List.replicate (4 - (lg_sl ([.ref (ad 0), .int (iI wh), .ref (ad 301)] : List Value)).length) Slot.unset).toArray) [] := by rw [hav, lg_entry_eq]
  rw [he9]
  have hl := lv_entry ([.ref (ad 0), .int (iI wh), .ref (ad 301)] : List Value) (n := 4) (Nat.le_of_ble_eq_true rfl)
  generalize (lg_sl ([.ref (ad 0), .int (iI wh), .ref (ad 301)] : List Value) ++ List.replicate (4 - (lg_sl ([.ref (ad 0), .int (iI wh), .ref (ad 301)] : List Value)).length) Slot.unset).toArray = ls at hl ⊢
  have hl : lv_has ls 4 [(0, .ref (ad 0)), (1, .int (iI wh)), (2, .ref (ad 301))] := hl
  obtain ⟨Q9, hQ9⟩ : ∃ z, z = MQ below (gW D (fun v9 ad1 w1 => ∃ (k : Int) (sc2 : Nat → Int) (fn2 : Nat → Int → Int) (v : Option Value) (o2 : Int → Int), v9 = some (.int (iI k)) ∧ bookS cA ad1 w1 sc2 fn2 ∧ bkInv sc2 fn2 ∧ keepL 301 ad ad1 w w1 ∧ w1 301 = some (eJ (cA 2) 1 o2) ∧ rlP (okM_count sc fn wh) (erM_count sc fn wh) sc fn k sc2 fn2 v ∧ (k = 0 → rC v (o2 0)) ∧ 0 ≤ k ∧ k ≤ 3) A) args s 1 6 A := ⟨_, rfl⟩
  rw [← hQ9]
  show W p l e rmL_count s m args below meth c s.heap [] 0 0 Q9 (F0 m 0 ls [])
  obtain ⟨H, hHe⟩ : ∃ z, z = s.heap := ⟨_, rfl⟩
  obtain ⟨locs, hLe⟩ : ∃ z, z = ([] : List Loc) := ⟨_, rfl⟩
  have hP : gP D vwCl ad w H := by rw [hHe]; exact hP
  have hS : va_S A s.heap H locs := by rw [hHe, hLe]; exact va_S.rf
  rw [show W p l e rmL_count s m args below meth c s.heap [] 0 0 Q9 (F0 m 0 ls []) = W p l e rmL_count s m args below meth c H locs 0 0 Q9 (F0 m 0 ls []) by rw [hHe, hLe]]
  clear hHe hLe
  obtain ⟨fs0, hq0⟩ := bookS_0 hbk
  refine lv_aload_n (pc := 0) hx hb dL_count_0 rfl (lv_at hl 2 rfl) ?_
  refine k_iconst (pc := 1) hx hb dL_count_1 ?_
  refine lv_aload_n (pc := 2) hx hb dL_count_2 rfl (lv_at hl 0 rfl) ?_
  refine lv_iload_n (pc := 3) hx hb dL_count_3 rfl (lv_at hl 1 rfl) ?_
  refine k_callx (pc := 4) (vx_runV (As := [.int (iI wh)]) (rest := [.int (iI 0), .ref (ad 301)]) ⟨hx, hb, hml, hown, hts⟩ (c_X5_count l hl0 D cA ad w H.size sc fn hI hbk wh hwh) (cwV 1 hts gL_count_X5_count rfl rfl rfl (by decide +kernel) ⟨Nat.le_of_ble_eq_true rfl, Nat.le_of_ble_eq_true rfl⟩) (gV_V hP hD hK hB hS hA hZ 0 (ci := 5) rfl hq0) rfl rfl hl.1 rfl (lv_room (Nat.le_of_ble_eq_true rfl)) dL_count_4 ⟨Nat.le_of_ble_eq_true rfl, Nat.le_of_ble_eq_true rfl⟩) hS (gA_sub hD hS hA) (fun E_4 ce_4 q_4 H locs hpx_4 hP hD hS hce_4 hcv_4 hcl_4 => ?_) (fun v_4 ad_4 w_4 H locs hv_4 hP hD hS => ?_)
  · skip
    obtain ⟨hE9, hx9⟩ := hpx_4
    subst hE9
    refine vx_catch (own := RL) (name := "java/lang/IndexOutOfBoundsException") (E := xIX) hown [] ⟨0, 9, 12, 21⟩ [] hex (fun z hz => by cases hz) rfl (by decide) (hts (.classLink RL 21 "java/lang/IndexOutOfBoundsException") (by decide +kernel)) (ca_2 hB _) hce_4 hcv_4 hcl_4 ?_
    refine W.eq (g2 := F0 m 12 ls [.ref q_4]) rfl ?_
    refine W.cs (cells' := 1) (slots' := 6) rfl rfl ?_
    refine lv_astore_n (pc := 12) (lv' := [(3, .ref q_4), (0, .ref (ad 0)), (1, .int (iI wh)), (2, .ref (ad 301))]) hx hb dL_count_12 rfl hl (by decide) rfl (fun ls hl => ?_)
    refine k_iconst (pc := 13) hx hb dL_count_13 ?_
    rw [hQ9]
    exact W.iret (v := iI 1) hx hb hret (fun t ht hW => ⟨⟨some (.int (iI 1)), ad, w, rfl, ⟨1, sc, fn, none, o, rfl, hbk, hI, ⟨rfl, fun r hr => ⟨rfl, fun _ => rfl⟩⟩, ho, Or.inr ⟨rfl, rfl, ⟨rfl, hx9⟩⟩, (fun h9 => absurd h9 (by decide)), by decide⟩, by rw [ht]; exact hP, hD⟩, hS.F ht⟩) hS.2.2 dL_count_14
  · skip
    obtain ⟨hv1, hv2, hok⟩ := hv_4
    obtain ⟨sc2, hsc2⟩ : ∃ z, z = sc := ⟨_, rfl⟩
    obtain ⟨fn2, hfn2⟩ : ∃ z, z = fn := ⟨_, rfl⟩
    have hb2 : bookS cA ad_4 w_4 sc2 fn2 := by rw [hv1, hv2, hsc2, hfn2]; exact hbk
    have hI2 : bkInv sc2 fn2 := by rw [hsc2, hfn2]; exact hI
    have hkp : keepR ad ad_4 w w_4 := ⟨by rw [hv1], fun r hr => by rw [hv1, hv2]; exact ⟨rfl, rfl⟩⟩
    have hok : okM_count sc fn wh sc2 fn2 v_4 := ⟨hsc2, hfn2, hok⟩
    obtain ⟨z_4, hz_4⟩ := okv_count hok
    subst hz_4
    have ho2 : w_4 301 = some (eJ (cA 2) 1 o) := (hkp.2 301 (by omega)).1.trans ho
    rw [← hkp.1, ← (hkp.2 301 (by omega)).2] at hl
    rw [← (hkp.2 301 (by omega)).2]
    refine W.eq (g2 := F0 m 7 ls [.int (iI z_4), .int (iI 0), .ref (ad_4 301)]) rfl ?_
    refine W.cs (cells' := 1) (slots' := 6) rfl rfl ?_
    refine k_i2lw (pc := 7) hx hb dL_count_7 ?_
    refine k_last (pc := 8) (w1 := (up w_4 301 (eJ (cA 2) 1 (updI o 0 (wI z_4))))) hx hb hK hP hD hS 301 2 ho2 rfl (by omega) (by omega) (by omega) rfl dL_count_8 (fun H locs hP hD hS => ?_)
    refine lv_goto (pc := 9) (tgt := 15) hx hb dL_count_9 (by decide) ?_
    refine k_iconst (pc := 15) hx hb dL_count_15 ?_
    rw [hQ9]
    exact W.iret (v := iI 0) hx hb hret (fun t ht hW => ⟨⟨some (.int (iI 0)), ad_4, (up w_4 301 (eJ (cA 2) 1 (updI o 0 (wI z_4)))), rfl, ⟨0, sc2, fn2, some (.int (iI z_4)), updI o 0 (wI z_4), rfl, bookS_of hI2 (fun r hr => ⟨up_n (by omega) rfl, rfl⟩) hb2, hI2, ⟨hkp.1, fun r hr => ⟨(hkp.2 r hr).2, fun h9 => up_n h9 (hkp.2 r hr).1⟩⟩, up_s _ _ _, Or.inl ⟨rfl, hok⟩, (fun _ => rC_i o z_4), by decide⟩, by rw [ht]; exact hP, hD⟩, hS.F ht⟩) hS.2.2 dL_count_16
