abbrev rmX1_fillGaps : Room := { frames := 2, cells := 0, slots := 0, locals := 54 }
set_option maxHeartbeats 4000000 in
set_option maxRecDepth 100000 in
theorem c_X1_fillGaps (l : Launch) (D : va_G) (cA : Nat → ClassId) (ad : Nat → Nat) (w : Nat → Option va_E) (sz : Nat) (r0 r1 r2 : Nat) (F S : Int → Int) (h0 : w r0 = some (oB 1 [.ref (ad r1), .ref (ad r2)])) (h1 : w r1 = some (eJ (cA 2) 400 F)) (h2 : w r2 = some (eI (cA 0) 400 S)) (hF : ∀ j : Int, -1 ≤ F j ∧ F j ≤ 1000000000000) (hS9 : ∀ j : Int, 0 ≤ S j ∧ S j ≤ 3) (h01 : r0 ≠ r1) (h02 : r0 ≠ r2) (h12 : r1 ≠ r2) (ht : tbOk F S) (lm : Int) (hlm : 0 ≤ lm ∧ lm ≤ 60) : Met l yX1_fillGaps wsX1_fillGaps rmX1_fillGaps (gV D cA ad w sz [.ref (ad r0), .int (iI lm)]) (gW D (fun v9 ad1 w1 => v9 = none ∧ ad1 = ad ∧ w1 = up (up w r1 (eJ (cA 2) 400 (finF F S lm))) r2 (eI (cA 0) 400 (finS F S lm))) (gA ad w sz)) 0 0 (gA ad w sz) := by
  refine Met.ofW (cc := cX1_fillGaps) (maxL := 4) (ret := none) (by decide) rfl ?_
  intro p e s m args below meth c s₁ B hml hv
  obtain ⟨hav, hsz, hP, hD0, hK, hB, hZ⟩ := hv
  have hx := B.exec
  have hb := B.bytes
  have hret := B.returns
  have hts := atoms_spec (ws := wsX1_fillGaps) B.pre
  have hown : s.vm.findClass RX1 = some m.cls := findClass_of_methodNamed B.named
  have hlocks := B.notSynchronized
  subst hsz
  have hD := hD0.self (sz := s.heap.size)
  generalize hAe : gA ad w s.heap.size = A at hD hZ ⊢
  have hA : ∀ q : Nat, s.heap.size ≤ q → A q := fun q h => by rw [← hAe]; exact Or.inr h
  have hS : va_S A s.heap s.heap [] := va_S.rf
  have he9 : entryFrame m args 4 = F0 m 0 ((lg_sl ([.ref (ad r0), .int (iI lm)] : List Value) ++ List.replicate (4 - (lg_sl ([.ref (ad r0), .int (iI lm)] : List Value)).length) Slot.unset).toArray) [] := by rw [hav, lg_entry_eq]
  rw [he9]
  have hl := lv_entry ([.ref (ad r0), .int (iI lm)] : List Value) (n := 4) (Nat.le_of_ble_eq_true rfl)
  generalize (lg_sl ([.ref (ad r0), .int (iI lm)] : List Value) ++ List.replicate (4 - (lg_sl ([.ref (ad r0), .int (iI lm)] : List Value)).length) Slot.unset).toArray = ls at hl ⊢
  have hl : lv_has ls 4 [(0, .ref (ad r0)), (1, .int (iI lm))] := hl
  obtain ⟨Q9, hQ9⟩ : ∃ z, z = MQ below (gW D (fun v9 ad1 w1 => v9 = none ∧ ad1 = ad ∧ w1 = up (up w r1 (eJ (cA 2) 400 (finF F S lm))) r2 (eI (cA 0) 400 (finS F S lm))) A) args s 0 0 A := ⟨_, rfl⟩
  rw [← hQ9]
  show W p l e rmX1_fillGaps s m args below meth c s.heap [] 0 0 Q9 (F0 m 0 ls [])
  obtain ⟨H, hHe⟩ : ∃ z, z = s.heap := ⟨_, rfl⟩
  obtain ⟨locs, hLe⟩ : ∃ z, z = ([] : List Loc) := ⟨_, rfl⟩
  have hP : gP D vwCl ad w H := by rw [hHe]; exact hP
  have hS : va_S A s.heap H locs := by rw [hHe, hLe]; exact va_S.rf
  rw [show W p l e rmX1_fillGaps s m args below meth c s.heap [] 0 0 Q9 (F0 m 0 ls []) = W p l e rmX1_fillGaps s m args below meth c H locs 0 0 Q9 (F0 m 0 ls []) by rw [hHe, hLe]]
  clear hHe hLe
  refine k_iconst (pc := 0) hx hb dX1_fillGaps_0 ?_
  refine lv_istore_n (pc := 1) (lv' := [(2, .int (iI (-1))), (0, .ref (ad r0)), (1, .int (iI lm))]) hx hb dX1_fillGaps_1 rfl hl (by decide) rfl (fun ls hl => ?_)
  refine k_iconst (pc := 2) hx hb dX1_fillGaps_2 ?_
  refine lv_istore_n (pc := 3) (lv' := [(3, .int (iI 0)), (2, .int (iI (-1))), (0, .ref (ad r0)), (1, .int (iI lm))]) hx hb dX1_fillGaps_3 rfl hl (by decide) rfl (fun ls hl => ?_)
  have lp_4 : ∀ (N9 : Nat) (d : Int) (a : Int) (G : Int → Int) (T : Int → Int), (0 ≤ d ∧ d ≤ 400 ∧ -1 ≤ a ∧ a < d) → (∀ j : Int, -1 ≤ G j ∧ G j ≤ 1000000000000) → (∀ j : Int, 0 ≤ T j ∧ T j ≤ 3) → (a = -1 ∨ (0 ≤ a ∧ S a ≠ 0)) → (∀ j : Int, a < j → 0 ≤ j → j < d → S j = 0) → (∀ j : Int, 0 ≤ j → j ≤ a → finP F S lm j (G j) (T j)) → (∀ j : Int, a < j → 0 ≤ j → j < 400 → G j = F j ∧ T j = S j) → (400 - d).toNat < N9 → ∀ (H : Heap) (locs : List Loc), gP D vwCl ad (up (up w r1 (eJ (cA 2) 400 G)) r2 (eI (cA 0) 400 T)) H → gD A ad (up (up w r1 (eJ (cA 2) 400 G)) r2 (eI (cA 0) 400 T)) → va_S A s.heap H locs → ∀ (ls : Array Slot), lv_has ls 4 [(3, .int (iI d)), (2, .int (iI a)), (0, .ref (ad r0)), (1, .int (iI lm))] → W p l e rmX1_fillGaps s m args below meth c H locs 0 0 Q9 (F0 m 4 ls []) := by
    intro N9
    induction N9 with
    | zero => intro d a G T i0 iG iT iA iN iF iU hmu; exact absurd hmu (Nat.not_lt_zero _)
    | succ N9 ih_4 =>
      intro d a G T i0 iG iT iA iN iF iU hmu_4 H locs hP hD hS ls hl
      refine lv_iload_n (pc := 4) hx hb dX1_fillGaps_4 rfl (lv_at hl 0 rfl) ?_
      refine k_sipush (pc := 5) hx hb dX1_fillGaps_5 (by decide +kernel) ?_
      refine k_icmp_ge (pc := 8) (tgt := 47) hx hb ⟨by omega, by omega⟩ ⟨by omega, by omega⟩ dX1_fillGaps_8 (by decide) (fun hc_8 => ?_) (fun hc_8 => ?_)
      · skip
        have hfin := fg_end (F := F) (S := S) (lim := lm) (G := G) (T := T) (a := a) (by omega) (fun j g1 g2 g3 => iN j g1 g2 (by omega)) ht.2.2.2 iU iF
        obtain ⟨hP, hD⟩ := tb_canon h12 hP hD hfin
        rw [hQ9]
        exact W.vret hx hb hret (fun t ht hW => ⟨⟨none, ad, (up (up w r1 (eJ (cA 2) 400 (finF F S lm))) r2 (eI (cA 0) 400 (finS F S lm))), rfl, ⟨rfl, rfl, rfl⟩, by rw [ht]; exact hP, hD⟩, hS.F ht⟩) hS.2.2 dX1_fillGaps_47
      · skip
        refine lv_aload_n (pc := 11) hx hb dX1_fillGaps_11 rfl (lv_at hl 2 rfl) ?_
        refine lv_iload_n (pc := 12) hx hb dX1_fillGaps_12 rfl (lv_at hl 0 rfl) ?_
        refine k_call0 (pc := 13) (va_runV (As := [.int (iI d)]) (rest := []) ⟨hx, hb, hml, hown, hts⟩ (c_X1_hasFlow l D cA ad (up (up w r1 (eJ (cA 2) 400 G)) r2 (eI (cA 0) 400 T)) r0 r1 r2 G T (up_n h02 (up_n h01 h0)) (up_n h12 (up_s _ _ _)) (up_s _ _ _) iG iT d ⟨by omega, by omega⟩) (cwV 1 hts gX1_fillGaps_X1_hasFlow rfl rfl rfl (by decide +kernel) ⟨Nat.le_of_ble_eq_true rfl, Nat.le_of_ble_eq_true rfl⟩) (gR_V hP hK hB r0 (ci := 1) rfl (up_n h02 (up_n h01 h0))) rfl rfl hl.1 rfl (lv_room (Nat.le_of_ble_eq_true rfl)) dX1_fillGaps_13 ⟨Nat.le_of_ble_eq_true rfl, Nat.le_of_ble_eq_true rfl⟩) (fun v_13 hv_13 => ?_)
        obtain ⟨z_13, rfl, hz_13⟩ := hv_13
        refine W.eq (g2 := F0 m 16 ls [.int (iI z_13)]) rfl ?_
        have b_13 := hz_13
        refine k_if_eq (pc := 16) (tgt := 41) hx hb ⟨by omega, by omega⟩ dX1_fillGaps_16 (by decide) (fun hc_16 => ?_) (fun hc_16 => ?_)
        · skip
          refine lv_iinc (pc := 41) (v := iI (d + 1)) (lv' := [(3, .int (iI (d + 1))), (2, .int (iI a)), (0, .ref (ad r0)), (1, .int (iI lm))]) hx hb dX1_fillGaps_41 hl (k := 0) rfl (iI_add _ _) (by decide) rfl (fun ls hl => ?_)
          refine lv_goto (pc := 44) (tgt := 4) hx hb dX1_fillGaps_44 (by decide) ?_
          have e1 := (iU d (by omega) (by omega) (by omega)).2
          have e2 := b_13
          exact ih_4 (d + 1) a G T (by omega) iG iT iA (fun j g1 g2 g3 => by rcases Int.lt_or_le j d with g4 | g4; exact iN j g1 g2 g4; rw [show j = d by omega]; omega) iF iU (by omega) H locs hP hD hS ls (lv_sub hl [0, 1, 2, 3] rfl)
        · skip
          refine lv_iload_n (pc := 19) hx hb dX1_fillGaps_19 rfl (lv_at hl 1 rfl) ?_
          refine k_iconst (pc := 20) hx hb dX1_fillGaps_20 ?_
          refine k_icmp_eq (pc := 21) (tgt := 39) hx hb ⟨by omega, by omega⟩ ⟨by omega, by omega⟩ dX1_fillGaps_21 (by decide) (fun hc_21 => ?_) (fun hc_21 => ?_)
          · skip
            refine lv_iload_n (pc := 39) hx hb dX1_fillGaps_39 rfl (lv_at hl 0 rfl) ?_
            refine lv_istore_n (pc := 40) (lv' := [(2, .int (iI d)), (3, .int (iI d)), (0, .ref (ad r0)), (1, .int (iI lm))]) hx hb dX1_fillGaps_40 rfl hl (by decide) rfl (fun ls hl => ?_)
            refine lv_iinc (pc := 41) (v := iI (d + 1)) (lv' := [(3, .int (iI (d + 1))), (2, .int (iI d)), (0, .ref (ad r0)), (1, .int (iI lm))]) hx hb dX1_fillGaps_41 hl (k := 1) rfl (iI_add _ _) (by decide) rfl (fun ls hl => ?_)
            refine lv_goto (pc := 44) (tgt := 4) hx hb dX1_fillGaps_44 (by decide) ?_
            have e1 := (iU d (by omega) (by omega) (by omega)).2
            have e3 : S d ≠ 0 := by omega
            have e5 : ∀ j : Int, 0 ≤ j → j ≤ d → finP F S lm j (G j) (T j) := by
              rcases iA with e4 | e4
              · exact fg_none (fun j g1 g2 => iN j (by omega) g1 g2) ht.2.2.2 e3 (by omega) (fun j g1 g2 => iU j (by omega) g1 g2)
              · exact fg_long (a := a) (by omega) e4.2 (fun j g1 g2 => iN j g1 (by omega) g2) ht.2.2.2 e3 (by omega) (by omega) (fun j g1 g2 => iU j g1 (by omega) g2) iF
            exact ih_4 (d + 1) d G T (by omega) iG iT (Or.inr ⟨by omega, e3⟩) (fun j g1 g2 g3 => by omega) e5 (fun j g1 g2 g3 => iU j (by omega) g2 g3) (by omega) H locs hP hD hS ls (lv_sub hl [0, 1, 2, 3] rfl)
          · skip
            refine lv_iload_n (pc := 24) hx hb dX1_fillGaps_24 rfl (lv_at hl 0 rfl) ?_
            refine lv_iload_n (pc := 25) hx hb dX1_fillGaps_25 rfl (lv_at hl 1 rfl) ?_
            refine k_isub (pc := 26) hx hb dX1_fillGaps_26 ?_
            refine k_iconst (pc := 27) hx hb dX1_fillGaps_27 ?_
            refine k_isub (pc := 28) hx hb dX1_fillGaps_28 ?_
            refine lv_iload_n (pc := 29) hx hb dX1_fillGaps_29 rfl (lv_at hl 3 rfl) ?_
            refine k_icmp_gt (pc := 30) (tgt := 39) hx hb ⟨by omega, by omega⟩ ⟨by omega, by omega⟩ dX1_fillGaps_30 (by decide) (fun hc_30 => ?_) (fun hc_30 => ?_)
            · skip
              refine lv_iload_n (pc := 39) hx hb dX1_fillGaps_39 rfl (lv_at hl 0 rfl) ?_
              refine lv_istore_n (pc := 40) (lv' := [(2, .int (iI d)), (3, .int (iI d)), (0, .ref (ad r0)), (1, .int (iI lm))]) hx hb dX1_fillGaps_40 rfl hl (by decide) rfl (fun ls hl => ?_)
              refine lv_iinc (pc := 41) (v := iI (d + 1)) (lv' := [(3, .int (iI (d + 1))), (2, .int (iI d)), (0, .ref (ad r0)), (1, .int (iI lm))]) hx hb dX1_fillGaps_41 hl (k := 1) rfl (iI_add _ _) (by decide) rfl (fun ls hl => ?_)
              refine lv_goto (pc := 44) (tgt := 4) hx hb dX1_fillGaps_44 (by decide) ?_
              have e1 := (iU d (by omega) (by omega) (by omega)).2
              have e3 : S d ≠ 0 := by omega
              have e5 : ∀ j : Int, 0 ≤ j → j ≤ d → finP F S lm j (G j) (T j) := by
                rcases iA with e4 | e4
                · exact fg_none (fun j g1 g2 => iN j (by omega) g1 g2) ht.2.2.2 e3 (by omega) (fun j g1 g2 => iU j (by omega) g1 g2)
                · exact fg_long (a := a) (by omega) e4.2 (fun j g1 g2 => iN j g1 (by omega) g2) ht.2.2.2 e3 (by omega) (by omega) (fun j g1 g2 => iU j g1 (by omega) g2) iF
              exact ih_4 (d + 1) d G T (by omega) iG iT (Or.inr ⟨by omega, e3⟩) (fun j g1 g2 g3 => by omega) e5 (fun j g1 g2 g3 => iU j (by omega) g2 g3) (by omega) H locs hP hD hS ls (lv_sub hl [0, 1, 2, 3] rfl)
            · skip
              refine lv_aload_n (pc := 33) hx hb dX1_fillGaps_33 rfl (lv_at hl 2 rfl) ?_
              refine lv_iload_n (pc := 34) hx hb dX1_fillGaps_34 rfl (lv_at hl 1 rfl) ?_
              refine lv_iload_n (pc := 35) hx hb dX1_fillGaps_35 rfl (lv_at hl 0 rfl) ?_
              refine k_call1 (pc := 36) (va_runV (As := [.int (iI a), .int (iI d)]) (rest := []) ⟨hx, hb, hml, hown, hts⟩ (c_X1_fillBetween l D cA ad (up (up w r1 (eJ (cA 2) 400 G)) r2 (eI (cA 0) 400 T)) H.size r0 r1 r2 G T (up_n h02 (up_n h01 h0)) (up_n h12 (up_s _ _ _)) (up_s _ _ _) iG iT h01 h02 h12 a d (by omega)) (cwV 2 hts gX1_fillGaps_X1_fillBetween rfl rfl rfl (by decide +kernel) ⟨Nat.le_of_ble_eq_true rfl, Nat.le_of_ble_eq_true rfl⟩) (gV_V hP hD hK hB hS hA hZ r0 (ci := 1) rfl (up_n h02 (up_n h01 h0))) rfl rfl hl.1 rfl (lv_room (Nat.le_of_ble_eq_true rfl)) dX1_fillGaps_36 ⟨Nat.le_of_ble_eq_true rfl, Nat.le_of_ble_eq_true rfl⟩) hS (gA_sub hD hS hA) (fun v_36 ad_36 w_36 H locs hv_36 hP hD hS => ?_)
              obtain ⟨hv1, hv2, hv3⟩ := hv_36
              subst hv1
              rw [hv2, hv3] at hP hD
              rw [show up ((up (up w r1 (eJ (cA 2) 400 G)) r2 (eI (cA 0) 400 T))) r1 (eJ (cA 2) 400 (flF G a d d)) = _ from ((up_co _ _ _ (Ne.symm h12)).trans (congrArg (fun u => up u r2 _) (up_up _ _ _ _)))] at hP hD
              rw [(up_up _ _ _ _)] at hP hD
              refine W.eq (g2 := F0 m 39 ls []) rfl ?_
              refine W.cs (cells' := 0) (slots' := 0) rfl rfl ?_
              refine lv_iload_n (pc := 39) hx hb dX1_fillGaps_39 rfl (lv_at hl 0 rfl) ?_
              refine lv_istore_n (pc := 40) (lv' := [(2, .int (iI d)), (3, .int (iI d)), (0, .ref (ad r0)), (1, .int (iI lm))]) hx hb dX1_fillGaps_40 rfl hl (by decide) rfl (fun ls hl => ?_)
              refine lv_iinc (pc := 41) (v := iI (d + 1)) (lv' := [(3, .int (iI (d + 1))), (2, .int (iI d)), (0, .ref (ad r0)), (1, .int (iI lm))]) hx hb dX1_fillGaps_41 hl (k := 1) rfl (iI_add _ _) (by decide) rfl (fun ls hl => ?_)
              refine lv_goto (pc := 44) (tgt := 4) hx hb dX1_fillGaps_44 (by decide) ?_
              have e1 := (iU d (by omega) (by omega) (by omega)).2
              have e3 : S d ≠ 0 := by omega
              exact ih_4 (d + 1) d (flF G a d d) (flS T a d) (by omega) (flF_b iG (by omega)) (flS_b iT) (Or.inr ⟨by omega, e3⟩) (fun j g1 g2 g3 => by omega) (fg_fill (by omega) (by omega) (fun j g1 g2 => iN j g1 (by omega) g2) e3 (by omega) (by omega) (fun j g1 g2 => iU j g1 (by omega) g2) iF) (fun j g1 g2 g3 => by unfold flF flS; rw [if_neg (by omega), if_neg (by omega)]; exact iU j (by omega) g2 g3) (by omega) H locs hP hD hS ls (lv_sub hl [0, 1, 2, 3] rfl)
  have hW9 : (w) = (up (up w r1 (eJ (cA 2) 400 F)) r2 (eI (cA 0) 400 S)) := by rw [up_self h1, up_self h2]
  rw [hW9] at hP hD
  exact lp_4 _ 0 (-1) F S (by omega) hF hS9 (Or.inl rfl) (fun j g1 g2 g3 => by omega) (fun j g1 g2 => by omega) (fun j g1 g2 g3 => ⟨rfl, rfl⟩) (Nat.lt_succ_self _) H locs hP hD hS ls (lv_sub hl [0, 1, 2, 3] rfl)

abbrev rmX1_daysWithFlow : Room := { frames := 2, cells := 0, slots := 0, locals := 42 }
set_option maxHeartbeats 4000000 in
set_option maxRecDepth 100000 in
theorem c_X1_daysWithFlow (l : Launch) (D : va_G) (cA : Nat → ClassId) (ad : Nat → Nat) (w : Nat → Option va_E) (r0 r1 r2 : Nat) (F S : Int → Int) (h0 : w r0 = some (oB 1 [.ref (ad r1), .ref (ad r2)])) (h1 : w r1 = some (eJ (cA 2) 400 F)) (h2 : w r2 = some (eI (cA 0) 400 S)) (hF : ∀ j : Int, -1 ≤ F j ∧ F j ≤ 1000000000000) (hS9 : ∀ j : Int, 0 ≤ S j ∧ S j ≤ 3) (fr to_ : Int) (hr9 : 0 ≤ fr ∧ fr ≤ to_ ∧ to_ < 400) : Met l yX1_daysWithFlow wsX1_daysWithFlow rmX1_daysWithFlow (gR D cA ad w [.ref (ad r0), .int (iI fr), .int (iI to_)]) (gR0 (fun v9 => ∃ z : Int, v9 = some (.int (iI z)) ∧ z = cntT S fr (to_ + 1 - fr).toNat)) 0 0 (fun _ => False) := by
  refine Met.ofW (cc := cX1_daysWithFlow) (maxL := 5) (ret := (some .int)) (by decide) rfl ?_
  intro p e s m args below meth c s₁ B hml hv
  obtain ⟨hav, hP, hK, hB⟩ := hv
  have hx := B.exec
  have hb := B.bytes
  have hret := B.returns
  have hts := atoms_spec (ws := wsX1_daysWithFlow) B.pre
  have hown : s.vm.findClass RX1 = some m.cls := findClass_of_methodNamed B.named
  have hlocks := B.notSynchronized
  have hS : va_S (fun _ => False) s.heap s.heap [] := va_S.rf
  have he9 : entryFrame m args 5 = F0 m 0 ((lg_sl ([.ref (ad r0), .int (iI fr), .int (iI to_)] : List Value) ++ List.replicate (5 - (lg_sl ([.ref (ad r0), .int (iI fr), .int (iI to_)] : List Value)).length) Slot.unset).toArray) [] := by rw [hav, lg_entry_eq]
  rw [he9]
  have hl := lv_entry ([.ref (ad r0), .int (iI fr), .int (iI to_)] : List Value) (n := 5) (Nat.le_of_ble_eq_true rfl)
  generalize (lg_sl ([.ref (ad r0), .int (iI fr), .int (iI to_)] : List Value) ++ List.replicate (5 - (lg_sl ([.ref (ad r0), .int (iI fr), .int (iI to_)] : List Value)).length) Slot.unset).toArray = ls at hl ⊢
  have hl : lv_has ls 5 [(0, .ref (ad r0)), (1, .int (iI fr)), (2, .int (iI to_))] := hl
  obtain ⟨Q9, hQ9⟩ : ∃ z, z = MQ below (gR0 (fun v9 => ∃ z : Int, v9 = some (.int (iI z)) ∧ z = cntT S fr (to_ + 1 - fr).toNat)) args s 0 0 (fun _ => False) := ⟨_, rfl⟩
  rw [← hQ9]
  show W p l e rmX1_daysWithFlow s m args below meth c s.heap [] 0 0 Q9 (F0 m 0 ls [])
  refine k_iconst (pc := 0) hx hb dX1_daysWithFlow_0 ?_
  refine lv_istore_n (pc := 1) (lv' := [(3, .int (iI 0)), (0, .ref (ad r0)), (1, .int (iI fr)), (2, .int (iI to_))]) hx hb dX1_daysWithFlow_1 rfl hl (by decide) rfl (fun ls hl => ?_)
  refine lv_iload_n (pc := 2) hx hb dX1_daysWithFlow_2 rfl (lv_at hl 2 rfl) ?_
  refine lv_istore (pc := 3) (lv' := [(4, .int (iI fr)), (3, .int (iI 0)), (0, .ref (ad r0)), (1, .int (iI fr)), (2, .int (iI to_))]) hx hb dX1_daysWithFlow_3 hl (by decide) rfl (fun ls hl => ?_)
  have lp_5 : ∀ (N9 : Nat) (d : Int) (x : Int), (fr ≤ d ∧ d ≤ to_ + 1) → (x = cntT S fr (d - fr).toNat) → (to_ + 1 - d).toNat < N9 → ∀ (ls : Array Slot), lv_has ls 5 [(4, .int (iI d)), (3, .int (iI x)), (0, .ref (ad r0)), (1, .int (iI fr)), (2, .int (iI to_))] → W p l e rmX1_daysWithFlow s m args below meth c s.heap [] 0 0 Q9 (F0 m 5 ls []) := by
    intro N9
    induction N9 with
    | zero => intro d x i0 iC hmu; exact absurd hmu (Nat.not_lt_zero _)
    | succ N9 ih_5 =>
      intro d x i0 iC hmu_5 ls hl
      refine lv_iload (pc := 5) hx hb dX1_daysWithFlow_5 (lv_at hl 0 rfl) ?_
      refine lv_iload_n (pc := 7) hx hb dX1_daysWithFlow_7 rfl (lv_at hl 4 rfl) ?_
      refine k_icmp_gt (pc := 8) (tgt := 29) hx hb ⟨by omega, by omega⟩ ⟨by omega, by omega⟩ dX1_daysWithFlow_8 (by decide) (fun hc_8 => ?_) (fun hc_8 => ?_)
      · skip
        refine lv_iload_n (pc := 29) hx hb dX1_daysWithFlow_29 rfl (lv_at hl 1 rfl) ?_
        rw [hQ9]
        exact W.iret (v := iI x) hx hb hret (fun t ht hW => ⟨some (.int (iI x)), rfl, ⟨x, rfl, by rw [iC, show d = to_ + 1 by omega]⟩, ht⟩) (fun q hq => by cases hq) dX1_daysWithFlow_30
      · skip
        refine lv_aload_n (pc := 11) hx hb dX1_daysWithFlow_11 rfl (lv_at hl 2 rfl) ?_
        refine lv_iload (pc := 12) hx hb dX1_daysWithFlow_12 (lv_at hl 0 rfl) ?_
        refine k_call0 (pc := 14) (va_runV (As := [.int (iI d)]) (rest := []) ⟨hx, hb, hml, hown, hts⟩ (c_X1_hasFlow l D cA ad w r0 r1 r2 F S h0 h1 h2 hF hS9 d ⟨by omega, by omega⟩) (cwV 1 hts gX1_daysWithFlow_X1_hasFlow rfl rfl rfl (by decide +kernel) ⟨Nat.le_of_ble_eq_true rfl, Nat.le_of_ble_eq_true rfl⟩) (gR_V hP hK hB r0 (ci := 1) rfl h0) rfl rfl hl.1 rfl (lv_room (Nat.le_of_ble_eq_true rfl)) dX1_daysWithFlow_14 ⟨Nat.le_of_ble_eq_true rfl, Nat.le_of_ble_eq_true rfl⟩) (fun v_14 hv_14 => ?_)
        obtain ⟨z_14, rfl, hz_14⟩ := hv_14
        refine W.eq (g2 := F0 m 17 ls [.int (iI z_14)]) rfl ?_
        refine k_if_eq (pc := 17) (tgt := 23) hx hb ⟨by omega, by omega⟩ dX1_daysWithFlow_17 (by decide) (fun hc_17 => ?_) (fun hc_17 => ?_)
        · skip
          refine lv_iinc (pc := 23) (v := iI (d + 1)) (lv' := [(4, .int (iI (d + 1))), (3, .int (iI x)), (0, .ref (ad r0)), (1, .int (iI fr)), (2, .int (iI to_))]) hx hb dX1_daysWithFlow_23 hl (k := 0) rfl (iI_add _ _) (by decide) rfl (fun ls hl => ?_)
          refine lv_goto (pc := 26) (tgt := 5) hx hb dX1_daysWithFlow_26 (by decide) ?_
          exact ih_5 (d + 1) x (by omega) (by rw [cntT_s S (by omega)]; first | (rw [if_pos (by omega)]; omega) | (rw [if_neg (by omega)]; omega)) (by omega) ls (lv_sub hl [0, 1, 2, 3, 4] rfl)
        · skip
          refine lv_iinc (pc := 20) (v := iI (x + 1)) (lv' := [(3, .int (iI (x + 1))), (4, .int (iI d)), (0, .ref (ad r0)), (1, .int (iI fr)), (2, .int (iI to_))]) hx hb dX1_daysWithFlow_20 hl (k := 1) rfl (iI_add _ _) (by decide) rfl (fun ls hl => ?_)
          refine lv_iinc (pc := 23) (v := iI (d + 1)) (lv' := [(4, .int (iI (d + 1))), (3, .int (iI (x + 1))), (0, .ref (ad r0)), (1, .int (iI fr)), (2, .int (iI to_))]) hx hb dX1_daysWithFlow_23 hl (k := 1) rfl (iI_add _ _) (by decide) rfl (fun ls hl => ?_)
          refine lv_goto (pc := 26) (tgt := 5) hx hb dX1_daysWithFlow_26 (by decide) ?_
          exact ih_5 (d + 1) (x + 1) (by omega) (by rw [cntT_s S (by omega)]; first | (rw [if_pos (by omega)]; omega) | (rw [if_neg (by omega)]; omega)) (by omega) ls (lv_sub hl [0, 1, 2, 3, 4] rfl)
  exact lp_5 _ fr 0 (by omega) (by rw [show (fr - fr).toNat = 0 by omega]; rfl) (Nat.lt_succ_self _) ls (lv_sub hl [0, 1, 2, 3, 4] rfl)

abbrev rmX1_total : Room := { frames := 2, cells := 0, slots := 0, locals := 42 }
set_option maxHeartbeats 4000000 in
set_option maxRecDepth 100000 in
theorem c_X1_total (l : Launch) (D : va_G) (cA : Nat → ClassId) (ad : Nat → Nat) (w : Nat → Option va_E) (r0 r1 r2 : Nat) (F S : Int → Int) (h0 : w r0 = some (oB 1 [.ref (ad r1), .ref (ad r2)])) (h1 : w r1 = some (eJ (cA 2) 400 F)) (h2 : w r2 = some (eI (cA 0) 400 S)) (hF : ∀ j : Int, -1 ≤ F j ∧ F j ≤ 1000000000000) (hS9 : ∀ j : Int, 0 ≤ S j ∧ S j ≤ 3) (fr to_ : Int) (hr9 : 0 ≤ fr ∧ fr ≤ to_ ∧ to_ < 400) : Met l yX1_total wsX1_total rmX1_total (gR D cA ad w [.ref (ad r0), .int (iI fr), .int (iI to_)]) (gR0 (fun v9 => ∃ z : Int, v9 = some (.long (lI z)) ∧ z = sumT F S fr (to_ + 1 - fr).toNat)) 0 0 (fun _ => False) := by
  refine Met.ofW (cc := cX1_total) (maxL := 6) (ret := (some .long)) (by decide) rfl ?_
  intro p e s m args below meth c s₁ B hml hv
  obtain ⟨hav, hP, hK, hB⟩ := hv
  have hx := B.exec
  have hb := B.bytes
  have hret := B.returns
  have hts := atoms_spec (ws := wsX1_total) B.pre
  have hown : s.vm.findClass RX1 = some m.cls := findClass_of_methodNamed B.named
  have hlocks := B.notSynchronized
  have hS : va_S (fun _ => False) s.heap s.heap [] := va_S.rf
  have he9 : entryFrame m args 6 = F0 m 0 ((lg_sl ([.ref (ad r0), .int (iI fr), .int (iI to_)] : List Value) ++ List.replicate (6 - (lg_sl ([.ref (ad r0), .int (iI fr), .int (iI to_)] : List Value)).length) Slot.unset).toArray) [] := by rw [hav, lg_entry_eq]
  rw [he9]
  have hl := lv_entry ([.ref (ad r0), .int (iI fr), .int (iI to_)] : List Value) (n := 6) (Nat.le_of_ble_eq_true rfl)
  generalize (lg_sl ([.ref (ad r0), .int (iI fr), .int (iI to_)] : List Value) ++ List.replicate (6 - (lg_sl ([.ref (ad r0), .int (iI fr), .int (iI to_)] : List Value)).length) Slot.unset).toArray = ls at hl ⊢
  have hl : lv_has ls 6 [(0, .ref (ad r0)), (1, .int (iI fr)), (2, .int (iI to_))] := hl
  obtain ⟨Q9, hQ9⟩ : ∃ z, z = MQ below (gR0 (fun v9 => ∃ z : Int, v9 = some (.long (lI z)) ∧ z = sumT F S fr (to_ + 1 - fr).toNat)) args s 0 0 (fun _ => False) := ⟨_, rfl⟩
  rw [← hQ9]
  show W p l e rmX1_total s m args below meth c s.heap [] 0 0 Q9 (F0 m 0 ls [])
  refine k_lconst0 (pc := 0) hx hb dX1_total_0 ?_
  refine lv_lstore_n (pc := 1) (lv' := [(3, .long (lI 0)), (0, .ref (ad r0)), (1, .int (iI fr)), (2, .int (iI to_))]) hx hb dX1_total_1 rfl hl (by decide) rfl (fun ls hl => ?_)
  refine lv_iload_n (pc := 2) hx hb dX1_total_2 rfl (lv_at hl 2 rfl) ?_
  refine lv_istore (pc := 3) (lv' := [(5, .int (iI fr)), (3, .long (lI 0)), (0, .ref (ad r0)), (1, .int (iI fr)), (2, .int (iI to_))]) hx hb dX1_total_3 hl (by decide) rfl (fun ls hl => ?_)
  have lp_5 : ∀ (N9 : Nat) (d : Int) (x : Int), (fr ≤ d ∧ d ≤ to_ + 1) → (x = sumT F S fr (d - fr).toNat) → (to_ + 1 - d).toNat < N9 → ∀ (ls : Array Slot), lv_has ls 6 [(5, .int (iI d)), (3, .long (lI x)), (0, .ref (ad r0)), (1, .int (iI fr)), (2, .int (iI to_))] → W p l e rmX1_total s m args below meth c s.heap [] 0 0 Q9 (F0 m 5 ls []) := by
    intro N9
    induction N9 with
    | zero => intro d x i0 iC hmu; exact absurd hmu (Nat.not_lt_zero _)
    | succ N9 ih_5 =>
      intro d x i0 iC hmu_5 ls hl
      refine lv_iload (pc := 5) hx hb dX1_total_5 (lv_at hl 0 rfl) ?_
      refine lv_iload_n (pc := 7) hx hb dX1_total_7 rfl (lv_at hl 4 rfl) ?_
      refine k_icmp_gt (pc := 8) (tgt := 35) hx hb ⟨by omega, by omega⟩ ⟨by omega, by omega⟩ dX1_total_8 (by decide) (fun hc_8 => ?_) (fun hc_8 => ?_)
      · skip
        refine lv_lload_n (pc := 35) hx hb dX1_total_35 rfl (lv_at hl 1 rfl) ?_
        rw [hQ9]
        exact W.lret (v := lI x) hx hb hret (fun t ht hW => ⟨some (.long (lI x)), rfl, ⟨x, rfl, by rw [iC, show d = to_ + 1 by omega]⟩, ht⟩) (fun q hq => by cases hq) dX1_total_36
      · skip
        refine lv_aload_n (pc := 11) hx hb dX1_total_11 rfl (lv_at hl 2 rfl) ?_
        refine lv_iload (pc := 12) hx hb dX1_total_12 (lv_at hl 0 rfl) ?_
        refine k_call0 (pc := 14) (va_runV (As := [.int (iI d)]) (rest := []) ⟨hx, hb, hml, hown, hts⟩ (c_X1_hasFlow l D cA ad w r0 r1 r2 F S h0 h1 h2 hF hS9 d ⟨by omega, by omega⟩) (cwV 1 hts gX1_total_X1_hasFlow rfl rfl rfl (by decide +kernel) ⟨Nat.le_of_ble_eq_true rfl, Nat.le_of_ble_eq_true rfl⟩) (gR_V hP hK hB r0 (ci := 1) rfl h0) rfl rfl hl.1 rfl (lv_room (Nat.le_of_ble_eq_true rfl)) dX1_total_14 ⟨Nat.le_of_ble_eq_true rfl, Nat.le_of_ble_eq_true rfl⟩) (fun v_14 hv_14 => ?_)
        obtain ⟨z_14, rfl, hz_14⟩ := hv_14
        refine W.eq (g2 := F0 m 17 ls [.int (iI z_14)]) rfl ?_
        refine k_if_eq (pc := 17) (tgt := 29) hx hb ⟨by omega, by omega⟩ dX1_total_17 (by decide) (fun hc_17 => ?_) (fun hc_17 => ?_)
        · skip
          refine lv_iinc (pc := 29) (v := iI (d + 1)) (lv' := [(5, .int (iI (d + 1))), (3, .long (lI x)), (0, .ref (ad r0)), (1, .int (iI fr)), (2, .int (iI to_))]) hx hb dX1_total_29 hl (k := 0) rfl (iI_add _ _) (by decide) rfl (fun ls hl => ?_)
          refine lv_goto (pc := 32) (tgt := 5) hx hb dX1_total_32 (by decide) ?_
          exact ih_5 (d + 1) x (by omega) (by rw [sumT_s F S (by omega)]; first | (rw [if_pos (by omega)]; omega) | (rw [if_neg (by omega)]; omega)) (by omega) ls (lv_sub hl [0, 1, 2, 3, 4] rfl)
        · skip
          refine lv_lload_n (pc := 20) hx hb dX1_total_20 rfl (lv_at hl 1 rfl) ?_
          refine lv_aload_n (pc := 21) hx hb dX1_total_21 rfl (lv_at hl 2 rfl) ?_
          refine lv_iload (pc := 22) hx hb dX1_total_22 (lv_at hl 0 rfl) ?_
          refine k_call0 (pc := 24) (va_runV (As := [.int (iI d)]) (rest := [.long (lI x)]) ⟨hx, hb, hml, hown, hts⟩ (c_X1_flowOn l D cA ad w r0 r1 r2 F S h0 h1 h2 hF hS9 d ⟨by omega, by omega⟩) (cwV 1 hts gX1_total_X1_flowOn rfl rfl rfl (by decide +kernel) ⟨Nat.le_of_ble_eq_true rfl, Nat.le_of_ble_eq_true rfl⟩) (gR_V hP hK hB r0 (ci := 1) rfl h0) rfl rfl hl.1 rfl (lv_room (Nat.le_of_ble_eq_true rfl)) dX1_total_24 ⟨Nat.le_of_ble_eq_true rfl, Nat.le_of_ble_eq_true rfl⟩) (fun v_24 hv_24 => ?_)
          obtain ⟨z_24, rfl, hz_24⟩ := hv_24
          have hb_24 := hF d
          refine W.eq (g2 := F0 m 27 ls [.long (lI z_24), .long (lI x)]) rfl ?_
          refine k_ladd (pc := 27) hx hb dX1_total_27 ?_
          refine lv_lstore_n (pc := 28) (lv' := [(3, .long (lI (x + z_24))), (5, .int (iI d)), (0, .ref (ad r0)), (1, .int (iI fr)), (2, .int (iI to_))]) hx hb dX1_total_28 rfl hl (by decide) rfl (fun ls hl => ?_)
          refine lv_iinc (pc := 29) (v := iI (d + 1)) (lv' := [(5, .int (iI (d + 1))), (3, .long (lI (x + z_24))), (0, .ref (ad r0)), (1, .int (iI fr)), (2, .int (iI to_))]) hx hb dX1_total_29 hl (k := 1) rfl (iI_add _ _) (by decide) rfl (fun ls hl => ?_)
          refine lv_goto (pc := 32) (tgt := 5) hx hb dX1_total_32 (by decide) ?_
          exact ih_5 (d + 1) (x + z_24) (by omega) (by rw [sumT_s F S (by omega)]; first | (rw [if_pos (by omega)]; omega) | (rw [if_neg (by omega)]; omega)) (by omega) ls (lv_sub hl [0, 1, 2, 3, 4] rfl)
  exact lp_5 _ fr 0 (by omega) (by rw [show (fr - fr).toNat = 0 by omega]; rfl) (Nat.lt_succ_self _) ls (lv_sub hl [0, 1, 2, 3, 4] rfl)

abbrev rmX1_greatestDay : Room := { frames := 2, cells := 0, slots := 0, locals := 42 }
set_option maxHeartbeats 4000000 in
set_option maxRecDepth 100000 in
theorem c_X1_greatestDay (l : Launch) (D : va_G) (cA : Nat → ClassId) (ad : Nat → Nat) (w : Nat → Option va_E) (r0 r1 r2 : Nat) (F S : Int → Int) (h0 : w r0 = some (oB 1 [.ref (ad r1), .ref (ad r2)])) (h1 : w r1 = some (eJ (cA 2) 400 F)) (h2 : w r2 = some (eI (cA 0) 400 S)) (hF : ∀ j : Int, -1 ≤ F j ∧ F j ≤ 1000000000000) (hS9 : ∀ j : Int, 0 ≤ S j ∧ S j ≤ 3) (hp : ∀ j : Int, S j ≠ 0 → 0 ≤ F j) (fr to_ : Int) (hr9 : 0 ≤ fr ∧ fr ≤ to_ ∧ to_ < 400) : Met l yX1_greatestDay wsX1_greatestDay rmX1_greatestDay (gR D cA ad w [.ref (ad r0), .int (iI fr), .int (iI to_)]) (gR0 (fun v9 => ∃ z : Int, v9 = some (.int (iI z)) ∧ gdP F S fr (to_ + 1) z ∧ -1 ≤ z ∧ z ≤ to_)) 0 0 (fun _ => False) := by
  refine Met.ofW (cc := cX1_greatestDay) (maxL := 5) (ret := (some .int)) (by decide) rfl ?_
  intro p e s m args below meth c s₁ B hml hv
  obtain ⟨hav, hP, hK, hB⟩ := hv
  have hx := B.exec
  have hb := B.bytes
  have hret := B.returns
  have hts := atoms_spec (ws := wsX1_greatestDay) B.pre
  have hown : s.vm.findClass RX1 = some m.cls := findClass_of_methodNamed B.named
  have hlocks := B.notSynchronized
  have hS : va_S (fun _ => False) s.heap s.heap [] := va_S.rf
  have he9 : entryFrame m args 5 = F0 m 0 ((lg_sl ([.ref (ad r0), .int (iI fr), .int (iI to_)] : List Value) ++ List.replicate (5 - (lg_sl ([.ref (ad r0), .int (iI fr), .int (iI to_)] : List Value)).length) Slot.unset).toArray) [] := by rw [hav, lg_entry_eq]
  rw [he9]
  have hl := lv_entry ([.ref (ad r0), .int (iI fr), .int (iI to_)] : List Value) (n := 5) (Nat.le_of_ble_eq_true rfl)
  generalize (lg_sl ([.ref (ad r0), .int (iI fr), .int (iI to_)] : List Value) ++ List.replicate (5 - (lg_sl ([.ref (ad r0), .int (iI fr), .int (iI to_)] : List Value)).length) Slot.unset).toArray = ls at hl ⊢
  have hl : lv_has ls 5 [(0, .ref (ad r0)), (1, .int (iI fr)), (2, .int (iI to_))] := hl
  obtain ⟨Q9, hQ9⟩ : ∃ z, z = MQ below (gR0 (fun v9 => ∃ z : Int, v9 = some (.int (iI z)) ∧ gdP F S fr (to_ + 1) z ∧ -1 ≤ z ∧ z ≤ to_)) args s 0 0 (fun _ => False) := ⟨_, rfl⟩
  rw [← hQ9]
  show W p l e rmX1_greatestDay s m args below meth c s.heap [] 0 0 Q9 (F0 m 0 ls [])
  refine k_iconst (pc := 0) hx hb dX1_greatestDay_0 ?_
  refine lv_istore_n (pc := 1) (lv' := [(3, .int (iI (-1))), (0, .ref (ad r0)), (1, .int (iI fr)), (2, .int (iI to_))]) hx hb dX1_greatestDay_1 rfl hl (by decide) rfl (fun ls hl => ?_)
  refine lv_iload_n (pc := 2) hx hb dX1_greatestDay_2 rfl (lv_at hl 2 rfl) ?_
  refine lv_istore (pc := 3) (lv' := [(4, .int (iI fr)), (3, .int (iI (-1))), (0, .ref (ad r0)), (1, .int (iI fr)), (2, .int (iI to_))]) hx hb dX1_greatestDay_3 hl (by decide) rfl (fun ls hl => ?_)
  have lp_5 : ∀ (N9 : Nat) (d : Int) (g : Int), (fr ≤ d ∧ d ≤ to_ + 1 ∧ -1 ≤ g ∧ g < d) → (gdP F S fr d g) → (to_ + 1 - d).toNat < N9 → ∀ (ls : Array Slot), lv_has ls 5 [(4, .int (iI d)), (3, .int (iI g)), (0, .ref (ad r0)), (1, .int (iI fr)), (2, .int (iI to_))] → W p l e rmX1_greatestDay s m args below meth c s.heap [] 0 0 Q9 (F0 m 5 ls []) := by
    intro N9
    induction N9 with
    | zero => intro d g i0 iC hmu; exact absurd hmu (Nat.not_lt_zero _)
    | succ N9 ih_5 =>
      intro d g i0 iC hmu_5 ls hl
      refine lv_iload (pc := 5) hx hb dX1_greatestDay_5 (lv_at hl 0 rfl) ?_
      refine lv_iload_n (pc := 7) hx hb dX1_greatestDay_7 rfl (lv_at hl 4 rfl) ?_
      refine k_icmp_gt (pc := 8) (tgt := 44) hx hb ⟨by omega, by omega⟩ ⟨by omega, by omega⟩ dX1_greatestDay_8 (by decide) (fun hc_8 => ?_) (fun hc_8 => ?_)
      · skip
        refine lv_iload_n (pc := 44) hx hb dX1_greatestDay_44 rfl (lv_at hl 1 rfl) ?_
        rw [hQ9]
        exact W.iret (v := iI g) hx hb hret (fun t ht hW => ⟨some (.int (iI g)), rfl, ⟨g, rfl, ⟨by rw [show to_ + 1 = d by omega]; exact iC, by omega, by omega⟩⟩, ht⟩) (fun q hq => by cases hq) dX1_greatestDay_45
      · skip
        refine lv_aload_n (pc := 11) hx hb dX1_greatestDay_11 rfl (lv_at hl 2 rfl) ?_
        refine lv_iload (pc := 12) hx hb dX1_greatestDay_12 (lv_at hl 0 rfl) ?_
        refine k_call0 (pc := 14) (va_runV (As := [.int (iI d)]) (rest := []) ⟨hx, hb, hml, hown, hts⟩ (c_X1_hasFlow l D cA ad w r0 r1 r2 F S h0 h1 h2 hF hS9 d ⟨by omega, by omega⟩) (cwV 1 hts gX1_greatestDay_X1_hasFlow rfl rfl rfl (by decide +kernel) ⟨Nat.le_of_ble_eq_true rfl, Nat.le_of_ble_eq_true rfl⟩) (gR_V hP hK hB r0 (ci := 1) rfl h0) rfl rfl hl.1 rfl (lv_room (Nat.le_of_ble_eq_true rfl)) dX1_greatestDay_14 ⟨Nat.le_of_ble_eq_true rfl, Nat.le_of_ble_eq_true rfl⟩) (fun v_14 hv_14 => ?_)
        obtain ⟨z_14, rfl, hz_14⟩ := hv_14
        refine W.eq (g2 := F0 m 17 ls [.int (iI z_14)]) rfl ?_
        refine k_if_eq (pc := 17) (tgt := 38) hx hb ⟨by omega, by omega⟩ dX1_greatestDay_17 (by decide) (fun hc_17 => ?_) (fun hc_17 => ?_)
        · skip
          refine lv_iinc (pc := 38) (v := iI (d + 1)) (lv' := [(4, .int (iI (d + 1))), (3, .int (iI g)), (0, .ref (ad r0)), (1, .int (iI fr)), (2, .int (iI to_))]) hx hb dX1_greatestDay_38 hl (k := 0) rfl (iI_add _ _) (by decide) rfl (fun ls hl => ?_)
          refine lv_goto (pc := 41) (tgt := 5) hx hb dX1_greatestDay_41 (by decide) ?_
          exact ih_5 (d + 1) g (by omega) (by first | exact gdP_no iC (by omega) | exact gdP_le iC (by have h8 := hp d; omega) (by omega)) (by omega) ls (lv_sub hl [0, 1, 2, 3, 4] rfl)
        · skip
          refine lv_aload_n (pc := 20) hx hb dX1_greatestDay_20 rfl (lv_at hl 2 rfl) ?_
          refine lv_iload (pc := 21) hx hb dX1_greatestDay_21 (lv_at hl 0 rfl) ?_
          refine k_call0 (pc := 23) (va_runV (As := [.int (iI d)]) (rest := []) ⟨hx, hb, hml, hown, hts⟩ (c_X1_flowOn l D cA ad w r0 r1 r2 F S h0 h1 h2 hF hS9 d ⟨by omega, by omega⟩) (cwV 1 hts gX1_greatestDay_X1_flowOn rfl rfl rfl (by decide +kernel) ⟨Nat.le_of_ble_eq_true rfl, Nat.le_of_ble_eq_true rfl⟩) (gR_V hP hK hB r0 (ci := 1) rfl h0) rfl rfl hl.1 rfl (lv_room (Nat.le_of_ble_eq_true rfl)) dX1_greatestDay_23 ⟨Nat.le_of_ble_eq_true rfl, Nat.le_of_ble_eq_true rfl⟩) (fun v_23 hv_23 => ?_)
          obtain ⟨z_23, rfl, hz_23⟩ := hv_23
          have hb_23 := hF d
          refine W.eq (g2 := F0 m 26 ls [.long (lI z_23)]) rfl ?_
          refine lv_aload_n (pc := 26) hx hb dX1_greatestDay_26 rfl (lv_at hl 2 rfl) ?_
          refine lv_iload_n (pc := 27) hx hb dX1_greatestDay_27 rfl (lv_at hl 1 rfl) ?_
          refine k_call0 (pc := 28) (va_runV (As := [.int (iI g)]) (rest := [.long (lI z_23)]) ⟨hx, hb, hml, hown, hts⟩ (c_X1_flowOn l D cA ad w r0 r1 r2 F S h0 h1 h2 hF hS9 g ⟨by omega, by omega⟩) (cwV 1 hts gX1_greatestDay_X1_flowOn rfl rfl rfl (by decide +kernel) ⟨Nat.le_of_ble_eq_true rfl, Nat.le_of_ble_eq_true rfl⟩) (gR_V hP hK hB r0 (ci := 1) rfl h0) rfl rfl hl.1 rfl (lv_room (Nat.le_of_ble_eq_true rfl)) dX1_greatestDay_28 ⟨Nat.le_of_ble_eq_true rfl, Nat.le_of_ble_eq_true rfl⟩) (fun v_28 hv_28 => ?_)
          obtain ⟨z_28, rfl, hz_28⟩ := hv_28
          have hb_28 := hF g
          refine W.eq (g2 := F0 m 31 ls [.long (lI z_28), .long (lI z_23)]) rfl ?_
          have h7 := hp d
          refine k_lcmp_le (pc := 31) (tgt := 38) hx hb ⟨by omega, by omega⟩ ⟨by omega, by omega⟩ dX1_greatestDay_31 dX1_greatestDay_32 (by decide) (fun hc_31 => ?_) (fun hc_31 => ?_)
          · skip
            refine lv_iinc (pc := 38) (v := iI (d + 1)) (lv' := [(4, .int (iI (d + 1))), (3, .int (iI g)), (0, .ref (ad r0)), (1, .int (iI fr)), (2, .int (iI to_))]) hx hb dX1_greatestDay_38 hl (k := 0) rfl (iI_add _ _) (by decide) rfl (fun ls hl => ?_)
            refine lv_goto (pc := 41) (tgt := 5) hx hb dX1_greatestDay_41 (by decide) ?_
            exact ih_5 (d + 1) g (by omega) (by first | exact gdP_no iC (by omega) | exact gdP_le iC (by have h8 := hp d; omega) (by omega)) (by omega) ls (lv_sub hl [0, 1, 2, 3, 4] rfl)
          · skip
            refine lv_iload (pc := 35) hx hb dX1_greatestDay_35 (lv_at hl 0 rfl) ?_
            refine lv_istore_n (pc := 37) (lv' := [(3, .int (iI d)), (4, .int (iI d)), (0, .ref (ad r0)), (1, .int (iI fr)), (2, .int (iI to_))]) hx hb dX1_greatestDay_37 rfl hl (by decide) rfl (fun ls hl => ?_)
            refine lv_iinc (pc := 38) (v := iI (d + 1)) (lv' := [(4, .int (iI (d + 1))), (3, .int (iI d)), (0, .ref (ad r0)), (1, .int (iI fr)), (2, .int (iI to_))]) hx hb dX1_greatestDay_38 hl (k := 1) rfl (iI_add _ _) (by decide) rfl (fun ls hl => ?_)
            refine lv_goto (pc := 41) (tgt := 5) hx hb dX1_greatestDay_41 (by decide) ?_
            exact ih_5 (d + 1) d (by omega) (gdP_gt (by omega) (by omega) iC (by omega) (by omega)) (by omega) ls (lv_sub hl [0, 1, 2, 3, 4] rfl)
  exact lp_5 _ fr (-1) (by omega) (Or.inl ⟨rfl, fun j h8 h9 => by omega⟩) (Nat.lt_succ_self _) ls (lv_sub hl [0, 1, 2, 3, 4] rfl)

abbrev rmX1_leastFlow : Room := { frames := 2, cells := 0, slots := 0, locals := 42 }
set_option maxHeartbeats 4000000 in
set_option maxRecDepth 100000 in
theorem c_X1_leastFlow (l : Launch) (D : va_G) (cA : Nat → ClassId) (ad : Nat → Nat) (w : Nat → Option va_E) (r0 r1 r2 : Nat) (F S : Int → Int) (h0 : w r0 = some (oB 1 [.ref (ad r1), .ref (ad r2)])) (h1 : w r1 = some (eJ (cA 2) 400 F)) (h2 : w r2 = some (eI (cA 0) 400 S)) (hF : ∀ j : Int, -1 ≤ F j ∧ F j ≤ 1000000000000) (hS9 : ∀ j : Int, 0 ≤ S j ∧ S j ≤ 3) (hp : ∀ j : Int, S j ≠ 0 → 0 ≤ F j) (fr to_ : Int) (hr9 : 0 ≤ fr ∧ fr ≤ to_ ∧ to_ < 400) : Met l yX1_leastFlow wsX1_leastFlow rmX1_leastFlow (gR D cA ad w [.ref (ad r0), .int (iI fr), .int (iI to_)]) (gR0 (fun v9 => ∃ z : Int, v9 = some (.long (lI z)) ∧ lfP F S fr (to_ + 1) z)) 0 0 (fun _ => False) := by
  refine Met.ofW (cc := cX1_leastFlow) (maxL := 6) (ret := (some .long)) (by decide) rfl ?_
  intro p e s m args below meth c s₁ B hml hv
  obtain ⟨hav, hP, hK, hB⟩ := hv
  have hx := B.exec
  have hb := B.bytes
  have hret := B.returns
  have hts := atoms_spec (ws := wsX1_leastFlow) B.pre
  have hown : s.vm.findClass RX1 = some m.cls := findClass_of_methodNamed B.named
  have hlocks := B.notSynchronized
  have hS : va_S (fun _ => False) s.heap s.heap [] := va_S.rf
  have he9 : entryFrame m args 6 = F0 m 0 ((lg_sl ([.ref (ad r0), .int (iI fr), .int (iI to_)] : List Value) ++ List.replicate (6 - (lg_sl ([.ref (ad r0), .int (iI fr), .int (iI to_)] : List Value)).length) Slot.unset).toArray) [] := by rw [hav, lg_entry_eq]
  rw [he9]
  have hl := lv_entry ([.ref (ad r0), .int (iI fr), .int (iI to_)] : List Value) (n := 6) (Nat.le_of_ble_eq_true rfl)
  generalize (lg_sl ([.ref (ad r0), .int (iI fr), .int (iI to_)] : List Value) ++ List.replicate (6 - (lg_sl ([.ref (ad r0), .int (iI fr), .int (iI to_)] : List Value)).length) Slot.unset).toArray = ls at hl ⊢
  have hl : lv_has ls 6 [(0, .ref (ad r0)), (1, .int (iI fr)), (2, .int (iI to_))] := hl
  obtain ⟨Q9, hQ9⟩ : ∃ z, z = MQ below (gR0 (fun v9 => ∃ z : Int, v9 = some (.long (lI z)) ∧ lfP F S fr (to_ + 1) z)) args s 0 0 (fun _ => False) := ⟨_, rfl⟩
  rw [← hQ9]
  show W p l e rmX1_leastFlow s m args below meth c s.heap [] 0 0 Q9 (F0 m 0 ls [])
  refine k_ldc2 (z := (-1)) (pc := 0) hx hb hown (hts (.constantLong RX1 19 (-1)) (by decide +kernel)) (by decide +kernel) dX1_leastFlow_0 ?_
  refine lv_lstore_n (pc := 3) (lv' := [(3, .long (lI (-1))), (0, .ref (ad r0)), (1, .int (iI fr)), (2, .int (iI to_))]) hx hb dX1_leastFlow_3 rfl hl (by decide) rfl (fun ls hl => ?_)
  refine lv_iload_n (pc := 4) hx hb dX1_leastFlow_4 rfl (lv_at hl 2 rfl) ?_
  refine lv_istore (pc := 5) (lv' := [(5, .int (iI fr)), (3, .long (lI (-1))), (0, .ref (ad r0)), (1, .int (iI fr)), (2, .int (iI to_))]) hx hb dX1_leastFlow_5 hl (by decide) rfl (fun ls hl => ?_)
  have lp_7 : ∀ (N9 : Nat) (d : Int) (g : Int), (fr ≤ d ∧ d ≤ to_ + 1 ∧ -1 ≤ g ∧ g ≤ 1000000000000) → (lfP F S fr d g) → (to_ + 1 - d).toNat < N9 → ∀ (ls : Array Slot), lv_has ls 6 [(5, .int (iI d)), (3, .long (lI g)), (0, .ref (ad r0)), (1, .int (iI fr)), (2, .int (iI to_))] → W p l e rmX1_leastFlow s m args below meth c s.heap [] 0 0 Q9 (F0 m 7 ls []) := by
    intro N9
    induction N9 with
    | zero => intro d g i0 iC hmu; exact absurd hmu (Nat.not_lt_zero _)
    | succ N9 ih_7 =>
      intro d g i0 iC hmu_7 ls hl
      refine lv_iload (pc := 7) hx hb dX1_leastFlow_7 (lv_at hl 0 rfl) ?_
      refine lv_iload_n (pc := 9) hx hb dX1_leastFlow_9 rfl (lv_at hl 4 rfl) ?_
      refine k_icmp_gt (pc := 10) (tgt := 54) hx hb ⟨by omega, by omega⟩ ⟨by omega, by omega⟩ dX1_leastFlow_10 (by decide) (fun hc_10 => ?_) (fun hc_10 => ?_)
      · skip
        refine lv_lload_n (pc := 54) hx hb dX1_leastFlow_54 rfl (lv_at hl 1 rfl) ?_
        rw [hQ9]
        exact W.lret (v := lI g) hx hb hret (fun t ht hW => ⟨some (.long (lI g)), rfl, ⟨g, rfl, by rw [show to_ + 1 = d by omega]; exact iC⟩, ht⟩) (fun q hq => by cases hq) dX1_leastFlow_55
      · skip
        refine lv_aload_n (pc := 13) hx hb dX1_leastFlow_13 rfl (lv_at hl 2 rfl) ?_
        refine lv_iload (pc := 14) hx hb dX1_leastFlow_14 (lv_at hl 0 rfl) ?_
        refine k_call0 (pc := 16) (va_runV (As := [.int (iI d)]) (rest := []) ⟨hx, hb, hml, hown, hts⟩ (c_X1_hasFlow l D cA ad w r0 r1 r2 F S h0 h1 h2 hF hS9 d ⟨by omega, by omega⟩) (cwV 1 hts gX1_leastFlow_X1_hasFlow rfl rfl rfl (by decide +kernel) ⟨Nat.le_of_ble_eq_true rfl, Nat.le_of_ble_eq_true rfl⟩) (gR_V hP hK hB r0 (ci := 1) rfl h0) rfl rfl hl.1 rfl (lv_room (Nat.le_of_ble_eq_true rfl)) dX1_leastFlow_16 ⟨Nat.le_of_ble_eq_true rfl, Nat.le_of_ble_eq_true rfl⟩) (fun v_16 hv_16 => ?_)
        obtain ⟨z_16, rfl, hz_16⟩ := hv_16
        refine W.eq (g2 := F0 m 19 ls [.int (iI z_16)]) rfl ?_
        refine k_if_eq (pc := 19) (tgt := 48) hx hb ⟨by omega, by omega⟩ dX1_leastFlow_19 (by decide) (fun hc_19 => ?_) (fun hc_19 => ?_)
        · skip
          refine lv_iinc (pc := 48) (v := iI (d + 1)) (lv' := [(5, .int (iI (d + 1))), (3, .long (lI g)), (0, .ref (ad r0)), (1, .int (iI fr)), (2, .int (iI to_))]) hx hb dX1_leastFlow_48 hl (k := 0) rfl (iI_add _ _) (by decide) rfl (fun ls hl => ?_)
          refine lv_goto (pc := 51) (tgt := 7) hx hb dX1_leastFlow_51 (by decide) ?_
          exact ih_7 (d + 1) g (by omega) (by first | exact lfP_no iC (by omega) | exact lfP_ge iC (by omega) (by omega)) (by omega) ls (lv_sub hl [0, 1, 2, 3, 4] rfl)
        · skip
          refine lv_lload_n (pc := 22) hx hb dX1_leastFlow_22 rfl (lv_at hl 1 rfl) ?_
          refine k_ldc2 (z := (-1)) (pc := 23) hx hb hown (hts (.constantLong RX1 19 (-1)) (by decide +kernel)) (by decide +kernel) dX1_leastFlow_23 ?_
          refine k_lcmp_eq (pc := 26) (tgt := 41) hx hb ⟨by omega, by omega⟩ ⟨by omega, by omega⟩ dX1_leastFlow_26 dX1_leastFlow_27 (by decide) (fun hc_26 => ?_) (fun hc_26 => ?_)
          · skip
            refine lv_aload_n (pc := 41) hx hb dX1_leastFlow_41 rfl (lv_at hl 2 rfl) ?_
            refine lv_iload (pc := 42) hx hb dX1_leastFlow_42 (lv_at hl 0 rfl) ?_
            refine k_call0 (pc := 44) (va_runV (As := [.int (iI d)]) (rest := []) ⟨hx, hb, hml, hown, hts⟩ (c_X1_flowOn l D cA ad w r0 r1 r2 F S h0 h1 h2 hF hS9 d ⟨by omega, by omega⟩) (cwV 1 hts gX1_leastFlow_X1_flowOn rfl rfl rfl (by decide +kernel) ⟨Nat.le_of_ble_eq_true rfl, Nat.le_of_ble_eq_true rfl⟩) (gR_V hP hK hB r0 (ci := 1) rfl h0) rfl rfl hl.1 rfl (lv_room (Nat.le_of_ble_eq_true rfl)) dX1_leastFlow_44 ⟨Nat.le_of_ble_eq_true rfl, Nat.le_of_ble_eq_true rfl⟩) (fun v_44 hv_44 => ?_)
            obtain ⟨z_44, rfl, hz_44⟩ := hv_44
            have hb_44 := hF d
            refine W.eq (g2 := F0 m 47 ls [.long (lI z_44)]) rfl ?_
            refine lv_lstore_n (pc := 47) (lv' := [(3, .long (lI z_44)), (5, .int (iI d)), (0, .ref (ad r0)), (1, .int (iI fr)), (2, .int (iI to_))]) hx hb dX1_leastFlow_47 rfl hl (by decide) rfl (fun ls hl => ?_)
            refine lv_iinc (pc := 48) (v := iI (d + 1)) (lv' := [(5, .int (iI (d + 1))), (3, .long (lI z_44)), (0, .ref (ad r0)), (1, .int (iI fr)), (2, .int (iI to_))]) hx hb dX1_leastFlow_48 hl (k := 1) rfl (iI_add _ _) (by decide) rfl (fun ls hl => ?_)
            refine lv_goto (pc := 51) (tgt := 7) hx hb dX1_leastFlow_51 (by decide) ?_
            exact ih_7 (d + 1) z_44 (by omega) (by rw [show z_44 = F d by omega]; exact lfP_lt (by omega) iC (by omega) (by omega) hp) (by omega) ls (lv_sub hl [0, 1, 2, 3, 4] rfl)
          · skip
            refine lv_aload_n (pc := 30) hx hb dX1_leastFlow_30 rfl (lv_at hl 2 rfl) ?_
            refine lv_iload (pc := 31) hx hb dX1_leastFlow_31 (lv_at hl 0 rfl) ?_
            refine k_call0 (pc := 33) (va_runV (As := [.int (iI d)]) (rest := []) ⟨hx, hb, hml, hown, hts⟩ (c_X1_flowOn l D cA ad w r0 r1 r2 F S h0 h1 h2 hF hS9 d ⟨by omega, by omega⟩) (cwV 1 hts gX1_leastFlow_X1_flowOn rfl rfl rfl (by decide +kernel) ⟨Nat.le_of_ble_eq_true rfl, Nat.le_of_ble_eq_true rfl⟩) (gR_V hP hK hB r0 (ci := 1) rfl h0) rfl rfl hl.1 rfl (lv_room (Nat.le_of_ble_eq_true rfl)) dX1_leastFlow_33 ⟨Nat.le_of_ble_eq_true rfl, Nat.le_of_ble_eq_true rfl⟩) (fun v_33 hv_33 => ?_)
            obtain ⟨z_33, rfl, hz_33⟩ := hv_33
            have hb_33 := hF d
            refine W.eq (g2 := F0 m 36 ls [.long (lI z_33)]) rfl ?_
            refine lv_lload_n (pc := 36) hx hb dX1_leastFlow_36 rfl (lv_at hl 1 rfl) ?_
            refine k_lcmp_ge (pc := 37) (tgt := 48) hx hb ⟨by omega, by omega⟩ ⟨by omega, by omega⟩ dX1_leastFlow_37 dX1_leastFlow_38 (by decide) (fun hc_37 => ?_) (fun hc_37 => ?_)
            · skip
              refine lv_iinc (pc := 48) (v := iI (d + 1)) (lv' := [(5, .int (iI (d + 1))), (3, .long (lI g)), (0, .ref (ad r0)), (1, .int (iI fr)), (2, .int (iI to_))]) hx hb dX1_leastFlow_48 hl (k := 0) rfl (iI_add _ _) (by decide) rfl (fun ls hl => ?_)
              refine lv_goto (pc := 51) (tgt := 7) hx hb dX1_leastFlow_51 (by decide) ?_
              exact ih_7 (d + 1) g (by omega) (by first | exact lfP_no iC (by omega) | exact lfP_ge iC (by omega) (by omega)) (by omega) ls (lv_sub hl [0, 1, 2, 3, 4] rfl)
            · skip
              refine lv_aload_n (pc := 41) hx hb dX1_leastFlow_41 rfl (lv_at hl 2 rfl) ?_
              refine lv_iload (pc := 42) hx hb dX1_leastFlow_42 (lv_at hl 0 rfl) ?_
              refine k_call0 (pc := 44) (va_runV (As := [.int (iI d)]) (rest := []) ⟨hx, hb, hml, hown, hts⟩ (c_X1_flowOn l D cA ad w r0 r1 r2 F S h0 h1 h2 hF hS9 d ⟨by omega, by omega⟩) (cwV 1 hts gX1_leastFlow_X1_flowOn rfl rfl rfl (by decide +kernel) ⟨Nat.le_of_ble_eq_true rfl, Nat.le_of_ble_eq_true rfl⟩) (gR_V hP hK hB r0 (ci := 1) rfl h0) rfl rfl hl.1 rfl (lv_room (Nat.le_of_ble_eq_true rfl)) dX1_leastFlow_44 ⟨Nat.le_of_ble_eq_true rfl, Nat.le_of_ble_eq_true rfl⟩) (fun v_44 hv_44 => ?_)
              obtain ⟨z_44, rfl, hz_44⟩ := hv_44
              have hb_44 := hF d
              refine W.eq (g2 := F0 m 47 ls [.long (lI z_44)]) rfl ?_
              refine lv_lstore_n (pc := 47) (lv' := [(3, .long (lI z_44)), (5, .int (iI d)), (0, .ref (ad r0)), (1, .int (iI fr)), (2, .int (iI to_))]) hx hb dX1_leastFlow_47 rfl hl (by decide) rfl (fun ls hl => ?_)
              refine lv_iinc (pc := 48) (v := iI (d + 1)) (lv' := [(5, .int (iI (d + 1))), (3, .long (lI z_44)), (0, .ref (ad r0)), (1, .int (iI fr)), (2, .int (iI to_))]) hx hb dX1_leastFlow_48 hl (k := 1) rfl (iI_add _ _) (by decide) rfl (fun ls hl => ?_)
              refine lv_goto (pc := 51) (tgt := 7) hx hb dX1_leastFlow_51 (by decide) ?_
              exact ih_7 (d + 1) z_44 (by omega) (by rw [show z_44 = F d by omega]; exact lfP_lt (by omega) iC (by omega) (by omega) hp) (by omega) ls (lv_sub hl [0, 1, 2, 3, 4] rfl)
  exact lp_7 _ fr (-1) (by omega) (Or.inl ⟨rfl, fun j h8 h9 => by omega⟩) (Nat.lt_succ_self _) ls (lv_sub hl [0, 1, 2, 3, 4] rfl)

