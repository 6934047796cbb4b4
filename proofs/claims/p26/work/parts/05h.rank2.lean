abbrev rmX3_size : Room := { frames := 0, cells := 0, slots := 0, locals := 0 }
theorem hiX3_size_3 : ∀ w ∈ wsX30, w ∈ wsX3_size := by decide +kernel
set_option maxHeartbeats 4000000 in
set_option maxRecDepth 100000 in
theorem c_X3_size (l : Launch) (D : va_G) (cA : Nat → ClassId) (ad : Nat → Nat) (w : Nat → Option va_E) (F S : Int → Int) (n : Int) (rd rm_ rz : Int → Int) (h9 : w 9 = some (oB 1 [.ref (ad 10), .ref (ad 11)])) (h10 : w 10 = some (eJ (cA 2) 400 F)) (h11 : w 11 = some (eI (cA 0) 400 S)) (h12 : w 12 = some (oB 3 [.ref (ad 13), .ref (ad 14), .ref (ad 15), .int (iI n)])) (h13 : w 13 = some (eI (cA 0) 400 rd)) (h14 : w 14 = some (eI (cA 0) 400 rm_)) (h15 : w 15 = some (eI (cA 1) 400 rz)) (hF : ∀ j : Int, -1 ≤ F j ∧ F j ≤ 1000000000000) (hS9 : ∀ j : Int, 0 ≤ S j ∧ S j ≤ 3) (hn : 0 ≤ n ∧ n ≤ 400) : Met l yX3_size wsX3_size rmX3_size (gR D cA ad w [.ref (ad 12)]) (gR0 (fun v9 => ∃ z : Int, v9 = some (.int (iI z)) ∧ z = n)) 0 0 (fun _ => False) := by
  refine Met.ofW (cc := cX3_size) (maxL := 1) (ret := (some .int)) (by decide) rfl ?_
  intro p e s m args below meth c s₁ B hml hv
  obtain ⟨hav, hP, hK, hB⟩ := hv
  have hx := B.exec
  have hb := B.bytes
  have hret := B.returns
  have hts := atoms_spec (ws := wsX3_size) B.pre
  have hown : s.vm.findClass RX3 = some m.cls := findClass_of_methodNamed B.named
  have hlocks := B.notSynchronized
  have hS : va_S (fun _ => False) s.heap s.heap [] := va_S.rf
  have hi3 := hiX3_size_3
  have hf22 := hts (.fieldLink RX3 22 "GaugeBook$Ranking" "ranked" "I") (by decide +kernel)
  have he9 : entryFrame m args 1 = F0 m 0 ((lg_sl ([.ref (ad 12)] : List Value) ++ List.replicate (1 - (lg_sl ([.ref (ad 12)] : List Value)).length) Slot.unset).toArray) [] := by rw [hav, lg_entry_eq]
  rw [he9]
  have hl := lv_entry ([.ref (ad 12)] : List Value) (n := 1) (Nat.le_of_ble_eq_true rfl)
  generalize (lg_sl ([.ref (ad 12)] : List Value) ++ List.replicate (1 - (lg_sl ([.ref (ad 12)] : List Value)).length) Slot.unset).toArray = ls at hl ⊢
  have hl : lv_has ls 1 [(0, .ref (ad 12))] := hl
  obtain ⟨Q9, hQ9⟩ : ∃ z, z = MQ below (gR0 (fun v9 => ∃ z : Int, v9 = some (.int (iI z)) ∧ z = n)) args s 0 0 (fun _ => False) := ⟨_, rfl⟩
  rw [← hQ9]
  show W p l e rmX3_size s m args below meth c s.heap [] 0 0 Q9 (F0 m 0 ls [])
  refine lv_aload_n (pc := 0) hx hb dX3_size_0 rfl (lv_at hl 0 rfl) ?_
  refine k_get (pc := 1) (ci := 3) (C := RX3) (T := TX3) (N := 4) hx hb hts hi3 hown hK hP 12 h12 rfl 3 (by decide) hf22 (fun _ h9 => h9) rfl dX3_size_1 ?_
  rw [hQ9]
  exact W.iret (v := iI n) hx hb hret (fun t ht hW => ⟨some (.int (iI n)), rfl, ⟨n, rfl, rfl⟩, ht⟩) (fun q hq => by cases hq) dX3_size_4

abbrev rmX3_dayOfRank : Room := { frames := 0, cells := 0, slots := 0, locals := 0 }
theorem hiX3_dayOfRank_3 : ∀ w ∈ wsX30, w ∈ wsX3_dayOfRank := by decide +kernel
set_option maxHeartbeats 4000000 in
set_option maxRecDepth 100000 in
theorem c_X3_dayOfRank (l : Launch) (D : va_G) (cA : Nat → ClassId) (ad : Nat → Nat) (w : Nat → Option va_E) (F S : Int → Int) (n : Int) (rd rm_ rz : Int → Int) (h9 : w 9 = some (oB 1 [.ref (ad 10), .ref (ad 11)])) (h10 : w 10 = some (eJ (cA 2) 400 F)) (h11 : w 11 = some (eI (cA 0) 400 S)) (h12 : w 12 = some (oB 3 [.ref (ad 13), .ref (ad 14), .ref (ad 15), .int (iI n)])) (h13 : w 13 = some (eI (cA 0) 400 rd)) (h14 : w 14 = some (eI (cA 0) 400 rm_)) (h15 : w 15 = some (eI (cA 1) 400 rz)) (hF : ∀ j : Int, -1 ≤ F j ∧ F j ≤ 1000000000000) (hS9 : ∀ j : Int, 0 ≤ S j ∧ S j ≤ 3) (hn : 0 ≤ n ∧ n ≤ 400) (k : Int) (hk : (-2147483648 ≤ k ∧ k < 2147483648)) : Met l yX3_dayOfRank wsX3_dayOfRank rmX3_dayOfRank (gR D cA ad w [.ref (ad 12), .int (iI k)]) (gR0 (fun v9 => ∃ z : Int, v9 = some (.int (iI z)) ∧ ((1 ≤ k ∧ k ≤ n ∧ z = rd (k - 1)) ∨ (¬ (1 ≤ k ∧ k ≤ n) ∧ z = -1)))) 0 0 (fun _ => False) := by
  refine Met.ofW (cc := cX3_dayOfRank) (maxL := 2) (ret := (some .int)) (by decide) rfl ?_
  intro p e s m args below meth c s₁ B hml hv
  obtain ⟨hav, hP, hK, hB⟩ := hv
  have hx := B.exec
  have hb := B.bytes
  have hret := B.returns
  have hts := atoms_spec (ws := wsX3_dayOfRank) B.pre
  have hown : s.vm.findClass RX3 = some m.cls := findClass_of_methodNamed B.named
  have hlocks := B.notSynchronized
  have hS : va_S (fun _ => False) s.heap s.heap [] := va_S.rf
  have hi3 := hiX3_dayOfRank_3
  have hf9 := hts (.fieldLink RX3 9 "GaugeBook$Ranking" "days" "[I") (by decide +kernel)
  have hf22 := hts (.fieldLink RX3 22 "GaugeBook$Ranking" "ranked" "I") (by decide +kernel)
  have he9 : entryFrame m args 2 = F0 m 0 ((lg_sl ([.ref (ad 12), .int (iI k)] : List Value) ++ List.replicate (2 - (lg_sl ([.ref (ad 12), .int (iI k)] : List Value)).length) Slot.unset).toArray) [] := by rw [hav, lg_entry_eq]
  rw [he9]
  have hl := lv_entry ([.ref (ad 12), .int (iI k)] : List Value) (n := 2) (Nat.le_of_ble_eq_true rfl)
  generalize (lg_sl ([.ref (ad 12), .int (iI k)] : List Value) ++ List.replicate (2 - (lg_sl ([.ref (ad 12), .int (iI k)] : List Value)).length) Slot.unset).toArray = ls at hl ⊢
  have hl : lv_has ls 2 [(0, .ref (ad 12)), (1, .int (iI k))] := hl
  obtain ⟨Q9, hQ9⟩ : ∃ z, z = MQ below (gR0 (fun v9 => ∃ z : Int, v9 = some (.int (iI z)) ∧ ((1 ≤ k ∧ k ≤ n ∧ z = rd (k - 1)) ∨ (¬ (1 ≤ k ∧ k ≤ n) ∧ z = -1)))) args s 0 0 (fun _ => False) := ⟨_, rfl⟩
  rw [← hQ9]
  show W p l e rmX3_dayOfRank s m args below meth c s.heap [] 0 0 Q9 (F0 m 0 ls [])
  refine lv_iload_n (pc := 0) hx hb dX3_dayOfRank_0 rfl (lv_at hl 1 rfl) ?_
  refine k_iconst (pc := 1) hx hb dX3_dayOfRank_1 ?_
  refine k_icmp_lt (pc := 2) (tgt := 13) hx hb ⟨by omega, by omega⟩ ⟨by omega, by omega⟩ dX3_dayOfRank_2 (by decide) (fun hc_2 => ?_) (fun hc_2 => ?_)
  · skip
    refine k_iconst (pc := 13) hx hb dX3_dayOfRank_13 ?_
    refine lv_goto (pc := 14) (tgt := 25) hx hb dX3_dayOfRank_14 (by decide) ?_
    rw [hQ9]
    exact W.iret (v := iI (-1)) hx hb hret (fun t ht hW => ⟨some (.int (iI (-1))), rfl, ⟨(-1), rfl, Or.inr ⟨by omega, rfl⟩⟩, ht⟩) (fun q hq => by cases hq) dX3_dayOfRank_25
  · skip
    refine lv_iload_n (pc := 5) hx hb dX3_dayOfRank_5 rfl (lv_at hl 1 rfl) ?_
    refine lv_aload_n (pc := 6) hx hb dX3_dayOfRank_6 rfl (lv_at hl 0 rfl) ?_
    refine k_get (pc := 7) (ci := 3) (C := RX3) (T := TX3) (N := 4) hx hb hts hi3 hown hK hP 12 h12 rfl 3 (by decide) hf22 (fun _ h9 => h9) rfl dX3_dayOfRank_7 ?_
    refine k_icmp_le (pc := 10) (tgt := 17) hx hb ⟨by omega, by omega⟩ ⟨by omega, by omega⟩ dX3_dayOfRank_10 (by decide) (fun hc_10 => ?_) (fun hc_10 => ?_)
    · skip
      refine lv_aload_n (pc := 17) hx hb dX3_dayOfRank_17 rfl (lv_at hl 0 rfl) ?_
      refine k_get (pc := 18) (ci := 3) (C := RX3) (T := TX3) (N := 4) hx hb hts hi3 hown hK hP 12 h12 rfl 0 (by decide) hf9 (fun _ h9 => h9) rfl dX3_dayOfRank_18 ?_
      refine lv_iload_n (pc := 21) hx hb dX3_dayOfRank_21 rfl (lv_at hl 1 rfl) ?_
      refine k_iconst (pc := 22) hx hb dX3_dayOfRank_22 ?_
      refine k_isub (pc := 23) hx hb dX3_dayOfRank_23 ?_
      refine k_iald (pc := 24) hx hb hK hP 13 0 h13 rfl (by omega) (by omega) (by omega) dX3_dayOfRank_24 ?_
      rw [hQ9]
      exact W.iret (v := iI (rd (k - 1))) hx hb hret (fun t ht hW => ⟨some (.int (iI (rd (k - 1)))), rfl, ⟨rd (k - 1), rfl, Or.inl ⟨by omega, by omega, rfl⟩⟩, ht⟩) (fun q hq => by cases hq) dX3_dayOfRank_25
    · skip
      refine k_iconst (pc := 13) hx hb dX3_dayOfRank_13 ?_
      refine lv_goto (pc := 14) (tgt := 25) hx hb dX3_dayOfRank_14 (by decide) ?_
      rw [hQ9]
      exact W.iret (v := iI (-1)) hx hb hret (fun t ht hW => ⟨some (.int (iI (-1))), rfl, ⟨(-1), rfl, Or.inr ⟨by omega, rfl⟩⟩, ht⟩) (fun q hq => by cases hq) dX3_dayOfRank_25

abbrev rmX3_clearPeaks : Room := { frames := 0, cells := 0, slots := 0, locals := 0 }
theorem hiX3_clearPeaks_3 : ∀ w ∈ wsX30, w ∈ wsX3_clearPeaks := by decide +kernel
set_option maxHeartbeats 4000000 in
set_option maxRecDepth 100000 in
theorem c_X3_clearPeaks (l : Launch) (D : va_G) (cA : Nat → ClassId) (ad : Nat → Nat) (w : Nat → Option va_E) (sz : Nat) (F S : Int → Int) (n : Int) (rd rm_ rz : Int → Int) (h9 : w 9 = some (oB 1 [.ref (ad 10), .ref (ad 11)])) (h10 : w 10 = some (eJ (cA 2) 400 F)) (h11 : w 11 = some (eI (cA 0) 400 S)) (h12 : w 12 = some (oB 3 [.ref (ad 13), .ref (ad 14), .ref (ad 15), .int (iI n)])) (h13 : w 13 = some (eI (cA 0) 400 rd)) (h14 : w 14 = some (eI (cA 0) 400 rm_)) (h15 : w 15 = some (eI (cA 1) 400 rz)) (hF : ∀ j : Int, -1 ≤ F j ∧ F j ≤ 1000000000000) (hS9 : ∀ j : Int, 0 ≤ S j ∧ S j ≤ 3) (hn : 0 ≤ n ∧ n ≤ 400) : Met l yX3_clearPeaks wsX3_clearPeaks rmX3_clearPeaks (gV D cA ad w sz [.ref (ad 12)]) (gW D (fun v9 ad1 w1 => v9 = none ∧ ad1 = ad ∧ w1 = up w 15 (eI (cA 1) 400 (spanF rz 0 400 (fun _ => 0)))) (gA ad w sz)) 0 0 (gA ad w sz) := by
  refine Met.ofW (cc := cX3_clearPeaks) (maxL := 2) (ret := none) (by decide) rfl ?_
  intro p e s m args below meth c s₁ B hml hv
  obtain ⟨hav, hsz, hP, hD0, hK, hB, hZ⟩ := hv
  have hx := B.exec
  have hb := B.bytes
  have hret := B.returns
  have hts := atoms_spec (ws := wsX3_clearPeaks) B.pre
  have hown : s.vm.findClass RX3 = some m.cls := findClass_of_methodNamed B.named
  have hlocks := B.notSynchronized
  subst hsz
  have hD := hD0.self (sz := s.heap.size)
  generalize hAe : gA ad w s.heap.size = A at hD hZ ⊢
  have hA : ∀ q : Nat, s.heap.size ≤ q → A q := fun q h => by rw [← hAe]; exact Or.inr h
  have hS : va_S A s.heap s.heap [] := va_S.rf
  have hi3 := hiX3_clearPeaks_3
  have hf18 := hts (.fieldLink RX3 18 "GaugeBook$Ranking" "isNearPeak" "[Z") (by decide +kernel)
  have he9 : entryFrame m args 2 = F0 m 0 ((lg_sl ([.ref (ad 12)] : List Value) ++ List.replicate (2 - (lg_sl ([.ref (ad 12)] : List Value)).length) Slot.unset).toArray) [] := by rw [hav, lg_entry_eq]
  rw [he9]
  have hl := lv_entry ([.ref (ad 12)] : List Value) (n := 2) (Nat.le_of_ble_eq_true rfl)
  generalize (lg_sl ([.ref (ad 12)] : List Value) ++ List.replicate (2 - (lg_sl ([.ref (ad 12)] : List Value)).length) Slot.unset).toArray = ls at hl ⊢
  have hl : lv_has ls 2 [(0, .ref (ad 12))] := hl
  obtain ⟨Q9, hQ9⟩ : ∃ z, z = MQ below (gW D (fun v9 ad1 w1 => v9 = none ∧ ad1 = ad ∧ w1 = up w 15 (eI (cA 1) 400 (spanF rz 0 400 (fun _ => 0)))) A) args s 0 0 A := ⟨_, rfl⟩
  rw [← hQ9]
  show W p l e rmX3_clearPeaks s m args below meth c s.heap [] 0 0 Q9 (F0 m 0 ls [])
  obtain ⟨H, hHe⟩ : ∃ z, z = s.heap := ⟨_, rfl⟩
  obtain ⟨locs, hLe⟩ : ∃ z, z = ([] : List Loc) := ⟨_, rfl⟩
  have hP : gP D vwCl ad w H := by rw [hHe]; exact hP
  have hS : va_S A s.heap H locs := by rw [hHe, hLe]; exact va_S.rf
  rw [show W p l e rmX3_clearPeaks s m args below meth c s.heap [] 0 0 Q9 (F0 m 0 ls []) = W p l e rmX3_clearPeaks s m args below meth c H locs 0 0 Q9 (F0 m 0 ls []) by rw [hHe, hLe]]
  clear hHe hLe
  refine k_iconst (pc := 0) hx hb dX3_clearPeaks_0 ?_
  refine lv_istore_n (pc := 1) (lv' := [(1, .int (iI 0)), (0, .ref (ad 12))]) hx hb dX3_clearPeaks_1 rfl hl (by decide) rfl (fun ls hl => ?_)
  have lp_2 : ∀ (N9 : Nat) (d : Int), (0 ≤ d ∧ d ≤ 400) → (400 - d).toNat < N9 → ∀ (H : Heap) (locs : List Loc), gP D vwCl ad (up w 15 (eI (cA 1) 400 (spanF rz 0 d (fun _ => 0)))) H → gD A ad (up w 15 (eI (cA 1) 400 (spanF rz 0 d (fun _ => 0)))) → va_S A s.heap H locs → ∀ (ls : Array Slot), lv_has ls 2 [(1, .int (iI d)), (0, .ref (ad 12))] → W p l e rmX3_clearPeaks s m args below meth c H locs 0 0 Q9 (F0 m 2 ls []) := by
    intro N9
    induction N9 with
    | zero => intro d i0 hmu; exact absurd hmu (Nat.not_lt_zero _)
    | succ N9 ih_2 =>
      intro d i0 hmu_2 H locs hP hD hS ls hl
      refine lv_iload_n (pc := 2) hx hb dX3_clearPeaks_2 rfl (lv_at hl 0 rfl) ?_
      refine k_sipush (pc := 3) hx hb dX3_clearPeaks_3 (by decide +kernel) ?_
      refine k_icmp_ge (pc := 6) (tgt := 22) hx hb ⟨by omega, by omega⟩ ⟨by omega, by omega⟩ dX3_clearPeaks_6 (by decide) (fun hc_6 => ?_) (fun hc_6 => ?_)
      · skip
        rw [hQ9]
        exact W.vret hx hb hret (fun t ht hW => ⟨⟨none, ad, (up w 15 (eI (cA 1) 400 (spanF rz 0 d (fun _ => 0)))), rfl, ⟨rfl, rfl, by rw [show d = 400 by omega]⟩, by rw [ht]; exact hP, hD⟩, hS.F ht⟩) hS.2.2 dX3_clearPeaks_22
      · skip
        refine lv_aload_n (pc := 9) hx hb dX3_clearPeaks_9 rfl (lv_at hl 1 rfl) ?_
        refine k_get (pc := 10) (ci := 3) (C := RX3) (T := TX3) (N := 4) hx hb hts hi3 hown hK hP 12 (up_n (by decide) h12) rfl 2 (by decide) hf18 (fun _ h9 => h9) rfl dX3_clearPeaks_10 ?_
        refine lv_iload_n (pc := 13) hx hb dX3_clearPeaks_13 rfl (lv_at hl 0 rfl) ?_
        refine k_iconst (pc := 14) hx hb dX3_clearPeaks_14 ?_
        refine k_zast (pc := 15) (w1 := (up w 15 (eI (cA 1) 400 (updI (spanF rz 0 d (fun _ => 0)) d 0)))) hx hb hK hP hD hS 15 1 (up_s _ _ _) rfl (by omega) (by omega) (by omega) (Or.inl rfl) (up_up _ _ _ _) dX3_clearPeaks_15 (fun H locs hP hD hS => ?_)
        refine lv_iinc (pc := 16) (v := iI (d + 1)) (lv' := [(1, .int (iI (d + 1))), (0, .ref (ad 12))]) hx hb dX3_clearPeaks_16 hl (k := 0) rfl (iI_add _ _) (by decide) rfl (fun ls hl => ?_)
        refine lv_goto (pc := 19) (tgt := 2) hx hb dX3_clearPeaks_19 (by decide) ?_
        have hW9 : ((up w 15 (eI (cA 1) 400 (updI (spanF rz 0 d (fun _ => 0)) d 0)))) = (up w 15 (eI (cA 1) 400 (spanF rz 0 (d + 1) (fun _ => 0)))) := by rw [show updI (spanF rz 0 d (fun _ => 0)) d 0 = spanF rz 0 (d + 1) (fun _ => 0) by have h9_ := spanF_s rz (d := 0) (m := d) (fun _ => 0) (by omega) (x := 0) rfl; rw [Int.zero_add] at h9_; exact h9_]
        rw [hW9] at hP hD
        exact ih_2 (d + 1) (by omega) (by omega) H locs hP hD hS ls (lv_sub hl [0, 1] rfl)
  have hW9 : (w) = (up w 15 (eI (cA 1) 400 (spanF rz 0 0 (fun _ => 0)))) := by rw [spanF_0, up_self h15]
  rw [hW9] at hP hD
  exact lp_2 _ 0 (by omega) (Nat.lt_succ_self _) H locs hP hD hS ls (lv_sub hl [0, 1] rfl)

abbrev rmX3_markNear : Room := { frames := 1, cells := 0, slots := 0, locals := 13 }
theorem hiX3_markNear_3 : ∀ w ∈ wsX30, w ∈ wsX3_markNear := by decide +kernel
set_option maxHeartbeats 4000000 in
set_option maxRecDepth 100000 in
theorem c_X3_markNear (l : Launch) (D : va_G) (cA : Nat → ClassId) (ad : Nat → Nat) (w : Nat → Option va_E) (sz : Nat) (F S : Int → Int) (n : Int) (rd rm_ rz : Int → Int) (h9 : w 9 = some (oB 1 [.ref (ad 10), .ref (ad 11)])) (h10 : w 10 = some (eJ (cA 2) 400 F)) (h11 : w 11 = some (eI (cA 0) 400 S)) (h12 : w 12 = some (oB 3 [.ref (ad 13), .ref (ad 14), .ref (ad 15), .int (iI n)])) (h13 : w 13 = some (eI (cA 0) 400 rd)) (h14 : w 14 = some (eI (cA 0) 400 rm_)) (h15 : w 15 = some (eI (cA 1) 400 rz)) (hF : ∀ j : Int, -1 ≤ F j ∧ F j ≤ 1000000000000) (hS9 : ∀ j : Int, 0 ≤ S j ∧ S j ≤ 3) (hn : 0 ≤ n ∧ n ≤ 400) (pk ap : Int) (hpk : 0 ≤ pk ∧ pk < 400) (hap : 1 ≤ ap ∧ ap ≤ 100) : Met l yX3_markNear wsX3_markNear rmX3_markNear (gV D cA ad w sz [.ref (ad 12), .int (iI pk), .int (iI ap)]) (gW D (fun v9 ad1 w1 => v9 = none ∧ ad1 = ad ∧ w1 = up w 15 (eI (cA 1) 400 (nrF rz pk ap))) (gA ad w sz)) 0 0 (gA ad w sz) := by
  refine Met.ofW (cc := cX3_markNear) (maxL := 6) (ret := none) (by decide) rfl ?_
  intro p e s m args below meth c s₁ B hml hv
  obtain ⟨hav, hsz, hP, hD0, hK, hB, hZ⟩ := hv
  have hx := B.exec
  have hb := B.bytes
  have hret := B.returns
  have hts := atoms_spec (ws := wsX3_markNear) B.pre
  have hown : s.vm.findClass RX3 = some m.cls := findClass_of_methodNamed B.named
  have hlocks := B.notSynchronized
  subst hsz
  have hD := hD0.self (sz := s.heap.size)
  generalize hAe : gA ad w s.heap.size = A at hD hZ ⊢
  have hA : ∀ q : Nat, s.heap.size ≤ q → A q := fun q h => by rw [← hAe]; exact Or.inr h
  have hS : va_S A s.heap s.heap [] := va_S.rf
  have hi3 := hiX3_markNear_3
  have hf18 := hts (.fieldLink RX3 18 "GaugeBook$Ranking" "isNearPeak" "[Z") (by decide +kernel)
  have he9 : entryFrame m args 6 = F0 m 0 ((lg_sl ([.ref (ad 12), .int (iI pk), .int (iI ap)] : List Value) ++ List.replicate (6 - (lg_sl ([.ref (ad 12), .int (iI pk), .int (iI ap)] : List Value)).length) Slot.unset).toArray) [] := by rw [hav, lg_entry_eq]
  rw [he9]
  have hl := lv_entry ([.ref (ad 12), .int (iI pk), .int (iI ap)] : List Value) (n := 6) (Nat.le_of_ble_eq_true rfl)
  generalize (lg_sl ([.ref (ad 12), .int (iI pk), .int (iI ap)] : List Value) ++ List.replicate (6 - (lg_sl ([.ref (ad 12), .int (iI pk), .int (iI ap)] : List Value)).length) Slot.unset).toArray = ls at hl ⊢
  have hl : lv_has ls 6 [(0, .ref (ad 12)), (1, .int (iI pk)), (2, .int (iI ap))] := hl
  obtain ⟨Q9, hQ9⟩ : ∃ z, z = MQ below (gW D (fun v9 ad1 w1 => v9 = none ∧ ad1 = ad ∧ w1 = up w 15 (eI (cA 1) 400 (nrF rz pk ap))) A) args s 0 0 A := ⟨_, rfl⟩
  rw [← hQ9]
  show W p l e rmX3_markNear s m args below meth c s.heap [] 0 0 Q9 (F0 m 0 ls [])
  obtain ⟨H, hHe⟩ : ∃ z, z = s.heap := ⟨_, rfl⟩
  obtain ⟨locs, hLe⟩ : ∃ z, z = ([] : List Loc) := ⟨_, rfl⟩
  have hP : gP D vwCl ad w H := by rw [hHe]; exact hP
  have hS : va_S A s.heap H locs := by rw [hHe, hLe]; exact va_S.rf
  rw [show W p l e rmX3_markNear s m args below meth c s.heap [] 0 0 Q9 (F0 m 0 ls []) = W p l e rmX3_markNear s m args below meth c H locs 0 0 Q9 (F0 m 0 ls []) by rw [hHe, hLe]]
  clear hHe hLe
  refine k_iconst (pc := 0) hx hb dX3_markNear_0 ?_
  refine lv_iload_n (pc := 1) hx hb dX3_markNear_1 rfl (lv_at hl 1 rfl) ?_
  refine lv_iload_n (pc := 2) hx hb dX3_markNear_2 rfl (lv_at hl 2 rfl) ?_
  refine k_isub (pc := 3) hx hb dX3_markNear_3 ?_
  refine k_iconst (pc := 4) hx hb dX3_markNear_4 ?_
  refine k_iadd (pc := 5) hx hb dX3_markNear_5 ?_
  refine k_mmax (pc := 6) hx hb (hml.trans hl.1.symm) hown (hts (.methodLink RX3 67 Lib.Math.max.name) (by decide +kernel)) (hts (.static Lib.Math.max.name) (by decide +kernel)) (hts (.initialized "java/lang/Math") (by decide +kernel)) (hts (.code Lib.Math.max.name Lib.Math.max.code 2 (some .int)) (by decide +kernel)) (Nat.le_of_ble_eq_true rfl) (Nat.le_of_ble_eq_true rfl) (Nat.le_of_ble_eq_true rfl) (Nat.le_of_ble_eq_true rfl) ⟨by omega, by omega⟩ ⟨by omega, by omega⟩ dX3_markNear_6 ?_
  obtain ⟨a9, ha9⟩ : ∃ x9 : Int, x9 = max 0 ((pk - ap) + 1) := ⟨_, rfl⟩
  rw [← ha9]
  refine lv_istore_n (pc := 9) (lv' := [(3, .int (iI a9)), (0, .ref (ad 12)), (1, .int (iI pk)), (2, .int (iI ap))]) hx hb dX3_markNear_9 rfl hl (by decide) rfl (fun ls hl => ?_)
  refine k_sipush (pc := 10) hx hb dX3_markNear_10 (by decide +kernel) ?_
  refine lv_iload_n (pc := 13) hx hb dX3_markNear_13 rfl (lv_at hl 2 rfl) ?_
  refine lv_iload_n (pc := 14) hx hb dX3_markNear_14 rfl (lv_at hl 3 rfl) ?_
  refine k_iadd (pc := 15) hx hb dX3_markNear_15 ?_
  refine k_iconst (pc := 16) hx hb dX3_markNear_16 ?_
  refine k_isub (pc := 17) hx hb dX3_markNear_17 ?_
  refine k_mmin (pc := 18) hx hb (hml.trans hl.1.symm) hown (hts (.methodLink RX3 51 Lib.Math.min.name) (by decide +kernel)) (hts (.static Lib.Math.min.name) (by decide +kernel)) (hts (.initialized "java/lang/Math") (by decide +kernel)) (hts (.code Lib.Math.min.name Lib.Math.min.code 2 (some .int)) (by decide +kernel)) (Nat.le_of_ble_eq_true rfl) (Nat.le_of_ble_eq_true rfl) (Nat.le_of_ble_eq_true rfl) (Nat.le_of_ble_eq_true rfl) ⟨by omega, by omega⟩ ⟨by omega, by omega⟩ dX3_markNear_18 ?_
  obtain ⟨b9, hb9⟩ : ∃ x9 : Int, x9 = min 399 ((pk + ap) - 1) := ⟨_, rfl⟩
  rw [← hb9]
  refine lv_istore (pc := 21) (lv' := [(4, .int (iI b9)), (3, .int (iI a9)), (0, .ref (ad 12)), (1, .int (iI pk)), (2, .int (iI ap))]) hx hb dX3_markNear_21 hl (by decide) rfl (fun ls hl => ?_)
  refine lv_iload_n (pc := 23) hx hb dX3_markNear_23 rfl (lv_at hl 1 rfl) ?_
  refine lv_istore (pc := 24) (lv' := [(5, .int (iI a9)), (4, .int (iI b9)), (3, .int (iI a9)), (0, .ref (ad 12)), (1, .int (iI pk)), (2, .int (iI ap))]) hx hb dX3_markNear_24 hl (by decide) rfl (fun ls hl => ?_)
  have lp_26 : ∀ (N9 : Nat) (x : Int), (a9 ≤ x ∧ x ≤ b9 + 1) → (b9 + 1 - x).toNat < N9 → ∀ (H : Heap) (locs : List Loc), gP D vwCl ad (up w 15 (eI (cA 1) 400 (spanF rz a9 (x - a9) (fun _ => 1)))) H → gD A ad (up w 15 (eI (cA 1) 400 (spanF rz a9 (x - a9) (fun _ => 1)))) → va_S A s.heap H locs → ∀ (ls : Array Slot), lv_has ls 6 [(5, .int (iI x)), (4, .int (iI b9)), (3, .int (iI a9)), (0, .ref (ad 12)), (1, .int (iI pk)), (2, .int (iI ap))] → W p l e rmX3_markNear s m args below meth c H locs 0 0 Q9 (F0 m 26 ls []) := by
    intro N9
    induction N9 with
    | zero => intro x i0 hmu; exact absurd hmu (Nat.not_lt_zero _)
    | succ N9 ih_26 =>
      intro x i0 hmu_26 H locs hP hD hS ls hl
      refine lv_iload (pc := 26) hx hb dX3_markNear_26 (lv_at hl 0 rfl) ?_
      refine lv_iload (pc := 28) hx hb dX3_markNear_28 (lv_at hl 1 rfl) ?_
      refine k_icmp_gt (pc := 30) (tgt := 47) hx hb ⟨by omega, by omega⟩ ⟨by omega, by omega⟩ dX3_markNear_30 (by decide) (fun hc_30 => ?_) (fun hc_30 => ?_)
      · skip
        rw [hQ9]
        exact W.vret hx hb hret (fun t ht hW => ⟨⟨none, ad, (up w 15 (eI (cA 1) 400 (spanF rz a9 (x - a9) (fun _ => 1)))), rfl, ⟨rfl, rfl, by rw [nr_e hpk hap.1 ha9 (by omega)]⟩, by rw [ht]; exact hP, hD⟩, hS.F ht⟩) hS.2.2 dX3_markNear_47
      · skip
        refine lv_aload_n (pc := 33) hx hb dX3_markNear_33 rfl (lv_at hl 3 rfl) ?_
        refine k_get (pc := 34) (ci := 3) (C := RX3) (T := TX3) (N := 4) hx hb hts hi3 hown hK hP 12 (up_n (by decide) h12) rfl 2 (by decide) hf18 (fun _ h9 => h9) rfl dX3_markNear_34 ?_
        refine lv_iload (pc := 37) hx hb dX3_markNear_37 (lv_at hl 0 rfl) ?_
        refine k_iconst (pc := 39) hx hb dX3_markNear_39 ?_
        refine k_zast (pc := 40) (w1 := (up w 15 (eI (cA 1) 400 (updI (spanF rz a9 (x - a9) (fun _ => 1)) x 1)))) hx hb hK hP hD hS 15 1 (up_s _ _ _) rfl (by omega) (by omega) (by omega) (Or.inr rfl) (up_up _ _ _ _) dX3_markNear_40 (fun H locs hP hD hS => ?_)
        refine lv_iinc (pc := 41) (v := iI (x + 1)) (lv' := [(5, .int (iI (x + 1))), (4, .int (iI b9)), (3, .int (iI a9)), (0, .ref (ad 12)), (1, .int (iI pk)), (2, .int (iI ap))]) hx hb dX3_markNear_41 hl (k := 0) rfl (iI_add _ _) (by decide) rfl (fun ls hl => ?_)
        refine lv_goto (pc := 44) (tgt := 26) hx hb dX3_markNear_44 (by decide) ?_
        have hW9 : ((up w 15 (eI (cA 1) 400 (updI (spanF rz a9 (x - a9) (fun _ => 1)) x 1)))) = (up w 15 (eI (cA 1) 400 (spanF rz a9 ((x + 1) - a9) (fun _ => 1)))) := by rw [show updI (spanF rz a9 (x - a9) (fun _ => 1)) x 1 = spanF rz a9 (x + 1 - a9) (fun _ => 1) by have h9_ := spanF_s rz (d := a9) (m := x - a9) (fun _ => 1) (by omega) (x := 1) rfl; rw [show a9 + (x - a9) = x by omega, show x - a9 + 1 = x + 1 - a9 by omega] at h9_; exact h9_]
        rw [hW9] at hP hD
        exact ih_26 (x + 1) (by omega) (by omega) H locs hP hD hS ls (lv_sub hl [0, 1, 2, 3, 4, 5] rfl)
  have hW9 : (w) = (up w 15 (eI (cA 1) 400 (spanF rz a9 (a9 - a9) (fun _ => 1)))) := by rw [Int.sub_self, spanF_0, up_self h15]
  rw [hW9] at hP hD
  exact lp_26 _ a9 (by omega) (Nat.lt_succ_self _) H locs hP hD hS ls (lv_sub hl [0, 1, 2, 3, 4, 5] rfl)

abbrev rmX3_merge : Room := { frames := 1, cells := 0, slots := 0, locals := 21 }
theorem hiX3_merge_3 : ∀ w ∈ wsX30, w ∈ wsX3_merge := by decide +kernel
set_option maxHeartbeats 4000000 in
set_option maxRecDepth 100000 in
theorem c_X3_merge (l : Launch) (D : va_G) (cA : Nat → ClassId) (ad : Nat → Nat) (w : Nat → Option va_E) (sz : Nat) (F S : Int → Int) (n : Int) (rd rm_ rz : Int → Int) (h9 : w 9 = some (oB 1 [.ref (ad 10), .ref (ad 11)])) (h10 : w 10 = some (eJ (cA 2) 400 F)) (h11 : w 11 = some (eI (cA 0) 400 S)) (h12 : w 12 = some (oB 3 [.ref (ad 13), .ref (ad 14), .ref (ad 15), .int (iI n)])) (h13 : w 13 = some (eI (cA 0) 400 rd)) (h14 : w 14 = some (eI (cA 0) 400 rm_)) (h15 : w 15 = some (eI (cA 1) 400 rz)) (hF : ∀ j : Int, -1 ≤ F j ∧ F j ≤ 1000000000000) (hS9 : ∀ j : Int, 0 ≤ S j ∧ S j ≤ 3) (hn : 0 ≤ n ∧ n ≤ 400) (sa mi en : Int) (hh : 0 ≤ sa ∧ sa ≤ mi ∧ mi ≤ en ∧ en ≤ 400) (hin9 : ∀ i : Int, sa ≤ i → i < en → 0 ≤ rd i ∧ rd i < 400) (hs1 : srtP F rd sa mi) (hs2 : srtP F rd mi en) (hx9 : ∀ i j : Int, sa ≤ i → i < mi → mi ≤ j → j < en → rd i < rd j) : Met l yX3_merge wsX3_merge rmX3_merge (gV D cA ad w sz [.ref (ad 12), .ref (ad 9), .int (iI sa), .int (iI mi), .int (iI en)]) (gW D (fun v9 ad1 w1 => v9 = none ∧ ad1 = ad ∧ ∃ g : Int → Int, w1 = up w 14 (eI (cA 0) 400 g) ∧ blkP F rd g sa en ∧ ∀ j : Int, (j < sa ∨ en ≤ j) → g j = rm_ j) (gA ad w sz)) 0 0 (gA ad w sz) := by
  refine Met.ofW (cc := cX3_merge) (maxL := 9) (ret := none) (by decide) rfl ?_
  intro p e s m args below meth c s₁ B hml hv
  obtain ⟨hav, hsz, hP, hD0, hK, hB, hZ⟩ := hv
  have hx := B.exec
  have hb := B.bytes
  have hret := B.returns
  have hts := atoms_spec (ws := wsX3_merge) B.pre
  have hown : s.vm.findClass RX3 = some m.cls := findClass_of_methodNamed B.named
  have hlocks := B.notSynchronized
  subst hsz
  have hD := hD0.self (sz := s.heap.size)
  generalize hAe : gA ad w s.heap.size = A at hD hZ ⊢
  have hA : ∀ q : Nat, s.heap.size ≤ q → A q := fun q h => by rw [← hAe]; exact Or.inr h
  have hS : va_S A s.heap s.heap [] := va_S.rf
  have hi3 := hiX3_merge_3
  have hf9 := hts (.fieldLink RX3 9 "GaugeBook$Ranking" "days" "[I") (by decide +kernel)
  have hf15 := hts (.fieldLink RX3 15 "GaugeBook$Ranking" "merged" "[I") (by decide +kernel)
  have he9 : entryFrame m args 9 = F0 m 0 ((lg_sl ([.ref (ad 12), .ref (ad 9), .int (iI sa), .int (iI mi), .int (iI en)] : List Value) ++ List.replicate (9 - (lg_sl ([.ref (ad 12), .ref (ad 9), .int (iI sa), .int (iI mi), .int (iI en)] : List Value)).length) Slot.unset).toArray) [] := by rw [hav, lg_entry_eq]
  rw [he9]
  have hl := lv_entry ([.ref (ad 12), .ref (ad 9), .int (iI sa), .int (iI mi), .int (iI en)] : List Value) (n := 9) (Nat.le_of_ble_eq_true rfl)
  generalize (lg_sl ([.ref (ad 12), .ref (ad 9), .int (iI sa), .int (iI mi), .int (iI en)] : List Value) ++ List.replicate (9 - (lg_sl ([.ref (ad 12), .ref (ad 9), .int (iI sa), .int (iI mi), .int (iI en)] : List Value)).length) Slot.unset).toArray = ls at hl ⊢
  have hl : lv_has ls 9 [(0, .ref (ad 12)), (1, .ref (ad 9)), (2, .int (iI sa)), (3, .int (iI mi)), (4, .int (iI en))] := hl
  obtain ⟨Q9, hQ9⟩ : ∃ z, z = MQ below (gW D (fun v9 ad1 w1 => v9 = none ∧ ad1 = ad ∧ ∃ g : Int → Int, w1 = up w 14 (eI (cA 0) 400 g) ∧ blkP F rd g sa en ∧ ∀ j : Int, (j < sa ∨ en ≤ j) → g j = rm_ j) A) args s 0 0 A := ⟨_, rfl⟩
  rw [← hQ9]
  show W p l e rmX3_merge s m args below meth c s.heap [] 0 0 Q9 (F0 m 0 ls [])
  obtain ⟨H, hHe⟩ : ∃ z, z = s.heap := ⟨_, rfl⟩
  obtain ⟨locs, hLe⟩ : ∃ z, z = ([] : List Loc) := ⟨_, rfl⟩
  have hP : gP D vwCl ad w H := by rw [hHe]; exact hP
  have hS : va_S A s.heap H locs := by rw [hHe, hLe]; exact va_S.rf
  rw [show W p l e rmX3_merge s m args below meth c s.heap [] 0 0 Q9 (F0 m 0 ls []) = W p l e rmX3_merge s m args below meth c H locs 0 0 Q9 (F0 m 0 ls []) by rw [hHe, hLe]]
  clear hHe hLe
  refine lv_iload_n (pc := 0) hx hb dX3_merge_0 rfl (lv_at hl 2 rfl) ?_
  refine lv_istore (pc := 1) (lv' := [(5, .int (iI sa)), (0, .ref (ad 12)), (1, .ref (ad 9)), (2, .int (iI sa)), (3, .int (iI mi)), (4, .int (iI en))]) hx hb dX3_merge_1 hl (by decide) rfl (fun ls hl => ?_)
  refine lv_iload_n (pc := 3) hx hb dX3_merge_3 rfl (lv_at hl 4 rfl) ?_
  refine lv_istore (pc := 4) (lv' := [(6, .int (iI mi)), (5, .int (iI sa)), (0, .ref (ad 12)), (1, .ref (ad 9)), (2, .int (iI sa)), (3, .int (iI mi)), (4, .int (iI en))]) hx hb dX3_merge_4 hl (by decide) rfl (fun ls hl => ?_)
  refine lv_iload_n (pc := 6) hx hb dX3_merge_6 rfl (lv_at hl 4 rfl) ?_
  refine lv_istore (pc := 7) (lv' := [(7, .int (iI sa)), (6, .int (iI mi)), (5, .int (iI sa)), (0, .ref (ad 12)), (1, .ref (ad 9)), (2, .int (iI sa)), (3, .int (iI mi)), (4, .int (iI en))]) hx hb dX3_merge_7 hl (by decide) rfl (fun ls hl => ?_)
  have lp_9 : ∀ (N9 : Nat) (lf : Int) (rt : Int) (pl : Int) (g : Int → Int), (sa ≤ lf ∧ lf ≤ mi ∧ mi ≤ rt ∧ rt ≤ en ∧ pl = lf + (rt - mi)) → (mgP F rd g sa mi en lf rt pl) → (∀ j : Int, (j < sa ∨ en ≤ j) → g j = rm_ j) → (en - pl).toNat < N9 → ∀ (H : Heap) (locs : List Loc), gP D vwCl ad (up w 14 (eI (cA 0) 400 g)) H → gD A ad (up w 14 (eI (cA 0) 400 g)) → va_S A s.heap H locs → ∀ (ls : Array Slot), lv_has ls 9 [(7, .int (iI pl)), (6, .int (iI rt)), (5, .int (iI lf)), (0, .ref (ad 12)), (1, .ref (ad 9)), (2, .int (iI sa)), (3, .int (iI mi)), (4, .int (iI en))] → W p l e rmX3_merge s m args below meth c H locs 0 0 Q9 (F0 m 9 ls []) := by
    intro N9
    induction N9 with
    | zero => intro lf rt pl g i0 iM iK hmu; exact absurd hmu (Nat.not_lt_zero _)
    | succ N9 ih_9 =>
      intro lf rt pl g i0 iM iK hmu_9 H locs hP hD hS ls hl
      refine lv_iload (pc := 9) hx hb dX3_merge_9 (lv_at hl 0 rfl) ?_
      refine lv_iload (pc := 11) hx hb dX3_merge_11 (lv_at hl 7 rfl) ?_
      refine k_icmp_ge (pc := 13) (tgt := 117) hx hb ⟨by omega, by omega⟩ ⟨by omega, by omega⟩ dX3_merge_13 (by decide) (fun hc_13 => ?_) (fun hc_13 => ?_)
      · skip
        have e1_ : lf = mi := by omega
        have e2_ : rt = en := by omega
        have e3_ : pl = en := by omega
        rw [hQ9]
        exact W.vret hx hb hret (fun t ht hW => ⟨⟨none, ad, (up w 14 (eI (cA 0) 400 g)), rfl, ⟨rfl, rfl, g, rfl, mg_e (s := sa) (mi := mi) (en := en) ⟨by omega, by omega⟩ (by rw [e1_, e2_, e3_] at iM; exact iM), iK⟩, by rw [ht]; exact hP, hD⟩, hS.F ht⟩) hS.2.2 dX3_merge_117
      · skip
        refine lv_iload (pc := 16) hx hb dX3_merge_16 (lv_at hl 2 rfl) ?_
        refine lv_iload_n (pc := 18) hx hb dX3_merge_18 rfl (lv_at hl 6 rfl) ?_
        refine k_icmp_ge (pc := 19) (tgt := 59) hx hb ⟨by omega, by omega⟩ ⟨by omega, by omega⟩ dX3_merge_19 (by decide) (fun hc_19 => ?_) (fun hc_19 => ?_)
        · skip
          refine k_iconst (pc := 59) hx hb dX3_merge_59 ?_
          refine lv_istore (pc := 60) (lv' := [(8, .int (iI 0)), (7, .int (iI pl)), (6, .int (iI rt)), (5, .int (iI lf)), (0, .ref (ad 12)), (1, .ref (ad 9)), (2, .int (iI sa)), (3, .int (iI mi)), (4, .int (iI en))]) hx hb dX3_merge_60 hl (by decide) rfl (fun ls hl => ?_)
          refine lv_iload (pc := 62) hx hb dX3_merge_62 (lv_at hl 0 rfl) ?_
          refine k_if_eq (pc := 64) (tgt := 87) hx hb ⟨by omega, by omega⟩ dX3_merge_64 (by decide) (fun hc_64 => ?_) (fun hc_64 => ?_)
          · skip
            refine lv_iload (pc := 87) hx hb dX3_merge_87 (lv_at hl 2 rfl) ?_
            refine lv_iload (pc := 89) hx hb dX3_merge_89 (lv_at hl 8 rfl) ?_
            refine k_icmp_ge (pc := 91) (tgt := 111) hx hb ⟨by omega, by omega⟩ ⟨by omega, by omega⟩ dX3_merge_91 (by decide) (fun hc_91 => ?_) (fun hc_91 => ?_)
            · skip
              exfalso
              omega
            · skip
              refine lv_aload_n (pc := 94) hx hb dX3_merge_94 rfl (lv_at hl 4 rfl) ?_
              refine k_get (pc := 95) (ci := 3) (C := RX3) (T := TX3) (N := 4) hx hb hts hi3 hown hK hP 12 (up_n (by decide) h12) rfl 1 (by decide) hf15 (fun _ h9 => h9) rfl dX3_merge_95 ?_
              refine lv_iload (pc := 98) hx hb dX3_merge_98 (lv_at hl 1 rfl) ?_
              refine lv_aload_n (pc := 100) hx hb dX3_merge_100 rfl (lv_at hl 4 rfl) ?_
              refine k_get (pc := 101) (ci := 3) (C := RX3) (T := TX3) (N := 4) hx hb hts hi3 hown hK hP 12 (up_n (by decide) h12) rfl 0 (by decide) hf9 (fun _ h9 => h9) rfl dX3_merge_101 ?_
              refine lv_iload (pc := 104) hx hb dX3_merge_104 (lv_at hl 2 rfl) ?_
              refine k_iald (pc := 106) hx hb hK hP 13 0 (up_n (by decide) h13) rfl (by omega) (by omega) (by omega) dX3_merge_106 ?_
              refine k_iast (pc := 107) (w1 := (up w 14 (eI (cA 0) 400 (updI g pl (rd rt))))) hx hb hK hP hD hS 14 0 (up_s _ _ _) rfl (by omega) (by omega) (by omega) (up_up _ _ _ _) dX3_merge_107 (fun H locs hP hD hS => ?_)
              refine lv_iinc (pc := 108) (v := iI (rt + 1)) (lv' := [(6, .int (iI (rt + 1))), (8, .int (iI 0)), (7, .int (iI pl)), (5, .int (iI lf)), (0, .ref (ad 12)), (1, .ref (ad 9)), (2, .int (iI sa)), (3, .int (iI mi)), (4, .int (iI en))]) hx hb dX3_merge_108 hl (k := 2) rfl (iI_add _ _) (by decide) rfl (fun ls hl => ?_)
              refine lv_iinc (pc := 111) (v := iI (pl + 1)) (lv' := [(7, .int (iI (pl + 1))), (6, .int (iI (rt + 1))), (8, .int (iI 0)), (5, .int (iI lf)), (0, .ref (ad 12)), (1, .ref (ad 9)), (2, .int (iI sa)), (3, .int (iI mi)), (4, .int (iI en))]) hx hb dX3_merge_111 hl (k := 2) rfl (iI_add _ _) (by decide) rfl (fun ls hl => ?_)
              refine lv_goto (pc := 114) (tgt := 9) hx hb dX3_merge_114 (by decide) ?_
              exact ih_9 lf (rt + 1) (pl + 1) (updI g pl (rd rt)) (by omega) (mg_r (by omega) iM hs1 hs2 (by omega)) (fun j hj => by rw [updI_n _ _ (by omega)]; exact iK j hj) (by omega) H locs hP hD hS ls (lv_sub hl [0, 1, 3, 4, 5, 6, 7, 8] rfl)
          · skip
            exfalso
            omega
        · skip
          refine lv_iload (pc := 22) hx hb dX3_merge_22 (lv_at hl 1 rfl) ?_
          refine lv_iload (pc := 24) hx hb dX3_merge_24 (lv_at hl 7 rfl) ?_
          refine k_icmp_ge (pc := 26) (tgt := 55) hx hb ⟨by omega, by omega⟩ ⟨by omega, by omega⟩ dX3_merge_26 (by decide) (fun hc_26 => ?_) (fun hc_26 => ?_)
          · skip
            refine k_iconst (pc := 55) hx hb dX3_merge_55 ?_
            refine lv_goto (pc := 56) (tgt := 60) hx hb dX3_merge_56 (by decide) ?_
            refine lv_istore (pc := 60) (lv' := [(8, .int (iI 1)), (7, .int (iI pl)), (6, .int (iI rt)), (5, .int (iI lf)), (0, .ref (ad 12)), (1, .ref (ad 9)), (2, .int (iI sa)), (3, .int (iI mi)), (4, .int (iI en))]) hx hb dX3_merge_60 hl (by decide) rfl (fun ls hl => ?_)
            refine lv_iload (pc := 62) hx hb dX3_merge_62 (lv_at hl 0 rfl) ?_
            refine k_if_eq (pc := 64) (tgt := 87) hx hb ⟨by omega, by omega⟩ dX3_merge_64 (by decide) (fun hc_64 => ?_) (fun hc_64 => ?_)
            · skip
              exfalso
              omega
            · skip
              refine lv_aload_n (pc := 67) hx hb dX3_merge_67 rfl (lv_at hl 4 rfl) ?_
              refine k_get (pc := 68) (ci := 3) (C := RX3) (T := TX3) (N := 4) hx hb hts hi3 hown hK hP 12 (up_n (by decide) h12) rfl 1 (by decide) hf15 (fun _ h9 => h9) rfl dX3_merge_68 ?_
              refine lv_iload (pc := 71) hx hb dX3_merge_71 (lv_at hl 1 rfl) ?_
              refine lv_aload_n (pc := 73) hx hb dX3_merge_73 rfl (lv_at hl 4 rfl) ?_
              refine k_get (pc := 74) (ci := 3) (C := RX3) (T := TX3) (N := 4) hx hb hts hi3 hown hK hP 12 (up_n (by decide) h12) rfl 0 (by decide) hf9 (fun _ h9 => h9) rfl dX3_merge_74 ?_
              refine lv_iload (pc := 77) hx hb dX3_merge_77 (lv_at hl 3 rfl) ?_
              refine k_iald (pc := 79) hx hb hK hP 13 0 (up_n (by decide) h13) rfl (by omega) (by omega) (by omega) dX3_merge_79 ?_
              refine k_iast (pc := 80) (w1 := (up w 14 (eI (cA 0) 400 (updI g pl (rd lf))))) hx hb hK hP hD hS 14 0 (up_s _ _ _) rfl (by omega) (by omega) (by omega) (up_up _ _ _ _) dX3_merge_80 (fun H locs hP hD hS => ?_)
              refine lv_iinc (pc := 81) (v := iI (lf + 1)) (lv' := [(5, .int (iI (lf + 1))), (8, .int (iI 1)), (7, .int (iI pl)), (6, .int (iI rt)), (0, .ref (ad 12)), (1, .ref (ad 9)), (2, .int (iI sa)), (3, .int (iI mi)), (4, .int (iI en))]) hx hb dX3_merge_81 hl (k := 3) rfl (iI_add _ _) (by decide) rfl (fun ls hl => ?_)
              refine lv_goto (pc := 84) (tgt := 111) hx hb dX3_merge_84 (by decide) ?_
              refine lv_iinc (pc := 111) (v := iI (pl + 1)) (lv' := [(7, .int (iI (pl + 1))), (5, .int (iI (lf + 1))), (8, .int (iI 1)), (6, .int (iI rt)), (0, .ref (ad 12)), (1, .ref (ad 9)), (2, .int (iI sa)), (3, .int (iI mi)), (4, .int (iI en))]) hx hb dX3_merge_111 hl (k := 2) rfl (iI_add _ _) (by decide) rfl (fun ls hl => ?_)
              refine lv_goto (pc := 114) (tgt := 9) hx hb dX3_merge_114 (by decide) ?_
              exact ih_9 (lf + 1) rt (pl + 1) (updI g pl (rd lf)) (by omega) (mg_l (by omega) iM hs1 hs2 hx9 (by omega)) (fun j hj => by rw [updI_n _ _ (by omega)]; exact iK j hj) (by omega) H locs hP hD hS ls (lv_sub hl [0, 3, 1, 4, 5, 6, 7, 8] rfl)
          · skip
            refine lv_aload_n (pc := 29) hx hb dX3_merge_29 rfl (lv_at hl 4 rfl) ?_
            refine lv_aload_n (pc := 30) hx hb dX3_merge_30 rfl (lv_at hl 3 rfl) ?_
            refine k_get (pc := 31) (ci := 3) (C := RX3) (T := TX3) (N := 4) hx hb hts hi3 hown hK hP 12 (up_n (by decide) h12) rfl 0 (by decide) hf9 (fun _ h9 => h9) rfl dX3_merge_31 ?_
            refine lv_iload (pc := 34) hx hb dX3_merge_34 (lv_at hl 2 rfl) ?_
            refine k_iald (pc := 36) hx hb hK hP 13 0 (up_n (by decide) h13) rfl (by omega) (by omega) (by omega) dX3_merge_36 ?_
            have hr_1 := hin9 lf (by omega) (by omega)
            refine k_call0 (pc := 37) (va_runV (As := [.int (iI (rd lf))]) (rest := []) ⟨hx, hb, hml, hown, hts⟩ (c_X1_flowOn l D cA ad (up w 14 (eI (cA 0) 400 g)) 9 10 11 F S (up_n (by decide) h9) (up_n (by decide) h10) (up_n (by decide) h11) hF hS9 (rd lf) ⟨by omega, by omega⟩) (cwV 1 hts gX3_merge_X1_flowOn rfl rfl rfl (by decide +kernel) ⟨Nat.le_of_ble_eq_true rfl, Nat.le_of_ble_eq_true rfl⟩) (gR_V hP hK hB 9 (ci := 1) rfl (up_n (by decide) h9)) rfl rfl hl.1 rfl (lv_room (Nat.le_of_ble_eq_true rfl)) dX3_merge_37 ⟨Nat.le_of_ble_eq_true rfl, Nat.le_of_ble_eq_true rfl⟩) (fun v_37 hv_37 => ?_)
            obtain ⟨z_37, rfl, hz_37⟩ := hv_37
            have hb_37 := hF (rd lf)
            refine W.eq (g2 := F0 m 40 ls [.long (lI z_37)]) rfl ?_
            refine lv_aload_n (pc := 40) hx hb dX3_merge_40 rfl (lv_at hl 4 rfl) ?_
            refine lv_aload_n (pc := 41) hx hb dX3_merge_41 rfl (lv_at hl 3 rfl) ?_
            refine k_get (pc := 42) (ci := 3) (C := RX3) (T := TX3) (N := 4) hx hb hts hi3 hown hK hP 12 (up_n (by decide) h12) rfl 0 (by decide) hf9 (fun _ h9 => h9) rfl dX3_merge_42 ?_
            refine lv_iload (pc := 45) hx hb dX3_merge_45 (lv_at hl 1 rfl) ?_
            refine k_iald (pc := 47) hx hb hK hP 13 0 (up_n (by decide) h13) rfl (by omega) (by omega) (by omega) dX3_merge_47 ?_
            have hr_2 := hin9 rt (by omega) (by omega)
            refine k_call0 (pc := 48) (va_runV (As := [.int (iI (rd rt))]) (rest := [.long (lI z_37)]) ⟨hx, hb, hml, hown, hts⟩ (c_X1_flowOn l D cA ad (up w 14 (eI (cA 0) 400 g)) 9 10 11 F S (up_n (by decide) h9) (up_n (by decide) h10) (up_n (by decide) h11) hF hS9 (rd rt) ⟨by omega, by omega⟩) (cwV 1 hts gX3_merge_X1_flowOn rfl rfl rfl (by decide +kernel) ⟨Nat.le_of_ble_eq_true rfl, Nat.le_of_ble_eq_true rfl⟩) (gR_V hP hK hB 9 (ci := 1) rfl (up_n (by decide) h9)) rfl rfl hl.1 rfl (lv_room (Nat.le_of_ble_eq_true rfl)) dX3_merge_48 ⟨Nat.le_of_ble_eq_true rfl, Nat.le_of_ble_eq_true rfl⟩) (fun v_48 hv_48 => ?_)
            obtain ⟨z_48, rfl, hz_48⟩ := hv_48
            have hb_48 := hF (rd rt)
            refine W.eq (g2 := F0 m 51 ls [.long (lI z_48), .long (lI z_37)]) rfl ?_
            refine k_lcmp_lt (pc := 51) (tgt := 59) hx hb ⟨by omega, by omega⟩ ⟨by omega, by omega⟩ dX3_merge_51 dX3_merge_52 (by decide) (fun hc_51 => ?_) (fun hc_51 => ?_)
            · skip
              refine k_iconst (pc := 59) hx hb dX3_merge_59 ?_
              refine lv_istore (pc := 60) (lv' := [(8, .int (iI 0)), (7, .int (iI pl)), (6, .int (iI rt)), (5, .int (iI lf)), (0, .ref (ad 12)), (1, .ref (ad 9)), (2, .int (iI sa)), (3, .int (iI mi)), (4, .int (iI en))]) hx hb dX3_merge_60 hl (by decide) rfl (fun ls hl => ?_)
              refine lv_iload (pc := 62) hx hb dX3_merge_62 (lv_at hl 0 rfl) ?_
              refine k_if_eq (pc := 64) (tgt := 87) hx hb ⟨by omega, by omega⟩ dX3_merge_64 (by decide) (fun hc_64 => ?_) (fun hc_64 => ?_)
              · skip
                refine lv_iload (pc := 87) hx hb dX3_merge_87 (lv_at hl 2 rfl) ?_
                refine lv_iload (pc := 89) hx hb dX3_merge_89 (lv_at hl 8 rfl) ?_
                refine k_icmp_ge (pc := 91) (tgt := 111) hx hb ⟨by omega, by omega⟩ ⟨by omega, by omega⟩ dX3_merge_91 (by decide) (fun hc_91 => ?_) (fun hc_91 => ?_)
                · skip
                  exfalso
                  omega
                · skip
                  refine lv_aload_n (pc := 94) hx hb dX3_merge_94 rfl (lv_at hl 4 rfl) ?_
                  refine k_get (pc := 95) (ci := 3) (C := RX3) (T := TX3) (N := 4) hx hb hts hi3 hown hK hP 12 (up_n (by decide) h12) rfl 1 (by decide) hf15 (fun _ h9 => h9) rfl dX3_merge_95 ?_
                  refine lv_iload (pc := 98) hx hb dX3_merge_98 (lv_at hl 1 rfl) ?_
                  refine lv_aload_n (pc := 100) hx hb dX3_merge_100 rfl (lv_at hl 4 rfl) ?_
                  refine k_get (pc := 101) (ci := 3) (C := RX3) (T := TX3) (N := 4) hx hb hts hi3 hown hK hP 12 (up_n (by decide) h12) rfl 0 (by decide) hf9 (fun _ h9 => h9) rfl dX3_merge_101 ?_
                  refine lv_iload (pc := 104) hx hb dX3_merge_104 (lv_at hl 2 rfl) ?_
                  refine k_iald (pc := 106) hx hb hK hP 13 0 (up_n (by decide) h13) rfl (by omega) (by omega) (by omega) dX3_merge_106 ?_
                  refine k_iast (pc := 107) (w1 := (up w 14 (eI (cA 0) 400 (updI g pl (rd rt))))) hx hb hK hP hD hS 14 0 (up_s _ _ _) rfl (by omega) (by omega) (by omega) (up_up _ _ _ _) dX3_merge_107 (fun H locs hP hD hS => ?_)
                  refine lv_iinc (pc := 108) (v := iI (rt + 1)) (lv' := [(6, .int (iI (rt + 1))), (8, .int (iI 0)), (7, .int (iI pl)), (5, .int (iI lf)), (0, .ref (ad 12)), (1, .ref (ad 9)), (2, .int (iI sa)), (3, .int (iI mi)), (4, .int (iI en))]) hx hb dX3_merge_108 hl (k := 2) rfl (iI_add _ _) (by decide) rfl (fun ls hl => ?_)
                  refine lv_iinc (pc := 111) (v := iI (pl + 1)) (lv' := [(7, .int (iI (pl + 1))), (6, .int (iI (rt + 1))), (8, .int (iI 0)), (5, .int (iI lf)), (0, .ref (ad 12)), (1, .ref (ad 9)), (2, .int (iI sa)), (3, .int (iI mi)), (4, .int (iI en))]) hx hb dX3_merge_111 hl (k := 2) rfl (iI_add _ _) (by decide) rfl (fun ls hl => ?_)
                  refine lv_goto (pc := 114) (tgt := 9) hx hb dX3_merge_114 (by decide) ?_
                  exact ih_9 lf (rt + 1) (pl + 1) (updI g pl (rd rt)) (by omega) (mg_r (by omega) iM hs1 hs2 (by omega)) (fun j hj => by rw [updI_n _ _ (by omega)]; exact iK j hj) (by omega) H locs hP hD hS ls (lv_sub hl [0, 1, 3, 4, 5, 6, 7, 8] rfl)
              · skip
                exfalso
                omega
            · skip
              refine k_iconst (pc := 55) hx hb dX3_merge_55 ?_
              refine lv_goto (pc := 56) (tgt := 60) hx hb dX3_merge_56 (by decide) ?_
              refine lv_istore (pc := 60) (lv' := [(8, .int (iI 1)), (7, .int (iI pl)), (6, .int (iI rt)), (5, .int (iI lf)), (0, .ref (ad 12)), (1, .ref (ad 9)), (2, .int (iI sa)), (3, .int (iI mi)), (4, .int (iI en))]) hx hb dX3_merge_60 hl (by decide) rfl (fun ls hl => ?_)
              refine lv_iload (pc := 62) hx hb dX3_merge_62 (lv_at hl 0 rfl) ?_
              refine k_if_eq (pc := 64) (tgt := 87) hx hb ⟨by omega, by omega⟩ dX3_merge_64 (by decide) (fun hc_64 => ?_) (fun hc_64 => ?_)
              · skip
                exfalso
                omega
              · skip
                refine lv_aload_n (pc := 67) hx hb dX3_merge_67 rfl (lv_at hl 4 rfl) ?_
                refine k_get (pc := 68) (ci := 3) (C := RX3) (T := TX3) (N := 4) hx hb hts hi3 hown hK hP 12 (up_n (by decide) h12) rfl 1 (by decide) hf15 (fun _ h9 => h9) rfl dX3_merge_68 ?_
                refine lv_iload (pc := 71) hx hb dX3_merge_71 (lv_at hl 1 rfl) ?_
                refine lv_aload_n (pc := 73) hx hb dX3_merge_73 rfl (lv_at hl 4 rfl) ?_
                refine k_get (pc := 74) (ci := 3) (C := RX3) (T := TX3) (N := 4) hx hb hts hi3 hown hK hP 12 (up_n (by decide) h12) rfl 0 (by decide) hf9 (fun _ h9 => h9) rfl dX3_merge_74 ?_
                refine lv_iload (pc := 77) hx hb dX3_merge_77 (lv_at hl 3 rfl) ?_
                refine k_iald (pc := 79) hx hb hK hP 13 0 (up_n (by decide) h13) rfl (by omega) (by omega) (by omega) dX3_merge_79 ?_
                refine k_iast (pc := 80) (w1 := (up w 14 (eI (cA 0) 400 (updI g pl (rd lf))))) hx hb hK hP hD hS 14 0 (up_s _ _ _) rfl (by omega) (by omega) (by omega) (up_up _ _ _ _) dX3_merge_80 (fun H locs hP hD hS => ?_)
                refine lv_iinc (pc := 81) (v := iI (lf + 1)) (lv' := [(5, .int (iI (lf + 1))), (8, .int (iI 1)), (7, .int (iI pl)), (6, .int (iI rt)), (0, .ref (ad 12)), (1, .ref (ad 9)), (2, .int (iI sa)), (3, .int (iI mi)), (4, .int (iI en))]) hx hb dX3_merge_81 hl (k := 3) rfl (iI_add _ _) (by decide) rfl (fun ls hl => ?_)
                refine lv_goto (pc := 84) (tgt := 111) hx hb dX3_merge_84 (by decide) ?_
                refine lv_iinc (pc := 111) (v := iI (pl + 1)) (lv' := [(7, .int (iI (pl + 1))), (5, .int (iI (lf + 1))), (8, .int (iI 1)), (6, .int (iI rt)), (0, .ref (ad 12)), (1, .ref (ad 9)), (2, .int (iI sa)), (3, .int (iI mi)), (4, .int (iI en))]) hx hb dX3_merge_111 hl (k := 2) rfl (iI_add _ _) (by decide) rfl (fun ls hl => ?_)
                refine lv_goto (pc := 114) (tgt := 9) hx hb dX3_merge_114 (by decide) ?_
                exact ih_9 (lf + 1) rt (pl + 1) (updI g pl (rd lf)) (by omega) (mg_l (by omega) iM hs1 hs2 hx9 (by omega)) (fun j hj => by rw [updI_n _ _ (by omega)]; exact iK j hj) (by omega) H locs hP hD hS ls (lv_sub hl [0, 3, 1, 4, 5, 6, 7, 8] rfl)
  have hW9 : (w) = (up w 14 (eI (cA 0) 400 rm_)) := by rw [up_self h14]
  rw [hW9] at hP hD
  exact lp_9 _ sa mi sa rm_ (by omega) mg_0 (fun j hj => rfl) (Nat.lt_succ_self _) H locs hP hD hS ls (lv_sub hl [0, 1, 2, 3, 4, 5, 6, 7] rfl)

abbrev rmX3_mergeRuns : Room := { frames := 2, cells := 0, slots := 0, locals := 60 }
theorem hiX3_mergeRuns_3 : ∀ w ∈ wsX30, w ∈ wsX3_mergeRuns := by decide +kernel
set_option maxHeartbeats 4000000 in
set_option maxRecDepth 100000 in
theorem c_X3_mergeRuns (l : Launch) (D : va_G) (cA : Nat → ClassId) (ad : Nat → Nat) (w : Nat → Option va_E) (sz : Nat) (F S : Int → Int) (n : Int) (rd rm_ rz : Int → Int) (h9 : w 9 = some (oB 1 [.ref (ad 10), .ref (ad 11)])) (h10 : w 10 = some (eJ (cA 2) 400 F)) (h11 : w 11 = some (eI (cA 0) 400 S)) (h12 : w 12 = some (oB 3 [.ref (ad 13), .ref (ad 14), .ref (ad 15), .int (iI n)])) (h13 : w 13 = some (eI (cA 0) 400 rd)) (h14 : w 14 = some (eI (cA 0) 400 rm_)) (h15 : w 15 = some (eI (cA 1) 400 rz)) (hF : ∀ j : Int, -1 ≤ F j ∧ F j ≤ 1000000000000) (hS9 : ∀ j : Int, 0 ≤ S j ∧ S j ≤ 3) (hn : 0 ≤ n ∧ n ≤ 400) (wd : Int) (hw : 1 ≤ wd ∧ wd < 400) (hin9 : ∀ i : Int, 0 ≤ i → i < n → 0 ≤ rd i ∧ rd i < 400) (hs : blkS F rd n wd) (hx9 : crsP rd n wd) : Met l yX3_mergeRuns wsX3_mergeRuns rmX3_mergeRuns (gV D cA ad w sz [.ref (ad 12), .ref (ad 9), .int (iI wd)]) (gW D (fun v9 ad1 w1 => v9 = none ∧ ad1 = ad ∧ ∃ f g : Int → Int, w1 = up (up w 14 (eI (cA 0) 400 g)) 13 (eI (cA 0) 400 f) ∧ blkS F f n (2 * wd) ∧ crsP f n (2 * wd) ∧ (∀ i : Int, 0 ≤ i → i < n → ∃ j : Int, 0 ≤ j ∧ j < n ∧ f i = rd j) ∧ ∀ j : Int, 0 ≤ j → j < n → ∃ i : Int, 0 ≤ i ∧ i < n ∧ f i = rd j) (gA ad w sz)) 0 0 (gA ad w sz) := by
  refine Met.ofW (cc := cX3_mergeRuns) (maxL := 6) (ret := none) (by decide) rfl ?_
  intro p e s m args below meth c s₁ B hml hv
  obtain ⟨hav, hsz, hP, hD0, hK, hB, hZ⟩ := hv
  have hx := B.exec
  have hb := B.bytes
  have hret := B.returns
  have hts := atoms_spec (ws := wsX3_mergeRuns) B.pre
  have hown : s.vm.findClass RX3 = some m.cls := findClass_of_methodNamed B.named
  have hlocks := B.notSynchronized
  subst hsz
  have hD := hD0.self (sz := s.heap.size)
  generalize hAe : gA ad w s.heap.size = A at hD hZ ⊢
  have hA : ∀ q : Nat, s.heap.size ≤ q → A q := fun q h => by rw [← hAe]; exact Or.inr h
  have hS : va_S A s.heap s.heap [] := va_S.rf
  have hi3 := hiX3_mergeRuns_3
  have hf9 := hts (.fieldLink RX3 9 "GaugeBook$Ranking" "days" "[I") (by decide +kernel)
  have hf15 := hts (.fieldLink RX3 15 "GaugeBook$Ranking" "merged" "[I") (by decide +kernel)
  have hf22 := hts (.fieldLink RX3 22 "GaugeBook$Ranking" "ranked" "I") (by decide +kernel)
  have he9 : entryFrame m args 6 = F0 m 0 ((lg_sl ([.ref (ad 12), .ref (ad 9), .int (iI wd)] : List Value) ++ List.replicate (6 - (lg_sl ([.ref (ad 12), .ref (ad 9), .int (iI wd)] : List Value)).length) Slot.unset).toArray) [] := by rw [hav, lg_entry_eq]
  rw [he9]
  have hl := lv_entry ([.ref (ad 12), .ref (ad 9), .int (iI wd)] : List Value) (n := 6) (Nat.le_of_ble_eq_true rfl)
  generalize (lg_sl ([.ref (ad 12), .ref (ad 9), .int (iI wd)] : List Value) ++ List.replicate (6 - (lg_sl ([.ref (ad 12), .ref (ad 9), .int (iI wd)] : List Value)).length) Slot.unset).toArray = ls at hl ⊢
  have hl : lv_has ls 6 [(0, .ref (ad 12)), (1, .ref (ad 9)), (2, .int (iI wd))] := hl
  obtain ⟨Q9, hQ9⟩ : ∃ z, z = MQ below (gW D (fun v9 ad1 w1 => v9 = none ∧ ad1 = ad ∧ ∃ f g : Int → Int, w1 = up (up w 14 (eI (cA 0) 400 g)) 13 (eI (cA 0) 400 f) ∧ blkS F f n (2 * wd) ∧ crsP f n (2 * wd) ∧ (∀ i : Int, 0 ≤ i → i < n → ∃ j : Int, 0 ≤ j ∧ j < n ∧ f i = rd j) ∧ ∀ j : Int, 0 ≤ j → j < n → ∃ i : Int, 0 ≤ i ∧ i < n ∧ f i = rd j) A) args s 0 0 A := ⟨_, rfl⟩
  rw [← hQ9]
  show W p l e rmX3_mergeRuns s m args below meth c s.heap [] 0 0 Q9 (F0 m 0 ls [])
  obtain ⟨H, hHe⟩ : ∃ z, z = s.heap := ⟨_, rfl⟩
  obtain ⟨locs, hLe⟩ : ∃ z, z = ([] : List Loc) := ⟨_, rfl⟩
  have hP : gP D vwCl ad w H := by rw [hHe]; exact hP
  have hS : va_S A s.heap H locs := by rw [hHe, hLe]; exact va_S.rf
  rw [show W p l e rmX3_mergeRuns s m args below meth c s.heap [] 0 0 Q9 (F0 m 0 ls []) = W p l e rmX3_mergeRuns s m args below meth c H locs 0 0 Q9 (F0 m 0 ls []) by rw [hHe, hLe]]
  clear hHe hLe
  refine k_iconst (pc := 0) hx hb dX3_mergeRuns_0 ?_
  refine lv_istore_n (pc := 1) (lv' := [(3, .int (iI 0)), (0, .ref (ad 12)), (1, .ref (ad 9)), (2, .int (iI wd))]) hx hb dX3_mergeRuns_1 rfl hl (by decide) rfl (fun ls hl => ?_)
  have lp_2 : ∀ (N9 : Nat) (sa : Int) (q : Int) (g : Int → Int), (0 ≤ q ∧ sa = 2 * wd * q ∧ 0 ≤ sa ∧ sa ≤ 1600) → (invB F rd g n wd q) → (n - sa).toNat < N9 → ∀ (H : Heap) (locs : List Loc), gP D vwCl ad (up w 14 (eI (cA 0) 400 g)) H → gD A ad (up w 14 (eI (cA 0) 400 g)) → va_S A s.heap H locs → ∀ (ls : Array Slot), lv_has ls 6 [(3, .int (iI sa)), (0, .ref (ad 12)), (1, .ref (ad 9)), (2, .int (iI wd))] → W p l e rmX3_mergeRuns s m args below meth c H locs 0 0 Q9 (F0 m 2 ls []) := by
    intro N9
    induction N9 with
    | zero => intro sa q g i0 iB hmu; exact absurd hmu (Nat.not_lt_zero _)
    | succ N9 ih_2 =>
      intro sa q g i0 iB hmu_2 H locs hP hD hS ls hl
      refine lv_iload_n (pc := 2) hx hb dX3_mergeRuns_2 rfl (lv_at hl 0 rfl) ?_
      refine lv_aload_n (pc := 3) hx hb dX3_mergeRuns_3 rfl (lv_at hl 1 rfl) ?_
      refine k_get (pc := 4) (ci := 3) (C := RX3) (T := TX3) (N := 4) hx hb hts hi3 hown hK hP 12 (up_n (by decide) h12) rfl 3 (by decide) hf22 (fun _ h9 => h9) rfl dX3_mergeRuns_4 ?_
      refine k_icmp_ge (pc := 7) (tgt := 55) hx hb ⟨by omega, by omega⟩ ⟨by omega, by omega⟩ dX3_mergeRuns_7 (by decide) (fun hc_7 => ?_) (fun hc_7 => ?_)
      · skip
        refine lv_aload_n (pc := 55) hx hb dX3_mergeRuns_55 rfl (lv_at hl 1 rfl) ?_
        refine k_get (pc := 56) (ci := 3) (C := RX3) (T := TX3) (N := 4) hx hb hts hi3 hown hK hP 12 (up_n (by decide) h12) rfl 1 (by decide) hf15 (fun _ h9 => h9) rfl dX3_mergeRuns_56 ?_
        refine k_iconst (pc := 59) hx hb dX3_mergeRuns_59 ?_
        refine lv_aload_n (pc := 60) hx hb dX3_mergeRuns_60 rfl (lv_at hl 1 rfl) ?_
        refine k_get (pc := 61) (ci := 3) (C := RX3) (T := TX3) (N := 4) hx hb hts hi3 hown hK hP 12 (up_n (by decide) h12) rfl 0 (by decide) hf9 (fun _ h9 => h9) rfl dX3_mergeRuns_61 ?_
        refine k_iconst (pc := 64) hx hb dX3_mergeRuns_64 ?_
        refine lv_aload_n (pc := 65) hx hb dX3_mergeRuns_65 rfl (lv_at hl 1 rfl) ?_
        refine k_get (pc := 66) (ci := 3) (C := RX3) (T := TX3) (N := 4) hx hb hts hi3 hown hK hP 12 (up_n (by decide) h12) rfl 3 (by decide) hf22 (fun _ h9 => h9) rfl dX3_mergeRuns_66 ?_
        refine k_copy (pc := 69) (w1 := (up (up w 14 (eI (cA 0) 400 g)) 13 (eI (cA 0) 400 (fun j => if 0 ≤ j ∧ j < 0 + n then g (0 + (j - 0)) else rd j)))) hx hb (hml.trans hl.1.symm) hown (hts (.methodLink RX3 61 arraycopyName) (by decide +kernel)) (hts (.native arraycopyName) (by decide +kernel)) (hts (.static arraycopyName) (by decide +kernel)) (hts (.initialized "java/lang/System") (by decide +kernel)) hK hP hD hS 14 13 0 0 (up_s _ _ _) (up_n (by decide) h13) rfl rfl (by omega) (by omega) (by omega) (by omega) (by omega) (by omega) (by omega) (Nat.le_of_ble_eq_true rfl) (Nat.le_of_ble_eq_true rfl) rfl dX3_mergeRuns_69 (fun H locs hP hD hS => ?_)
        have he_ := mr_end (f2 := fun j => if 0 ≤ j ∧ j < 0 + n then g (0 + (j - 0)) else rd j) hw.1 hx9 i0.1 i0.2.1 (by omega) iB (fun j a1 a2 => by show (if 0 ≤ j ∧ j < 0 + n then g (0 + (j - 0)) else rd j) = g j; rw [if_pos (by omega), show 0 + (j - 0) = j by omega])
        rw [hQ9]
        exact W.vret hx hb hret (fun t ht hW => ⟨⟨none, ad, (up (up w 14 (eI (cA 0) 400 g)) 13 (eI (cA 0) 400 (fun j => if 0 ≤ j ∧ j < 0 + n then g (0 + (j - 0)) else rd j))), rfl, ⟨rfl, rfl, _, g, rfl, he_⟩, by rw [ht]; exact hP, hD⟩, hS.F ht⟩) hS.2.2 dX3_mergeRuns_72
      · skip
        refine lv_iload_n (pc := 10) hx hb dX3_mergeRuns_10 rfl (lv_at hl 0 rfl) ?_
        refine lv_iload_n (pc := 11) hx hb dX3_mergeRuns_11 rfl (lv_at hl 3 rfl) ?_
        refine k_iadd (pc := 12) hx hb dX3_mergeRuns_12 ?_
        refine lv_aload_n (pc := 13) hx hb dX3_mergeRuns_13 rfl (lv_at hl 1 rfl) ?_
        refine k_get (pc := 14) (ci := 3) (C := RX3) (T := TX3) (N := 4) hx hb hts hi3 hown hK hP 12 (up_n (by decide) h12) rfl 3 (by decide) hf22 (fun _ h9 => h9) rfl dX3_mergeRuns_14 ?_
        refine k_mmin (pc := 17) hx hb (hml.trans hl.1.symm) hown (hts (.methodLink RX3 51 Lib.Math.min.name) (by decide +kernel)) (hts (.static Lib.Math.min.name) (by decide +kernel)) (hts (.initialized "java/lang/Math") (by decide +kernel)) (hts (.code Lib.Math.min.name Lib.Math.min.code 2 (some .int)) (by decide +kernel)) (Nat.le_of_ble_eq_true rfl) (Nat.le_of_ble_eq_true rfl) (Nat.le_of_ble_eq_true rfl) (Nat.le_of_ble_eq_true rfl) ⟨by omega, by omega⟩ ⟨by omega, by omega⟩ dX3_mergeRuns_17 ?_
        refine lv_istore (pc := 20) (lv' := [(4, .int (iI (min (sa + wd) n))), (3, .int (iI sa)), (0, .ref (ad 12)), (1, .ref (ad 9)), (2, .int (iI wd))]) hx hb dX3_mergeRuns_20 hl (by decide) rfl (fun ls hl => ?_)
        refine lv_iload_n (pc := 22) hx hb dX3_mergeRuns_22 rfl (lv_at hl 1 rfl) ?_
        refine k_iconst (pc := 23) hx hb dX3_mergeRuns_23 ?_
        refine lv_iload_n (pc := 24) hx hb dX3_mergeRuns_24 rfl (lv_at hl 4 rfl) ?_
        refine k_imul (pc := 25) hx hb dX3_mergeRuns_25 ?_
        refine k_iadd (pc := 26) hx hb dX3_mergeRuns_26 ?_
        refine lv_aload_n (pc := 27) hx hb dX3_mergeRuns_27 rfl (lv_at hl 2 rfl) ?_
        refine k_get (pc := 28) (ci := 3) (C := RX3) (T := TX3) (N := 4) hx hb hts hi3 hown hK hP 12 (up_n (by decide) h12) rfl 3 (by decide) hf22 (fun _ h9 => h9) rfl dX3_mergeRuns_28 ?_
        refine k_mmin (pc := 31) hx hb (hml.trans hl.1.symm) hown (hts (.methodLink RX3 51 Lib.Math.min.name) (by decide +kernel)) (hts (.static Lib.Math.min.name) (by decide +kernel)) (hts (.initialized "java/lang/Math") (by decide +kernel)) (hts (.code Lib.Math.min.name Lib.Math.min.code 2 (some .int)) (by decide +kernel)) (Nat.le_of_ble_eq_true rfl) (Nat.le_of_ble_eq_true rfl) (Nat.le_of_ble_eq_true rfl) (Nat.le_of_ble_eq_true rfl) ⟨by omega, by omega⟩ ⟨by omega, by omega⟩ dX3_mergeRuns_31 ?_
        refine lv_istore (pc := 34) (lv' := [(5, .int (iI (min (sa + (2 * wd)) n))), (4, .int (iI (min (sa + wd) n))), (3, .int (iI sa)), (0, .ref (ad 12)), (1, .ref (ad 9)), (2, .int (iI wd))]) hx hb dX3_mergeRuns_34 hl (by decide) rfl (fun ls hl => ?_)
        refine lv_aload_n (pc := 36) hx hb dX3_mergeRuns_36 rfl (lv_at hl 3 rfl) ?_
        refine lv_aload_n (pc := 37) hx hb dX3_mergeRuns_37 rfl (lv_at hl 4 rfl) ?_
        refine lv_iload_n (pc := 38) hx hb dX3_mergeRuns_38 rfl (lv_at hl 2 rfl) ?_
        refine lv_iload (pc := 39) hx hb dX3_mergeRuns_39 (lv_at hl 1 rfl) ?_
        refine lv_iload (pc := 41) hx hb dX3_mergeRuns_41 (lv_at hl 0 rfl) ?_
        obtain ⟨hp1_, hp2_, hp3_⟩ := mr_pre hw.1 hs hx9 i0.1 i0.2.1 i0.2.2.1 (by omega)
        refine k_call1 (pc := 43) (va_runV (As := [.ref (ad 9), .int (iI sa), .int (iI (min (sa + wd) n)), .int (iI (min (sa + (2 * wd)) n))]) (rest := []) ⟨hx, hb, hml, hown, hts⟩ (c_X3_merge l D cA ad (up w 14 (eI (cA 0) 400 g)) H.size F S n rd g rz (up_n (by decide) h9) (up_n (by decide) h10) (up_n (by decide) h11) (up_n (by decide) h12) (up_n (by decide) h13) (up_s _ _ _) (up_n (by decide) h15) hF hS9 hn sa (min (sa + wd) n) (min (sa + (2 * wd)) n) (by omega) (fun i a1 a2 => hin9 i (by omega) (by omega)) hp1_ hp2_ hp3_) (cwV 4 hts gX3_mergeRuns_X3_merge rfl rfl rfl (by decide +kernel) ⟨Nat.le_of_ble_eq_true rfl, Nat.le_of_ble_eq_true rfl⟩) (gV_V hP hD hK hB hS hA hZ 12 (ci := 3) rfl (up_n (by decide) h12)) rfl rfl hl.1 rfl (lv_room (Nat.le_of_ble_eq_true rfl)) dX3_mergeRuns_43 ⟨Nat.le_of_ble_eq_true rfl, Nat.le_of_ble_eq_true rfl⟩) hS (gA_sub hD hS hA) (fun v_43 ad_43 w_43 H locs hv_43 hP hD hS => ?_)
        obtain ⟨hv1, hv2, g_43, hv3, hb_43, hk_43⟩ := hv_43
        subst hv1
        rw [hv2, hv3] at hP hD
        rw [show up ((up w 14 (eI (cA 0) 400 g))) 14 (eI (cA 0) 400 g_43) = _ from (up_up _ _ _ _)] at hP hD
        refine W.eq (g2 := F0 m 46 ls []) rfl ?_
        refine W.cs (cells' := 0) (slots' := 0) rfl rfl ?_
        refine lv_iload_n (pc := 46) hx hb dX3_mergeRuns_46 rfl (lv_at hl 2 rfl) ?_
        refine k_iconst (pc := 47) hx hb dX3_mergeRuns_47 ?_
        refine lv_iload_n (pc := 48) hx hb dX3_mergeRuns_48 rfl (lv_at hl 5 rfl) ?_
        refine k_imul (pc := 49) hx hb dX3_mergeRuns_49 ?_
        refine k_iadd (pc := 50) hx hb dX3_mergeRuns_50 ?_
        refine lv_istore_n (pc := 51) (lv' := [(3, .int (iI (sa + (2 * wd)))), (5, .int (iI (min (sa + (2 * wd)) n))), (4, .int (iI (min (sa + wd) n))), (0, .ref (ad 12)), (1, .ref (ad 9)), (2, .int (iI wd))]) hx hb dX3_mergeRuns_51 rfl hl (by decide) rfl (fun ls hl => ?_)
        refine lv_goto (pc := 52) (tgt := 2) hx hb dX3_mergeRuns_52 (by decide) ?_
        exact ih_2 (sa + 2 * wd) (q + 1) g_43 ⟨by omega, by rw [Int.mul_add, Int.mul_one, ← i0.2.1], by omega, by omega⟩ (invB_s hw.1 i0.1 i0.2.1 iB hb_43 hk_43) (by omega) H locs hP hD hS ls (lv_sub hl [0, 3, 4, 5] rfl)
  have hW9 : (w) = (up w 14 (eI (cA 0) 400 rm_)) := by rw [up_self h14]
  rw [hW9] at hP hD
  exact lp_2 _ 0 0 rm_ ⟨by omega, by rw [Int.mul_zero], by omega, by omega⟩ (fun k h1 h2 => by omega) (Nat.lt_succ_self _) H locs hP hD hS ls (lv_sub hl [0, 1, 2, 3] rfl)

abbrev rmX3_rank : Room := { frames := 3, cells := 0, slots := 0, locals := 85 }
theorem hiX3_rank_3 : ∀ w ∈ wsX30, w ∈ wsX3_rank := by decide +kernel
set_option maxHeartbeats 4000000 in
set_option maxRecDepth 100000 in
theorem c_X3_rank (l : Launch) (D : va_G) (cA : Nat → ClassId) (ad : Nat → Nat) (w : Nat → Option va_E) (sz : Nat) (F S : Int → Int) (n : Int) (rd rm_ rz : Int → Int) (h9 : w 9 = some (oB 1 [.ref (ad 10), .ref (ad 11)])) (h10 : w 10 = some (eJ (cA 2) 400 F)) (h11 : w 11 = some (eI (cA 0) 400 S)) (h12 : w 12 = some (oB 3 [.ref (ad 13), .ref (ad 14), .ref (ad 15), .int (iI n)])) (h13 : w 13 = some (eI (cA 0) 400 rd)) (h14 : w 14 = some (eI (cA 0) 400 rm_)) (h15 : w 15 = some (eI (cA 1) 400 rz)) (hF : ∀ j : Int, -1 ≤ F j ∧ F j ≤ 1000000000000) (hS9 : ∀ j : Int, 0 ≤ S j ∧ S j ≤ 3) : Met l yX3_rank wsX3_rank rmX3_rank (gV D cA ad w sz [.ref (ad 12), .ref (ad 9)]) (gW D (fun v9 ad1 w1 => v9 = none ∧ ad1 = ad ∧ ∃ f g : Int → Int, w1 = up (up (up w 12 (oB 3 [.ref (ad 13), .ref (ad 14), .ref (ad 15), .int (iI (cntT S 0 400))])) 13 (eI (cA 0) 400 f)) 14 (eI (cA 0) 400 g) ∧ rkP F S f (cntT S 0 400)) (gA ad w sz)) 0 0 (gA ad w sz) := by
  refine Met.ofW (cc := cX3_rank) (maxL := 3) (ret := none) (by decide) rfl ?_
  intro p e s m args below meth c s₁ B hml hv
  obtain ⟨hav, hsz, hP, hD0, hK, hB, hZ⟩ := hv
  have hx := B.exec
  have hb := B.bytes
  have hret := B.returns
  have hts := atoms_spec (ws := wsX3_rank) B.pre
  have hown : s.vm.findClass RX3 = some m.cls := findClass_of_methodNamed B.named
  have hlocks := B.notSynchronized
  subst hsz
  have hD := hD0.self (sz := s.heap.size)
  generalize hAe : gA ad w s.heap.size = A at hD hZ ⊢
  have hA : ∀ q : Nat, s.heap.size ≤ q → A q := fun q h => by rw [← hAe]; exact Or.inr h
  have hS : va_S A s.heap s.heap [] := va_S.rf
  have hi3 := hiX3_rank_3
  have hf9 := hts (.fieldLink RX3 9 "GaugeBook$Ranking" "days" "[I") (by decide +kernel)
  have hf22 := hts (.fieldLink RX3 22 "GaugeBook$Ranking" "ranked" "I") (by decide +kernel)
  have he9 : entryFrame m args 3 = F0 m 0 ((lg_sl ([.ref (ad 12), .ref (ad 9)] : List Value) ++ List.replicate (3 - (lg_sl ([.ref (ad 12), .ref (ad 9)] : List Value)).length) Slot.unset).toArray) [] := by rw [hav, lg_entry_eq]
  rw [he9]
  have hl := lv_entry ([.ref (ad 12), .ref (ad 9)] : List Value) (n := 3) (Nat.le_of_ble_eq_true rfl)
  generalize (lg_sl ([.ref (ad 12), .ref (ad 9)] : List Value) ++ List.replicate (3 - (lg_sl ([.ref (ad 12), .ref (ad 9)] : List Value)).length) Slot.unset).toArray = ls at hl ⊢
  have hl : lv_has ls 3 [(0, .ref (ad 12)), (1, .ref (ad 9))] := hl
  obtain ⟨Q9, hQ9⟩ : ∃ z, z = MQ below (gW D (fun v9 ad1 w1 => v9 = none ∧ ad1 = ad ∧ ∃ f g : Int → Int, w1 = up (up (up w 12 (oB 3 [.ref (ad 13), .ref (ad 14), .ref (ad 15), .int (iI (cntT S 0 400))])) 13 (eI (cA 0) 400 f)) 14 (eI (cA 0) 400 g) ∧ rkP F S f (cntT S 0 400)) A) args s 0 0 A := ⟨_, rfl⟩
  rw [← hQ9]
  show W p l e rmX3_rank s m args below meth c s.heap [] 0 0 Q9 (F0 m 0 ls [])
  obtain ⟨H, hHe⟩ : ∃ z, z = s.heap := ⟨_, rfl⟩
  obtain ⟨locs, hLe⟩ : ∃ z, z = ([] : List Loc) := ⟨_, rfl⟩
  have hP : gP D vwCl ad w H := by rw [hHe]; exact hP
  have hS : va_S A s.heap H locs := by rw [hHe, hLe]; exact va_S.rf
  rw [show W p l e rmX3_rank s m args below meth c s.heap [] 0 0 Q9 (F0 m 0 ls []) = W p l e rmX3_rank s m args below meth c H locs 0 0 Q9 (F0 m 0 ls []) by rw [hHe, hLe]]
  clear hHe hLe
  refine lv_aload_n (pc := 0) hx hb dX3_rank_0 rfl (lv_at hl 0 rfl) ?_
  refine k_iconst (pc := 1) hx hb dX3_rank_1 ?_
  refine k_put (pc := 2) (ci := 3) (C := RX3) (T := TX3) (N := 4) (ty := .int) (v := .int (iI 0)) (w1 := (up w 12 (oB 3 [.ref (ad 13), .ref (ad 14), .ref (ad 15), .int (iI 0)]))) hx hb hts hi3 tyX3 tyX3_ok nmX3 hown hK hP hD hS 12 h12 rfl 3 (by decide) hf22 (fun _ h9 => h9) rfl (by decide +kernel) rfl rfl (Nat.le_of_ble_eq_true rfl) rfl dX3_rank_2 (fun H locs hP hD hS => ?_)
  refine k_iconst (pc := 5) hx hb dX3_rank_5 ?_
  refine lv_istore_n (pc := 6) (lv' := [(2, .int (iI 0)), (0, .ref (ad 12)), (1, .ref (ad 9))]) hx hb dX3_rank_6 rfl hl (by decide) rfl (fun ls hl => ?_)
  have lp_7 : ∀ (N9 : Nat) (d : Int) (k : Int) (f : Int → Int), (0 ≤ d ∧ d ≤ 400 ∧ 0 ≤ k ∧ k ≤ d) → (k = cntT S 0 d.toNat) → (stP9 S f d k) → (400 - d).toNat < N9 → ∀ (H : Heap) (locs : List Loc), gP D vwCl ad (up (up w 12 (oB 3 [.ref (ad 13), .ref (ad 14), .ref (ad 15), .int (iI k)])) 13 (eI (cA 0) 400 f)) H → gD A ad (up (up w 12 (oB 3 [.ref (ad 13), .ref (ad 14), .ref (ad 15), .int (iI k)])) 13 (eI (cA 0) 400 f)) → va_S A s.heap H locs → ∀ (ls : Array Slot), lv_has ls 3 [(2, .int (iI d)), (0, .ref (ad 12)), (1, .ref (ad 9))] → W p l e rmX3_rank s m args below meth c H locs 0 0 Q9 (F0 m 7 ls []) := by
    intro N9
    induction N9 with
    | zero => intro d k f i0 iK iT hmu; exact absurd hmu (Nat.not_lt_zero _)
    | succ N9 ih_7 =>
      intro d k f i0 iK iT hmu_7 H locs hP hD hS ls hl
      refine lv_iload_n (pc := 7) hx hb dX3_rank_7 rfl (lv_at hl 0 rfl) ?_
      refine k_sipush (pc := 8) hx hb dX3_rank_8 (by decide +kernel) ?_
      refine k_icmp_ge (pc := 11) (tgt := 48) hx hb ⟨by omega, by omega⟩ ⟨by omega, by omega⟩ dX3_rank_11 (by decide) (fun hc_11 => ?_) (fun hc_11 => ?_)
      · skip
        have hdd : d = 400 := by omega
        have iT9 : tldP S f k := ⟨fun i a1 a2 => by have h9_ := iT.2.1 i a1 a2; rw [hdd] at h9_; exact h9_, fun e a1 a2 => iT.2.2 e a1 (by omega)⟩
        have hkc : k = cntT S 0 400 := by rw [iK, hdd]; rfl
        refine k_iconst (pc := 48) hx hb dX3_rank_48 ?_
        refine lv_istore_n (pc := 49) (lv' := [(2, .int (iI 1)), (0, .ref (ad 12)), (1, .ref (ad 9))]) hx hb dX3_rank_49 rfl hl (by decide) rfl (fun ls hl => ?_)
        have lp_50 : ∀ (N9 : Nat) (wd : Int) (f2 : Int → Int) (g2 : Int → Int), (1 ≤ wd ∧ wd ≤ 800) → (blkS F f2 k wd) → (crsP f2 k wd) → (tldP S f2 k) → (k - wd).toNat < N9 → ∀ (H : Heap) (locs : List Loc), gP D vwCl ad (up (up (up w 12 (oB 3 [.ref (ad 13), .ref (ad 14), .ref (ad 15), .int (iI k)])) 13 (eI (cA 0) 400 f2)) 14 (eI (cA 0) 400 g2)) H → gD A ad (up (up (up w 12 (oB 3 [.ref (ad 13), .ref (ad 14), .ref (ad 15), .int (iI k)])) 13 (eI (cA 0) 400 f2)) 14 (eI (cA 0) 400 g2)) → va_S A s.heap H locs → ∀ (ls : Array Slot), lv_has ls 3 [(2, .int (iI wd)), (0, .ref (ad 12)), (1, .ref (ad 9))] → W p l e rmX3_rank s m args below meth c H locs 0 0 Q9 (F0 m 50 ls []) := by
          intro N9
          induction N9 with
          | zero => intro wd f2 g2 j0 jS jX jT hmu; exact absurd hmu (Nat.not_lt_zero _)
          | succ N9 ih_50 =>
            intro wd f2 g2 j0 jS jX jT hmu_50 H locs hP hD hS ls hl
            refine lv_iload_n (pc := 50) hx hb dX3_rank_50 rfl (lv_at hl 0 rfl) ?_
            refine lv_aload_n (pc := 51) hx hb dX3_rank_51 rfl (lv_at hl 1 rfl) ?_
            refine k_get (pc := 52) (ci := 3) (C := RX3) (T := TX3) (N := 4) hx hb hts hi3 hown hK hP 12 (up_n (by decide) (up_n (by decide) (up_s _ _ _))) rfl 3 (by decide) hf22 (fun _ h9 => h9) rfl dX3_rank_52 ?_
            refine k_icmp_ge (pc := 55) (tgt := 71) hx hb ⟨by omega, by omega⟩ ⟨by omega, by omega⟩ dX3_rank_55 (by decide) (fun hc_55 => ?_) (fun hc_55 => ?_)
            · skip
              rw [hQ9]
              exact W.vret hx hb hret (fun t ht hW => ⟨⟨none, ad, (up (up (up w 12 (oB 3 [.ref (ad 13), .ref (ad 14), .ref (ad 15), .int (iI k)])) 13 (eI (cA 0) 400 f2)) 14 (eI (cA 0) 400 g2)), rfl, ⟨rfl, rfl, f2, g2, by rw [hkc], by rw [← hkc]; exact rk_end (by omega) jS jT⟩, by rw [ht]; exact hP, hD⟩, hS.F ht⟩) hS.2.2 dX3_rank_71
            · skip
              refine lv_aload_n (pc := 58) hx hb dX3_rank_58 rfl (lv_at hl 1 rfl) ?_
              refine lv_aload_n (pc := 59) hx hb dX3_rank_59 rfl (lv_at hl 2 rfl) ?_
              refine lv_iload_n (pc := 60) hx hb dX3_rank_60 rfl (lv_at hl 0 rfl) ?_
              refine k_call1 (pc := 61) (va_runV (As := [.ref (ad 9), .int (iI wd)]) (rest := []) ⟨hx, hb, hml, hown, hts⟩ (c_X3_mergeRuns l D cA ad (up (up (up w 12 (oB 3 [.ref (ad 13), .ref (ad 14), .ref (ad 15), .int (iI k)])) 13 (eI (cA 0) 400 f2)) 14 (eI (cA 0) 400 g2)) H.size F S k f2 g2 rz (up_n (by decide) (up_n (by decide) (up_n (by decide) h9))) (up_n (by decide) (up_n (by decide) (up_n (by decide) h10))) (up_n (by decide) (up_n (by decide) (up_n (by decide) h11))) (up_n (by decide) (up_n (by decide) (up_s _ _ _))) (up_n (by decide) (up_s _ _ _)) (up_s _ _ _) (up_n (by decide) (up_n (by decide) (up_n (by decide) h15))) hF hS9 (by omega) wd (by omega) (fun i a1 a2 => ⟨(jT.1 i a1 a2).1, (jT.1 i a1 a2).2.1⟩) jS jX) (cwV 2 hts gX3_rank_X3_mergeRuns rfl rfl rfl (by decide +kernel) ⟨Nat.le_of_ble_eq_true rfl, Nat.le_of_ble_eq_true rfl⟩) (gV_V hP hD hK hB hS hA hZ 12 (ci := 3) rfl (up_n (by decide) (up_n (by decide) (up_s _ _ _)))) rfl rfl hl.1 rfl (lv_room (Nat.le_of_ble_eq_true rfl)) dX3_rank_61 ⟨Nat.le_of_ble_eq_true rfl, Nat.le_of_ble_eq_true rfl⟩) hS (gA_sub hD hS hA) (fun v_61 ad_61 w_61 H locs hv_61 hP hD hS => ?_)
              obtain ⟨hv1, hv2, f_61, g_61, hv3, hb_61, hx_61, hm_61, hn_61⟩ := hv_61
              subst hv1
              rw [hv2, hv3] at hP hD
              rw [show up ((up (up (up w 12 (oB 3 [.ref (ad 13), .ref (ad 14), .ref (ad 15), .int (iI k)])) 13 (eI (cA 0) 400 f2)) 14 (eI (cA 0) 400 g2))) 14 (eI (cA 0) 400 g_61) = _ from (up_up _ _ _ _)] at hP hD
              rw [show up ((up (up (up w 12 (oB 3 [.ref (ad 13), .ref (ad 14), .ref (ad 15), .int (iI k)])) 13 (eI (cA 0) 400 f2)) 14 (eI (cA 0) 400 g_61))) 13 (eI (cA 0) 400 f_61) = _ from ((up_co _ _ _ (by decide)).trans (congrArg (fun u => up u 14 _) (up_up _ _ _ _)))] at hP hD
              refine W.eq (g2 := F0 m 64 ls []) rfl ?_
              refine W.cs (cells' := 0) (slots' := 0) rfl rfl ?_
              refine lv_iload_n (pc := 64) hx hb dX3_rank_64 rfl (lv_at hl 0 rfl) ?_
              refine k_iconst (pc := 65) hx hb dX3_rank_65 ?_
              refine k_imul (pc := 66) hx hb dX3_rank_66 ?_
              refine lv_istore_n (pc := 67) (lv' := [(2, .int (iI (wd * 2))), (0, .ref (ad 12)), (1, .ref (ad 9))]) hx hb dX3_rank_67 rfl hl (by decide) rfl (fun ls hl => ?_)
              refine lv_goto (pc := 68) (tgt := 50) hx hb dX3_rank_68 (by decide) ?_
              exact ih_50 (wd * 2) f_61 g_61 (by omega) (by rw [Int.mul_comm]; exact hb_61) (by rw [Int.mul_comm]; exact hx_61) (tld_mr jT hm_61 hn_61) (by omega) H locs hP hD hS ls (lv_sub hl [0, 1, 2] rfl)
        have hW9 : ((up (up w 12 (oB 3 [.ref (ad 13), .ref (ad 14), .ref (ad 15), .int (iI k)])) 13 (eI (cA 0) 400 f))) = (up (up (up w 12 (oB 3 [.ref (ad 13), .ref (ad 14), .ref (ad 15), .int (iI k)])) 13 (eI (cA 0) 400 f)) 14 (eI (cA 0) 400 rm_)) := by rw [up_self (up_n (by decide) (up_n (by decide) h14))]
        rw [hW9] at hP hD
        exact lp_50 _ 1 f rm_ (by omega) blkS_1 (crsP_1 iT.1) iT9 (Nat.lt_succ_self _) H locs hP hD hS ls (lv_sub hl [0, 1, 2] rfl)
      · skip
        refine lv_aload_n (pc := 14) hx hb dX3_rank_14 rfl (lv_at hl 2 rfl) ?_
        refine lv_iload_n (pc := 15) hx hb dX3_rank_15 rfl (lv_at hl 0 rfl) ?_
        refine k_call0 (pc := 16) (va_runV (As := [.int (iI d)]) (rest := []) ⟨hx, hb, hml, hown, hts⟩ (c_X1_hasFlow l D cA ad (up (up w 12 (oB 3 [.ref (ad 13), .ref (ad 14), .ref (ad 15), .int (iI k)])) 13 (eI (cA 0) 400 f)) 9 10 11 F S (up_n (by decide) (up_n (by decide) h9)) (up_n (by decide) (up_n (by decide) h10)) (up_n (by decide) (up_n (by decide) h11)) hF hS9 d ⟨by omega, by omega⟩) (cwV 1 hts gX3_rank_X1_hasFlow rfl rfl rfl (by decide +kernel) ⟨Nat.le_of_ble_eq_true rfl, Nat.le_of_ble_eq_true rfl⟩) (gR_V hP hK hB 9 (ci := 1) rfl (up_n (by decide) (up_n (by decide) h9))) rfl rfl hl.1 rfl (lv_room (Nat.le_of_ble_eq_true rfl)) dX3_rank_16 ⟨Nat.le_of_ble_eq_true rfl, Nat.le_of_ble_eq_true rfl⟩) (fun v_16 hv_16 => ?_)
        obtain ⟨z_16, rfl, hz_16⟩ := hv_16
        refine W.eq (g2 := F0 m 19 ls [.int (iI z_16)]) rfl ?_
        refine k_if_eq (pc := 19) (tgt := 42) hx hb ⟨by omega, by omega⟩ dX3_rank_19 (by decide) (fun hc_19 => ?_) (fun hc_19 => ?_)
        · skip
          refine lv_iinc (pc := 42) (v := iI (d + 1)) (lv' := [(2, .int (iI (d + 1))), (0, .ref (ad 12)), (1, .ref (ad 9))]) hx hb dX3_rank_42 hl (k := 0) rfl (iI_add _ _) (by decide) rfl (fun ls hl => ?_)
          refine lv_goto (pc := 45) (tgt := 7) hx hb dX3_rank_45 (by decide) ?_
          have c9_ := cntT_s S (fr := 0) (d := d) (by omega)
          rw [Int.sub_zero, Int.sub_zero] at c9_
          exact ih_7 (d + 1) k f (by omega) (by rw [c9_, if_neg (by omega)]; omega) (st9_n iT (by omega)) (by omega) H locs hP hD hS ls (lv_sub hl [0, 1, 2] rfl)
        · skip
          refine lv_aload_n (pc := 22) hx hb dX3_rank_22 rfl (lv_at hl 1 rfl) ?_
          refine k_get (pc := 23) (ci := 3) (C := RX3) (T := TX3) (N := 4) hx hb hts hi3 hown hK hP 12 (up_n (by decide) (up_s _ _ _)) rfl 0 (by decide) hf9 (fun _ h9 => h9) rfl dX3_rank_23 ?_
          refine lv_aload_n (pc := 26) hx hb dX3_rank_26 rfl (lv_at hl 1 rfl) ?_
          refine k_get (pc := 27) (ci := 3) (C := RX3) (T := TX3) (N := 4) hx hb hts hi3 hown hK hP 12 (up_n (by decide) (up_s _ _ _)) rfl 3 (by decide) hf22 (fun _ h9 => h9) rfl dX3_rank_27 ?_
          refine lv_iload_n (pc := 30) hx hb dX3_rank_30 rfl (lv_at hl 0 rfl) ?_
          refine k_iast (pc := 31) (w1 := (up (up w 12 (oB 3 [.ref (ad 13), .ref (ad 14), .ref (ad 15), .int (iI k)])) 13 (eI (cA 0) 400 (updI f k d)))) hx hb hK hP hD hS 13 0 (up_s _ _ _) rfl (by omega) (by omega) (by omega) (up_up _ _ _ _) dX3_rank_31 (fun H locs hP hD hS => ?_)
          refine lv_aload_n (pc := 32) hx hb dX3_rank_32 rfl (lv_at hl 1 rfl) ?_
          refine lv_dup (pc := 33) hx hb dX3_rank_33 rfl ?_
          refine k_get (pc := 34) (ci := 3) (C := RX3) (T := TX3) (N := 4) hx hb hts hi3 hown hK hP 12 (up_n (by decide) (up_s _ _ _)) rfl 3 (by decide) hf22 (fun _ h9 => h9) rfl dX3_rank_34 ?_
          refine k_iconst (pc := 37) hx hb dX3_rank_37 ?_
          refine k_iadd (pc := 38) hx hb dX3_rank_38 ?_
          refine k_put (pc := 39) (ci := 3) (C := RX3) (T := TX3) (N := 4) (ty := .int) (v := .int (iI (k + 1))) (w1 := (up (up w 12 (oB 3 [.ref (ad 13), .ref (ad 14), .ref (ad 15), .int (iI (k + 1))])) 13 (eI (cA 0) 400 (updI f k d)))) hx hb hts hi3 tyX3 tyX3_ok nmX3 hown hK hP hD hS 12 (up_n (by decide) (up_s _ _ _)) rfl 3 (by decide) hf22 (fun _ h9 => h9) rfl (by decide +kernel) rfl rfl (Nat.le_of_ble_eq_true rfl) ((up_co _ _ _ (by decide)).trans (congrArg (fun u => up u 13 _) (up_up _ _ _ _))) dX3_rank_39 (fun H locs hP hD hS => ?_)
          refine lv_iinc (pc := 42) (v := iI (d + 1)) (lv' := [(2, .int (iI (d + 1))), (0, .ref (ad 12)), (1, .ref (ad 9))]) hx hb dX3_rank_42 hl (k := 0) rfl (iI_add _ _) (by decide) rfl (fun ls hl => ?_)
          refine lv_goto (pc := 45) (tgt := 7) hx hb dX3_rank_45 (by decide) ?_
          have c9_ := cntT_s S (fr := 0) (d := d) (by omega)
          rw [Int.sub_zero, Int.sub_zero] at c9_
          exact ih_7 (d + 1) (k + 1) (updI f k d) (by omega) (by rw [c9_, if_pos (by omega)]; omega) (st9_s iT (by omega) (by omega)) (by omega) H locs hP hD hS ls (lv_sub hl [0, 1, 2] rfl)
  have hW9 : ((up w 12 (oB 3 [.ref (ad 13), .ref (ad 14), .ref (ad 15), .int (iI 0)]))) = (up (up w 12 (oB 3 [.ref (ad 13), .ref (ad 14), .ref (ad 15), .int (iI 0)])) 13 (eI (cA 0) 400 rd)) := by rw [up_self (up_n (by decide) h13)]
  rw [hW9] at hP hD
  exact lp_7 _ 0 0 rd (by omega) rfl st9_0 (Nat.lt_succ_self _) H locs hP hD hS ls (lv_sub hl [0, 1, 2] rfl)

abbrev rmX3_countPeaks : Room := { frames := 2, cells := 0, slots := 0, locals := 38 }
theorem hiX3_countPeaks_3 : ∀ w ∈ wsX30, w ∈ wsX3_countPeaks := by decide +kernel
set_option maxHeartbeats 4000000 in
set_option maxRecDepth 100000 in
theorem c_X3_countPeaks (l : Launch) (D : va_G) (cA : Nat → ClassId) (ad : Nat → Nat) (w : Nat → Option va_E) (sz : Nat) (F S : Int → Int) (n : Int) (rd rm_ rz : Int → Int) (h9 : w 9 = some (oB 1 [.ref (ad 10), .ref (ad 11)])) (h10 : w 10 = some (eJ (cA 2) 400 F)) (h11 : w 11 = some (eI (cA 0) 400 S)) (h12 : w 12 = some (oB 3 [.ref (ad 13), .ref (ad 14), .ref (ad 15), .int (iI n)])) (h13 : w 13 = some (eI (cA 0) 400 rd)) (h14 : w 14 = some (eI (cA 0) 400 rm_)) (h15 : w 15 = some (eI (cA 1) 400 rz)) (hF : ∀ j : Int, -1 ≤ F j ∧ F j ≤ 1000000000000) (hS9 : ∀ j : Int, 0 ≤ S j ∧ S j ≤ 3) (hn : 0 ≤ n ∧ n ≤ 400) (lm ap : Int) (hlm : 0 ≤ lm ∧ lm < 9223372036854775808) (hap : 1 ≤ ap ∧ ap ≤ 100) (hr : rkP F S rd n) : Met l yX3_countPeaks wsX3_countPeaks rmX3_countPeaks (gV D cA ad w sz [.ref (ad 12), .ref (ad 9), .long (lI lm), .int (iI ap)]) (gW D (fun v9 ad1 w1 => ad1 = ad ∧ ∃ (v : Int) (z : Int → Int), v9 = some (.int (iI v)) ∧ w1 = up w 15 (eI (cA 1) 400 z) ∧ pkE F S lm ap (fun _ => False) 0 v) (gA ad w sz)) 0 0 (gA ad w sz) := by
  refine Met.ofW (cc := cX3_countPeaks) (maxL := 8) (ret := (some .int)) (by decide) rfl ?_
  intro p e s m args below meth c s₁ B hml hv
  obtain ⟨hav, hsz, hP, hD0, hK, hB, hZ⟩ := hv
  have hx := B.exec
  have hb := B.bytes
  have hret := B.returns
  have hts := atoms_spec (ws := wsX3_countPeaks) B.pre
  have hown : s.vm.findClass RX3 = some m.cls := findClass_of_methodNamed B.named
  have hlocks := B.notSynchronized
  subst hsz
  have hD := hD0.self (sz := s.heap.size)
  generalize hAe : gA ad w s.heap.size = A at hD hZ ⊢
  have hA : ∀ q : Nat, s.heap.size ≤ q → A q := fun q h => by rw [← hAe]; exact Or.inr h
  have hS : va_S A s.heap s.heap [] := va_S.rf
  have hi3 := hiX3_countPeaks_3
  have hf18 := hts (.fieldLink RX3 18 "GaugeBook$Ranking" "isNearPeak" "[Z") (by decide +kernel)
  have hf22 := hts (.fieldLink RX3 22 "GaugeBook$Ranking" "ranked" "I") (by decide +kernel)
  have he9 : entryFrame m args 8 = F0 m 0 ((lg_sl ([.ref (ad 12), .ref (ad 9), .long (lI lm), .int (iI ap)] : List Value) ++ List.replicate (8 - (lg_sl ([.ref (ad 12), .ref (ad 9), .long (lI lm), .int (iI ap)] : List Value)).length) Slot.unset).toArray) [] := by rw [hav, lg_entry_eq]
  rw [he9]
  have hl := lv_entry ([.ref (ad 12), .ref (ad 9), .long (lI lm), .int (iI ap)] : List Value) (n := 8) (Nat.le_of_ble_eq_true rfl)
  generalize (lg_sl ([.ref (ad 12), .ref (ad 9), .long (lI lm), .int (iI ap)] : List Value) ++ List.replicate (8 - (lg_sl ([.ref (ad 12), .ref (ad 9), .long (lI lm), .int (iI ap)] : List Value)).length) Slot.unset).toArray = ls at hl ⊢
  have hl : lv_has ls 8 [(0, .ref (ad 12)), (1, .ref (ad 9)), (2, .long (lI lm)), (4, .int (iI ap))] := hl
  obtain ⟨Q9, hQ9⟩ : ∃ z, z = MQ below (gW D (fun v9 ad1 w1 => ad1 = ad ∧ ∃ (v : Int) (z : Int → Int), v9 = some (.int (iI v)) ∧ w1 = up w 15 (eI (cA 1) 400 z) ∧ pkE F S lm ap (fun _ => False) 0 v) A) args s 0 0 A := ⟨_, rfl⟩
  rw [← hQ9]
  show W p l e rmX3_countPeaks s m args below meth c s.heap [] 0 0 Q9 (F0 m 0 ls [])
  obtain ⟨H, hHe⟩ : ∃ z, z = s.heap := ⟨_, rfl⟩
  obtain ⟨locs, hLe⟩ : ∃ z, z = ([] : List Loc) := ⟨_, rfl⟩
  have hP : gP D vwCl ad w H := by rw [hHe]; exact hP
  have hS : va_S A s.heap H locs := by rw [hHe, hLe]; exact va_S.rf
  rw [show W p l e rmX3_countPeaks s m args below meth c s.heap [] 0 0 Q9 (F0 m 0 ls []) = W p l e rmX3_countPeaks s m args below meth c H locs 0 0 Q9 (F0 m 0 ls []) by rw [hHe, hLe]]
  clear hHe hLe
  refine lv_aload_n (pc := 0) hx hb dX3_countPeaks_0 rfl (lv_at hl 0 rfl) ?_
  refine k_call1 (pc := 1) (va_runV (As := []) (rest := []) ⟨hx, hb, hml, hown, hts⟩ (c_X3_clearPeaks l D cA ad w H.size F S n rd rm_ rz h9 h10 h11 h12 h13 h14 h15 hF hS9 hn) (cwV 0 hts gX3_countPeaks_X3_clearPeaks rfl rfl rfl (by decide +kernel) ⟨Nat.le_of_ble_eq_true rfl, Nat.le_of_ble_eq_true rfl⟩) (gV_V hP hD hK hB hS hA hZ 12 (ci := 3) rfl h12) rfl rfl hl.1 rfl (lv_room (Nat.le_of_ble_eq_true rfl)) dX3_countPeaks_1 ⟨Nat.le_of_ble_eq_true rfl, Nat.le_of_ble_eq_true rfl⟩) hS (gA_sub hD hS hA) (fun v_1 ad_1 w_1 H locs hv_1 hP hD hS => ?_)
  obtain ⟨hv1, hv2, hv3⟩ := hv_1
  subst hv1
  rw [hv2, hv3] at hP hD
  refine W.eq (g2 := F0 m 4 ls []) rfl ?_
  refine W.cs (cells' := 0) (slots' := 0) rfl rfl ?_
  refine k_iconst (pc := 4) hx hb dX3_countPeaks_4 ?_
  refine lv_istore (pc := 5) (lv' := [(5, .int (iI 0)), (0, .ref (ad 12)), (1, .ref (ad 9)), (2, .long (lI lm)), (4, .int (iI ap))]) hx hb dX3_countPeaks_5 hl (by decide) rfl (fun ls hl => ?_)
  refine k_iconst (pc := 7) hx hb dX3_countPeaks_7 ?_
  refine lv_istore (pc := 8) (lv' := [(6, .int (iI 1)), (5, .int (iI 0)), (0, .ref (ad 12)), (1, .ref (ad 9)), (2, .long (lI lm)), (4, .int (iI ap))]) hx hb dX3_countPeaks_8 hl (by decide) rfl (fun ls hl => ?_)
  have lp_10 : ∀ (N9 : Nat) (k : Int) (pk : Int) (z : Int → Int), (1 ≤ k ∧ k ≤ n + 1) → (∀ i : Int, 0 ≤ i → i < k - 1 → z (rd i) ≠ 0) → (∀ j : Int, 0 ≤ j → j < 400 → 0 ≤ z j ∧ z j ≤ 1) → (∀ v : Int, pkE F S lm ap (fun d => z d ≠ 0) pk v → pkE F S lm ap (fun _ => False) 0 v) → (n + 1 - k).toNat < N9 → ∀ (H : Heap) (locs : List Loc), gP D vwCl ad (up w 15 (eI (cA 1) 400 z)) H → gD A ad (up w 15 (eI (cA 1) 400 z)) → va_S A s.heap H locs → ∀ (ls : Array Slot), lv_has ls 8 [(6, .int (iI k)), (5, .int (iI pk)), (0, .ref (ad 12)), (1, .ref (ad 9)), (2, .long (lI lm)), (4, .int (iI ap))] → W p l e rmX3_countPeaks s m args below meth c H locs 0 0 Q9 (F0 m 10 ls []) := by
    intro N9
    induction N9 with
    | zero => intro k pk z i0 iZ iB iP hmu; exact absurd hmu (Nat.not_lt_zero _)
    | succ N9 ih_10 =>
      intro k pk z i0 iZ iB iP hmu_10 H locs hP hD hS ls hl
      refine lv_iload (pc := 10) hx hb dX3_countPeaks_10 (lv_at hl 0 rfl) ?_
      refine lv_aload_n (pc := 12) hx hb dX3_countPeaks_12 rfl (lv_at hl 2 rfl) ?_
      refine k_get (pc := 13) (ci := 3) (C := RX3) (T := TX3) (N := 4) hx hb hts hi3 hown hK hP 12 (up_n (by decide) h12) rfl 3 (by decide) hf22 (fun _ h9 => h9) rfl dX3_countPeaks_13 ?_
      refine k_icmp_gt (pc := 16) (tgt := 68) hx hb ⟨by omega, by omega⟩ ⟨by omega, by omega⟩ dX3_countPeaks_16 (by decide) (fun hc_16 => ?_) (fun hc_16 => ?_)
      · skip
        refine lv_iload (pc := 68) hx hb dX3_countPeaks_68 (lv_at hl 1 rfl) ?_
        rw [hQ9]
        exact W.iret (v := iI pk) hx hb hret (fun t ht hW => ⟨⟨some (.int (iI pk)), ad, (up w 15 (eI (cA 1) 400 z)), rfl, ⟨rfl, pk, z, rfl, rfl, iP pk (pkE_0 (pk_stop hr i0.1 iZ (by omega)))⟩, by rw [ht]; exact hP, hD⟩, hS.F ht⟩) hS.2.2 dX3_countPeaks_70
      · skip
        refine lv_aload_n (pc := 19) hx hb dX3_countPeaks_19 rfl (lv_at hl 2 rfl) ?_
        refine lv_iload (pc := 20) hx hb dX3_countPeaks_20 (lv_at hl 0 rfl) ?_
        refine k_call0 (pc := 22) (va_runV (As := [.int (iI k)]) (rest := []) ⟨hx, hb, hml, hown, hts⟩ (c_X3_dayOfRank l D cA ad (up w 15 (eI (cA 1) 400 z)) F S n rd rm_ z (up_n (by decide) h9) (up_n (by decide) h10) (up_n (by decide) h11) (up_n (by decide) h12) (up_n (by decide) h13) (up_n (by decide) h14) (up_s _ _ _) hF hS9 hn k ⟨by omega, by omega⟩) (cwV 1 hts gX3_countPeaks_X3_dayOfRank rfl rfl rfl (by decide +kernel) ⟨Nat.le_of_ble_eq_true rfl, Nat.le_of_ble_eq_true rfl⟩) (gR_V hP hK hB 12 (ci := 3) rfl (up_n (by decide) h12)) rfl rfl hl.1 rfl (lv_room (Nat.le_of_ble_eq_true rfl)) dX3_countPeaks_22 ⟨Nat.le_of_ble_eq_true rfl, Nat.le_of_ble_eq_true rfl⟩) (fun v_22 hv_22 => ?_)
        obtain ⟨z_22, rfl, hz_22⟩ := hv_22
        refine W.eq (g2 := F0 m 25 ls [.int (iI z_22)]) rfl ?_
        refine lv_istore (pc := 25) (lv' := [(7, .int (iI z_22)), (6, .int (iI k)), (5, .int (iI pk)), (0, .ref (ad 12)), (1, .ref (ad 9)), (2, .long (lI lm)), (4, .int (iI ap))]) hx hb dX3_countPeaks_25 hl (by decide) rfl (fun ls hl => ?_)
        have e22_ : z_22 = rd (k - 1) := by omega
        subst e22_
        have t7_ := hr.2.1 (k - 1) (by omega) (by omega)
        have b7_ := iB (rd (k - 1)) (by omega) (by omega)
        refine lv_aload_n (pc := 27) hx hb dX3_countPeaks_27 rfl (lv_at hl 4 rfl) ?_
        refine lv_iload (pc := 28) hx hb dX3_countPeaks_28 (lv_at hl 0 rfl) ?_
        refine k_call0 (pc := 30) (va_runV (As := [.int (iI (rd (k - 1)))]) (rest := []) ⟨hx, hb, hml, hown, hts⟩ (c_X1_flowOn l D cA ad (up w 15 (eI (cA 1) 400 z)) 9 10 11 F S (up_n (by decide) h9) (up_n (by decide) h10) (up_n (by decide) h11) hF hS9 (rd (k - 1)) ⟨by omega, by omega⟩) (cwV 1 hts gX3_countPeaks_X1_flowOn rfl rfl rfl (by decide +kernel) ⟨Nat.le_of_ble_eq_true rfl, Nat.le_of_ble_eq_true rfl⟩) (gR_V hP hK hB 9 (ci := 1) rfl (up_n (by decide) h9)) rfl rfl hl.1 rfl (lv_room (Nat.le_of_ble_eq_true rfl)) dX3_countPeaks_30 ⟨Nat.le_of_ble_eq_true rfl, Nat.le_of_ble_eq_true rfl⟩) (fun v_30 hv_30 => ?_)
        obtain ⟨z_30, rfl, hz_30⟩ := hv_30
        have hb_30 := hF (rd (k - 1))
        refine W.eq (g2 := F0 m 33 ls [.long (lI z_30)]) rfl ?_
        refine lv_lload_n (pc := 33) hx hb dX3_countPeaks_33 rfl (lv_at hl 5 rfl) ?_
        refine k_lcmp_ge (pc := 34) (tgt := 41) hx hb ⟨by omega, by omega⟩ ⟨by omega, by omega⟩ dX3_countPeaks_34 dX3_countPeaks_35 (by decide) (fun hc_34 => ?_) (fun hc_34 => ?_)
        · skip
          refine lv_aload_n (pc := 41) hx hb dX3_countPeaks_41 rfl (lv_at hl 3 rfl) ?_
          refine k_get (pc := 42) (ci := 3) (C := RX3) (T := TX3) (N := 4) hx hb hts hi3 hown hK hP 12 (up_n (by decide) h12) rfl 2 (by decide) hf18 (fun _ h9 => h9) rfl dX3_countPeaks_42 ?_
          refine lv_iload (pc := 45) hx hb dX3_countPeaks_45 (lv_at hl 0 rfl) ?_
          refine k_zald (pc := 47) hx hb hK hP 15 1 (up_s _ _ _) rfl (by omega) (by omega) (by omega) dX3_countPeaks_47 ?_
          refine k_if_ne (pc := 48) (tgt := 62) hx hb ⟨by omega, by omega⟩ dX3_countPeaks_48 (by decide) (fun hc_48 => ?_) (fun hc_48 => ?_)
          · skip
            refine lv_iinc (pc := 62) (v := iI (k + 1)) (lv' := [(6, .int (iI (k + 1))), (7, .int (iI (rd (k - 1)))), (5, .int (iI pk)), (0, .ref (ad 12)), (1, .ref (ad 9)), (2, .long (lI lm)), (4, .int (iI ap))]) hx hb dX3_countPeaks_62 hl (k := 1) rfl (iI_add _ _) (by decide) rfl (fun ls hl => ?_)
            refine lv_goto (pc := 65) (tgt := 10) hx hb dX3_countPeaks_65 (by decide) ?_
            exact ih_10 (k + 1) pk z (by omega) (fun i a1 a2 => by by_cases c9 : i = k - 1; rw [c9]; omega; exact iZ i a1 (by omega)) (by omega) (by omega) (by omega) H locs hP hD hS ls (lv_sub hl [0, 2, 3, 4, 5, 6] rfl)
          · skip
            refine lv_iinc (pc := 51) (v := iI (pk + 1)) (lv' := [(5, .int (iI (pk + 1))), (7, .int (iI (rd (k - 1)))), (6, .int (iI k)), (0, .ref (ad 12)), (1, .ref (ad 9)), (2, .long (lI lm)), (4, .int (iI ap))]) hx hb dX3_countPeaks_51 hl (k := 2) rfl (iI_add _ _) (by decide) rfl (fun ls hl => ?_)
            refine lv_aload_n (pc := 54) hx hb dX3_countPeaks_54 rfl (lv_at hl 3 rfl) ?_
            refine lv_iload (pc := 55) hx hb dX3_countPeaks_55 (lv_at hl 1 rfl) ?_
            refine lv_iload (pc := 57) hx hb dX3_countPeaks_57 (lv_at hl 6 rfl) ?_
            refine k_call1 (pc := 59) (va_runV (As := [.int (iI (rd (k - 1))), .int (iI ap)]) (rest := []) ⟨hx, hb, hml, hown, hts⟩ (c_X3_markNear l D cA ad (up w 15 (eI (cA 1) 400 z)) H.size F S n rd rm_ z (up_n (by decide) h9) (up_n (by decide) h10) (up_n (by decide) h11) (up_n (by decide) h12) (up_n (by decide) h13) (up_n (by decide) h14) (up_s _ _ _) hF hS9 hn (rd (k - 1)) ap (by omega) (by omega)) (cwV 2 hts gX3_countPeaks_X3_markNear rfl rfl rfl (by decide +kernel) ⟨Nat.le_of_ble_eq_true rfl, Nat.le_of_ble_eq_true rfl⟩) (gV_V hP hD hK hB hS hA hZ 12 (ci := 3) rfl (up_n (by decide) h12)) rfl rfl hl.1 rfl (lv_room (Nat.le_of_ble_eq_true rfl)) dX3_countPeaks_59 ⟨Nat.le_of_ble_eq_true rfl, Nat.le_of_ble_eq_true rfl⟩) hS (gA_sub hD hS hA) (fun v_59 ad_59 w_59 H locs hv_59 hP hD hS => ?_)
            obtain ⟨hv1, hv2, hv3⟩ := hv_59
            subst hv1
            rw [hv2, hv3] at hP hD
            rw [show up ((up w 15 (eI (cA 1) 400 z))) 15 (eI (cA 1) 400 (nrF z (rd (k - 1)) ap)) = _ from (up_up _ _ _ _)] at hP hD
            refine W.eq (g2 := F0 m 62 ls []) rfl ?_
            refine W.cs (cells' := 0) (slots' := 0) rfl rfl ?_
            refine lv_iinc (pc := 62) (v := iI (k + 1)) (lv' := [(6, .int (iI (k + 1))), (5, .int (iI (pk + 1))), (7, .int (iI (rd (k - 1)))), (0, .ref (ad 12)), (1, .ref (ad 9)), (2, .long (lI lm)), (4, .int (iI ap))]) hx hb dX3_countPeaks_62 hl (k := 2) rfl (iI_add _ _) (by decide) rfl (fun ls hl => ?_)
            refine lv_goto (pc := 65) (tgt := 10) hx hb dX3_countPeaks_65 (by decide) ?_
            have hb9_ := pk_best (z := z) (lm := lm) (k := k) hr ⟨by omega, by omega⟩ iZ (by omega) (by omega)
            exact ih_10 (k + 1) (pk + 1) (nrF z (rd (k - 1)) ap) (by omega) (fun i a1 a2 => by have t9_ := hr.2.1 i a1 (by omega); rw [nrF_or t9_.1 t9_.2.1]; by_cases c9 : i = k - 1; right; rw [c9]; omega; left; exact iZ i a1 (by omega)) (fun j a1 a2 => by unfold nrF; split; omega; exact iB j a1 a2) (fun v hv => iP v (pkE_s hb9_ (fun d a1 a2 => nrF_or a1 a2) hv)) (by omega) H locs hP hD hS ls (lv_sub hl [0, 1, 3, 4, 5, 6] rfl)
        · skip
          refine lv_goto (pc := 38) (tgt := 68) hx hb dX3_countPeaks_38 (by decide) ?_
          refine lv_iload (pc := 68) hx hb dX3_countPeaks_68 (lv_at hl 2 rfl) ?_
          rw [hQ9]
          exact W.iret (v := iI pk) hx hb hret (fun t ht hW => ⟨⟨some (.int (iI pk)), ad, (up w 15 (eI (cA 1) 400 z)), rfl, ⟨rfl, pk, z, rfl, rfl, iP pk (pkE_0 (pk_stop hr i0.1 iZ (by omega)))⟩, by rw [ht]; exact hP, hD⟩, hS.F ht⟩) hS.2.2 dX3_countPeaks_70
  exact lp_10 _ 1 0 (spanF rz 0 400 (fun _ => 0)) (by omega) (fun i a1 a2 => by omega) (fun j a1 a2 => by unfold spanF; rw [if_pos (by omega)]; show (0 : Int) ≤ 0 ∧ (0 : Int) ≤ 1; omega) (fun v hv => pkE_cg (fun d a1 a2 => by unfold spanF; rw [if_pos (by omega)]; exact ⟨fun x => x rfl, fun x => x.elim⟩) hv) (Nat.lt_succ_self _) H locs hP hD hS ls (lv_sub hl [0, 1, 2, 3, 4, 5] rfl)
