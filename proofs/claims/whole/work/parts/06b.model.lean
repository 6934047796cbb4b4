theorem sft_md {sc : Nat → Int} {fn : Nat → Int → Int} {us ut : Int → Int} {d b e : Int} (hu : mdU sc fn us ut) (ho : shOk (fn 0) (fn 1) (sc 1)) (hn : 0 ≤ sc 1) (hd : 0 ≤ d ∧ d < 400) (hb1 : ∀ j : Int, b < j → j ≤ d → us j = 0) (hb2 : b = -1 ∨ (0 ≤ b ∧ b ≤ d ∧ us b ≠ 0)) (he1 : ∀ j : Int, d ≤ j → j < e → us j = 0) (he2 : e = 400 ∨ (d ≤ e ∧ e < 400 ∧ us e ≠ 0)) :
    (b < 0 → e = 400 → sftP (fn 0) (fn 1) (sc 1) d 0) ∧ (b < 0 → e ≠ 400 → sftP (fn 0) (fn 1) (sc 1) d (ut e)) ∧ (0 ≤ b → (e = 400 ∨ e = b) → sftP (fn 0) (fn 1) (sc 1) d (ut b)) ∧ (0 ≤ b → e ≠ 400 → e ≠ b → sftP (fn 0) (fn 1) (sc 1) d (ut b + Int.tdiv ((ut e - ut b) * (d - b)) (e - b))) := by
  obtain ⟨k, hk⟩ := clP_ex (fn 0) d (sc 1).toNat
  rw [show (((sc 1).toNat : Nat) : Int) = sc 1 by omega] at hk
  obtain ⟨k0, k1, k2, k3⟩ := hk
  have hk : clP (fn 0) (sc 1) d k := ⟨k0, k1, k2, k3⟩
  have hlo : ∀ i : Int, 0 ≤ i → i < sc 1 → fn 0 i ≤ d → fn 0 i ≤ b := fun i a1 a2 a3 => Classical.byContradiction fun c => (hu.2 i a1 a2).1 (hb1 _ (by omega) a3)
  have hhi : ∀ i : Int, 0 ≤ i → i < sc 1 → d ≤ fn 0 i → e ≤ fn 0 i := fun i a1 a2 a3 => Classical.byContradiction fun c => (hu.2 i a1 a2).1 (he1 _ a3 (by omega))
  have hmo := ho.1
  have hrg := ho.2.1
  have hB : 0 ≤ b → ∃ i : Int, 0 ≤ i ∧ i < sc 1 ∧ fn 0 i = b ∧ ut b = fn 1 i := fun h => by
    have h2 : 0 ≤ b ∧ b ≤ d ∧ us b ≠ 0 := hb2.resolve_left (by omega)
    exact hu.1 b h (by omega) h2.2.2
  have hE : e ≠ 400 → ∃ i : Int, 0 ≤ i ∧ i < sc 1 ∧ fn 0 i = e ∧ ut e = fn 1 i := fun h => by
    have h2 := he2.resolve_left h
    exact hu.1 e (by omega) h2.2.1 h2.2.2
  refine ⟨fun g1 g2 => ?_, fun g1 g2 => ?_, fun g1 g2 => ?_, fun g1 g2 g3 => ?_⟩
  · refine Or.inl ⟨Classical.byContradiction fun c => ?_, rfl⟩
    have r := hrg 0
    rcases Int.le_total (fn 0 0) d with h | h
    · have := hlo 0 (by omega) (by omega) h
      omega
    · have := hhi 0 (by omega) (by omega) h
      omega
  · obtain ⟨i, i1, i2, i3, i4⟩ := hE g2
    have hk0 : k = 0 := Classical.byContradiction fun c => by
      have h1 := k2 0 (by omega) (by omega)
      have h2 := hlo 0 (by omega) (by omega) (by omega)
      have r := hrg 0
      omega
    have hi0 : i = 0 := Classical.byContradiction fun c => by
      have h1 := hmo 0 i (by omega) (by omega) i2
      have h2 := k3 (by omega)
      rw [hk0] at h2
      have h3 := hhi 0 (by omega) (by omega) h2
      omega
    exact Or.inr ⟨by omega, k, hk, Or.inr (Or.inl ⟨hk0, by omega, by rw [i4, hi0]⟩)⟩
  · obtain ⟨i, i1, i2, i3, i4⟩ := hB g1
    have hbd : b ≤ d := by rcases hb2 with h | h <;> omega
    by_cases h400 : e = 400
    · have hkn : k = sc 1 := Classical.byContradiction fun c => by
        have h1 := k3 (by omega)
        have h2 := hhi k k0 (by omega) h1
        have r := hrg k
        omega
      have hin : i = sc 1 - 1 := Classical.byContradiction fun c => by
        have h1 := hmo i (sc 1 - 1) i1 (by omega) (by omega)
        have h2 := k2 (sc 1 - 1) (by omega) (by omega)
        have h3 := hlo (sc 1 - 1) (by omega) (by omega) (by omega)
        omega
      exact Or.inr ⟨by omega, k, hk, Or.inl ⟨hkn, by rw [i4, hin]⟩⟩
    · have heb : e = b := g2.resolve_left h400
      have hde : d ≤ e := by rcases he2 with h | h <;> omega
      have hki : k = i := by
        rcases Int.lt_trichotomy k i with c | c | c
        · have h1 := hmo k i k0 c i2
          have h2 := k3 (by omega)
          omega
        · exact c
        · have h1 := k2 i i1 c
          omega
      by_cases c : k = 0
      · exact Or.inr ⟨by omega, k, hk, Or.inr (Or.inl ⟨c, by omega, by rw [i4, ← hki, c]⟩)⟩
      · refine Or.inr ⟨by omega, k, hk, Or.inr (Or.inr ⟨by omega, by omega, ?_⟩)⟩
        have h1 := hmo (k - 1) k (by omega) (by omega) (by omega)
        rw [show d - fn 0 (k - 1) = fn 0 k - fn 0 (k - 1) by rw [hki, i3]; omega, Int.mul_tdiv_cancel _ (by omega), i4, hki]
        omega
  · obtain ⟨i, i1, i2, i3, i4⟩ := hB g1
    obtain ⟨j, j1, j2, j3, j4⟩ := hE g2
    have hbd : b ≤ d := by rcases hb2 with h | h <;> omega
    have hde : d ≤ e := by rcases he2 with h | h <;> omega
    have hbd2 : b < d := Classical.byContradiction fun c => by
      have : us d ≠ 0 := by
        have h2 : 0 ≤ b ∧ b ≤ d ∧ us b ≠ 0 := hb2.resolve_left (by omega)
        rw [show d = b by omega]
        exact h2.2.2
      exact this (he1 d (Int.le_refl d) (by omega))
    have hik : i < k := Classical.byContradiction fun c => by
      have h2 := k3 (by omega)
      rcases Int.lt_or_eq_of_le (show k ≤ i by omega) with c2 | c2
      · have h1 := hmo k i k0 c2 i2
        omega
      · rw [c2] at h2
        omega
    have hkj : k ≤ j := Classical.byContradiction fun c => by
      have h1 := k2 j j1 (by omega)
      omega
    have hi : i = k - 1 := Classical.byContradiction fun c => by
      have h1 := hmo i (k - 1) i1 (by omega) (by omega)
      have h2 := k2 (k - 1) (by omega) (by omega)
      have h3 := hlo (k - 1) (by omega) (by omega) (by omega)
      omega
    have hj : j = k := Classical.byContradiction fun c => by
      have h1 := hmo k j k0 (by omega) j2
      have h2 := k3 (by omega)
      have h3 := hhi k k0 (by omega) h2
      omega
    refine Or.inr ⟨by omega, k, hk, Or.inr (Or.inr ⟨by omega, by omega, ?_⟩)⟩
    rw [← hi, i3, ← i4, ← hj, j3, ← j4]

theorem sg_top {st fl : Int → Int} {n : Int} (h : cvOk st fl n) (hn : 2 ≤ n) : flowF st fl n (st (n - 1)) = fl (n - 1) := by
  have h1 := h.1 (n - 2) (n - 1) (by omega) (by omega) (by omega)
  have h0 : st 0 ≤ st (n - 1) := by
    have := h.1 0 (n - 1) (by omega) (by omega) (by omega)
    omega
  rw [flow_seg (k := n - 2) h h0 (by omega) (by omega) (Or.inr (by omega)) (Or.inl (by omega))]
  have e := seg_hi st fl (k := n - 2) (by rw [show n - 2 + 1 = n - 1 by omega]; exact h1)
  rw [show n - 2 + 1 = n - 1 by omega] at e
  exact e

abbrev rmX6_shiftAt : Room := { frames := 0, cells := 0, slots := 0, locals := 0 }
theorem hiX6_shiftAt_6 : ∀ w ∈ wsX60, w ∈ wsX6_shiftAt := by decide +kernel
set_option maxHeartbeats 4000000 in
set_option maxRecDepth 100000 in
theorem c_X6_shiftAt (l : Launch) (D : va_G) (cA : Nat → ClassId) (ad : Nat → Nat) (w : Nat → Option va_E) (sc : Nat → Int) (fn : Nat → Int → Int) (th fr : Int) (us : Int → Int) (ut : Int → Int) (hI : bkInv sc fn) (k0 : w 200 = some (oB 6 [.int (iI th), .int (iI (sc 0)), .ref (ad 201), .ref (ad 202), .ref (ad 203), .ref (ad 204), .int (iI (sc 1)), .ref (ad 205), .ref (ad 206), .ref (ad 207), .ref (ad 208), .ref (ad 209), .int (iI (sc 2)), .int (iI (sc 3)), .int (iI (sc 4)), .ref (ad 210), .int (iI fr), .ref (ad 211), .ref (ad 212)])) (k5 : w 205 = some (eI (cA 1) 400 us)) (k6 : w 206 = some (eI (cA 0) 400 ut)) (hus : ∀ j : Int, 0 ≤ us j ∧ us j ≤ 1) (hut : ∀ j : Int, -200 ≤ ut j ∧ ut j ≤ 200) (hmu : mdU sc fn us ut) (d : Int) (hd : 0 ≤ d ∧ d < 400) : Met l yX6_shiftAt wsX6_shiftAt rmX6_shiftAt (gR D cA ad w [.ref (ad 200), .int (iI d)]) (gR0 (fun v9 => ∃ z : Int, v9 = some (.int (iI z)) ∧ z = sftF (fn 0) (fn 1) (sc 1) d)) 0 0 (fun _ => False) := by
  refine Met.ofW (cc := cX6_shiftAt) (maxL := 4) (ret := (some .int)) (by decide) rfl ?_
  intro p e s m args below meth c s₁ B hml hv
  obtain ⟨hav, hP, hK, hB⟩ := hv
  have hx := B.exec
  have hb := B.bytes
  have hret := B.returns
  have hts := atoms_spec (ws := wsX6_shiftAt) B.pre
  have hown : s.vm.findClass RX6 = some m.cls := findClass_of_methodNamed B.named
  have hlocks := B.notSynchronized
  have hS : va_S (fun _ => False) s.heap s.heap [] := va_S.rf
  have hi6 := hiX6_shiftAt_6
  have hf22 := hts (.fieldLink RX6 22 "GaugeBookModel" "hasShift" "[Z") (by decide +kernel)
  have hf26 := hts (.fieldLink RX6 26 "GaugeBookModel" "shiftTold" "[I") (by decide +kernel)
  have he9 : entryFrame m args 4 = F0 m 0 ((lg_sl ([.ref (ad 200), .int (iI d)] : List Value) ++ List.replicate (4 - (lg_sl ([.ref (ad 200), .int (iI d)] : List Value)).length) Slot.unset).toArray) [] := by rw [hav, lg_entry_eq]
  rw [he9]
  have hl := lv_entry ([.ref (ad 200), .int (iI d)] : List Value) (n := 4) (Nat.le_of_ble_eq_true rfl)
  generalize (lg_sl ([.ref (ad 200), .int (iI d)] : List Value) ++ List.replicate (4 - (lg_sl ([.ref (ad 200), .int (iI d)] : List Value)).length) Slot.unset).toArray = ls at hl ⊢
  have hl : lv_has ls 4 [(0, .ref (ad 200)), (1, .int (iI d))] := hl
  obtain ⟨Q9, hQ9⟩ : ∃ z, z = MQ below (gR0 (fun v9 => ∃ z : Int, v9 = some (.int (iI z)) ∧ z = sftF (fn 0) (fn 1) (sc 1) d)) args s 0 0 (fun _ => False) := ⟨_, rfl⟩
  rw [← hQ9]
  show W p l e rmX6_shiftAt s m args below meth c s.heap [] 0 0 Q9 (F0 m 0 ls [])
  have hI1 := hI.1
  refine lv_iload_n (pc := 0) hx hb dX6_shiftAt_0 rfl (lv_at hl 1 rfl) ?_
  refine lv_istore_n (pc := 1) (lv' := [(2, .int (iI d)), (0, .ref (ad 200)), (1, .int (iI d))]) hx hb dX6_shiftAt_1 rfl hl (by decide) rfl (fun ls hl => ?_)
  have lp_2 : ∀ (N9 : Nat) (b : Int), (-1 ≤ b ∧ b ≤ d) → (∀ j : Int, b < j → j ≤ d → us j = 0) → (b + 1).toNat < N9 → ∀ (ls : Array Slot), lv_has ls 4 [(2, .int (iI b)), (0, .ref (ad 200)), (1, .int (iI d))] → W p l e rmX6_shiftAt s m args below meth c s.heap [] 0 0 Q9 (F0 m 2 ls []) := by
    intro N9
    induction N9 with
    | zero => intro b i0 ib hmu; exact absurd hmu (Nat.not_lt_zero _)
    | succ N9 ih_2 =>
      intro b i0 ib hmu_2 ls hl
      refine lv_iload_n (pc := 2) hx hb dX6_shiftAt_2 rfl (lv_at hl 0 rfl) ?_
      refine k_if_lt (pc := 3) (tgt := 21) hx hb ⟨by omega, by omega⟩ dX6_shiftAt_3 (by decide) (fun hc_3 => ?_) (fun hc_3 => ?_)
      · skip
        have iB : b = -1 ∨ (0 ≤ b ∧ b ≤ d ∧ us b ≠ 0) := by omega
        refine lv_iload_n (pc := 21) hx hb dX6_shiftAt_21 rfl (lv_at hl 2 rfl) ?_
        refine lv_istore_n (pc := 22) (lv' := [(3, .int (iI d)), (2, .int (iI b)), (0, .ref (ad 200)), (1, .int (iI d))]) hx hb dX6_shiftAt_22 rfl hl (by decide) rfl (fun ls hl => ?_)
        have lp_23 : ∀ (N9 : Nat) (e_ : Int), (d ≤ e_ ∧ e_ ≤ 400) → (∀ j : Int, d ≤ j → j < e_ → us j = 0) → (400 - e_).toNat < N9 → ∀ (ls : Array Slot), lv_has ls 4 [(3, .int (iI e_)), (2, .int (iI b)), (0, .ref (ad 200)), (1, .int (iI d))] → W p l e rmX6_shiftAt s m args below meth c s.heap [] 0 0 Q9 (F0 m 23 ls []) := by
          intro N9
          induction N9 with
          | zero => intro e_ j0 ie hmu; exact absurd hmu (Nat.not_lt_zero _)
          | succ N9 ih_23 =>
            intro e_ j0 ie hmu_23 ls hl
            refine lv_iload_n (pc := 23) hx hb dX6_shiftAt_23 rfl (lv_at hl 0 rfl) ?_
            refine k_sipush (pc := 24) hx hb dX6_shiftAt_24 (by decide +kernel) ?_
            refine k_icmp_ge (pc := 27) (tgt := 45) hx hb ⟨by omega, by omega⟩ ⟨by omega, by omega⟩ dX6_shiftAt_27 (by decide) (fun hc_27 => ?_) (fun hc_27 => ?_)
            · skip
              have iE : e_ = 400 ∨ (d ≤ e_ ∧ e_ < 400 ∧ us e_ ≠ 0) := by omega
              have hfin := (sft_md hmu hI.2.1 hI1.2.1.1 hd ib iB ie iE)
              refine lv_iload_n (pc := 45) hx hb dX6_shiftAt_45 rfl (lv_at hl 1 rfl) ?_
              refine k_if_ge (pc := 46) (tgt := 67) hx hb ⟨by omega, by omega⟩ dX6_shiftAt_46 (by decide) (fun hc_46 => ?_) (fun hc_46 => ?_)
              · skip
                refine lv_iload_n (pc := 67) hx hb dX6_shiftAt_67 rfl (lv_at hl 0 rfl) ?_
                refine k_sipush (pc := 68) hx hb dX6_shiftAt_68 (by decide +kernel) ?_
                refine k_icmp_eq (pc := 71) (tgt := 79) hx hb ⟨by omega, by omega⟩ ⟨by omega, by omega⟩ dX6_shiftAt_71 (by decide) (fun hc_71 => ?_) (fun hc_71 => ?_)
                · skip
                  refine lv_aload_n (pc := 79) hx hb dX6_shiftAt_79 rfl (lv_at hl 2 rfl) ?_
                  refine k_get (pc := 80) (ci := 6) (C := RX6) (T := TX6) (N := 19) hx hb hts hi6 hown hK hP 200 k0 rfl 8 (by decide) hf26 (fun _ h9 => h9) rfl dX6_shiftAt_80 ?_
                  refine lv_iload_n (pc := 83) hx hb dX6_shiftAt_83 rfl (lv_at hl 1 rfl) ?_
                  refine k_iald (pc := 84) hx hb hK hP 206 0 k6 rfl (by omega) (by omega) (by omega) dX6_shiftAt_84 ?_
                  have hq_84 := hut b
                  rw [hQ9]
                  exact W.iret (v := iI (ut b)) hx hb hret (fun t ht hW => ⟨some (.int (iI (ut b))), rfl, ⟨ut b, rfl, sftF_eq (hfin.2.2.1 (by omega) (by omega))⟩, ht⟩) (fun q hq => by cases hq) dX6_shiftAt_85
                · skip
                  refine lv_iload_n (pc := 74) hx hb dX6_shiftAt_74 rfl (lv_at hl 0 rfl) ?_
                  refine lv_iload_n (pc := 75) hx hb dX6_shiftAt_75 rfl (lv_at hl 1 rfl) ?_
                  refine k_icmp_ne (pc := 76) (tgt := 86) hx hb ⟨by omega, by omega⟩ ⟨by omega, by omega⟩ dX6_shiftAt_76 (by decide) (fun hc_76 => ?_) (fun hc_76 => ?_)
                  · skip
                    refine lv_aload_n (pc := 86) hx hb dX6_shiftAt_86 rfl (lv_at hl 2 rfl) ?_
                    refine k_get (pc := 87) (ci := 6) (C := RX6) (T := TX6) (N := 19) hx hb hts hi6 hown hK hP 200 k0 rfl 8 (by decide) hf26 (fun _ h9 => h9) rfl dX6_shiftAt_87 ?_
                    refine lv_iload_n (pc := 90) hx hb dX6_shiftAt_90 rfl (lv_at hl 1 rfl) ?_
                    refine k_iald (pc := 91) hx hb hK hP 206 0 k6 rfl (by omega) (by omega) (by omega) dX6_shiftAt_91 ?_
                    have hq_91 := hut b
                    refine lv_aload_n (pc := 92) hx hb dX6_shiftAt_92 rfl (lv_at hl 2 rfl) ?_
                    refine k_get (pc := 93) (ci := 6) (C := RX6) (T := TX6) (N := 19) hx hb hts hi6 hown hK hP 200 k0 rfl 8 (by decide) hf26 (fun _ h9 => h9) rfl dX6_shiftAt_93 ?_
                    refine lv_iload_n (pc := 96) hx hb dX6_shiftAt_96 rfl (lv_at hl 0 rfl) ?_
                    refine k_iald (pc := 97) hx hb hK hP 206 0 k6 rfl (by omega) (by omega) (by omega) dX6_shiftAt_97 ?_
                    have hq_97 := hut e_
                    refine lv_aload_n (pc := 98) hx hb dX6_shiftAt_98 rfl (lv_at hl 2 rfl) ?_
                    refine k_get (pc := 99) (ci := 6) (C := RX6) (T := TX6) (N := 19) hx hb hts hi6 hown hK hP 200 k0 rfl 8 (by decide) hf26 (fun _ h9 => h9) rfl dX6_shiftAt_99 ?_
                    refine lv_iload_n (pc := 102) hx hb dX6_shiftAt_102 rfl (lv_at hl 1 rfl) ?_
                    refine k_iald (pc := 103) hx hb hK hP 206 0 k6 rfl (by omega) (by omega) (by omega) dX6_shiftAt_103 ?_
                    have hq_103 := hut b
                    have u1_ := hut b
                    have u2_ := hut e_
                    have m9_ := mulB (a := ut e_ - ut b) (b := d - b) (M := 400) (N := 400) ⟨by omega, by omega⟩ ⟨by omega, by omega⟩
                    refine k_isub (pc := 104) hx hb dX6_shiftAt_104 ?_
                    refine lv_iload_n (pc := 105) hx hb dX6_shiftAt_105 rfl (lv_at hl 3 rfl) ?_
                    refine lv_iload_n (pc := 106) hx hb dX6_shiftAt_106 rfl (lv_at hl 1 rfl) ?_
                    refine k_isub (pc := 107) hx hb dX6_shiftAt_107 ?_
                    refine k_imul (pc := 108) hx hb dX6_shiftAt_108 ?_
                    refine lv_iload_n (pc := 109) hx hb dX6_shiftAt_109 rfl (lv_at hl 0 rfl) ?_
                    refine lv_iload_n (pc := 110) hx hb dX6_shiftAt_110 rfl (lv_at hl 1 rfl) ?_
                    refine k_isub (pc := 111) hx hb dX6_shiftAt_111 ?_
                    refine k_idiv (pc := 112) hx hb ⟨by omega, by omega⟩ ⟨by omega, by omega⟩ (by omega) dX6_shiftAt_112 ?_
                    refine k_iadd (pc := 113) hx hb dX6_shiftAt_113 ?_
                    rw [hQ9]
                    exact W.iret (v := iI ((ut b) + (Int.tdiv (((ut e_) - (ut b)) * (d - b)) (e_ - b)))) hx hb hret (fun t ht hW => ⟨some (.int (iI ((ut b) + (Int.tdiv (((ut e_) - (ut b)) * (d - b)) (e_ - b))))), rfl, ⟨(ut b) + (Int.tdiv (((ut e_) - (ut b)) * (d - b)) (e_ - b)), rfl, sftF_eq (hfin.2.2.2 (by omega) (by omega) (by omega))⟩, ht⟩) (fun q hq => by cases hq) dX6_shiftAt_114
                  · skip
                    refine lv_aload_n (pc := 79) hx hb dX6_shiftAt_79 rfl (lv_at hl 2 rfl) ?_
                    refine k_get (pc := 80) (ci := 6) (C := RX6) (T := TX6) (N := 19) hx hb hts hi6 hown hK hP 200 k0 rfl 8 (by decide) hf26 (fun _ h9 => h9) rfl dX6_shiftAt_80 ?_
                    refine lv_iload_n (pc := 83) hx hb dX6_shiftAt_83 rfl (lv_at hl 1 rfl) ?_
                    refine k_iald (pc := 84) hx hb hK hP 206 0 k6 rfl (by omega) (by omega) (by omega) dX6_shiftAt_84 ?_
                    have hq_84 := hut b
                    rw [hQ9]
                    exact W.iret (v := iI (ut b)) hx hb hret (fun t ht hW => ⟨some (.int (iI (ut b))), rfl, ⟨ut b, rfl, sftF_eq (hfin.2.2.1 (by omega) (by omega))⟩, ht⟩) (fun q hq => by cases hq) dX6_shiftAt_85
              · skip
                refine lv_iload_n (pc := 49) hx hb dX6_shiftAt_49 rfl (lv_at hl 0 rfl) ?_
                refine k_sipush (pc := 50) hx hb dX6_shiftAt_50 (by decide +kernel) ?_
                refine k_icmp_ne (pc := 53) (tgt := 60) hx hb ⟨by omega, by omega⟩ ⟨by omega, by omega⟩ dX6_shiftAt_53 (by decide) (fun hc_53 => ?_) (fun hc_53 => ?_)
                · skip
                  refine lv_aload_n (pc := 60) hx hb dX6_shiftAt_60 rfl (lv_at hl 2 rfl) ?_
                  refine k_get (pc := 61) (ci := 6) (C := RX6) (T := TX6) (N := 19) hx hb hts hi6 hown hK hP 200 k0 rfl 8 (by decide) hf26 (fun _ h9 => h9) rfl dX6_shiftAt_61 ?_
                  refine lv_iload_n (pc := 64) hx hb dX6_shiftAt_64 rfl (lv_at hl 0 rfl) ?_
                  refine k_iald (pc := 65) hx hb hK hP 206 0 k6 rfl (by omega) (by omega) (by omega) dX6_shiftAt_65 ?_
                  have hq_65 := hut e_
                  rw [hQ9]
                  exact W.iret (v := iI (ut e_)) hx hb hret (fun t ht hW => ⟨some (.int (iI (ut e_))), rfl, ⟨ut e_, rfl, sftF_eq (hfin.2.1 (by omega) (by omega))⟩, ht⟩) (fun q hq => by cases hq) dX6_shiftAt_66
                · skip
                  refine k_iconst (pc := 56) hx hb dX6_shiftAt_56 ?_
                  refine lv_goto (pc := 57) (tgt := 66) hx hb dX6_shiftAt_57 (by decide) ?_
                  rw [hQ9]
                  exact W.iret (v := iI 0) hx hb hret (fun t ht hW => ⟨some (.int (iI 0)), rfl, ⟨0, rfl, sftF_eq (hfin.1 (by omega) (by omega))⟩, ht⟩) (fun q hq => by cases hq) dX6_shiftAt_66
            · skip
              refine lv_aload_n (pc := 30) hx hb dX6_shiftAt_30 rfl (lv_at hl 2 rfl) ?_
              refine k_get (pc := 31) (ci := 6) (C := RX6) (T := TX6) (N := 19) hx hb hts hi6 hown hK hP 200 k0 rfl 7 (by decide) hf22 (fun _ h9 => h9) rfl dX6_shiftAt_31 ?_
              refine lv_iload_n (pc := 34) hx hb dX6_shiftAt_34 rfl (lv_at hl 0 rfl) ?_
              refine k_zald (pc := 35) hx hb hK hP 205 1 k5 rfl (by omega) (by omega) (by omega) dX6_shiftAt_35 ?_
              have hq_35 := hus e_
              refine k_if_ne (pc := 36) (tgt := 45) hx hb ⟨by omega, by omega⟩ dX6_shiftAt_36 (by decide) (fun hc_36 => ?_) (fun hc_36 => ?_)
              · skip
                have iE : e_ = 400 ∨ (d ≤ e_ ∧ e_ < 400 ∧ us e_ ≠ 0) := by omega
                have hfin := (sft_md hmu hI.2.1 hI1.2.1.1 hd ib iB ie iE)
                refine lv_iload_n (pc := 45) hx hb dX6_shiftAt_45 rfl (lv_at hl 1 rfl) ?_
                refine k_if_ge (pc := 46) (tgt := 67) hx hb ⟨by omega, by omega⟩ dX6_shiftAt_46 (by decide) (fun hc_46 => ?_) (fun hc_46 => ?_)
                · skip
                  refine lv_iload_n (pc := 67) hx hb dX6_shiftAt_67 rfl (lv_at hl 0 rfl) ?_
                  refine k_sipush (pc := 68) hx hb dX6_shiftAt_68 (by decide +kernel) ?_
                  refine k_icmp_eq (pc := 71) (tgt := 79) hx hb ⟨by omega, by omega⟩ ⟨by omega, by omega⟩ dX6_shiftAt_71 (by decide) (fun hc_71 => ?_) (fun hc_71 => ?_)
                  · skip
                    refine lv_aload_n (pc := 79) hx hb dX6_shiftAt_79 rfl (lv_at hl 2 rfl) ?_
                    refine k_get (pc := 80) (ci := 6) (C := RX6) (T := TX6) (N := 19) hx hb hts hi6 hown hK hP 200 k0 rfl 8 (by decide) hf26 (fun _ h9 => h9) rfl dX6_shiftAt_80 ?_
                    refine lv_iload_n (pc := 83) hx hb dX6_shiftAt_83 rfl (lv_at hl 1 rfl) ?_
                    refine k_iald (pc := 84) hx hb hK hP 206 0 k6 rfl (by omega) (by omega) (by omega) dX6_shiftAt_84 ?_
                    have hq_84 := hut b
                    rw [hQ9]
                    exact W.iret (v := iI (ut b)) hx hb hret (fun t ht hW => ⟨some (.int (iI (ut b))), rfl, ⟨ut b, rfl, sftF_eq (hfin.2.2.1 (by omega) (by omega))⟩, ht⟩) (fun q hq => by cases hq) dX6_shiftAt_85
                  · skip
                    refine lv_iload_n (pc := 74) hx hb dX6_shiftAt_74 rfl (lv_at hl 0 rfl) ?_
                    refine lv_iload_n (pc := 75) hx hb dX6_shiftAt_75 rfl (lv_at hl 1 rfl) ?_
                    refine k_icmp_ne (pc := 76) (tgt := 86) hx hb ⟨by omega, by omega⟩ ⟨by omega, by omega⟩ dX6_shiftAt_76 (by decide) (fun hc_76 => ?_) (fun hc_76 => ?_)
                    · skip
                      refine lv_aload_n (pc := 86) hx hb dX6_shiftAt_86 rfl (lv_at hl 2 rfl) ?_
                      refine k_get (pc := 87) (ci := 6) (C := RX6) (T := TX6) (N := 19) hx hb hts hi6 hown hK hP 200 k0 rfl 8 (by decide) hf26 (fun _ h9 => h9) rfl dX6_shiftAt_87 ?_
                      refine lv_iload_n (pc := 90) hx hb dX6_shiftAt_90 rfl (lv_at hl 1 rfl) ?_
                      refine k_iald (pc := 91) hx hb hK hP 206 0 k6 rfl (by omega) (by omega) (by omega) dX6_shiftAt_91 ?_
                      have hq_91 := hut b
                      refine lv_aload_n (pc := 92) hx hb dX6_shiftAt_92 rfl (lv_at hl 2 rfl) ?_
                      refine k_get (pc := 93) (ci := 6) (C := RX6) (T := TX6) (N := 19) hx hb hts hi6 hown hK hP 200 k0 rfl 8 (by decide) hf26 (fun _ h9 => h9) rfl dX6_shiftAt_93 ?_
                      refine lv_iload_n (pc := 96) hx hb dX6_shiftAt_96 rfl (lv_at hl 0 rfl) ?_
                      refine k_iald (pc := 97) hx hb hK hP 206 0 k6 rfl (by omega) (by omega) (by omega) dX6_shiftAt_97 ?_
                      have hq_97 := hut e_
                      refine lv_aload_n (pc := 98) hx hb dX6_shiftAt_98 rfl (lv_at hl 2 rfl) ?_
                      refine k_get (pc := 99) (ci := 6) (C := RX6) (T := TX6) (N := 19) hx hb hts hi6 hown hK hP 200 k0 rfl 8 (by decide) hf26 (fun _ h9 => h9) rfl dX6_shiftAt_99 ?_
                      refine lv_iload_n (pc := 102) hx hb dX6_shiftAt_102 rfl (lv_at hl 1 rfl) ?_
                      refine k_iald (pc := 103) hx hb hK hP 206 0 k6 rfl (by omega) (by omega) (by omega) dX6_shiftAt_103 ?_
                      have hq_103 := hut b
                      have u1_ := hut b
                      have u2_ := hut e_
                      have m9_ := mulB (a := ut e_ - ut b) (b := d - b) (M := 400) (N := 400) ⟨by omega, by omega⟩ ⟨by omega, by omega⟩
                      refine k_isub (pc := 104) hx hb dX6_shiftAt_104 ?_
                      refine lv_iload_n (pc := 105) hx hb dX6_shiftAt_105 rfl (lv_at hl 3 rfl) ?_
                      refine lv_iload_n (pc := 106) hx hb dX6_shiftAt_106 rfl (lv_at hl 1 rfl) ?_
                      refine k_isub (pc := 107) hx hb dX6_shiftAt_107 ?_
                      refine k_imul (pc := 108) hx hb dX6_shiftAt_108 ?_
                      refine lv_iload_n (pc := 109) hx hb dX6_shiftAt_109 rfl (lv_at hl 0 rfl) ?_
                      refine lv_iload_n (pc := 110) hx hb dX6_shiftAt_110 rfl (lv_at hl 1 rfl) ?_
                      refine k_isub (pc := 111) hx hb dX6_shiftAt_111 ?_
                      refine k_idiv (pc := 112) hx hb ⟨by omega, by omega⟩ ⟨by omega, by omega⟩ (by omega) dX6_shiftAt_112 ?_
                      refine k_iadd (pc := 113) hx hb dX6_shiftAt_113 ?_
                      rw [hQ9]
                      exact W.iret (v := iI ((ut b) + (Int.tdiv (((ut e_) - (ut b)) * (d - b)) (e_ - b)))) hx hb hret (fun t ht hW => ⟨some (.int (iI ((ut b) + (Int.tdiv (((ut e_) - (ut b)) * (d - b)) (e_ - b))))), rfl, ⟨(ut b) + (Int.tdiv (((ut e_) - (ut b)) * (d - b)) (e_ - b)), rfl, sftF_eq (hfin.2.2.2 (by omega) (by omega) (by omega))⟩, ht⟩) (fun q hq => by cases hq) dX6_shiftAt_114
                    · skip
                      refine lv_aload_n (pc := 79) hx hb dX6_shiftAt_79 rfl (lv_at hl 2 rfl) ?_
                      refine k_get (pc := 80) (ci := 6) (C := RX6) (T := TX6) (N := 19) hx hb hts hi6 hown hK hP 200 k0 rfl 8 (by decide) hf26 (fun _ h9 => h9) rfl dX6_shiftAt_80 ?_
                      refine lv_iload_n (pc := 83) hx hb dX6_shiftAt_83 rfl (lv_at hl 1 rfl) ?_
                      refine k_iald (pc := 84) hx hb hK hP 206 0 k6 rfl (by omega) (by omega) (by omega) dX6_shiftAt_84 ?_
                      have hq_84 := hut b
                      rw [hQ9]
                      exact W.iret (v := iI (ut b)) hx hb hret (fun t ht hW => ⟨some (.int (iI (ut b))), rfl, ⟨ut b, rfl, sftF_eq (hfin.2.2.1 (by omega) (by omega))⟩, ht⟩) (fun q hq => by cases hq) dX6_shiftAt_85
                · skip
                  refine lv_iload_n (pc := 49) hx hb dX6_shiftAt_49 rfl (lv_at hl 0 rfl) ?_
                  refine k_sipush (pc := 50) hx hb dX6_shiftAt_50 (by decide +kernel) ?_
                  refine k_icmp_ne (pc := 53) (tgt := 60) hx hb ⟨by omega, by omega⟩ ⟨by omega, by omega⟩ dX6_shiftAt_53 (by decide) (fun hc_53 => ?_) (fun hc_53 => ?_)
                  · skip
                    refine lv_aload_n (pc := 60) hx hb dX6_shiftAt_60 rfl (lv_at hl 2 rfl) ?_
                    refine k_get (pc := 61) (ci := 6) (C := RX6) (T := TX6) (N := 19) hx hb hts hi6 hown hK hP 200 k0 rfl 8 (by decide) hf26 (fun _ h9 => h9) rfl dX6_shiftAt_61 ?_
                    refine lv_iload_n (pc := 64) hx hb dX6_shiftAt_64 rfl (lv_at hl 0 rfl) ?_
                    refine k_iald (pc := 65) hx hb hK hP 206 0 k6 rfl (by omega) (by omega) (by omega) dX6_shiftAt_65 ?_
                    have hq_65 := hut e_
                    rw [hQ9]
                    exact W.iret (v := iI (ut e_)) hx hb hret (fun t ht hW => ⟨some (.int (iI (ut e_))), rfl, ⟨ut e_, rfl, sftF_eq (hfin.2.1 (by omega) (by omega))⟩, ht⟩) (fun q hq => by cases hq) dX6_shiftAt_66
                  · skip
                    refine k_iconst (pc := 56) hx hb dX6_shiftAt_56 ?_
                    refine lv_goto (pc := 57) (tgt := 66) hx hb dX6_shiftAt_57 (by decide) ?_
                    rw [hQ9]
                    exact W.iret (v := iI 0) hx hb hret (fun t ht hW => ⟨some (.int (iI 0)), rfl, ⟨0, rfl, sftF_eq (hfin.1 (by omega) (by omega))⟩, ht⟩) (fun q hq => by cases hq) dX6_shiftAt_66
              · skip
                refine lv_iinc (pc := 39) (v := iI (e_ + 1)) (lv' := [(3, .int (iI (e_ + 1))), (2, .int (iI b)), (0, .ref (ad 200)), (1, .int (iI d))]) hx hb dX6_shiftAt_39 hl (k := 0) rfl (iI_add _ _) (by decide) rfl (fun ls hl => ?_)
                refine lv_goto (pc := 42) (tgt := 23) hx hb dX6_shiftAt_42 (by decide) ?_
                exact ih_23 (e_ + 1) (by omega) (fun j a1 a2 => by by_cases c9 : j = e_; rw [c9]; omega; exact ie j a1 (by omega)) (by omega) ls (lv_sub hl [0, 1, 2, 3] rfl)
        exact lp_23 _ d (by omega) (fun j a1 a2 => by omega) (Nat.lt_succ_self _) ls (lv_sub hl [0, 1, 2, 3] rfl)
      · skip
        refine lv_aload_n (pc := 6) hx hb dX6_shiftAt_6 rfl (lv_at hl 1 rfl) ?_
        refine k_get (pc := 7) (ci := 6) (C := RX6) (T := TX6) (N := 19) hx hb hts hi6 hown hK hP 200 k0 rfl 7 (by decide) hf22 (fun _ h9 => h9) rfl dX6_shiftAt_7 ?_
        refine lv_iload_n (pc := 10) hx hb dX6_shiftAt_10 rfl (lv_at hl 0 rfl) ?_
        refine k_zald (pc := 11) hx hb hK hP 205 1 k5 rfl (by omega) (by omega) (by omega) dX6_shiftAt_11 ?_
        have hq_11 := hus b
        refine k_if_ne (pc := 12) (tgt := 21) hx hb ⟨by omega, by omega⟩ dX6_shiftAt_12 (by decide) (fun hc_12 => ?_) (fun hc_12 => ?_)
        · skip
          have iB : b = -1 ∨ (0 ≤ b ∧ b ≤ d ∧ us b ≠ 0) := by omega
          refine lv_iload_n (pc := 21) hx hb dX6_shiftAt_21 rfl (lv_at hl 2 rfl) ?_
          refine lv_istore_n (pc := 22) (lv' := [(3, .int (iI d)), (2, .int (iI b)), (0, .ref (ad 200)), (1, .int (iI d))]) hx hb dX6_shiftAt_22 rfl hl (by decide) rfl (fun ls hl => ?_)
          have lp_23_2 : ∀ (N9 : Nat) (e_ : Int), (d ≤ e_ ∧ e_ ≤ 400) → (∀ j : Int, d ≤ j → j < e_ → us j = 0) → (400 - e_).toNat < N9 → ∀ (ls : Array Slot), lv_has ls 4 [(3, .int (iI e_)), (2, .int (iI b)), (0, .ref (ad 200)), (1, .int (iI d))] → W p l e rmX6_shiftAt s m args below meth c s.heap [] 0 0 Q9 (F0 m 23 ls []) := by
            intro N9
            induction N9 with
            | zero => intro e_ j0 ie hmu; exact absurd hmu (Nat.not_lt_zero _)
            | succ N9 ih_23 =>
              intro e_ j0 ie hmu_23 ls hl
              refine lv_iload_n (pc := 23) hx hb dX6_shiftAt_23 rfl (lv_at hl 0 rfl) ?_
              refine k_sipush (pc := 24) hx hb dX6_shiftAt_24 (by decide +kernel) ?_
              refine k_icmp_ge (pc := 27) (tgt := 45) hx hb ⟨by omega, by omega⟩ ⟨by omega, by omega⟩ dX6_shiftAt_27 (by decide) (fun hc_27 => ?_) (fun hc_27 => ?_)
              · skip
                have iE : e_ = 400 ∨ (d ≤ e_ ∧ e_ < 400 ∧ us e_ ≠ 0) := by omega
                have hfin := (sft_md hmu hI.2.1 hI1.2.1.1 hd ib iB ie iE)
                refine lv_iload_n (pc := 45) hx hb dX6_shiftAt_45 rfl (lv_at hl 1 rfl) ?_
                refine k_if_ge (pc := 46) (tgt := 67) hx hb ⟨by omega, by omega⟩ dX6_shiftAt_46 (by decide) (fun hc_46 => ?_) (fun hc_46 => ?_)
                · skip
                  refine lv_iload_n (pc := 67) hx hb dX6_shiftAt_67 rfl (lv_at hl 0 rfl) ?_
                  refine k_sipush (pc := 68) hx hb dX6_shiftAt_68 (by decide +kernel) ?_
                  refine k_icmp_eq (pc := 71) (tgt := 79) hx hb ⟨by omega, by omega⟩ ⟨by omega, by omega⟩ dX6_shiftAt_71 (by decide) (fun hc_71 => ?_) (fun hc_71 => ?_)
                  · skip
                    refine lv_aload_n (pc := 79) hx hb dX6_shiftAt_79 rfl (lv_at hl 2 rfl) ?_
                    refine k_get (pc := 80) (ci := 6) (C := RX6) (T := TX6) (N := 19) hx hb hts hi6 hown hK hP 200 k0 rfl 8 (by decide) hf26 (fun _ h9 => h9) rfl dX6_shiftAt_80 ?_
                    refine lv_iload_n (pc := 83) hx hb dX6_shiftAt_83 rfl (lv_at hl 1 rfl) ?_
                    refine k_iald (pc := 84) hx hb hK hP 206 0 k6 rfl (by omega) (by omega) (by omega) dX6_shiftAt_84 ?_
                    have hq_84 := hut b
                    rw [hQ9]
                    exact W.iret (v := iI (ut b)) hx hb hret (fun t ht hW => ⟨some (.int (iI (ut b))), rfl, ⟨ut b, rfl, sftF_eq (hfin.2.2.1 (by omega) (by omega))⟩, ht⟩) (fun q hq => by cases hq) dX6_shiftAt_85
                  · skip
                    refine lv_iload_n (pc := 74) hx hb dX6_shiftAt_74 rfl (lv_at hl 0 rfl) ?_
                    refine lv_iload_n (pc := 75) hx hb dX6_shiftAt_75 rfl (lv_at hl 1 rfl) ?_
                    refine k_icmp_ne (pc := 76) (tgt := 86) hx hb ⟨by omega, by omega⟩ ⟨by omega, by omega⟩ dX6_shiftAt_76 (by decide) (fun hc_76 => ?_) (fun hc_76 => ?_)
                    · skip
                      refine lv_aload_n (pc := 86) hx hb dX6_shiftAt_86 rfl (lv_at hl 2 rfl) ?_
                      refine k_get (pc := 87) (ci := 6) (C := RX6) (T := TX6) (N := 19) hx hb hts hi6 hown hK hP 200 k0 rfl 8 (by decide) hf26 (fun _ h9 => h9) rfl dX6_shiftAt_87 ?_
                      refine lv_iload_n (pc := 90) hx hb dX6_shiftAt_90 rfl (lv_at hl 1 rfl) ?_
                      refine k_iald (pc := 91) hx hb hK hP 206 0 k6 rfl (by omega) (by omega) (by omega) dX6_shiftAt_91 ?_
                      have hq_91 := hut b
                      refine lv_aload_n (pc := 92) hx hb dX6_shiftAt_92 rfl (lv_at hl 2 rfl) ?_
                      refine k_get (pc := 93) (ci := 6) (C := RX6) (T := TX6) (N := 19) hx hb hts hi6 hown hK hP 200 k0 rfl 8 (by decide) hf26 (fun _ h9 => h9) rfl dX6_shiftAt_93 ?_
                      refine lv_iload_n (pc := 96) hx hb dX6_shiftAt_96 rfl (lv_at hl 0 rfl) ?_
                      refine k_iald (pc := 97) hx hb hK hP 206 0 k6 rfl (by omega) (by omega) (by omega) dX6_shiftAt_97 ?_
                      have hq_97 := hut e_
                      refine lv_aload_n (pc := 98) hx hb dX6_shiftAt_98 rfl (lv_at hl 2 rfl) ?_
                      refine k_get (pc := 99) (ci := 6) (C := RX6) (T := TX6) (N := 19) hx hb hts hi6 hown hK hP 200 k0 rfl 8 (by decide) hf26 (fun _ h9 => h9) rfl dX6_shiftAt_99 ?_
                      refine lv_iload_n (pc := 102) hx hb dX6_shiftAt_102 rfl (lv_at hl 1 rfl) ?_
                      refine k_iald (pc := 103) hx hb hK hP 206 0 k6 rfl (by omega) (by omega) (by omega) dX6_shiftAt_103 ?_
                      have hq_103 := hut b
                      have u1_ := hut b
                      have u2_ := hut e_
                      have m9_ := mulB (a := ut e_ - ut b) (b := d - b) (M := 400) (N := 400) ⟨by omega, by omega⟩ ⟨by omega, by omega⟩
                      refine k_isub (pc := 104) hx hb dX6_shiftAt_104 ?_
                      refine lv_iload_n (pc := 105) hx hb dX6_shiftAt_105 rfl (lv_at hl 3 rfl) ?_
                      refine lv_iload_n (pc := 106) hx hb dX6_shiftAt_106 rfl (lv_at hl 1 rfl) ?_
                      refine k_isub (pc := 107) hx hb dX6_shiftAt_107 ?_
                      refine k_imul (pc := 108) hx hb dX6_shiftAt_108 ?_
                      refine lv_iload_n (pc := 109) hx hb dX6_shiftAt_109 rfl (lv_at hl 0 rfl) ?_
                      refine lv_iload_n (pc := 110) hx hb dX6_shiftAt_110 rfl (lv_at hl 1 rfl) ?_
                      refine k_isub (pc := 111) hx hb dX6_shiftAt_111 ?_
                      refine k_idiv (pc := 112) hx hb ⟨by omega, by omega⟩ ⟨by omega, by omega⟩ (by omega) dX6_shiftAt_112 ?_
                      refine k_iadd (pc := 113) hx hb dX6_shiftAt_113 ?_
                      rw [hQ9]
                      exact W.iret (v := iI ((ut b) + (Int.tdiv (((ut e_) - (ut b)) * (d - b)) (e_ - b)))) hx hb hret (fun t ht hW => ⟨some (.int (iI ((ut b) + (Int.tdiv (((ut e_) - (ut b)) * (d - b)) (e_ - b))))), rfl, ⟨(ut b) + (Int.tdiv (((ut e_) - (ut b)) * (d - b)) (e_ - b)), rfl, sftF_eq (hfin.2.2.2 (by omega) (by omega) (by omega))⟩, ht⟩) (fun q hq => by cases hq) dX6_shiftAt_114
                    · skip
                      refine lv_aload_n (pc := 79) hx hb dX6_shiftAt_79 rfl (lv_at hl 2 rfl) ?_
                      refine k_get (pc := 80) (ci := 6) (C := RX6) (T := TX6) (N := 19) hx hb hts hi6 hown hK hP 200 k0 rfl 8 (by decide) hf26 (fun _ h9 => h9) rfl dX6_shiftAt_80 ?_
                      refine lv_iload_n (pc := 83) hx hb dX6_shiftAt_83 rfl (lv_at hl 1 rfl) ?_
                      refine k_iald (pc := 84) hx hb hK hP 206 0 k6 rfl (by omega) (by omega) (by omega) dX6_shiftAt_84 ?_
                      have hq_84 := hut b
                      rw [hQ9]
                      exact W.iret (v := iI (ut b)) hx hb hret (fun t ht hW => ⟨some (.int (iI (ut b))), rfl, ⟨ut b, rfl, sftF_eq (hfin.2.2.1 (by omega) (by omega))⟩, ht⟩) (fun q hq => by cases hq) dX6_shiftAt_85
                · skip
                  refine lv_iload_n (pc := 49) hx hb dX6_shiftAt_49 rfl (lv_at hl 0 rfl) ?_
                  refine k_sipush (pc := 50) hx hb dX6_shiftAt_50 (by decide +kernel) ?_
                  refine k_icmp_ne (pc := 53) (tgt := 60) hx hb ⟨by omega, by omega⟩ ⟨by omega, by omega⟩ dX6_shiftAt_53 (by decide) (fun hc_53 => ?_) (fun hc_53 => ?_)
                  · skip
                    refine lv_aload_n (pc := 60) hx hb dX6_shiftAt_60 rfl (lv_at hl 2 rfl) ?_
                    refine k_get (pc := 61) (ci := 6) (C := RX6) (T := TX6) (N := 19) hx hb hts hi6 hown hK hP 200 k0 rfl 8 (by decide) hf26 (fun _ h9 => h9) rfl dX6_shiftAt_61 ?_
                    refine lv_iload_n (pc := 64) hx hb dX6_shiftAt_64 rfl (lv_at hl 0 rfl) ?_
                    refine k_iald (pc := 65) hx hb hK hP 206 0 k6 rfl (by omega) (by omega) (by omega) dX6_shiftAt_65 ?_
                    have hq_65 := hut e_
                    rw [hQ9]
                    exact W.iret (v := iI (ut e_)) hx hb hret (fun t ht hW => ⟨some (.int (iI (ut e_))), rfl, ⟨ut e_, rfl, sftF_eq (hfin.2.1 (by omega) (by omega))⟩, ht⟩) (fun q hq => by cases hq) dX6_shiftAt_66
                  · skip
                    refine k_iconst (pc := 56) hx hb dX6_shiftAt_56 ?_
                    refine lv_goto (pc := 57) (tgt := 66) hx hb dX6_shiftAt_57 (by decide) ?_
                    rw [hQ9]
                    exact W.iret (v := iI 0) hx hb hret (fun t ht hW => ⟨some (.int (iI 0)), rfl, ⟨0, rfl, sftF_eq (hfin.1 (by omega) (by omega))⟩, ht⟩) (fun q hq => by cases hq) dX6_shiftAt_66
              · skip
                refine lv_aload_n (pc := 30) hx hb dX6_shiftAt_30 rfl (lv_at hl 2 rfl) ?_
                refine k_get (pc := 31) (ci := 6) (C := RX6) (T := TX6) (N := 19) hx hb hts hi6 hown hK hP 200 k0 rfl 7 (by decide) hf22 (fun _ h9 => h9) rfl dX6_shiftAt_31 ?_
                refine lv_iload_n (pc := 34) hx hb dX6_shiftAt_34 rfl (lv_at hl 0 rfl) ?_
                refine k_zald (pc := 35) hx hb hK hP 205 1 k5 rfl (by omega) (by omega) (by omega) dX6_shiftAt_35 ?_
                have hq_35 := hus e_
                refine k_if_ne (pc := 36) (tgt := 45) hx hb ⟨by omega, by omega⟩ dX6_shiftAt_36 (by decide) (fun hc_36 => ?_) (fun hc_36 => ?_)
                · skip
                  have iE : e_ = 400 ∨ (d ≤ e_ ∧ e_ < 400 ∧ us e_ ≠ 0) := by omega
                  have hfin := (sft_md hmu hI.2.1 hI1.2.1.1 hd ib iB ie iE)
                  refine lv_iload_n (pc := 45) hx hb dX6_shiftAt_45 rfl (lv_at hl 1 rfl) ?_
                  refine k_if_ge (pc := 46) (tgt := 67) hx hb ⟨by omega, by omega⟩ dX6_shiftAt_46 (by decide) (fun hc_46 => ?_) (fun hc_46 => ?_)
                  · skip
                    refine lv_iload_n (pc := 67) hx hb dX6_shiftAt_67 rfl (lv_at hl 0 rfl) ?_
                    refine k_sipush (pc := 68) hx hb dX6_shiftAt_68 (by decide +kernel) ?_
                    refine k_icmp_eq (pc := 71) (tgt := 79) hx hb ⟨by omega, by omega⟩ ⟨by omega, by omega⟩ dX6_shiftAt_71 (by decide) (fun hc_71 => ?_) (fun hc_71 => ?_)
                    · skip
                      refine lv_aload_n (pc := 79) hx hb dX6_shiftAt_79 rfl (lv_at hl 2 rfl) ?_
                      refine k_get (pc := 80) (ci := 6) (C := RX6) (T := TX6) (N := 19) hx hb hts hi6 hown hK hP 200 k0 rfl 8 (by decide) hf26 (fun _ h9 => h9) rfl dX6_shiftAt_80 ?_
                      refine lv_iload_n (pc := 83) hx hb dX6_shiftAt_83 rfl (lv_at hl 1 rfl) ?_
                      refine k_iald (pc := 84) hx hb hK hP 206 0 k6 rfl (by omega) (by omega) (by omega) dX6_shiftAt_84 ?_
                      have hq_84 := hut b
                      rw [hQ9]
                      exact W.iret (v := iI (ut b)) hx hb hret (fun t ht hW => ⟨some (.int (iI (ut b))), rfl, ⟨ut b, rfl, sftF_eq (hfin.2.2.1 (by omega) (by omega))⟩, ht⟩) (fun q hq => by cases hq) dX6_shiftAt_85
                    · skip
                      refine lv_iload_n (pc := 74) hx hb dX6_shiftAt_74 rfl (lv_at hl 0 rfl) ?_
                      refine lv_iload_n (pc := 75) hx hb dX6_shiftAt_75 rfl (lv_at hl 1 rfl) ?_
                      refine k_icmp_ne (pc := 76) (tgt := 86) hx hb ⟨by omega, by omega⟩ ⟨by omega, by omega⟩ dX6_shiftAt_76 (by decide) (fun hc_76 => ?_) (fun hc_76 => ?_)
                      · skip
                        refine lv_aload_n (pc := 86) hx hb dX6_shiftAt_86 rfl (lv_at hl 2 rfl) ?_
                        refine k_get (pc := 87) (ci := 6) (C := RX6) (T := TX6) (N := 19) hx hb hts hi6 hown hK hP 200 k0 rfl 8 (by decide) hf26 (fun _ h9 => h9) rfl dX6_shiftAt_87 ?_
                        refine lv_iload_n (pc := 90) hx hb dX6_shiftAt_90 rfl (lv_at hl 1 rfl) ?_
                        refine k_iald (pc := 91) hx hb hK hP 206 0 k6 rfl (by omega) (by omega) (by omega) dX6_shiftAt_91 ?_
                        have hq_91 := hut b
                        refine lv_aload_n (pc := 92) hx hb dX6_shiftAt_92 rfl (lv_at hl 2 rfl) ?_
                        refine k_get (pc := 93) (ci := 6) (C := RX6) (T := TX6) (N := 19) hx hb hts hi6 hown hK hP 200 k0 rfl 8 (by decide) hf26 (fun _ h9 => h9) rfl dX6_shiftAt_93 ?_
                        refine lv_iload_n (pc := 96) hx hb dX6_shiftAt_96 rfl (lv_at hl 0 rfl) ?_
                        refine k_iald (pc := 97) hx hb hK hP 206 0 k6 rfl (by omega) (by omega) (by omega) dX6_shiftAt_97 ?_
                        have hq_97 := hut e_
                        refine lv_aload_n (pc := 98) hx hb dX6_shiftAt_98 rfl (lv_at hl 2 rfl) ?_
                        refine k_get (pc := 99) (ci := 6) (C := RX6) (T := TX6) (N := 19) hx hb hts hi6 hown hK hP 200 k0 rfl 8 (by decide) hf26 (fun _ h9 => h9) rfl dX6_shiftAt_99 ?_
                        refine lv_iload_n (pc := 102) hx hb dX6_shiftAt_102 rfl (lv_at hl 1 rfl) ?_
                        refine k_iald (pc := 103) hx hb hK hP 206 0 k6 rfl (by omega) (by omega) (by omega) dX6_shiftAt_103 ?_
                        have hq_103 := hut b
                        have u1_ := hut b
                        have u2_ := hut e_
                        have m9_ := mulB (a := ut e_ - ut b) (b := d - b) (M := 400) (N := 400) ⟨by omega, by omega⟩ ⟨by omega, by omega⟩
                        refine k_isub (pc := 104) hx hb dX6_shiftAt_104 ?_
                        refine lv_iload_n (pc := 105) hx hb dX6_shiftAt_105 rfl (lv_at hl 3 rfl) ?_
                        refine lv_iload_n (pc := 106) hx hb dX6_shiftAt_106 rfl (lv_at hl 1 rfl) ?_
                        refine k_isub (pc := 107) hx hb dX6_shiftAt_107 ?_
                        refine k_imul (pc := 108) hx hb dX6_shiftAt_108 ?_
                        refine lv_iload_n (pc := 109) hx hb dX6_shiftAt_109 rfl (lv_at hl 0 rfl) ?_
                        refine lv_iload_n (pc := 110) hx hb dX6_shiftAt_110 rfl (lv_at hl 1 rfl) ?_
                        refine k_isub (pc := 111) hx hb dX6_shiftAt_111 ?_
                        refine k_idiv (pc := 112) hx hb ⟨by omega, by omega⟩ ⟨by omega, by omega⟩ (by omega) dX6_shiftAt_112 ?_
                        refine k_iadd (pc := 113) hx hb dX6_shiftAt_113 ?_
                        rw [hQ9]
                        exact W.iret (v := iI ((ut b) + (Int.tdiv (((ut e_) - (ut b)) * (d - b)) (e_ - b)))) hx hb hret (fun t ht hW => ⟨some (.int (iI ((ut b) + (Int.tdiv (((ut e_) - (ut b)) * (d - b)) (e_ - b))))), rfl, ⟨(ut b) + (Int.tdiv (((ut e_) - (ut b)) * (d - b)) (e_ - b)), rfl, sftF_eq (hfin.2.2.2 (by omega) (by omega) (by omega))⟩, ht⟩) (fun q hq => by cases hq) dX6_shiftAt_114
                      · skip
                        refine lv_aload_n (pc := 79) hx hb dX6_shiftAt_79 rfl (lv_at hl 2 rfl) ?_
                        refine k_get (pc := 80) (ci := 6) (C := RX6) (T := TX6) (N := 19) hx hb hts hi6 hown hK hP 200 k0 rfl 8 (by decide) hf26 (fun _ h9 => h9) rfl dX6_shiftAt_80 ?_
                        refine lv_iload_n (pc := 83) hx hb dX6_shiftAt_83 rfl (lv_at hl 1 rfl) ?_
                        refine k_iald (pc := 84) hx hb hK hP 206 0 k6 rfl (by omega) (by omega) (by omega) dX6_shiftAt_84 ?_
                        have hq_84 := hut b
                        rw [hQ9]
                        exact W.iret (v := iI (ut b)) hx hb hret (fun t ht hW => ⟨some (.int (iI (ut b))), rfl, ⟨ut b, rfl, sftF_eq (hfin.2.2.1 (by omega) (by omega))⟩, ht⟩) (fun q hq => by cases hq) dX6_shiftAt_85
                  · skip
                    refine lv_iload_n (pc := 49) hx hb dX6_shiftAt_49 rfl (lv_at hl 0 rfl) ?_
                    refine k_sipush (pc := 50) hx hb dX6_shiftAt_50 (by decide +kernel) ?_
                    refine k_icmp_ne (pc := 53) (tgt := 60) hx hb ⟨by omega, by omega⟩ ⟨by omega, by omega⟩ dX6_shiftAt_53 (by decide) (fun hc_53 => ?_) (fun hc_53 => ?_)
                    · skip
                      refine lv_aload_n (pc := 60) hx hb dX6_shiftAt_60 rfl (lv_at hl 2 rfl) ?_
                      refine k_get (pc := 61) (ci := 6) (C := RX6) (T := TX6) (N := 19) hx hb hts hi6 hown hK hP 200 k0 rfl 8 (by decide) hf26 (fun _ h9 => h9) rfl dX6_shiftAt_61 ?_
                      refine lv_iload_n (pc := 64) hx hb dX6_shiftAt_64 rfl (lv_at hl 0 rfl) ?_
                      refine k_iald (pc := 65) hx hb hK hP 206 0 k6 rfl (by omega) (by omega) (by omega) dX6_shiftAt_65 ?_
                      have hq_65 := hut e_
                      rw [hQ9]
                      exact W.iret (v := iI (ut e_)) hx hb hret (fun t ht hW => ⟨some (.int (iI (ut e_))), rfl, ⟨ut e_, rfl, sftF_eq (hfin.2.1 (by omega) (by omega))⟩, ht⟩) (fun q hq => by cases hq) dX6_shiftAt_66
                    · skip
                      refine k_iconst (pc := 56) hx hb dX6_shiftAt_56 ?_
                      refine lv_goto (pc := 57) (tgt := 66) hx hb dX6_shiftAt_57 (by decide) ?_
                      rw [hQ9]
                      exact W.iret (v := iI 0) hx hb hret (fun t ht hW => ⟨some (.int (iI 0)), rfl, ⟨0, rfl, sftF_eq (hfin.1 (by omega) (by omega))⟩, ht⟩) (fun q hq => by cases hq) dX6_shiftAt_66
                · skip
                  refine lv_iinc (pc := 39) (v := iI (e_ + 1)) (lv' := [(3, .int (iI (e_ + 1))), (2, .int (iI b)), (0, .ref (ad 200)), (1, .int (iI d))]) hx hb dX6_shiftAt_39 hl (k := 0) rfl (iI_add _ _) (by decide) rfl (fun ls hl => ?_)
                  refine lv_goto (pc := 42) (tgt := 23) hx hb dX6_shiftAt_42 (by decide) ?_
                  exact ih_23 (e_ + 1) (by omega) (fun j a1 a2 => by by_cases c9 : j = e_; rw [c9]; omega; exact ie j a1 (by omega)) (by omega) ls (lv_sub hl [0, 1, 2, 3] rfl)
          exact lp_23_2 _ d (by omega) (fun j a1 a2 => by omega) (Nat.lt_succ_self _) ls (lv_sub hl [0, 1, 2, 3] rfl)
        · skip
          refine lv_iinc (pc := 15) (v := iI (b - 1)) (lv' := [(2, .int (iI (b - 1))), (0, .ref (ad 200)), (1, .int (iI d))]) hx hb dX6_shiftAt_15 hl (k := 0) rfl (by show iI _ + iI _ = _; rw [iI_add]; rfl) (by decide) rfl (fun ls hl => ?_)
          refine lv_goto (pc := 18) (tgt := 2) hx hb dX6_shiftAt_18 (by decide) ?_
          exact ih_2 (b - 1) (by omega) (fun j a1 a2 => by by_cases c9 : j = b; rw [c9]; omega; exact ib j (by omega) a2) (by omega) ls (lv_sub hl [0, 1, 2] rfl)
  exact lp_2 _ d (by omega) (fun j a1 a2 => by omega) (Nat.lt_succ_self _) ls (lv_sub hl [0, 1, 2] rfl)

abbrev rmX6_curveAt : Room := { frames := 0, cells := 0, slots := 0, locals := 0 }
theorem hiX6_curveAt_6 : ∀ w ∈ wsX60, w ∈ wsX6_curveAt := by decide +kernel
set_option maxHeartbeats 4000000 in
set_option maxRecDepth 100000 in
theorem c_X6_curveAt (l : Launch) (D : va_G) (cA : Nat → ClassId) (ad : Nat → Nat) (w : Nat → Option va_E) (sc : Nat → Int) (fn : Nat → Int → Int) (th fr : Int) (hI : bkInv sc fn) (k0 : w 200 = some (oB 6 [.int (iI th), .int (iI (sc 0)), .ref (ad 201), .ref (ad 202), .ref (ad 203), .ref (ad 204), .int (iI (sc 1)), .ref (ad 205), .ref (ad 206), .ref (ad 207), .ref (ad 208), .ref (ad 209), .int (iI (sc 2)), .int (iI (sc 3)), .int (iI (sc 4)), .ref (ad 210), .int (iI fr), .ref (ad 211), .ref (ad 212)])) (k1 : w 201 = some (eI (cA 0) 6 (fn 8))) (d : Int) (hd : 0 ≤ d ∧ d < 400) : Met l yX6_curveAt wsX6_curveAt rmX6_curveAt (gR D cA ad w [.ref (ad 200), .int (iI d)]) (gR0 (fun v9 => ∃ z : Int, v9 = some (.int (iI z)) ∧ z = cvno sc fn d ∧ -1 ≤ z ∧ z < sc 0)) 0 0 (fun _ => False) := by
  refine Met.ofW (cc := cX6_curveAt) (maxL := 4) (ret := (some .int)) (by decide) rfl ?_
  intro p e s m args below meth c s₁ B hml hv
  obtain ⟨hav, hP, hK, hB⟩ := hv
  have hx := B.exec
  have hb := B.bytes
  have hret := B.returns
  have hts := atoms_spec (ws := wsX6_curveAt) B.pre
  have hown : s.vm.findClass RX6 = some m.cls := findClass_of_methodNamed B.named
  have hlocks := B.notSynchronized
  have hS : va_S (fun _ => False) s.heap s.heap [] := va_S.rf
  have hi6 := hiX6_curveAt_6
  have hf9 := hts (.fieldLink RX6 9 "GaugeBookModel" "since" "[I") (by decide +kernel)
  have hf64 := hts (.fieldLink RX6 64 "GaugeBookModel" "curves" "I") (by decide +kernel)
  have he9 : entryFrame m args 4 = F0 m 0 ((lg_sl ([.ref (ad 200), .int (iI d)] : List Value) ++ List.replicate (4 - (lg_sl ([.ref (ad 200), .int (iI d)] : List Value)).length) Slot.unset).toArray) [] := by rw [hav, lg_entry_eq]
  rw [he9]
  have hl := lv_entry ([.ref (ad 200), .int (iI d)] : List Value) (n := 4) (Nat.le_of_ble_eq_true rfl)
  generalize (lg_sl ([.ref (ad 200), .int (iI d)] : List Value) ++ List.replicate (4 - (lg_sl ([.ref (ad 200), .int (iI d)] : List Value)).length) Slot.unset).toArray = ls at hl ⊢
  have hl : lv_has ls 4 [(0, .ref (ad 200)), (1, .int (iI d))] := hl
  obtain ⟨Q9, hQ9⟩ : ∃ z, z = MQ below (gR0 (fun v9 => ∃ z : Int, v9 = some (.int (iI z)) ∧ z = cvno sc fn d ∧ -1 ≤ z ∧ z < sc 0)) args s 0 0 (fun _ => False) := ⟨_, rfl⟩
  rw [← hQ9]
  show W p l e rmX6_curveAt s m args below meth c s.heap [] 0 0 Q9 (F0 m 0 ls [])
  have hI1 := hI.1
  refine k_iconst (pc := 0) hx hb dX6_curveAt_0 ?_
  refine lv_istore_n (pc := 1) (lv' := [(2, .int (iI (-1))), (0, .ref (ad 200)), (1, .int (iI d))]) hx hb dX6_curveAt_1 rfl hl (by decide) rfl (fun ls hl => ?_)
  refine k_iconst (pc := 2) hx hb dX6_curveAt_2 ?_
  refine lv_istore_n (pc := 3) (lv' := [(3, .int (iI 0)), (2, .int (iI (-1))), (0, .ref (ad 200)), (1, .int (iI d))]) hx hb dX6_curveAt_3 rfl hl (by decide) rfl (fun ls hl => ?_)
  have lp_4 : ∀ (N9 : Nat) (i : Int) (b : Int), (0 ≤ i ∧ i ≤ sc 0) → (b = cnoF (fn 8) d i.toNat) → (-1 ≤ b ∧ b < i) → (sc 0 - i).toNat < N9 → ∀ (ls : Array Slot), lv_has ls 4 [(3, .int (iI i)), (2, .int (iI b)), (0, .ref (ad 200)), (1, .int (iI d))] → W p l e rmX6_curveAt s m args below meth c s.heap [] 0 0 Q9 (F0 m 4 ls []) := by
    intro N9
    induction N9 with
    | zero => intro i b i0 iC iB hmu; exact absurd hmu (Nat.not_lt_zero _)
    | succ N9 ih_4 =>
      intro i b i0 iC iB hmu_4 ls hl
      refine lv_iload_n (pc := 4) hx hb dX6_curveAt_4 rfl (lv_at hl 0 rfl) ?_
      refine lv_aload_n (pc := 5) hx hb dX6_curveAt_5 rfl (lv_at hl 2 rfl) ?_
      refine k_get (pc := 6) (ci := 6) (C := RX6) (T := TX6) (N := 19) hx hb hts hi6 hown hK hP 200 k0 rfl 1 (by decide) hf64 (fun _ h9 => h9) rfl dX6_curveAt_6 ?_
      refine k_icmp_ge (pc := 9) (tgt := 50) hx hb ⟨by omega, by omega⟩ ⟨by omega, by omega⟩ dX6_curveAt_9 (by decide) (fun hc_9 => ?_) (fun hc_9 => ?_)
      · skip
        refine lv_iload_n (pc := 50) hx hb dX6_curveAt_50 rfl (lv_at hl 1 rfl) ?_
        rw [hQ9]
        exact W.iret (v := iI b) hx hb hret (fun t ht hW => ⟨some (.int (iI b)), rfl, ⟨b, rfl, ⟨by rw [iC, show i = sc 0 by omega]; rfl, by omega, by omega⟩⟩, ht⟩) (fun q hq => by cases hq) dX6_curveAt_51
      · skip
        refine lv_aload_n (pc := 12) hx hb dX6_curveAt_12 rfl (lv_at hl 2 rfl) ?_
        refine k_get (pc := 13) (ci := 6) (C := RX6) (T := TX6) (N := 19) hx hb hts hi6 hown hK hP 200 k0 rfl 2 (by decide) hf9 (fun _ h9 => h9) rfl dX6_curveAt_13 ?_
        refine lv_iload_n (pc := 16) hx hb dX6_curveAt_16 rfl (lv_at hl 0 rfl) ?_
        refine k_iald (pc := 17) hx hb hK hP 201 0 k1 rfl (by omega) (by omega) (by omega) dX6_curveAt_17 ?_
        have hq_17 := hI.2.2.2.2.2.2.2.2.1 i
        refine lv_iload_n (pc := 18) hx hb dX6_curveAt_18 rfl (lv_at hl 3 rfl) ?_
        refine k_icmp_gt (pc := 19) (tgt := 44) hx hb ⟨by omega, by omega⟩ ⟨by omega, by omega⟩ dX6_curveAt_19 (by decide) (fun hc_19 => ?_) (fun hc_19 => ?_)
        · skip
          refine lv_iinc (pc := 44) (v := iI (i + 1)) (lv' := [(3, .int (iI (i + 1))), (2, .int (iI b)), (0, .ref (ad 200)), (1, .int (iI d))]) hx hb dX6_curveAt_44 hl (k := 0) rfl (iI_add _ _) (by decide) rfl (fun ls hl => ?_)
          refine lv_goto (pc := 47) (tgt := 4) hx hb dX6_curveAt_47 (by decide) ?_
          exact ih_4 (i + 1) b (by omega) (by rw [cnoF_s (fn 8) d i0.1, ← iC]; first | rw [if_pos (by omega)] | rw [if_neg (by omega)]) (by omega) (by omega) ls (lv_sub hl [0, 1, 2, 3] rfl)
        · skip
          refine lv_iload_n (pc := 22) hx hb dX6_curveAt_22 rfl (lv_at hl 1 rfl) ?_
          refine k_iconst (pc := 23) hx hb dX6_curveAt_23 ?_
          refine k_icmp_eq (pc := 24) (tgt := 42) hx hb ⟨by omega, by omega⟩ ⟨by omega, by omega⟩ dX6_curveAt_24 (by decide) (fun hc_24 => ?_) (fun hc_24 => ?_)
          · skip
            refine lv_iload_n (pc := 42) hx hb dX6_curveAt_42 rfl (lv_at hl 0 rfl) ?_
            refine lv_istore_n (pc := 43) (lv' := [(2, .int (iI i)), (3, .int (iI i)), (0, .ref (ad 200)), (1, .int (iI d))]) hx hb dX6_curveAt_43 rfl hl (by decide) rfl (fun ls hl => ?_)
            refine lv_iinc (pc := 44) (v := iI (i + 1)) (lv' := [(3, .int (iI (i + 1))), (2, .int (iI i)), (0, .ref (ad 200)), (1, .int (iI d))]) hx hb dX6_curveAt_44 hl (k := 1) rfl (iI_add _ _) (by decide) rfl (fun ls hl => ?_)
            refine lv_goto (pc := 47) (tgt := 4) hx hb dX6_curveAt_47 (by decide) ?_
            exact ih_4 (i + 1) i (by omega) (by rw [cnoF_s (fn 8) d i0.1, ← iC]; first | rw [if_pos (by omega)] | rw [if_neg (by omega)]) (by omega) (by omega) ls (lv_sub hl [0, 1, 2, 3] rfl)
          · skip
            refine lv_aload_n (pc := 27) hx hb dX6_curveAt_27 rfl (lv_at hl 2 rfl) ?_
            refine k_get (pc := 28) (ci := 6) (C := RX6) (T := TX6) (N := 19) hx hb hts hi6 hown hK hP 200 k0 rfl 2 (by decide) hf9 (fun _ h9 => h9) rfl dX6_curveAt_28 ?_
            refine lv_iload_n (pc := 31) hx hb dX6_curveAt_31 rfl (lv_at hl 0 rfl) ?_
            refine k_iald (pc := 32) hx hb hK hP 201 0 k1 rfl (by omega) (by omega) (by omega) dX6_curveAt_32 ?_
            have hq_32 := hI.2.2.2.2.2.2.2.2.1 i
            refine lv_aload_n (pc := 33) hx hb dX6_curveAt_33 rfl (lv_at hl 2 rfl) ?_
            refine k_get (pc := 34) (ci := 6) (C := RX6) (T := TX6) (N := 19) hx hb hts hi6 hown hK hP 200 k0 rfl 2 (by decide) hf9 (fun _ h9 => h9) rfl dX6_curveAt_34 ?_
            refine lv_iload_n (pc := 37) hx hb dX6_curveAt_37 rfl (lv_at hl 1 rfl) ?_
            refine k_iald (pc := 38) hx hb hK hP 201 0 k1 rfl (by omega) (by omega) (by omega) dX6_curveAt_38 ?_
            have hq_38 := hI.2.2.2.2.2.2.2.2.1 b
            refine k_icmp_le (pc := 39) (tgt := 44) hx hb ⟨by omega, by omega⟩ ⟨by omega, by omega⟩ dX6_curveAt_39 (by decide) (fun hc_39 => ?_) (fun hc_39 => ?_)
            · skip
              refine lv_iinc (pc := 44) (v := iI (i + 1)) (lv' := [(3, .int (iI (i + 1))), (2, .int (iI b)), (0, .ref (ad 200)), (1, .int (iI d))]) hx hb dX6_curveAt_44 hl (k := 0) rfl (iI_add _ _) (by decide) rfl (fun ls hl => ?_)
              refine lv_goto (pc := 47) (tgt := 4) hx hb dX6_curveAt_47 (by decide) ?_
              exact ih_4 (i + 1) b (by omega) (by rw [cnoF_s (fn 8) d i0.1, ← iC]; first | rw [if_pos (by omega)] | rw [if_neg (by omega)]) (by omega) (by omega) ls (lv_sub hl [0, 1, 2, 3] rfl)
            · skip
              refine lv_iload_n (pc := 42) hx hb dX6_curveAt_42 rfl (lv_at hl 0 rfl) ?_
              refine lv_istore_n (pc := 43) (lv' := [(2, .int (iI i)), (3, .int (iI i)), (0, .ref (ad 200)), (1, .int (iI d))]) hx hb dX6_curveAt_43 rfl hl (by decide) rfl (fun ls hl => ?_)
              refine lv_iinc (pc := 44) (v := iI (i + 1)) (lv' := [(3, .int (iI (i + 1))), (2, .int (iI i)), (0, .ref (ad 200)), (1, .int (iI d))]) hx hb dX6_curveAt_44 hl (k := 1) rfl (iI_add _ _) (by decide) rfl (fun ls hl => ?_)
              refine lv_goto (pc := 47) (tgt := 4) hx hb dX6_curveAt_47 (by decide) ?_
              exact ih_4 (i + 1) i (by omega) (by rw [cnoF_s (fn 8) d i0.1, ← iC]; first | rw [if_pos (by omega)] | rw [if_neg (by omega)]) (by omega) (by omega) ls (lv_sub hl [0, 1, 2, 3] rfl)
  exact lp_4 _ 0 (-1) (by omega) rfl (by omega) (Nat.lt_succ_self _) ls (lv_sub hl [0, 1, 2, 3] rfl)

abbrev rmX6_stageFor : Room := { frames := 1, cells := 0, slots := 0, locals := 25 }
theorem hiX6_stageFor_6 : ∀ w ∈ wsX60, w ∈ wsX6_stageFor := by decide +kernel
set_option maxHeartbeats 4000000 in
set_option maxRecDepth 100000 in
theorem c_X6_stageFor (l : Launch) (D : va_G) (cA : Nat → ClassId) (ad : Nat → Nat) (w : Nat → Option va_E) (sc : Nat → Int) (fn : Nat → Int → Int) (th fr : Int) (G1 : Int → Int) (G2 : Int → Int) (hI : bkInv sc fn) (k0 : w 200 = some (oB 6 [.int (iI th), .int (iI (sc 0)), .ref (ad 201), .ref (ad 202), .ref (ad 203), .ref (ad 204), .int (iI (sc 1)), .ref (ad 205), .ref (ad 206), .ref (ad 207), .ref (ad 208), .ref (ad 209), .int (iI (sc 2)), .int (iI (sc 3)), .int (iI (sc 4)), .ref (ad 210), .int (iI fr), .ref (ad 211), .ref (ad 212)])) (k2 : w 202 = some (eI (cA 0) 6 (fn 9))) (k3 : w 203 = some (eI (cA 0) 72 G1)) (k4 : w 204 = some (eI (cA 0) 72 G2)) (hG1 : ∀ j : Int, -500 ≤ G1 j ∧ G1 j ≤ 2000) (hG2 : ∀ j : Int, 0 ≤ G2 j ∧ G2 j ≤ 1000000) (hmc : mdC sc fn G1 G2) (cu q : Int) (hc_ : 0 ≤ cu ∧ cu < sc 0) (hn2 : 2 ≤ fn 9 cu) (hq : 0 ≤ q ∧ q ≤ 1000000) : Met l yX6_stageFor wsX6_stageFor rmX6_stageFor (gR D cA ad w [.ref (ad 200), .int (iI cu), .int (iI q)]) (gR0 (fun v9 => ∃ z : Int, v9 = some (.int (iI z)) ∧ z = stageF (fn (20 + cu.toNat)) (fn (30 + cu.toNat)) (fn 9 cu) q ∧ stP (fn (20 + cu.toNat)) (fn (30 + cu.toNat)) (fn 9 cu) q z)) 0 0 (fun _ => False) := by
  refine Met.ofW (cc := cX6_stageFor) (maxL := 5) (ret := (some .int)) (by decide) rfl ?_
  intro p e s m args below meth c s₁ B hml hv
  obtain ⟨hav, hP, hK, hB⟩ := hv
  have hx := B.exec
  have hb := B.bytes
  have hret := B.returns
  have hts := atoms_spec (ws := wsX6_stageFor) B.pre
  have hown : s.vm.findClass RX6 = some m.cls := findClass_of_methodNamed B.named
  have hlocks := B.notSynchronized
  have hS : va_S (fun _ => False) s.heap s.heap [] := va_S.rf
  have hi6 := hiX6_stageFor_6
  have hf13 := hts (.fieldLink RX6 13 "GaugeBookModel" "many" "[I") (by decide +kernel)
  have hf16 := hts (.fieldLink RX6 16 "GaugeBookModel" "stages" "[I") (by decide +kernel)
  have hf19 := hts (.fieldLink RX6 19 "GaugeBookModel" "flows" "[I") (by decide +kernel)
  have he9 : entryFrame m args 5 = F0 m 0 ((lg_sl ([.ref (ad 200), .int (iI cu), .int (iI q)] : List Value) ++ List.replicate (5 - (lg_sl ([.ref (ad 200), .int (iI cu), .int (iI q)] : List Value)).length) Slot.unset).toArray) [] := by rw [hav, lg_entry_eq]
  rw [he9]
  have hl := lv_entry ([.ref (ad 200), .int (iI cu), .int (iI q)] : List Value) (n := 5) (Nat.le_of_ble_eq_true rfl)
  generalize (lg_sl ([.ref (ad 200), .int (iI cu), .int (iI q)] : List Value) ++ List.replicate (5 - (lg_sl ([.ref (ad 200), .int (iI cu), .int (iI q)] : List Value)).length) Slot.unset).toArray = ls at hl ⊢
  have hl : lv_has ls 5 [(0, .ref (ad 200)), (1, .int (iI cu)), (2, .int (iI q))] := hl
  obtain ⟨Q9, hQ9⟩ : ∃ z, z = MQ below (gR0 (fun v9 => ∃ z : Int, v9 = some (.int (iI z)) ∧ z = stageF (fn (20 + cu.toNat)) (fn (30 + cu.toNat)) (fn 9 cu) q ∧ stP (fn (20 + cu.toNat)) (fn (30 + cu.toNat)) (fn 9 cu) q z)) args s 0 0 (fun _ => False) := ⟨_, rfl⟩
  rw [← hQ9]
  show W p l e rmX6_stageFor s m args below meth c s.heap [] 0 0 Q9 (F0 m 0 ls [])
  have hI1 := hI.1
  have hN_ := hI.2.2.2.2.2.2.2.2.2.1 cu
  have r1_ : ∀ j : Int, 0 ≤ j → j < 12 → G1 (12 * cu + j) = fn (20 + cu.toNat) j := fun j a1 a2 => ((hmc cu j (by omega) (by omega) a1 a2).1 hc_.2).1
  have r2_ : ∀ j : Int, 0 ≤ j → j < 12 → G2 (12 * cu + j) = fn (30 + cu.toNat) j := fun j a1 a2 => ((hmc cu j (by omega) (by omega) a1 a2).1 hc_.2).2
  have hok_ := hI.2.2.2.2.2.2.2.2.2.2 cu.toNat (by omega)
  rw [show ((cu.toNat : Nat) : Int) = cu by omega] at hok_
  have hl_ := r2_ (fn 9 cu - 1) (by omega) (by omega)
  rw [show 12 * cu + (fn 9 cu - 1) = 12 * cu + fn 9 cu - 1 by omega] at hl_
  have h0_ := r1_ 0 (by omega) (by omega)
  rw [Int.add_zero] at h0_
  have hs0_ := hok_.2.2.1 0
  have hs1_ := hok_.2.2.1 (fn 9 cu - 1)
  have hm_ := hok_.1 0 (fn 9 cu - 1) (by omega) (by omega) (by omega)
  refine k_bipush (pc := 0) hx hb dX6_stageFor_0 (by decide +kernel) ?_
  refine lv_iload_n (pc := 2) hx hb dX6_stageFor_2 rfl (lv_at hl 1 rfl) ?_
  refine k_imul (pc := 3) hx hb dX6_stageFor_3 ?_
  refine lv_aload_n (pc := 4) hx hb dX6_stageFor_4 rfl (lv_at hl 0 rfl) ?_
  refine k_get (pc := 5) (ci := 6) (C := RX6) (T := TX6) (N := 19) hx hb hts hi6 hown hK hP 200 k0 rfl 3 (by decide) hf13 (fun _ h9 => h9) rfl dX6_stageFor_5 ?_
  refine lv_iload_n (pc := 8) hx hb dX6_stageFor_8 rfl (lv_at hl 1 rfl) ?_
  refine k_iald (pc := 9) hx hb hK hP 202 0 k2 rfl (by omega) (by omega) (by omega) dX6_stageFor_9 ?_
  have hq_9 := hI.2.2.2.2.2.2.2.2.2.1 cu
  refine k_iadd (pc := 10) hx hb dX6_stageFor_10 ?_
  refine k_iconst (pc := 11) hx hb dX6_stageFor_11 ?_
  refine k_isub (pc := 12) hx hb dX6_stageFor_12 ?_
  refine lv_istore_n (pc := 13) (lv' := [(3, .int (iI (((12 * cu) + ((fn 9) cu)) - 1))), (0, .ref (ad 200)), (1, .int (iI cu)), (2, .int (iI q))]) hx hb dX6_stageFor_13 rfl hl (by decide) rfl (fun ls hl => ?_)
  refine lv_iload_n (pc := 14) hx hb dX6_stageFor_14 rfl (lv_at hl 3 rfl) ?_
  refine lv_aload_n (pc := 15) hx hb dX6_stageFor_15 rfl (lv_at hl 1 rfl) ?_
  refine k_get (pc := 16) (ci := 6) (C := RX6) (T := TX6) (N := 19) hx hb hts hi6 hown hK hP 200 k0 rfl 5 (by decide) hf19 (fun _ h9 => h9) rfl dX6_stageFor_16 ?_
  refine lv_iload_n (pc := 19) hx hb dX6_stageFor_19 rfl (lv_at hl 0 rfl) ?_
  refine k_iald (pc := 20) hx hb hK hP 204 0 k4 rfl (by omega) (by omega) (by omega) dX6_stageFor_20 ?_
  have hq_20 := hG2 (((12 * cu) + ((fn 9) cu)) - 1)
  refine k_icmp_le (pc := 21) (tgt := 28) hx hb ⟨by omega, by omega⟩ ⟨by omega, by omega⟩ dX6_stageFor_21 (by decide) (fun hc_21 => ?_) (fun hc_21 => ?_)
  · skip
    refine lv_aload_n (pc := 28) hx hb dX6_stageFor_28 rfl (lv_at hl 1 rfl) ?_
    refine k_get (pc := 29) (ci := 6) (C := RX6) (T := TX6) (N := 19) hx hb hts hi6 hown hK hP 200 k0 rfl 4 (by decide) hf16 (fun _ h9 => h9) rfl dX6_stageFor_29 ?_
    refine k_bipush (pc := 32) hx hb dX6_stageFor_32 (by decide +kernel) ?_
    refine lv_iload_n (pc := 34) hx hb dX6_stageFor_34 rfl (lv_at hl 2 rfl) ?_
    refine k_imul (pc := 35) hx hb dX6_stageFor_35 ?_
    refine k_iald (pc := 36) hx hb hK hP 203 0 k3 rfl (by omega) (by omega) (by omega) dX6_stageFor_36 ?_
    have hq_36 := hG1 (12 * cu)
    refine lv_istore (pc := 37) (lv' := [(4, .int (iI (G1 (12 * cu)))), (3, .int (iI (((12 * cu) + ((fn 9) cu)) - 1))), (0, .ref (ad 200)), (1, .int (iI cu)), (2, .int (iI q))]) hx hb dX6_stageFor_37 hl (by decide) rfl (fun ls hl => ?_)
    have lp_39 : ∀ (N9 : Nat) (x : Int), (fn (20 + cu.toNat) 0 ≤ x ∧ x ≤ fn (20 + cu.toNat) (fn 9 cu - 1)) → (∀ y : Int, fn (20 + cu.toNat) 0 ≤ y → y < x → flowF (fn (20 + cu.toNat)) (fn (30 + cu.toNat)) (fn 9 cu) y < q) → (fn (20 + cu.toNat) (fn 9 cu - 1) - x).toNat < N9 → ∀ (ls : Array Slot), lv_has ls 5 [(4, .int (iI x)), (3, .int (iI (((12 * cu) + ((fn 9) cu)) - 1))), (0, .ref (ad 200)), (1, .int (iI cu)), (2, .int (iI q))] → W p l e rmX6_stageFor s m args below meth c s.heap [] 0 0 Q9 (F0 m 39 ls []) := by
      intro N9
      induction N9 with
      | zero => intro x i0 i1 hmu; exact absurd hmu (Nat.not_lt_zero _)
      | succ N9 ih_39 =>
        intro x i0 i1 hmu_39 ls hl
        refine lv_aload_n (pc := 39) hx hb dX6_stageFor_39 rfl (lv_at hl 2 rfl) ?_
        refine lv_iload_n (pc := 40) hx hb dX6_stageFor_40 rfl (lv_at hl 3 rfl) ?_
        refine lv_iload (pc := 41) hx hb dX6_stageFor_41 (lv_at hl 0 rfl) ?_
        refine k_call0 (pc := 43) (va_runV (As := [.int (iI cu), .int (iI x)]) (rest := []) ⟨hx, hb, hml, hown, hts⟩ (c_X6_flowFor l D cA ad w sc fn th fr G1 G2 hI k0 k2 k3 k4 hG1 hG2 hmc cu x (by omega) (by omega) (by omega)) (cwV 2 hts gX6_stageFor_X6_flowFor rfl rfl rfl (by decide +kernel) ⟨Nat.le_of_ble_eq_true rfl, Nat.le_of_ble_eq_true rfl⟩) (gR_V hP hK hB 200 (ci := 6) rfl k0) rfl rfl hl.1 rfl (lv_room (Nat.le_of_ble_eq_true rfl)) dX6_stageFor_43 ⟨Nat.le_of_ble_eq_true rfl, Nat.le_of_ble_eq_true rfl⟩) (fun v_43 hv_43 => ?_)
        obtain ⟨z_43, rfl, hz_43⟩ := hv_43
        refine W.eq (g2 := F0 m 46 ls [.long (lI z_43)]) rfl ?_
        have fb_ := flow_bd (s := x) hok_ hn2 (by omega)
        rw [← hz_43] at fb_
        refine lv_iload_n (pc := 46) hx hb dX6_stageFor_46 rfl (lv_at hl 4 rfl) ?_
        refine k_i2l (pc := 47) hx hb ⟨by omega, by omega⟩ dX6_stageFor_47 ?_
        refine k_lcmp_ge (pc := 48) (tgt := 58) hx hb ⟨by omega, by omega⟩ ⟨by omega, by omega⟩ dX6_stageFor_48 dX6_stageFor_49 (by decide) (fun hc_48 => ?_) (fun hc_48 => ?_)
        · skip
          refine lv_iload (pc := 58) hx hb dX6_stageFor_58 (lv_at hl 0 rfl) ?_
          have hst : stP (fn (20 + cu.toNat)) (fn (30 + cu.toNat)) (fn 9 cu) q x := Or.inr ⟨by omega, i0.1, by rw [← hz_43]; omega, i1⟩
          rw [hQ9]
          exact W.iret (v := iI x) hx hb hret (fun t ht hW => ⟨some (.int (iI x)), rfl, ⟨x, rfl, ⟨stageF_eq hst, hst⟩⟩, ht⟩) (fun q hq => by cases hq) dX6_stageFor_60
        · skip
          refine lv_iinc (pc := 52) (v := iI (x + 1)) (lv' := [(4, .int (iI (x + 1))), (3, .int (iI (((12 * cu) + ((fn 9) cu)) - 1))), (0, .ref (ad 200)), (1, .int (iI cu)), (2, .int (iI q))]) hx hb dX6_stageFor_52 hl (k := 0) rfl (iI_add _ _) (by decide) rfl (fun ls hl => ?_)
          refine lv_goto (pc := 55) (tgt := 39) hx hb dX6_stageFor_55 (by decide) ?_
          exact ih_39 (x + 1) (by have hx9 : x ≠ fn (20 + cu.toNat) (fn 9 cu - 1) := fun h => (by have e9 := sg_top hok_ hn2; rw [← h, ← hz_43] at e9; omega); omega) (fun y a1 a2 => by by_cases c9 : y = x; rw [c9, ← hz_43]; omega; exact i1 y a1 (by omega)) (by have hx9 : x ≠ fn (20 + cu.toNat) (fn 9 cu - 1) := fun h => (by have e9 := sg_top hok_ hn2; rw [← h, ← hz_43] at e9; omega); omega) ls (lv_sub hl [0, 1, 2, 3, 4] rfl)
    exact lp_39 _ (G1 (12 * cu)) (by omega) (fun y a1 a2 => by omega) (Nat.lt_succ_self _) ls (lv_sub hl [0, 1, 2, 3, 4] rfl)
  · skip
    refine k_sipush (pc := 24) hx hb dX6_stageFor_24 (by decide +kernel) ?_
    have hst : stP (fn (20 + cu.toNat)) (fn (30 + cu.toNat)) (fn 9 cu) q (-9999) := Or.inl ⟨by omega, rfl⟩
    rw [hQ9]
    exact W.iret (v := iI (-9999)) hx hb hret (fun t ht hW => ⟨some (.int (iI (-9999))), rfl, ⟨(-9999), rfl, ⟨stageF_eq hst, hst⟩⟩, ht⟩) (fun q hq => by cases hq) dX6_stageFor_27
