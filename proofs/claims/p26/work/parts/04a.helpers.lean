abbrev rmX5_countLower : Room := { frames := 0, cells := 0, slots := 0, locals := 0 }
set_option maxHeartbeats 4000000 in
set_option maxRecDepth 100000 in
theorem c_X5_countLower (l : Launch) (D : va_G) (cA : Nat → ClassId) (ad : Nat → Nat) (w : Nat → Option va_E) (r n : Nat) (f : Int → Int) (u v : Int) (hr : w r = some (eI (cA 0) n f)) (hn : (n : Int) < 2147483648) (hf : ∀ j : Int, (-2147483648 ≤ f j ∧ f j < 2147483648)) (hv9 : (-2147483648 ≤ v ∧ v < 2147483648)) (hu : 0 ≤ u ∧ u ≤ n) : Met l yX5_countLower wsX5_countLower rmX5_countLower (gR D cA ad w [.ref (ad r), .int (iI u), .int (iI v)]) (gR0 (fun v9 => ∃ z : Int, v9 = some (.int (iI z)) ∧ clP f u v z)) 0 0 (fun _ => False) := by
  refine Met.ofW (cc := cX5_countLower) (maxL := 4) (ret := (some .int)) (by decide) rfl ?_
  intro p e s m args below meth c s₁ B hml hv
  obtain ⟨hav, hP, hK, hB⟩ := hv
  have hx := B.exec
  have hb := B.bytes
  have hret := B.returns
  have hts := atoms_spec (ws := wsX5_countLower) B.pre
  have hown : s.vm.findClass RX5 = some m.cls := findClass_of_methodNamed B.named
  have hlocks := B.notSynchronized
  have hS : va_S (fun _ => False) s.heap s.heap [] := va_S.rf
  have he9 : entryFrame m args 4 = F0 m 0 ((lg_sl ([.ref (ad r), .int (iI u), .int (iI v)] : List Value) ++ List.replicate (4 - (lg_sl ([.ref (ad r), .int (iI u), .int (iI v)] : List Value)).length) Slot.unset).toArray) [] := by rw [hav, lg_entry_eq]
  rw [he9]
  have hl := lv_entry ([.ref (ad r), .int (iI u), .int (iI v)] : List Value) (n := 4) (Nat.le_of_ble_eq_true rfl)
  generalize (lg_sl ([.ref (ad r), .int (iI u), .int (iI v)] : List Value) ++ List.replicate (4 - (lg_sl ([.ref (ad r), .int (iI u), .int (iI v)] : List Value)).length) Slot.unset).toArray = ls at hl ⊢
  have hl : lv_has ls 4 [(0, .ref (ad r)), (1, .int (iI u)), (2, .int (iI v))] := hl
  obtain ⟨Q9, hQ9⟩ : ∃ z, z = MQ below (gR0 (fun v9 => ∃ z : Int, v9 = some (.int (iI z)) ∧ clP f u v z)) args s 0 0 (fun _ => False) := ⟨_, rfl⟩
  rw [← hQ9]
  show W p l e rmX5_countLower s m args below meth c s.heap [] 0 0 Q9 (F0 m 0 ls [])
  refine k_iconst (pc := 0) hx hb dX5_countLower_0 ?_
  refine lv_istore_n (pc := 1) (lv' := [(3, .int (iI 0)), (0, .ref (ad r)), (1, .int (iI u)), (2, .int (iI v))]) hx hb dX5_countLower_1 rfl hl (by decide) rfl (fun ls hl => ?_)
  have lp_2 : ∀ (N9 : Nat) (k : Int), (0 ≤ k ∧ k ≤ u) → (∀ j : Int, 0 ≤ j → j < k → f j < v) → (u - k).toNat < N9 → ∀ (ls : Array Slot), lv_has ls 4 [(3, .int (iI k)), (0, .ref (ad r)), (1, .int (iI u)), (2, .int (iI v))] → W p l e rmX5_countLower s m args below meth c s.heap [] 0 0 Q9 (F0 m 2 ls []) := by
    intro N9
    induction N9 with
    | zero => intro k i0 i1 hmu; exact absurd hmu (Nat.not_lt_zero _)
    | succ N9 ih_2 =>
      intro k i0 i1 hmu_2 ls hl
      refine lv_iload_n (pc := 2) hx hb dX5_countLower_2 rfl (lv_at hl 0 rfl) ?_
      refine lv_iload_n (pc := 3) hx hb dX5_countLower_3 rfl (lv_at hl 2 rfl) ?_
      refine k_icmp_ge (pc := 4) (tgt := 26) hx hb ⟨by omega, by omega⟩ ⟨by omega, by omega⟩ dX5_countLower_4 (by decide) (fun hc_4 => ?_) (fun hc_4 => ?_)
      · skip
        refine lv_iload_n (pc := 26) hx hb dX5_countLower_26 rfl (lv_at hl 0 rfl) ?_
        rw [hQ9]
        exact W.iret (v := iI k) hx hb hret (fun t ht hW => ⟨some (.int (iI k)), rfl, ⟨k, rfl, ⟨i0.1, i0.2, i1, fun _ => by omega⟩⟩, ht⟩) (fun q hq => by cases hq) dX5_countLower_27
      · skip
        refine lv_iload_n (pc := 7) hx hb dX5_countLower_7 rfl (lv_at hl 0 rfl) ?_
        refine lv_aload_n (pc := 8) hx hb dX5_countLower_8 rfl (lv_at hl 1 rfl) ?_
        refine k_alen (pc := 9) (z := ((n : Nat) : Int)) hx hb hK hP r 0 hr rfl rfl dX5_countLower_9 ?_
        refine k_icmp_ge (pc := 10) (tgt := 26) hx hb ⟨by omega, by omega⟩ ⟨by omega, by omega⟩ dX5_countLower_10 (by decide) (fun hc_10 => ?_) (fun hc_10 => ?_)
        · skip
          exfalso
          omega
        · skip
          refine lv_aload_n (pc := 13) hx hb dX5_countLower_13 rfl (lv_at hl 1 rfl) ?_
          refine lv_iload_n (pc := 14) hx hb dX5_countLower_14 rfl (lv_at hl 0 rfl) ?_
          refine k_iald (pc := 15) hx hb hK hP r 0 hr rfl (by omega) (by omega) (by omega) dX5_countLower_15 ?_
          have hq_15 := hf k
          refine lv_iload_n (pc := 16) hx hb dX5_countLower_16 rfl (lv_at hl 3 rfl) ?_
          refine k_icmp_ge (pc := 17) (tgt := 26) hx hb ⟨by omega, by omega⟩ ⟨by omega, by omega⟩ dX5_countLower_17 (by decide) (fun hc_17 => ?_) (fun hc_17 => ?_)
          · skip
            refine lv_iload_n (pc := 26) hx hb dX5_countLower_26 rfl (lv_at hl 0 rfl) ?_
            rw [hQ9]
            exact W.iret (v := iI k) hx hb hret (fun t ht hW => ⟨some (.int (iI k)), rfl, ⟨k, rfl, ⟨i0.1, i0.2, i1, fun _ => by omega⟩⟩, ht⟩) (fun q hq => by cases hq) dX5_countLower_27
          · skip
            refine lv_iinc (pc := 20) (v := iI (k + 1)) (lv' := [(3, .int (iI (k + 1))), (0, .ref (ad r)), (1, .int (iI u)), (2, .int (iI v))]) hx hb dX5_countLower_20 hl (k := 0) rfl (iI_add _ _) (by decide) rfl (fun ls hl => ?_)
            refine lv_goto (pc := 23) (tgt := 2) hx hb dX5_countLower_23 (by decide) ?_
            exact ih_2 (k + 1) (by omega) (by intro j h1 h2; rcases Int.lt_or_eq_of_le (show j ≤ k by omega) with h3 | h3; exact i1 j h1 h3; rw [h3]; omega) (by omega) ls (lv_sub hl [0, 1, 2, 3] rfl)
  exact lp_2 _ 0 (by omega) (by intro j h1 h2; omega) (Nat.lt_succ_self _) ls (lv_sub hl [0, 1, 2, 3] rfl)

abbrev rmX5_insertInto : Room := { frames := 0, cells := 0, slots := 0, locals := 0 }
set_option maxHeartbeats 4000000 in
set_option maxRecDepth 100000 in
theorem c_X5_insertInto (l : Launch) (D : va_G) (cA : Nat → ClassId) (ad : Nat → Nat) (w : Nat → Option va_E) (sz : Nat) (r n : Nat) (f : Int → Int) (u k v : Int) (hr : w r = some (eI (cA 0) n f)) (hn : (n : Int) < 2147483648) (hk : 0 ≤ k ∧ k ≤ u) (hu : u < n) : Met l yX5_insertInto wsX5_insertInto rmX5_insertInto (gV D cA ad w sz [.ref (ad r), .int (iI u), .int (iI k), .int (iI v)]) (gW D (fun v9 ad1 w1 => v9 = none ∧ ad1 = ad ∧ w1 = up w r (eI (cA 0) n (insF f u k v))) (gA ad w sz)) 0 0 (gA ad w sz) := by
  refine Met.ofW (cc := cX5_insertInto) (maxL := 5) (ret := none) (by decide) rfl ?_
  intro p e s m args below meth c s₁ B hml hv
  obtain ⟨hav, hsz, hP, hD0, hK, hB, hZ⟩ := hv
  have hx := B.exec
  have hb := B.bytes
  have hret := B.returns
  have hts := atoms_spec (ws := wsX5_insertInto) B.pre
  have hown : s.vm.findClass RX5 = some m.cls := findClass_of_methodNamed B.named
  have hlocks := B.notSynchronized
  subst hsz
  have hD := hD0.self (sz := s.heap.size)
  generalize hAe : gA ad w s.heap.size = A at hD hZ ⊢
  have hA : ∀ q : Nat, s.heap.size ≤ q → A q := fun q h => by rw [← hAe]; exact Or.inr h
  have hS : va_S A s.heap s.heap [] := va_S.rf
  have he9 : entryFrame m args 5 = F0 m 0 ((lg_sl ([.ref (ad r), .int (iI u), .int (iI k), .int (iI v)] : List Value) ++ List.replicate (5 - (lg_sl ([.ref (ad r), .int (iI u), .int (iI k), .int (iI v)] : List Value)).length) Slot.unset).toArray) [] := by rw [hav, lg_entry_eq]
  rw [he9]
  have hl := lv_entry ([.ref (ad r), .int (iI u), .int (iI k), .int (iI v)] : List Value) (n := 5) (Nat.le_of_ble_eq_true rfl)
  generalize (lg_sl ([.ref (ad r), .int (iI u), .int (iI k), .int (iI v)] : List Value) ++ List.replicate (5 - (lg_sl ([.ref (ad r), .int (iI u), .int (iI k), .int (iI v)] : List Value)).length) Slot.unset).toArray = ls at hl ⊢
  have hl : lv_has ls 5 [(0, .ref (ad r)), (1, .int (iI u)), (2, .int (iI k)), (3, .int (iI v))] := hl
  obtain ⟨Q9, hQ9⟩ : ∃ z, z = MQ below (gW D (fun v9 ad1 w1 => v9 = none ∧ ad1 = ad ∧ w1 = up w r (eI (cA 0) n (insF f u k v))) A) args s 0 0 A := ⟨_, rfl⟩
  rw [← hQ9]
  show W p l e rmX5_insertInto s m args below meth c s.heap [] 0 0 Q9 (F0 m 0 ls [])
  obtain ⟨H, hHe⟩ : ∃ z, z = s.heap := ⟨_, rfl⟩
  obtain ⟨locs, hLe⟩ : ∃ z, z = ([] : List Loc) := ⟨_, rfl⟩
  have hP : gP D vwCl ad w H := by rw [hHe]; exact hP
  have hS : va_S A s.heap H locs := by rw [hHe, hLe]; exact va_S.rf
  rw [show W p l e rmX5_insertInto s m args below meth c s.heap [] 0 0 Q9 (F0 m 0 ls []) = W p l e rmX5_insertInto s m args below meth c H locs 0 0 Q9 (F0 m 0 ls []) by rw [hHe, hLe]]
  clear hHe hLe
  refine lv_iload_n (pc := 0) hx hb dX5_insertInto_0 rfl (lv_at hl 2 rfl) ?_
  refine k_if_lt (pc := 1) (tgt := 15) hx hb ⟨by omega, by omega⟩ dX5_insertInto_1 (by decide) (fun hc_1 => ?_) (fun hc_1 => ?_)
  · skip
    exfalso
    omega
  · skip
    refine lv_iload_n (pc := 4) hx hb dX5_insertInto_4 rfl (lv_at hl 2 rfl) ?_
    refine lv_iload_n (pc := 5) hx hb dX5_insertInto_5 rfl (lv_at hl 1 rfl) ?_
    refine k_icmp_gt (pc := 6) (tgt := 15) hx hb ⟨by omega, by omega⟩ ⟨by omega, by omega⟩ dX5_insertInto_6 (by decide) (fun hc_6 => ?_) (fun hc_6 => ?_)
    · skip
      exfalso
      omega
    · skip
      refine lv_iload_n (pc := 9) hx hb dX5_insertInto_9 rfl (lv_at hl 1 rfl) ?_
      refine lv_aload_n (pc := 10) hx hb dX5_insertInto_10 rfl (lv_at hl 0 rfl) ?_
      refine k_alen (pc := 11) (z := ((n : Nat) : Int)) hx hb hK hP r 0 hr rfl rfl dX5_insertInto_11 ?_
      refine k_icmp_lt (pc := 12) (tgt := 16) hx hb ⟨by omega, by omega⟩ ⟨by omega, by omega⟩ dX5_insertInto_12 (by decide) (fun hc_12 => ?_) (fun hc_12 => ?_)
      · skip
        refine lv_iload_n (pc := 16) hx hb dX5_insertInto_16 rfl (lv_at hl 1 rfl) ?_
        refine lv_istore (pc := 17) (lv' := [(4, .int (iI u)), (0, .ref (ad r)), (1, .int (iI u)), (2, .int (iI k)), (3, .int (iI v))]) hx hb dX5_insertInto_17 hl (by decide) rfl (fun ls hl => ?_)
        have lp_19 : ∀ (N9 : Nat) (i : Int), (k ≤ i ∧ i ≤ u) → (i - k).toNat < N9 → ∀ (H : Heap) (locs : List Loc), gP D vwCl ad (up w r (eI (cA 0) n (shF f u i))) H → gD A ad (up w r (eI (cA 0) n (shF f u i))) → va_S A s.heap H locs → ∀ (ls : Array Slot), lv_has ls 5 [(4, .int (iI i)), (0, .ref (ad r)), (1, .int (iI u)), (2, .int (iI k)), (3, .int (iI v))] → W p l e rmX5_insertInto s m args below meth c H locs 0 0 Q9 (F0 m 19 ls []) := by
          intro N9
          induction N9 with
          | zero => intro i i0 hmu; exact absurd hmu (Nat.not_lt_zero _)
          | succ N9 ih_19 =>
            intro i i0 hmu_19 H locs hP hD hS ls hl
            refine lv_iload (pc := 19) hx hb dX5_insertInto_19 (lv_at hl 0 rfl) ?_
            refine lv_iload_n (pc := 21) hx hb dX5_insertInto_21 rfl (lv_at hl 3 rfl) ?_
            refine k_icmp_le (pc := 22) (tgt := 41) hx hb ⟨by omega, by omega⟩ ⟨by omega, by omega⟩ dX5_insertInto_22 (by decide) (fun hc_22 => ?_) (fun hc_22 => ?_)
            · skip
              refine lv_aload_n (pc := 41) hx hb dX5_insertInto_41 rfl (lv_at hl 1 rfl) ?_
              refine lv_iload_n (pc := 42) hx hb dX5_insertInto_42 rfl (lv_at hl 3 rfl) ?_
              refine lv_iload_n (pc := 43) hx hb dX5_insertInto_43 rfl (lv_at hl 4 rfl) ?_
              refine k_iast (pc := 44) (w1 := (up w r (eI (cA 0) n (updI (shF f u i) k v)))) hx hb hK hP hD hS r 0 (up_s _ _ _) rfl (by omega) (by omega) (by omega) (up_up _ _ _ _) dX5_insertInto_44 (fun H locs hP hD hS => ?_)
              rw [hQ9]
              exact W.vret hx hb hret (fun t ht hW => ⟨⟨none, ad, (up w r (eI (cA 0) n (updI (shF f u i) k v))), rfl, ⟨rfl, rfl, by rw [show i = k by omega, shF_e f (by omega)]⟩, by rw [ht]; exact hP, hD⟩, hS.F ht⟩) hS.2.2 dX5_insertInto_45
            · skip
              refine lv_aload_n (pc := 25) hx hb dX5_insertInto_25 rfl (lv_at hl 1 rfl) ?_
              refine lv_iload (pc := 26) hx hb dX5_insertInto_26 (lv_at hl 0 rfl) ?_
              refine lv_aload_n (pc := 28) hx hb dX5_insertInto_28 rfl (lv_at hl 1 rfl) ?_
              refine lv_iload (pc := 29) hx hb dX5_insertInto_29 (lv_at hl 0 rfl) ?_
              refine k_iconst (pc := 31) hx hb dX5_insertInto_31 ?_
              refine k_isub (pc := 32) hx hb dX5_insertInto_32 ?_
              refine k_iald (pc := 33) hx hb hK hP r 0 (up_s _ _ _) rfl (by omega) (by omega) (by omega) dX5_insertInto_33 ?_
              refine k_iast (pc := 34) (w1 := (up w r (eI (cA 0) n (updI (shF f u i) i ((shF f u i) (i - 1)))))) hx hb hK hP hD hS r 0 (up_s _ _ _) rfl (by omega) (by omega) (by omega) (up_up _ _ _ _) dX5_insertInto_34 (fun H locs hP hD hS => ?_)
              refine lv_iinc (pc := 35) (v := iI (i - 1)) (lv' := [(4, .int (iI (i - 1))), (0, .ref (ad r)), (1, .int (iI u)), (2, .int (iI k)), (3, .int (iI v))]) hx hb dX5_insertInto_35 hl (k := 0) rfl (by show iI _ + iI _ = _; rw [iI_add]; rfl) (by decide) rfl (fun ls hl => ?_)
              refine lv_goto (pc := 38) (tgt := 19) hx hb dX5_insertInto_38 (by decide) ?_
              have hW9 : ((up w r (eI (cA 0) n (updI (shF f u i) i ((shF f u i) (i - 1)))))) = (up w r (eI (cA 0) n (shF f u (i - 1)))) := by rw [shF_s f (by omega)]
              rw [hW9] at hP hD
              exact ih_19 (i - 1) (by omega) (by omega) H locs hP hD hS ls (lv_sub hl [0, 1, 2, 3, 4] rfl)
        have hW9 : (w) = (up w r (eI (cA 0) n (shF f u u))) := by rw [shF_0, up_self hr]
        rw [hW9] at hP hD
        exact lp_19 _ u (by omega) (Nat.lt_succ_self _) H locs hP hD hS ls (lv_sub hl [0, 1, 2, 3, 4] rfl)
      · skip
        exfalso
        omega

abbrev rmX5_interpolate : Room := { frames := 0, cells := 0, slots := 0, locals := 0 }
set_option maxHeartbeats 4000000 in
set_option maxRecDepth 100000 in
theorem c_X5_interpolate (l : Launch) (D : va_G) (cA : Nat → ClassId) (ad : Nat → Nat) (w : Nat → Option va_E) (a b x y : Int) (hp : (-9223372036854775808 ≤ (b - a) * x ∧ (b - a) * x < 9223372036854775808)) (hy : 0 < y ∧ y < 9223372036854775808) : Met l yX5_interpolate wsX5_interpolate rmX5_interpolate (gR D cA ad w [.long (lI a), .long (lI b), .long (lI x), .long (lI y)]) (gR0 (fun v9 => ∃ z : Int, v9 = some (.long (lI z)) ∧ z = a + Int.tdiv ((b - a) * x) y)) 0 0 (fun _ => False) := by
  refine Met.ofW (cc := cX5_interpolate) (maxL := 8) (ret := (some .long)) (by decide) rfl ?_
  intro p e s m args below meth c s₁ B hml hv
  obtain ⟨hav, hP, hK, hB⟩ := hv
  have hx := B.exec
  have hb := B.bytes
  have hret := B.returns
  have hts := atoms_spec (ws := wsX5_interpolate) B.pre
  have hown : s.vm.findClass RX5 = some m.cls := findClass_of_methodNamed B.named
  have hlocks := B.notSynchronized
  have hS : va_S (fun _ => False) s.heap s.heap [] := va_S.rf
  have he9 : entryFrame m args 8 = F0 m 0 ((lg_sl ([.long (lI a), .long (lI b), .long (lI x), .long (lI y)] : List Value) ++ List.replicate (8 - (lg_sl ([.long (lI a), .long (lI b), .long (lI x), .long (lI y)] : List Value)).length) Slot.unset).toArray) [] := by rw [hav, lg_entry_eq]
  rw [he9]
  have hl := lv_entry ([.long (lI a), .long (lI b), .long (lI x), .long (lI y)] : List Value) (n := 8) (Nat.le_of_ble_eq_true rfl)
  generalize (lg_sl ([.long (lI a), .long (lI b), .long (lI x), .long (lI y)] : List Value) ++ List.replicate (8 - (lg_sl ([.long (lI a), .long (lI b), .long (lI x), .long (lI y)] : List Value)).length) Slot.unset).toArray = ls at hl ⊢
  have hl : lv_has ls 8 [(0, .long (lI a)), (2, .long (lI b)), (4, .long (lI x)), (6, .long (lI y))] := hl
  obtain ⟨Q9, hQ9⟩ : ∃ z, z = MQ below (gR0 (fun v9 => ∃ z : Int, v9 = some (.long (lI z)) ∧ z = a + Int.tdiv ((b - a) * x) y)) args s 0 0 (fun _ => False) := ⟨_, rfl⟩
  rw [← hQ9]
  show W p l e rmX5_interpolate s m args below meth c s.heap [] 0 0 Q9 (F0 m 0 ls [])
  refine lv_lload (pc := 0) hx hb dX5_interpolate_0 (lv_at hl 3 rfl) ?_
  refine k_lconst0 (pc := 2) hx hb dX5_interpolate_2 ?_
  refine k_lcmp_ne (pc := 3) (tgt := 11) hx hb ⟨by omega, by omega⟩ ⟨by omega, by omega⟩ dX5_interpolate_3 dX5_interpolate_4 (by decide) (fun hc_3 => ?_) (fun hc_3 => ?_)
  · skip
    refine lv_lload_n (pc := 11) hx hb dX5_interpolate_11 rfl (lv_at hl 0 rfl) ?_
    refine lv_lload_n (pc := 12) hx hb dX5_interpolate_12 rfl (lv_at hl 1 rfl) ?_
    refine lv_lload_n (pc := 13) hx hb dX5_interpolate_13 rfl (lv_at hl 0 rfl) ?_
    refine k_lsub (pc := 14) hx hb dX5_interpolate_14 ?_
    refine lv_lload (pc := 15) hx hb dX5_interpolate_15 (lv_at hl 2 rfl) ?_
    refine k_lmul (pc := 17) hx hb dX5_interpolate_17 ?_
    refine lv_lload (pc := 18) hx hb dX5_interpolate_18 (lv_at hl 3 rfl) ?_
    refine k_ldiv (pc := 20) hx hb hp ⟨by omega, by omega⟩ hy.1 dX5_interpolate_20 ?_
    refine k_ladd (pc := 21) hx hb dX5_interpolate_21 ?_
    rw [hQ9]
    exact W.lret (v := lI (a + (Int.tdiv ((b - a) * x) y))) hx hb hret (fun t ht hW => ⟨some (.long (lI (a + (Int.tdiv ((b - a) * x) y)))), rfl, ⟨a + (Int.tdiv ((b - a) * x) y), rfl, rfl⟩, ht⟩) (fun q hq => by cases hq) dX5_interpolate_22
  · skip
    exfalso
    omega
