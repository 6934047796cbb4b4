abbrev rmX6_fill : Room := { frames := 0, cells := 0, slots := 0, locals := 0 }
theorem hiX6_fill_6 : ∀ w ∈ wsX60, w ∈ wsX6_fill := by decide +kernel
set_option maxHeartbeats 4000000 in
set_option maxRecDepth 100000 in
theorem c_X6_fill (l : Launch) (D : va_G) (cA : Nat → ClassId) (ad : Nat → Nat) (w : Nat → Option va_E) (sz : Nat) (sc : Nat → Int) (fn : Nat → Int → Int) (th fr : Int) (S : Int → Int) (F : Int → Int) (k0 : w 200 = some (oB 6 [.int (iI th), .int (iI (sc 0)), .ref (ad 201), .ref (ad 202), .ref (ad 203), .ref (ad 204), .int (iI (sc 1)), .ref (ad 205), .ref (ad 206), .ref (ad 207), .ref (ad 208), .ref (ad 209), .int (iI (sc 2)), .int (iI (sc 3)), .int (iI (sc 4)), .ref (ad 210), .int (iI fr), .ref (ad 211), .ref (ad 212)])) (k11 : w 211 = some (eI (cA 0) 400 S)) (k12 : w 212 = some (eJ (cA 2) 400 F)) (hS9 : ∀ j : Int, 0 ≤ S j ∧ S j ≤ 3) (hF : ∀ j : Int, -1 ≤ F j ∧ F j ≤ 1000000000000) (a b : Int) (hab : 0 ≤ a ∧ a < b ∧ b < 400) : Met l yX6_fill wsX6_fill rmX6_fill (gV D cA ad w sz [.ref (ad 200), .int (iI a), .int (iI b)]) (gW D (fun v9 ad1 w1 => v9 = none ∧ ad1 = ad ∧ w1 = up (up w 211 (eI (cA 0) 400 (flS S a b))) 212 (eJ (cA 2) 400 (flF F a b b))) (gA ad w sz)) 0 0 (gA ad w sz) := by
  refine Met.ofW (cc := cX6_fill) (maxL := 4) (ret := none) (by decide) rfl ?_
  intro p e s m args below meth c s₁ B hml hv
  obtain ⟨hav, hsz, hP, hD0, hK, hB, hZ⟩ := hv
  have hx := B.exec
  have hb := B.bytes
  have hret := B.returns
  have hts := atoms_spec (ws := wsX6_fill) B.pre
  have hown : s.vm.findClass RX6 = some m.cls := findClass_of_methodNamed B.named
  have hlocks := B.notSynchronized
  subst hsz
  have hD := hD0.self (sz := s.heap.size)
  generalize hAe : gA ad w s.heap.size = A at hD hZ ⊢
  have hA : ∀ q : Nat, s.heap.size ≤ q → A q := fun q h => by rw [← hAe]; exact Or.inr h
  have hS : va_S A s.heap s.heap [] := va_S.rf
  have hi6 := hiX6_fill_6
  have hf48 := hts (.fieldLink RX6 48 "GaugeBookModel" "states" "[I") (by decide +kernel)
  have hf51 := hts (.fieldLink RX6 51 "GaugeBookModel" "worked" "[J") (by decide +kernel)
  have he9 : entryFrame m args 4 = F0 m 0 ((lg_sl ([.ref (ad 200), .int (iI a), .int (iI b)] : List Value) ++ List.replicate (4 - (lg_sl ([.ref (ad 200), .int (iI a), .int (iI b)] : List Value)).length) Slot.unset).toArray) [] := by rw [hav, lg_entry_eq]
  rw [he9]
  have hl := lv_entry ([.ref (ad 200), .int (iI a), .int (iI b)] : List Value) (n := 4) (Nat.le_of_ble_eq_true rfl)
  generalize (lg_sl ([.ref (ad 200), .int (iI a), .int (iI b)] : List Value) ++ List.replicate (4 - (lg_sl ([.ref (ad 200), .int (iI a), .int (iI b)] : List Value)).length) Slot.unset).toArray = ls at hl ⊢
  have hl : lv_has ls 4 [(0, .ref (ad 200)), (1, .int (iI a)), (2, .int (iI b))] := hl
  obtain ⟨Q9, hQ9⟩ : ∃ z, z = MQ below (gW D (fun v9 ad1 w1 => v9 = none ∧ ad1 = ad ∧ w1 = up (up w 211 (eI (cA 0) 400 (flS S a b))) 212 (eJ (cA 2) 400 (flF F a b b))) A) args s 0 0 A := ⟨_, rfl⟩
  rw [← hQ9]
  show W p l e rmX6_fill s m args below meth c s.heap [] 0 0 Q9 (F0 m 0 ls [])
  obtain ⟨H, hHe⟩ : ∃ z, z = s.heap := ⟨_, rfl⟩
  obtain ⟨locs, hLe⟩ : ∃ z, z = ([] : List Loc) := ⟨_, rfl⟩
  have hP : gP D vwCl ad w H := by rw [hHe]; exact hP
  have hS : va_S A s.heap H locs := by rw [hHe, hLe]; exact va_S.rf
  rw [show W p l e rmX6_fill s m args below meth c s.heap [] 0 0 Q9 (F0 m 0 ls []) = W p l e rmX6_fill s m args below meth c H locs 0 0 Q9 (F0 m 0 ls []) by rw [hHe, hLe]]
  clear hHe hLe
  refine k_iconst (pc := 0) hx hb dX6_fill_0 ?_
  refine lv_istore_n (pc := 1) (lv' := [(3, .int (iI 1)), (0, .ref (ad 200)), (1, .int (iI a)), (2, .int (iI b))]) hx hb dX6_fill_1 rfl hl (by decide) rfl (fun ls hl => ?_)
  have lp_2 : ∀ (N9 : Nat) (k : Int), (1 ≤ k ∧ a + k ≤ b) → (b - a - k).toNat < N9 → ∀ (H : Heap) (locs : List Loc), gP D vwCl ad (up (up w 211 (eI (cA 0) 400 (flS S a (a + k)))) 212 (eJ (cA 2) 400 (flF F a b (a + k)))) H → gD A ad (up (up w 211 (eI (cA 0) 400 (flS S a (a + k)))) 212 (eJ (cA 2) 400 (flF F a b (a + k)))) → va_S A s.heap H locs → ∀ (ls : Array Slot), lv_has ls 4 [(3, .int (iI k)), (0, .ref (ad 200)), (1, .int (iI a)), (2, .int (iI b))] → W p l e rmX6_fill s m args below meth c H locs 0 0 Q9 (F0 m 2 ls []) := by
    intro N9
    induction N9 with
    | zero => intro k i0 hmu; exact absurd hmu (Nat.not_lt_zero _)
    | succ N9 ih_2 =>
      intro k i0 hmu_2 H locs hP hD hS ls hl
      refine lv_iload_n (pc := 2) hx hb dX6_fill_2 rfl (lv_at hl 2 rfl) ?_
      refine lv_iload_n (pc := 3) hx hb dX6_fill_3 rfl (lv_at hl 0 rfl) ?_
      refine k_iadd (pc := 4) hx hb dX6_fill_4 ?_
      refine lv_iload_n (pc := 5) hx hb dX6_fill_5 rfl (lv_at hl 3 rfl) ?_
      refine k_icmp_ge (pc := 6) (tgt := 60) hx hb ⟨by omega, by omega⟩ ⟨by omega, by omega⟩ dX6_fill_6 (by decide) (fun hc_6 => ?_) (fun hc_6 => ?_)
      · skip
        rw [hQ9]
        exact W.vret hx hb hret (fun t ht hW => ⟨⟨none, ad, (up (up w 211 (eI (cA 0) 400 (flS S a (a + k)))) 212 (eJ (cA 2) 400 (flF F a b (a + k)))), rfl, ⟨rfl, rfl, by rw [show a + k = b by omega]⟩, by rw [ht]; exact hP, hD⟩, hS.F ht⟩) hS.2.2 dX6_fill_60
      · skip
        refine lv_aload_n (pc := 9) hx hb dX6_fill_9 rfl (lv_at hl 1 rfl) ?_
        refine k_get (pc := 10) (ci := 6) (C := RX6) (T := TX6) (N := 19) hx hb hts hi6 hown hK hP 200 (up_n (by decide) (up_n (by decide) k0)) rfl 17 (by decide) hf48 (fun _ h9 => h9) rfl dX6_fill_10 ?_
        refine lv_iload_n (pc := 13) hx hb dX6_fill_13 rfl (lv_at hl 2 rfl) ?_
        refine lv_iload_n (pc := 14) hx hb dX6_fill_14 rfl (lv_at hl 0 rfl) ?_
        refine k_iadd (pc := 15) hx hb dX6_fill_15 ?_
        refine k_iconst (pc := 16) hx hb dX6_fill_16 ?_
        refine k_iast (pc := 17) (w1 := (up (up w 211 (eI (cA 0) 400 (updI (flS S a (a + k)) (a + k) 3))) 212 (eJ (cA 2) 400 (flF F a b (a + k))))) hx hb hK hP hD hS 211 0 (up_n (by decide) (up_s _ _ _)) rfl (by omega) (by omega) (by omega) ((up_co _ _ _ (by decide)).trans (congrArg (fun u => up u 212 _) (up_up _ _ _ _))) dX6_fill_17 (fun H locs hP hD hS => ?_)
        refine lv_aload_n (pc := 18) hx hb dX6_fill_18 rfl (lv_at hl 1 rfl) ?_
        refine k_get (pc := 19) (ci := 6) (C := RX6) (T := TX6) (N := 19) hx hb hts hi6 hown hK hP 200 (up_n (by decide) (up_n (by decide) k0)) rfl 18 (by decide) hf51 (fun _ h9 => h9) rfl dX6_fill_19 ?_
        refine lv_iload_n (pc := 22) hx hb dX6_fill_22 rfl (lv_at hl 2 rfl) ?_
        refine lv_iload_n (pc := 23) hx hb dX6_fill_23 rfl (lv_at hl 0 rfl) ?_
        refine k_iadd (pc := 24) hx hb dX6_fill_24 ?_
        refine lv_aload_n (pc := 25) hx hb dX6_fill_25 rfl (lv_at hl 1 rfl) ?_
        refine k_get (pc := 26) (ci := 6) (C := RX6) (T := TX6) (N := 19) hx hb hts hi6 hown hK hP 200 (up_n (by decide) (up_n (by decide) k0)) rfl 18 (by decide) hf51 (fun _ h9 => h9) rfl dX6_fill_26 ?_
        refine lv_iload_n (pc := 29) hx hb dX6_fill_29 rfl (lv_at hl 2 rfl) ?_
        refine k_lald (pc := 30) hx hb hK hP 212 2 (up_s _ _ _) rfl (by omega) (by omega) (by omega) dX6_fill_30 ?_
        have hq_30 := (flF_b (F := F) (a := a) (b := b) (m := a + k) hF (by omega)) a
        have he_31 : (flF F a b (a + k)) a = F a := by unfold flF; rw [if_neg (by omega)]
        rw [he_31]
        refine lv_aload_n (pc := 31) hx hb dX6_fill_31 rfl (lv_at hl 1 rfl) ?_
        refine k_get (pc := 32) (ci := 6) (C := RX6) (T := TX6) (N := 19) hx hb hts hi6 hown hK hP 200 (up_n (by decide) (up_n (by decide) k0)) rfl 18 (by decide) hf51 (fun _ h9 => h9) rfl dX6_fill_32 ?_
        refine lv_iload_n (pc := 35) hx hb dX6_fill_35 rfl (lv_at hl 3 rfl) ?_
        refine k_lald (pc := 36) hx hb hK hP 212 2 (up_s _ _ _) rfl (by omega) (by omega) (by omega) dX6_fill_36 ?_
        have hq_36 := (flF_b (F := F) (a := a) (b := b) (m := a + k) hF (by omega)) b
        have he_37 : (flF F a b (a + k)) b = F b := by unfold flF; rw [if_neg (by omega)]
        rw [he_37]
        refine lv_aload_n (pc := 37) hx hb dX6_fill_37 rfl (lv_at hl 1 rfl) ?_
        refine k_get (pc := 38) (ci := 6) (C := RX6) (T := TX6) (N := 19) hx hb hts hi6 hown hK hP 200 (up_n (by decide) (up_n (by decide) k0)) rfl 18 (by decide) hf51 (fun _ h9 => h9) rfl dX6_fill_38 ?_
        refine lv_iload_n (pc := 41) hx hb dX6_fill_41 rfl (lv_at hl 2 rfl) ?_
        refine k_lald (pc := 42) hx hb hK hP 212 2 (up_s _ _ _) rfl (by omega) (by omega) (by omega) dX6_fill_42 ?_
        have hq_42 := (flF_b (F := F) (a := a) (b := b) (m := a + k) hF (by omega)) a
        have he_43 : (flF F a b (a + k)) a = F a := by unfold flF; rw [if_neg (by omega)]
        rw [he_43]
        refine k_lsub (pc := 43) hx hb dX6_fill_43 ?_
        refine lv_iload_n (pc := 44) hx hb dX6_fill_44 rfl (lv_at hl 0 rfl) ?_
        refine k_i2l (pc := 45) hx hb ⟨by omega, by omega⟩ dX6_fill_45 ?_
        have u1_ := hF a
        have u2_ := hF b
        have m9_ := mulB (a := F b - F a) (b := k) (M := 2000000000000) (N := 400) ⟨by omega, by omega⟩ ⟨by omega, by omega⟩
        refine k_lmul (pc := 46) hx hb dX6_fill_46 ?_
        refine lv_iload_n (pc := 47) hx hb dX6_fill_47 rfl (lv_at hl 3 rfl) ?_
        refine lv_iload_n (pc := 48) hx hb dX6_fill_48 rfl (lv_at hl 2 rfl) ?_
        refine k_isub (pc := 49) hx hb dX6_fill_49 ?_
        refine k_i2l (pc := 50) hx hb ⟨by omega, by omega⟩ dX6_fill_50 ?_
        refine k_ldiv (pc := 51) hx hb ⟨by omega, by omega⟩ ⟨by omega, by omega⟩ (by omega) dX6_fill_51 ?_
        refine k_ladd (pc := 52) hx hb dX6_fill_52 ?_
        refine k_last (pc := 53) (w1 := (up (up w 211 (eI (cA 0) 400 (updI (flS S a (a + k)) (a + k) 3))) 212 (eJ (cA 2) 400 (updI (flF F a b (a + k)) (a + k) ((F a) + (Int.tdiv (((F b) - (F a)) * k) (b - a))))))) hx hb hK hP hD hS 212 2 (up_s _ _ _) rfl (by omega) (by omega) (by omega) (up_up _ _ _ _) dX6_fill_53 (fun H locs hP hD hS => ?_)
        refine lv_iinc (pc := 54) (v := iI (k + 1)) (lv' := [(3, .int (iI (k + 1))), (0, .ref (ad 200)), (1, .int (iI a)), (2, .int (iI b))]) hx hb dX6_fill_54 hl (k := 0) rfl (iI_add _ _) (by decide) rfl (fun ls hl => ?_)
        refine lv_goto (pc := 57) (tgt := 2) hx hb dX6_fill_57 (by decide) ?_
        have hW9 : ((up (up w 211 (eI (cA 0) 400 (updI (flS S a (a + k)) (a + k) 3))) 212 (eJ (cA 2) 400 (updI (flF F a b (a + k)) (a + k) ((F a) + (Int.tdiv (((F b) - (F a)) * k) (b - a))))))) = (up (up w 211 (eI (cA 0) 400 (flS S a (a + (k + 1))))) 212 (eJ (cA 2) 400 (flF F a b (a + (k + 1))))) := by rw [flS_s S (by omega), show a + k + 1 = a + (k + 1) by omega, show updI (flF F a b (a + k)) (a + k) (F a + Int.tdiv ((F b - F a) * k) (b - a)) = flF F a b (a + (k + 1)) by have h9_ := flF_s F (a := a) (b := b) (m := a + k) (by omega); rw [show a + k - a = k by omega, show a + k + 1 = a + (k + 1) by omega] at h9_; exact h9_]
        rw [hW9] at hP hD
        exact ih_2 (k + 1) (by omega) (by omega) H locs hP hD hS ls (lv_sub hl [0, 1, 2, 3] rfl)
  have hW9 : (w) = (up (up w 211 (eI (cA 0) 400 (flS S a (a + 1)))) 212 (eJ (cA 2) 400 (flF F a b (a + 1)))) := by rw [flS_0, flF_0, up_self k11, up_self k12]
  rw [hW9] at hP hD
  exact lp_2 _ 1 (by omega) (Nat.lt_succ_self _) H locs hP hD hS ls (lv_sub hl [0, 1, 2, 3] rfl)

/-- the days before d are worked out; the last told one is a -/
def wkP (F S : Int → Int) (lim d a : Int) (G T : Int → Int) : Prop := (a ≠ -1 → S a ≠ 0) ∧ (∀ j : Int, a < j → 0 ≤ j → j < d → S j = 0 ∧ G j = F j ∧ T j = S j) ∧ ∀ j : Int, 0 ≤ j → j ≤ a → finP F S lim j (G j) (T j)
theorem wk_0 {F S G T : Int → Int} {lim : Int} : wkP F S lim 0 (-1) G T := ⟨fun h => absurd rfl h, fun j a1 a2 a3 => by omega, fun j a1 a2 => by omega⟩
theorem wk_no {F S G T : Int → Int} {lim d a x y : Int} (h : wkP F S lim d a G T) (had : a < d) (hS : S d = 0) (hx : x = F d) (hy : y = S d) : wkP F S lim (d + 1) a (updI G d x) (updI T d y) := by
  obtain ⟨h1, h2, h3⟩ := h
  refine ⟨h1, fun j a1 a2 a3 => ?_, fun j a1 a2 => ?_⟩
  · by_cases c : j = d
    · rw [c, updI_s, updI_s]
      exact ⟨hS, hx, hy⟩
    · rw [updI_n _ _ c, updI_n _ _ c]
      exact h2 j a1 a2 (by omega)
  · rw [updI_n _ _ (by omega), updI_n _ _ (by omega)]
    exact h3 j a1 a2
def mixF (G F : Int → Int) (d : Int) : Int → Int := fun j => if j ≤ d then G j else F j
theorem mix_le {G F : Int → Int} {d j : Int} (h : j ≤ d) : mixF G F d j = G j := if_pos h
theorem mix_gt {G F : Int → Int} {d j : Int} (h : d < j) : mixF G F d j = F j := if_neg (by omega)
theorem wk_all {F S G T : Int → Int} {lim d a : Int} (h : wkP F S lim d a G T) (hd : G d = F d ∧ T d = S d) : ∀ j : Int, a < j → 0 ≤ j → j < 400 → mixF G F d j = F j ∧ mixF T S d j = S j := by
  intro j a1 a2 a3
  rcases Int.lt_trichotomy j d with c | c | c
  · rw [mix_le (by omega), mix_le (by omega)]
    exact (h.2.1 j a1 a2 c).2
  · rw [mix_le (by omega), mix_le (by omega), c]
    exact hd
  · rw [mix_gt c, mix_gt c]
    exact ⟨rfl, rfl⟩
theorem wk_end {F S G T : Int → Int} {lim d : Int} (hS : S d ≠ 0) (h : ∀ j : Int, 0 ≤ j → j ≤ d → finP F S lim j (G j) (T j)) : wkP F S lim (d + 1) d G T :=
  ⟨fun _ => hS, fun j a1 a2 a3 => by omega, h⟩
theorem wk_none {F S G T : Int → Int} {lim d : Int} (h : wkP F S lim d (-1) G T) (hU : ∀ j : Int, S j = 0 → F j = -1) (hd0 : 0 ≤ d ∧ d < 400) (hS : S d ≠ 0) (hd : G d = F d ∧ T d = S d) : wkP F S lim (d + 1) d G T := by
  refine wk_end hS (fun j a1 a2 => ?_)
  have hw := wk_all h hd
  have := fg_none (G := mixF G F d) (T := mixF T S d) (lim := lim) (fun j b1 b2 => (h.2.1 j (by omega) b1 b2).1) hU hS hd0.2 (fun j b1 b2 => hw j (by omega) b1 b2) j a1 a2
  rw [mix_le a2, mix_le a2] at this
  exact this
theorem wk_long {F S G T : Int → Int} {lim d a : Int} (h : wkP F S lim d a G T) (hU : ∀ j : Int, S j = 0 → F j = -1) (ha : 0 ≤ a ∧ a < d) (hd2 : d < 400) (hS : S d ≠ 0) (hd : G d = F d ∧ T d = S d) (hl : lim < d - a - 1) : wkP F S lim (d + 1) d G T := by
  refine wk_end hS (fun j a1 a2 => ?_)
  have hw := wk_all h hd
  have := fg_long (G := mixF G F d) (T := mixF T S d) (lim := lim) ha (h.1 (by omega)) (fun j b1 b2 => (h.2.1 j b1 (by omega) b2).1) hU hS hd2 hl (fun j b1 b2 => hw j b1 (by omega) b2) (fun j b1 b2 => by rw [mix_le (by omega), mix_le (by omega)]; exact h.2.2 j b1 b2) j a1 a2
  rw [mix_le a2, mix_le a2] at this
  exact this
theorem wk_fill {F S G T : Int → Int} {lim d a : Int} (h : wkP F S lim d a G T) (ha : 0 ≤ a ∧ a < d) (hd2 : d < 400) (hS : S d ≠ 0) (hd : G d = F d ∧ T d = S d) (hl : d - a - 1 ≤ lim) : wkP F S lim (d + 1) d (flF G a d d) (flS T a d) := by
  refine wk_end hS (fun j a1 a2 => ?_)
  have hw := wk_all h hd
  have := fg_fill (G := mixF G F d) (T := mixF T S d) (lim := lim) ha (h.1 (by omega)) (fun j b1 b2 => (h.2.1 j b1 (by omega) b2).1) hS hd2 hl (fun j b1 b2 => hw j b1 (by omega) b2) (fun j b1 b2 => by rw [mix_le (by omega), mix_le (by omega)]; exact h.2.2 j b1 b2) j a1 a2
  have e1 : flF (mixF G F d) a d d j = flF G a d d j := by
    unfold flF
    rw [mix_le (by omega), mix_le (by omega), mix_le a2]
  have e2 : flS (mixF T S d) a d j = flS T a d j := by
    unfold flS
    rw [mix_le a2]
  rw [e1, e2] at this
  exact this
theorem wk_x {F S G T : Int → Int} {lim d a x y x0 y0 : Int} (h : wkP F S lim d a G T) (had : a < d) : wkP F S lim d a (updI (updI G d x0) d x) (updI (updI T d y0) d y) := by
  obtain ⟨h1, h2, h3⟩ := h
  refine ⟨h1, fun j a1 a2 a3 => ?_, fun j a1 a2 => ?_⟩
  · rw [updI_n _ _ (by omega), updI_n _ _ (by omega), updI_n _ _ (by omega), updI_n _ _ (by omega)]
    exact h2 j a1 a2 a3
  · rw [updI_n _ _ (by omega), updI_n _ _ (by omega), updI_n _ _ (by omega), updI_n _ _ (by omega)]
    exact h3 j a1 a2

abbrev rmX6_workOut : Room := { frames := 1, cells := 0, slots := 0, locals := 25 }
theorem hiX6_workOut_6 : ∀ w ∈ wsX60, w ∈ wsX6_workOut := by decide +kernel
set_option maxHeartbeats 4000000 in
set_option maxRecDepth 100000 in
theorem c_X6_workOut (l : Launch) (D : va_G) (cA : Nat → ClassId) (ad : Nat → Nat) (w : Nat → Option va_E) (sz : Nat) (sc : Nat → Int) (fn : Nat → Int → Int) (th fr : Int) (G1 : Int → Int) (G2 : Int → Int) (us : Int → Int) (ut : Int → Int) (ub : Int → Int) (S : Int → Int) (F : Int → Int) (hI : bkInv sc fn) (k0 : w 200 = some (oB 6 [.int (iI th), .int (iI (sc 0)), .ref (ad 201), .ref (ad 202), .ref (ad 203), .ref (ad 204), .int (iI (sc 1)), .ref (ad 205), .ref (ad 206), .ref (ad 207), .ref (ad 208), .ref (ad 209), .int (iI (sc 2)), .int (iI (sc 3)), .int (iI (sc 4)), .ref (ad 210), .int (iI fr), .ref (ad 211), .ref (ad 212)])) (k1 : w 201 = some (eI (cA 0) 6 (fn 8))) (k2 : w 202 = some (eI (cA 0) 6 (fn 9))) (k3 : w 203 = some (eI (cA 0) 72 G1)) (k4 : w 204 = some (eI (cA 0) 72 G2)) (k5 : w 205 = some (eI (cA 1) 400 us)) (k6 : w 206 = some (eI (cA 0) 400 ut)) (k7 : w 207 = some (eI (cA 1) 400 (fn 3))) (k8 : w 208 = some (eI (cA 0) 400 (fn 2))) (k9 : w 209 = some (eI (cA 1) 400 (fn 4))) (k10 : w 210 = some (eI (cA 0) 120 ub)) (k11 : w 211 = some (eI (cA 0) 400 S)) (k12 : w 212 = some (eJ (cA 2) 400 F)) (hG1 : ∀ j : Int, -500 ≤ G1 j ∧ G1 j ≤ 2000) (hG2 : ∀ j : Int, 0 ≤ G2 j ∧ G2 j ≤ 1000000) (hus : ∀ j : Int, 0 ≤ us j ∧ us j ≤ 1) (hut : ∀ j : Int, -200 ≤ ut j ∧ ut j ≤ 200) (hub : ∀ j : Int, -500 ≤ ub j ∧ ub j ≤ 1000000) (hS9 : ∀ j : Int, 0 ≤ S j ∧ S j ≤ 3) (hF : ∀ j : Int, -1 ≤ F j ∧ F j ≤ 1000000000000) (hmc : mdC sc fn G1 G2) (hmu : mdU sc fn us ut) (hrk : fr = 0 ∨ (fr = 1 ∧ F = tbF sc fn ∧ S = tbS sc fn)) : Met l yX6_workOut wsX6_workOut rmX6_workOut (gV D cA ad w sz [.ref (ad 200)]) (gW D (fun v9 ad1 w1 => v9 = none ∧ ad1 = ad ∧ w1 = up (up (up w 200 (oB 6 [.int (iI th), .int (iI (sc 0)), .ref (ad 201), .ref (ad 202), .ref (ad 203), .ref (ad 204), .int (iI (sc 1)), .ref (ad 205), .ref (ad 206), .ref (ad 207), .ref (ad 208), .ref (ad 209), .int (iI (sc 2)), .int (iI (sc 3)), .int (iI (sc 4)), .ref (ad 210), .int (iI 1), .ref (ad 211), .ref (ad 212)])) 211 (eI (cA 0) 400 (tbS sc fn))) 212 (eJ (cA 2) 400 (tbF sc fn))) (gA ad w sz)) 0 0 (gA ad w sz) := by
  refine Met.ofW (cc := cX6_workOut) (maxL := 7) (ret := none) (by decide) rfl ?_
  intro p e s m args below meth c s₁ B hml hv
  obtain ⟨hav, hsz, hP, hD0, hK, hB, hZ⟩ := hv
  have hx := B.exec
  have hb := B.bytes
  have hret := B.returns
  have hts := atoms_spec (ws := wsX6_workOut) B.pre
  have hown : s.vm.findClass RX6 = some m.cls := findClass_of_methodNamed B.named
  have hlocks := B.notSynchronized
  subst hsz
  have hD := hD0.self (sz := s.heap.size)
  generalize hAe : gA ad w s.heap.size = A at hD hZ ⊢
  have hA : ∀ q : Nat, s.heap.size ≤ q → A q := fun q h => by rw [← hAe]; exact Or.inr h
  have hS : va_S A s.heap s.heap [] := va_S.rf
  have hi6 := hiX6_workOut_6
  have hf29 := hts (.fieldLink RX6 29 "GaugeBookModel" "hasStage" "[Z") (by decide +kernel)
  have hf32 := hts (.fieldLink RX6 32 "GaugeBookModel" "stageRead" "[I") (by decide +kernel)
  have hf35 := hts (.fieldLink RX6 35 "GaugeBookModel" "isIce" "[Z") (by decide +kernel)
  have hf38 := hts (.fieldLink RX6 38 "GaugeBookModel" "factor" "I") (by decide +kernel)
  have hf42 := hts (.fieldLink RX6 42 "GaugeBookModel" "limit" "I") (by decide +kernel)
  have hf48 := hts (.fieldLink RX6 48 "GaugeBookModel" "states" "[I") (by decide +kernel)
  have hf51 := hts (.fieldLink RX6 51 "GaugeBookModel" "worked" "[J") (by decide +kernel)
  have hf77 := hts (.fieldLink RX6 77 "GaugeBookModel" "isFresh" "Z") (by decide +kernel)
  have he9 : entryFrame m args 7 = F0 m 0 ((lg_sl ([.ref (ad 200)] : List Value) ++ List.replicate (7 - (lg_sl ([.ref (ad 200)] : List Value)).length) Slot.unset).toArray) [] := by rw [hav, lg_entry_eq]
  rw [he9]
  have hl := lv_entry ([.ref (ad 200)] : List Value) (n := 7) (Nat.le_of_ble_eq_true rfl)
  generalize (lg_sl ([.ref (ad 200)] : List Value) ++ List.replicate (7 - (lg_sl ([.ref (ad 200)] : List Value)).length) Slot.unset).toArray = ls at hl ⊢
  have hl : lv_has ls 7 [(0, .ref (ad 200))] := hl
  obtain ⟨Q9, hQ9⟩ : ∃ z, z = MQ below (gW D (fun v9 ad1 w1 => v9 = none ∧ ad1 = ad ∧ w1 = up (up (up w 200 (oB 6 [.int (iI th), .int (iI (sc 0)), .ref (ad 201), .ref (ad 202), .ref (ad 203), .ref (ad 204), .int (iI (sc 1)), .ref (ad 205), .ref (ad 206), .ref (ad 207), .ref (ad 208), .ref (ad 209), .int (iI (sc 2)), .int (iI (sc 3)), .int (iI (sc 4)), .ref (ad 210), .int (iI 1), .ref (ad 211), .ref (ad 212)])) 211 (eI (cA 0) 400 (tbS sc fn))) 212 (eJ (cA 2) 400 (tbF sc fn))) A) args s 0 0 A := ⟨_, rfl⟩
  rw [← hQ9]
  show W p l e rmX6_workOut s m args below meth c s.heap [] 0 0 Q9 (F0 m 0 ls [])
  obtain ⟨H, hHe⟩ : ∃ z, z = s.heap := ⟨_, rfl⟩
  obtain ⟨locs, hLe⟩ : ∃ z, z = ([] : List Loc) := ⟨_, rfl⟩
  have hP : gP D vwCl ad w H := by rw [hHe]; exact hP
  have hS : va_S A s.heap H locs := by rw [hHe, hLe]; exact va_S.rf
  rw [show W p l e rmX6_workOut s m args below meth c s.heap [] 0 0 Q9 (F0 m 0 ls []) = W p l e rmX6_workOut s m args below meth c H locs 0 0 Q9 (F0 m 0 ls []) by rw [hHe, hLe]]
  clear hHe hLe
  have hI1 := hI.1
  refine lv_aload_n (pc := 0) hx hb dX6_workOut_0 rfl (lv_at hl 0 rfl) ?_
  refine k_get (pc := 1) (ci := 6) (C := RX6) (T := TX6) (N := 19) hx hb hts hi6 hown hK hP 200 k0 rfl 16 (by decide) hf77 (fun _ h9 => h9) rfl dX6_workOut_1 ?_
  refine k_if_eq (pc := 4) (tgt := 8) hx hb ⟨by omega, by omega⟩ dX6_workOut_4 (by decide) (fun hc_4 => ?_) (fun hc_4 => ?_)
  · skip
    refine lv_aload_n (pc := 8) hx hb dX6_workOut_8 rfl (lv_at hl 0 rfl) ?_
    refine k_iconst (pc := 9) hx hb dX6_workOut_9 ?_
    refine k_put (pc := 10) (ci := 6) (C := RX6) (T := TX6) (N := 19) (ty := .boolean) (v := .int (iI 1)) (w1 := (up w 200 (oB 6 [.int (iI th), .int (iI (sc 0)), .ref (ad 201), .ref (ad 202), .ref (ad 203), .ref (ad 204), .int (iI (sc 1)), .ref (ad 205), .ref (ad 206), .ref (ad 207), .ref (ad 208), .ref (ad 209), .int (iI (sc 2)), .int (iI (sc 3)), .int (iI (sc 4)), .ref (ad 210), .int (iI 1), .ref (ad 211), .ref (ad 212)]))) hx hb hts hi6 tyX6 tyX6_ok nmX6 hown hK hP hD hS 200 k0 rfl 16 (by decide) hf77 (fun _ h9 => h9) rfl (by decide +kernel) (by decide +kernel) rfl (Nat.le_of_ble_eq_true rfl) rfl dX6_workOut_10 (fun H locs hP hD hS => ?_)
    refine k_iconst (pc := 13) hx hb dX6_workOut_13 ?_
    refine lv_istore_n (pc := 14) (lv' := [(1, .int (iI (-1))), (0, .ref (ad 200))]) hx hb dX6_workOut_14 rfl hl (by decide) rfl (fun ls hl => ?_)
    refine k_iconst (pc := 15) hx hb dX6_workOut_15 ?_
    refine lv_istore_n (pc := 16) (lv' := [(2, .int (iI 0)), (1, .int (iI (-1))), (0, .ref (ad 200))]) hx hb dX6_workOut_16 rfl hl (by decide) rfl (fun ls hl => ?_)
    have lp_17 : ∀ (N9 : Nat) (d : Int) (a : Int) (T : Int → Int) (G : Int → Int), (0 ≤ d ∧ d ≤ 400 ∧ -1 ≤ a ∧ a < d) → (∀ j : Int, 0 ≤ T j ∧ T j ≤ 3) → (∀ j : Int, -1 ≤ G j ∧ G j ≤ 1000000000000) → (wkP (tdF sc fn) (tdS sc fn) (sc 3) d a G T) → (400 - d).toNat < N9 → ∀ (H : Heap) (locs : List Loc), gP D vwCl ad (up (up (up w 200 (oB 6 [.int (iI th), .int (iI (sc 0)), .ref (ad 201), .ref (ad 202), .ref (ad 203), .ref (ad 204), .int (iI (sc 1)), .ref (ad 205), .ref (ad 206), .ref (ad 207), .ref (ad 208), .ref (ad 209), .int (iI (sc 2)), .int (iI (sc 3)), .int (iI (sc 4)), .ref (ad 210), .int (iI 1), .ref (ad 211), .ref (ad 212)])) 211 (eI (cA 0) 400 T)) 212 (eJ (cA 2) 400 G)) H → gD A ad (up (up (up w 200 (oB 6 [.int (iI th), .int (iI (sc 0)), .ref (ad 201), .ref (ad 202), .ref (ad 203), .ref (ad 204), .int (iI (sc 1)), .ref (ad 205), .ref (ad 206), .ref (ad 207), .ref (ad 208), .ref (ad 209), .int (iI (sc 2)), .int (iI (sc 3)), .int (iI (sc 4)), .ref (ad 210), .int (iI 1), .ref (ad 211), .ref (ad 212)])) 211 (eI (cA 0) 400 T)) 212 (eJ (cA 2) 400 G)) → va_S A s.heap H locs → ∀ (ls : Array Slot), lv_has ls 7 [(2, .int (iI d)), (1, .int (iI a)), (0, .ref (ad 200))] → W p l e rmX6_workOut s m args below meth c H locs 0 0 Q9 (F0 m 17 ls []) := by
      intro N9
      induction N9 with
      | zero => intro d a T G i0 iT iG iW hmu; exact absurd hmu (Nat.not_lt_zero _)
      | succ N9 ih_17 =>
        intro d a T G i0 iT iG iW hmu_17 H locs hP hD hS ls hl
        refine lv_iload_n (pc := 17) hx hb dX6_workOut_17 rfl (lv_at hl 0 rfl) ?_
        refine k_sipush (pc := 18) hx hb dX6_workOut_18 (by decide +kernel) ?_
        refine k_icmp_ge (pc := 21) (tgt := 172) hx hb ⟨by omega, by omega⟩ ⟨by omega, by omega⟩ dX6_workOut_21 (by decide) (fun hc_21 => ?_) (fun hc_21 => ?_)
        · skip
          have hfin := fg_end (a := a) (by omega) (fun j a1 a2 a3 => (iW.2.1 j a1 a2 (by omega)).1) (tbOk_td hI).2.2.2 (fun j a1 a2 a3 => (iW.2.1 j a1 a2 (by omega)).2) iW.2.2
          rw [up_co _ _ _ (show (211 : Nat) ≠ 212 by decide)] at hP hD
          obtain ⟨hP, hD⟩ := tb_canon (by decide) hP hD hfin
          rw [up_co _ _ _ (show (212 : Nat) ≠ 211 by decide)] at hP hD
          rw [hQ9]
          exact W.vret hx hb hret (fun t ht hW => ⟨⟨none, ad, (up (up (up w 200 (oB 6 [.int (iI th), .int (iI (sc 0)), .ref (ad 201), .ref (ad 202), .ref (ad 203), .ref (ad 204), .int (iI (sc 1)), .ref (ad 205), .ref (ad 206), .ref (ad 207), .ref (ad 208), .ref (ad 209), .int (iI (sc 2)), .int (iI (sc 3)), .int (iI (sc 4)), .ref (ad 210), .int (iI 1), .ref (ad 211), .ref (ad 212)])) 211 (eI (cA 0) 400 (tbS sc fn))) 212 (eJ (cA 2) 400 (tbF sc fn))), rfl, ⟨rfl, rfl, rfl⟩, by rw [ht]; exact hP, hD⟩, hS.F ht⟩) hS.2.2 dX6_workOut_172
        · skip
          refine lv_aload_n (pc := 24) hx hb dX6_workOut_24 rfl (lv_at hl 2 rfl) ?_
          refine lv_iload_n (pc := 25) hx hb dX6_workOut_25 rfl (lv_at hl 0 rfl) ?_
          refine k_call0 (pc := 26) (va_runV (As := [.int (iI d)]) (rest := []) ⟨hx, hb, hml, hown, hts⟩ (c_X6_curveAt l D cA ad (up (up (up w 200 (oB 6 [.int (iI th), .int (iI (sc 0)), .ref (ad 201), .ref (ad 202), .ref (ad 203), .ref (ad 204), .int (iI (sc 1)), .ref (ad 205), .ref (ad 206), .ref (ad 207), .ref (ad 208), .ref (ad 209), .int (iI (sc 2)), .int (iI (sc 3)), .int (iI (sc 4)), .ref (ad 210), .int (iI 1), .ref (ad 211), .ref (ad 212)])) 211 (eI (cA 0) 400 T)) 212 (eJ (cA 2) 400 G)) sc fn th 1 hI (up_n (by decide) (up_n (by decide) (up_s _ _ _))) (up_n (by decide) (up_n (by decide) (up_n (by decide) k1))) d (by omega)) (cwV 1 hts gX6_workOut_X6_curveAt rfl rfl rfl (by decide +kernel) ⟨Nat.le_of_ble_eq_true rfl, Nat.le_of_ble_eq_true rfl⟩) (gR_V hP hK hB 200 (ci := 6) rfl (up_n (by decide) (up_n (by decide) (up_s _ _ _)))) rfl rfl hl.1 rfl (lv_room (Nat.le_of_ble_eq_true rfl)) dX6_workOut_26 ⟨Nat.le_of_ble_eq_true rfl, Nat.le_of_ble_eq_true rfl⟩) (fun v_26 hv_26 => ?_)
          obtain ⟨z_26, rfl, hz_26, hy_26, hw_26⟩ := hv_26
          refine W.eq (g2 := F0 m 29 ls [.int (iI z_26)]) rfl ?_
          refine lv_istore_n (pc := 29) (lv' := [(3, .int (iI z_26)), (2, .int (iI d)), (1, .int (iI a)), (0, .ref (ad 200))]) hx hb dX6_workOut_29 rfl hl (by decide) rfl (fun ls hl => ?_)
          refine lv_aload_n (pc := 30) hx hb dX6_workOut_30 rfl (lv_at hl 3 rfl) ?_
          refine k_get (pc := 31) (ci := 6) (C := RX6) (T := TX6) (N := 19) hx hb hts hi6 hown hK hP 200 (up_n (by decide) (up_n (by decide) (up_s _ _ _))) rfl 17 (by decide) hf48 (fun _ h9 => h9) rfl dX6_workOut_31 ?_
          refine lv_iload_n (pc := 34) hx hb dX6_workOut_34 rfl (lv_at hl 1 rfl) ?_
          refine k_iconst (pc := 35) hx hb dX6_workOut_35 ?_
          refine k_iast (pc := 36) (w1 := (up (up (up w 200 (oB 6 [.int (iI th), .int (iI (sc 0)), .ref (ad 201), .ref (ad 202), .ref (ad 203), .ref (ad 204), .int (iI (sc 1)), .ref (ad 205), .ref (ad 206), .ref (ad 207), .ref (ad 208), .ref (ad 209), .int (iI (sc 2)), .int (iI (sc 3)), .int (iI (sc 4)), .ref (ad 210), .int (iI 1), .ref (ad 211), .ref (ad 212)])) 211 (eI (cA 0) 400 (updI T d 0))) 212 (eJ (cA 2) 400 G))) hx hb hK hP hD hS 211 0 (up_n (by decide) (up_s _ _ _)) rfl (by omega) (by omega) (by omega) ((up_co _ _ _ (by decide)).trans (congrArg (fun u => up u 212 _) (up_up _ _ _ _))) dX6_workOut_36 (fun H locs hP hD hS => ?_)
          refine lv_aload_n (pc := 37) hx hb dX6_workOut_37 rfl (lv_at hl 3 rfl) ?_
          refine k_get (pc := 38) (ci := 6) (C := RX6) (T := TX6) (N := 19) hx hb hts hi6 hown hK hP 200 (up_n (by decide) (up_n (by decide) (up_s _ _ _))) rfl 18 (by decide) hf51 (fun _ h9 => h9) rfl dX6_workOut_38 ?_
          refine lv_iload_n (pc := 41) hx hb dX6_workOut_41 rfl (lv_at hl 1 rfl) ?_
          refine k_ldc2 (z := (-1)) (pc := 42) hx hb hown (hts (.constantLong RX6 130 (-1)) (by decide +kernel)) (by decide +kernel) dX6_workOut_42 ?_
          refine k_last (pc := 45) (w1 := (up (up (up w 200 (oB 6 [.int (iI th), .int (iI (sc 0)), .ref (ad 201), .ref (ad 202), .ref (ad 203), .ref (ad 204), .int (iI (sc 1)), .ref (ad 205), .ref (ad 206), .ref (ad 207), .ref (ad 208), .ref (ad 209), .int (iI (sc 2)), .int (iI (sc 3)), .int (iI (sc 4)), .ref (ad 210), .int (iI 1), .ref (ad 211), .ref (ad 212)])) 211 (eI (cA 0) 400 (updI T d 0))) 212 (eJ (cA 2) 400 (updI G d (-1))))) hx hb hK hP hD hS 212 2 (up_s _ _ _) rfl (by omega) (by omega) (by omega) (up_up _ _ _ _) dX6_workOut_45 (fun H locs hP hD hS => ?_)
          refine lv_aload_n (pc := 46) hx hb dX6_workOut_46 rfl (lv_at hl 3 rfl) ?_
          refine k_get (pc := 47) (ci := 6) (C := RX6) (T := TX6) (N := 19) hx hb hts hi6 hown hK hP 200 (up_n (by decide) (up_n (by decide) (up_s _ _ _))) rfl 9 (by decide) hf29 (fun _ h9 => h9) rfl dX6_workOut_47 ?_
          refine lv_iload_n (pc := 50) hx hb dX6_workOut_50 rfl (lv_at hl 1 rfl) ?_
          refine k_zald (pc := 51) hx hb hK hP 207 1 (up_n (by decide) (up_n (by decide) (up_n (by decide) k7))) rfl (by omega) (by omega) (by omega) dX6_workOut_51 ?_
          have hq_51 := hI.2.2.2.1 d
          refine k_if_eq (pc := 52) (tgt := 166) hx hb ⟨by omega, by omega⟩ dX6_workOut_52 (by decide) (fun hc_52 => ?_) (fun hc_52 => ?_)
          · skip
            refine lv_iinc (pc := 166) (v := iI (d + 1)) (lv' := [(2, .int (iI (d + 1))), (3, .int (iI z_26)), (1, .int (iI a)), (0, .ref (ad 200))]) hx hb dX6_workOut_166 hl (k := 1) rfl (iI_add _ _) (by decide) rfl (fun ls hl => ?_)
            refine lv_goto (pc := 169) (tgt := 17) hx hb dX6_workOut_169 (by decide) ?_
            have hno := td_no (sc := sc) (fn := fn) (d := d) (fun z => by have z1 : fn 3 d ≠ 0 ∧ cvno sc fn d ≠ -1 ∧ 2 ≤ fn 9 (cvno sc fn d) := z; rw [← hz_26] at z1; omega)
            exact ih_17 (d + 1) a (updI T d 0) (updI G d (-1)) (by omega) (upd_b iT (show (0 : Int) ≤ 0 ∧ (0 : Int) ≤ 3 by omega)) (upd_b iG (show (-1 : Int) ≤ -1 ∧ (-1 : Int) ≤ 1000000000000 by omega)) (wk_no iW i0.2.2.2 hno.2 hno.1.symm hno.2.symm) (by omega) H locs hP hD hS ls (lv_sub hl [0, 2, 3] rfl)
          · skip
            refine lv_aload_n (pc := 55) hx hb dX6_workOut_55 rfl (lv_at hl 3 rfl) ?_
            refine lv_iload_n (pc := 56) hx hb dX6_workOut_56 rfl (lv_at hl 0 rfl) ?_
            refine k_call0 (pc := 57) (va_runV (As := [.int (iI z_26)]) (rest := []) ⟨hx, hb, hml, hown, hts⟩ (c_X6_isComplete l D cA ad (up (up (up w 200 (oB 6 [.int (iI th), .int (iI (sc 0)), .ref (ad 201), .ref (ad 202), .ref (ad 203), .ref (ad 204), .int (iI (sc 1)), .ref (ad 205), .ref (ad 206), .ref (ad 207), .ref (ad 208), .ref (ad 209), .int (iI (sc 2)), .int (iI (sc 3)), .int (iI (sc 4)), .ref (ad 210), .int (iI 1), .ref (ad 211), .ref (ad 212)])) 211 (eI (cA 0) 400 (updI T d 0))) 212 (eJ (cA 2) 400 (updI G d (-1)))) sc fn th 1 hI (up_n (by decide) (up_n (by decide) (up_s _ _ _))) (up_n (by decide) (up_n (by decide) (up_n (by decide) k2))) z_26 (by omega)) (cwV 1 hts gX6_workOut_X6_isComplete rfl rfl rfl (by decide +kernel) ⟨Nat.le_of_ble_eq_true rfl, Nat.le_of_ble_eq_true rfl⟩) (gR_V hP hK hB 200 (ci := 6) rfl (up_n (by decide) (up_n (by decide) (up_s _ _ _)))) rfl rfl hl.1 rfl (lv_room (Nat.le_of_ble_eq_true rfl)) dX6_workOut_57 ⟨Nat.le_of_ble_eq_true rfl, Nat.le_of_ble_eq_true rfl⟩) (fun v_57 hv_57 => ?_)
            obtain ⟨z_57, rfl, hz_57⟩ := hv_57
            refine W.eq (g2 := F0 m 60 ls [.int (iI z_57)]) rfl ?_
            refine k_if_ne (pc := 60) (tgt := 66) hx hb ⟨by omega, by omega⟩ dX6_workOut_60 (by decide) (fun hc_60 => ?_) (fun hc_60 => ?_)
            · skip
              have htd : isTold sc fn d := ⟨by omega, by rw [← hz_26]; omega, by rw [← hz_26]; omega⟩
              have hob := opF_bd hI htd
              have sb_ := sftF_bd hI1.2.1.1 hI.2.1 d
              refine lv_aload_n (pc := 66) hx hb dX6_workOut_66 rfl (lv_at hl 3 rfl) ?_
              refine lv_iload_n (pc := 67) hx hb dX6_workOut_67 rfl (lv_at hl 0 rfl) ?_
              refine lv_aload_n (pc := 68) hx hb dX6_workOut_68 rfl (lv_at hl 3 rfl) ?_
              refine k_get (pc := 69) (ci := 6) (C := RX6) (T := TX6) (N := 19) hx hb hts hi6 hown hK hP 200 (up_n (by decide) (up_n (by decide) (up_s _ _ _))) rfl 10 (by decide) hf32 (fun _ h9 => h9) rfl dX6_workOut_69 ?_
              refine lv_iload_n (pc := 72) hx hb dX6_workOut_72 rfl (lv_at hl 1 rfl) ?_
              refine k_iald (pc := 73) hx hb hK hP 208 0 (up_n (by decide) (up_n (by decide) (up_n (by decide) k8))) rfl (by omega) (by omega) (by omega) dX6_workOut_73 ?_
              have hq_73 := hI.2.2.1 d
              refine lv_aload_n (pc := 74) hx hb dX6_workOut_74 rfl (lv_at hl 3 rfl) ?_
              refine lv_iload_n (pc := 75) hx hb dX6_workOut_75 rfl (lv_at hl 1 rfl) ?_
              refine k_call0 (pc := 76) (va_runV (As := [.int (iI d)]) (rest := [.int (iI ((fn 2) d)), .int (iI z_26), .ref (ad 200)]) ⟨hx, hb, hml, hown, hts⟩ (c_X6_shiftAt l D cA ad (up (up (up w 200 (oB 6 [.int (iI th), .int (iI (sc 0)), .ref (ad 201), .ref (ad 202), .ref (ad 203), .ref (ad 204), .int (iI (sc 1)), .ref (ad 205), .ref (ad 206), .ref (ad 207), .ref (ad 208), .ref (ad 209), .int (iI (sc 2)), .int (iI (sc 3)), .int (iI (sc 4)), .ref (ad 210), .int (iI 1), .ref (ad 211), .ref (ad 212)])) 211 (eI (cA 0) 400 (updI T d 0))) 212 (eJ (cA 2) 400 (updI G d (-1)))) sc fn th 1 us ut hI (up_n (by decide) (up_n (by decide) (up_s _ _ _))) (up_n (by decide) (up_n (by decide) (up_n (by decide) k5))) (up_n (by decide) (up_n (by decide) (up_n (by decide) k6))) hus hut hmu d (by omega)) (cwV 1 hts gX6_workOut_X6_shiftAt rfl rfl rfl (by decide +kernel) ⟨Nat.le_of_ble_eq_true rfl, Nat.le_of_ble_eq_true rfl⟩) (gR_V hP hK hB 200 (ci := 6) rfl (up_n (by decide) (up_n (by decide) (up_s _ _ _)))) rfl rfl hl.1 rfl (lv_room (Nat.le_of_ble_eq_true rfl)) dX6_workOut_76 ⟨Nat.le_of_ble_eq_true rfl, Nat.le_of_ble_eq_true rfl⟩) (fun v_76 hv_76 => ?_)
              obtain ⟨z_76, rfl, hz_76⟩ := hv_76
              refine W.eq (g2 := F0 m 79 ls [.int (iI z_76), .int (iI ((fn 2) d)), .int (iI z_26), .ref (ad 200)]) rfl ?_
              refine k_isub (pc := 79) hx hb dX6_workOut_79 ?_
              refine k_call0 (pc := 80) (va_runV (As := [.int (iI z_26), .int (iI (((fn 2) d) - z_76))]) (rest := []) ⟨hx, hb, hml, hown, hts⟩ (c_X6_flowFor l D cA ad (up (up (up w 200 (oB 6 [.int (iI th), .int (iI (sc 0)), .ref (ad 201), .ref (ad 202), .ref (ad 203), .ref (ad 204), .int (iI (sc 1)), .ref (ad 205), .ref (ad 206), .ref (ad 207), .ref (ad 208), .ref (ad 209), .int (iI (sc 2)), .int (iI (sc 3)), .int (iI (sc 4)), .ref (ad 210), .int (iI 1), .ref (ad 211), .ref (ad 212)])) 211 (eI (cA 0) 400 (updI T d 0))) 212 (eJ (cA 2) 400 (updI G d (-1)))) sc fn th 1 G1 G2 hI (up_n (by decide) (up_n (by decide) (up_s _ _ _))) (up_n (by decide) (up_n (by decide) (up_n (by decide) k2))) (up_n (by decide) (up_n (by decide) (up_n (by decide) k3))) (up_n (by decide) (up_n (by decide) (up_n (by decide) k4))) hG1 hG2 hmc z_26 (((fn 2) d) - z_76) (by omega) (by omega) (by omega)) (cwV 2 hts gX6_workOut_X6_flowFor rfl rfl rfl (by decide +kernel) ⟨Nat.le_of_ble_eq_true rfl, Nat.le_of_ble_eq_true rfl⟩) (gR_V hP hK hB 200 (ci := 6) rfl (up_n (by decide) (up_n (by decide) (up_s _ _ _)))) rfl rfl hl.1 rfl (lv_room (Nat.le_of_ble_eq_true rfl)) dX6_workOut_80 ⟨Nat.le_of_ble_eq_true rfl, Nat.le_of_ble_eq_true rfl⟩) (fun v_80 hv_80 => ?_)
              obtain ⟨z_80, rfl, hz_80⟩ := hv_80
              refine W.eq (g2 := F0 m 83 ls [.long (lI z_80)]) rfl ?_
              have he_83 : z_80 = opF sc fn d := by rw [hz_80, hz_76, hz_26]; rfl
              rw [he_83]
              refine lv_lstore (pc := 83) (lv' := [(4, .long (lI (opF sc fn d))), (3, .int (iI z_26)), (2, .int (iI d)), (1, .int (iI a)), (0, .ref (ad 200))]) hx hb dX6_workOut_83 hl (by decide) rfl (fun ls hl => ?_)
              refine lv_aload_n (pc := 85) hx hb dX6_workOut_85 rfl (lv_at hl 4 rfl) ?_
              refine k_get (pc := 86) (ci := 6) (C := RX6) (T := TX6) (N := 19) hx hb hts hi6 hown hK hP 200 (up_n (by decide) (up_n (by decide) (up_s _ _ _))) rfl 17 (by decide) hf48 (fun _ h9 => h9) rfl dX6_workOut_86 ?_
              refine lv_iload_n (pc := 89) hx hb dX6_workOut_89 rfl (lv_at hl 2 rfl) ?_
              refine lv_aload_n (pc := 90) hx hb dX6_workOut_90 rfl (lv_at hl 4 rfl) ?_
              refine k_get (pc := 91) (ci := 6) (C := RX6) (T := TX6) (N := 19) hx hb hts hi6 hown hK hP 200 (up_n (by decide) (up_n (by decide) (up_s _ _ _))) rfl 11 (by decide) hf35 (fun _ h9 => h9) rfl dX6_workOut_91 ?_
              refine lv_iload_n (pc := 94) hx hb dX6_workOut_94 rfl (lv_at hl 2 rfl) ?_
              refine k_zald (pc := 95) hx hb hK hP 209 1 (up_n (by decide) (up_n (by decide) (up_n (by decide) k9))) rfl (by omega) (by omega) (by omega) dX6_workOut_95 ?_
              have hq_95 := hI.2.2.2.2.1 d
              refine k_if_eq (pc := 96) (tgt := 103) hx hb ⟨by omega, by omega⟩ dX6_workOut_96 (by decide) (fun hc_96 => ?_) (fun hc_96 => ?_)
              · skip
                refine k_iconst (pc := 103) hx hb dX6_workOut_103 ?_
                refine k_iast (pc := 104) (w1 := (up (up (up w 200 (oB 6 [.int (iI th), .int (iI (sc 0)), .ref (ad 201), .ref (ad 202), .ref (ad 203), .ref (ad 204), .int (iI (sc 1)), .ref (ad 205), .ref (ad 206), .ref (ad 207), .ref (ad 208), .ref (ad 209), .int (iI (sc 2)), .int (iI (sc 3)), .int (iI (sc 4)), .ref (ad 210), .int (iI 1), .ref (ad 211), .ref (ad 212)])) 211 (eI (cA 0) 400 (updI (updI T d 0) d 1))) 212 (eJ (cA 2) 400 (updI G d (-1))))) hx hb hK hP hD hS 211 0 (up_n (by decide) (up_s _ _ _)) rfl (by omega) (by omega) (by omega) ((up_co _ _ _ (by decide)).trans (congrArg (fun u => up u 212 _) (up_up _ _ _ _))) dX6_workOut_104 (fun H locs hP hD hS => ?_)
                refine lv_aload_n (pc := 105) hx hb dX6_workOut_105 rfl (lv_at hl 4 rfl) ?_
                refine k_get (pc := 106) (ci := 6) (C := RX6) (T := TX6) (N := 19) hx hb hts hi6 hown hK hP 200 (up_n (by decide) (up_n (by decide) (up_s _ _ _))) rfl 18 (by decide) hf51 (fun _ h9 => h9) rfl dX6_workOut_106 ?_
                refine lv_iload_n (pc := 109) hx hb dX6_workOut_109 rfl (lv_at hl 2 rfl) ?_
                refine lv_aload_n (pc := 110) hx hb dX6_workOut_110 rfl (lv_at hl 4 rfl) ?_
                refine k_get (pc := 111) (ci := 6) (C := RX6) (T := TX6) (N := 19) hx hb hts hi6 hown hK hP 200 (up_n (by decide) (up_n (by decide) (up_s _ _ _))) rfl 11 (by decide) hf35 (fun _ h9 => h9) rfl dX6_workOut_111 ?_
                refine lv_iload_n (pc := 114) hx hb dX6_workOut_114 rfl (lv_at hl 2 rfl) ?_
                refine k_zald (pc := 115) hx hb hK hP 209 1 (up_n (by decide) (up_n (by decide) (up_n (by decide) k9))) rfl (by omega) (by omega) (by omega) dX6_workOut_115 ?_
                have hq_115 := hI.2.2.2.2.1 d
                refine k_if_eq (pc := 116) (tgt := 134) hx hb ⟨by omega, by omega⟩ dX6_workOut_116 (by decide) (fun hc_116 => ?_) (fun hc_116 => ?_)
                · skip
                  refine lv_lload (pc := 134) hx hb dX6_workOut_134 (lv_at hl 0 rfl) ?_
                  refine k_last (pc := 136) (w1 := (up (up (up w 200 (oB 6 [.int (iI th), .int (iI (sc 0)), .ref (ad 201), .ref (ad 202), .ref (ad 203), .ref (ad 204), .int (iI (sc 1)), .ref (ad 205), .ref (ad 206), .ref (ad 207), .ref (ad 208), .ref (ad 209), .int (iI (sc 2)), .int (iI (sc 3)), .int (iI (sc 4)), .ref (ad 210), .int (iI 1), .ref (ad 211), .ref (ad 212)])) 211 (eI (cA 0) 400 (updI (updI T d 0) d 1))) 212 (eJ (cA 2) 400 (updI (updI G d (-1)) d (opF sc fn d))))) hx hb hK hP hD hS 212 2 (up_s _ _ _) rfl (by omega) (by omega) (by omega) (up_up _ _ _ _) dX6_workOut_136 (fun H locs hP hD hS => ?_)
                  have htt := td_open htd (by omega)
                  have hbv := (tbOk_td hI).1 d
                  rw [htt.1] at hbv
                  have hw2 := wk_x (x := (opF sc fn d)) (y := 1) (x0 := (-1)) (y0 := 0) iW i0.2.2.2
                  have hd2_ : (updI (updI G d (-1)) d (opF sc fn d)) d = tdF sc fn d ∧ (updI (updI T d 0) d 1) d = tdS sc fn d := ⟨by rw [updI_s, htt.1], by rw [updI_s, htt.2]⟩
                  have hS2_ : tdS sc fn d ≠ 0 := by rw [htt.2]; decide
                  refine lv_iload_n (pc := 137) hx hb dX6_workOut_137 rfl (lv_at hl 2 rfl) ?_
                  refine lv_iload_n (pc := 138) hx hb dX6_workOut_138 rfl (lv_at hl 3 rfl) ?_
                  refine k_isub (pc := 139) hx hb dX6_workOut_139 ?_
                  refine k_iconst (pc := 140) hx hb dX6_workOut_140 ?_
                  refine k_isub (pc := 141) hx hb dX6_workOut_141 ?_
                  refine lv_istore (pc := 142) (lv' := [(6, .int (iI ((d - a) - 1))), (4, .long (lI (opF sc fn d))), (3, .int (iI z_26)), (2, .int (iI d)), (1, .int (iI a)), (0, .ref (ad 200))]) hx hb dX6_workOut_142 hl (by decide) rfl (fun ls hl => ?_)
                  refine lv_iload_n (pc := 144) hx hb dX6_workOut_144 rfl (lv_at hl 4 rfl) ?_
                  refine k_iconst (pc := 145) hx hb dX6_workOut_145 ?_
                  refine k_icmp_eq (pc := 146) (tgt := 164) hx hb ⟨by omega, by omega⟩ ⟨by omega, by omega⟩ dX6_workOut_146 (by decide) (fun hc_146 => ?_) (fun hc_146 => ?_)
                  · skip
                    refine lv_iload_n (pc := 164) hx hb dX6_workOut_164 rfl (lv_at hl 3 rfl) ?_
                    refine lv_istore_n (pc := 165) (lv' := [(1, .int (iI d)), (6, .int (iI ((d - a) - 1))), (4, .long (lI (opF sc fn d))), (3, .int (iI z_26)), (2, .int (iI d)), (0, .ref (ad 200))]) hx hb dX6_workOut_165 rfl hl (by decide) rfl (fun ls hl => ?_)
                    refine lv_iinc (pc := 166) (v := iI (d + 1)) (lv' := [(2, .int (iI (d + 1))), (1, .int (iI d)), (6, .int (iI ((d - a) - 1))), (4, .long (lI (opF sc fn d))), (3, .int (iI z_26)), (0, .ref (ad 200))]) hx hb dX6_workOut_166 hl (k := 4) rfl (iI_add _ _) (by decide) rfl (fun ls hl => ?_)
                    refine lv_goto (pc := 169) (tgt := 17) hx hb dX6_workOut_169 (by decide) ?_
                    exact ih_17 (d + 1) d (updI (updI T d 0) d 1) (updI (updI G d (-1)) d (opF sc fn d)) (by omega) (upd_b (upd_b iT (show (0 : Int) ≤ 0 ∧ (0 : Int) ≤ 3 by omega)) (by omega)) (upd_b (upd_b iG (show (-1 : Int) ≤ -1 ∧ (-1 : Int) ≤ 1000000000000 by omega)) hbv) (by by_cases e9 : a = -1; rw [e9] at hw2; exact wk_none hw2 (tbOk_td hI).2.2.2 ⟨i0.1, by omega⟩ hS2_ hd2_; exact wk_long hw2 (tbOk_td hI).2.2.2 ⟨by omega, by omega⟩ (by omega) hS2_ hd2_ (by omega)) (by omega) H locs hP hD hS ls (lv_sub hl [0, 1, 5] rfl)
                  · skip
                    refine lv_iload (pc := 149) hx hb dX6_workOut_149 (lv_at hl 0 rfl) ?_
                    refine lv_aload_n (pc := 151) hx hb dX6_workOut_151 rfl (lv_at hl 5 rfl) ?_
                    refine k_get (pc := 152) (ci := 6) (C := RX6) (T := TX6) (N := 19) hx hb hts hi6 hown hK hP 200 (up_n (by decide) (up_n (by decide) (up_s _ _ _))) rfl 13 (by decide) hf42 (fun _ h9 => h9) rfl dX6_workOut_152 ?_
                    refine k_icmp_gt (pc := 155) (tgt := 164) hx hb ⟨by omega, by omega⟩ ⟨by omega, by omega⟩ dX6_workOut_155 (by decide) (fun hc_155 => ?_) (fun hc_155 => ?_)
                    · skip
                      refine lv_iload_n (pc := 164) hx hb dX6_workOut_164 rfl (lv_at hl 3 rfl) ?_
                      refine lv_istore_n (pc := 165) (lv' := [(1, .int (iI d)), (6, .int (iI ((d - a) - 1))), (4, .long (lI (opF sc fn d))), (3, .int (iI z_26)), (2, .int (iI d)), (0, .ref (ad 200))]) hx hb dX6_workOut_165 rfl hl (by decide) rfl (fun ls hl => ?_)
                      refine lv_iinc (pc := 166) (v := iI (d + 1)) (lv' := [(2, .int (iI (d + 1))), (1, .int (iI d)), (6, .int (iI ((d - a) - 1))), (4, .long (lI (opF sc fn d))), (3, .int (iI z_26)), (0, .ref (ad 200))]) hx hb dX6_workOut_166 hl (k := 4) rfl (iI_add _ _) (by decide) rfl (fun ls hl => ?_)
                      refine lv_goto (pc := 169) (tgt := 17) hx hb dX6_workOut_169 (by decide) ?_
                      exact ih_17 (d + 1) d (updI (updI T d 0) d 1) (updI (updI G d (-1)) d (opF sc fn d)) (by omega) (upd_b (upd_b iT (show (0 : Int) ≤ 0 ∧ (0 : Int) ≤ 3 by omega)) (by omega)) (upd_b (upd_b iG (show (-1 : Int) ≤ -1 ∧ (-1 : Int) ≤ 1000000000000 by omega)) hbv) (by by_cases e9 : a = -1; rw [e9] at hw2; exact wk_none hw2 (tbOk_td hI).2.2.2 ⟨i0.1, by omega⟩ hS2_ hd2_; exact wk_long hw2 (tbOk_td hI).2.2.2 ⟨by omega, by omega⟩ (by omega) hS2_ hd2_ (by omega)) (by omega) H locs hP hD hS ls (lv_sub hl [0, 1, 5] rfl)
                    · skip
                      refine lv_aload_n (pc := 158) hx hb dX6_workOut_158 rfl (lv_at hl 5 rfl) ?_
                      refine lv_iload_n (pc := 159) hx hb dX6_workOut_159 rfl (lv_at hl 4 rfl) ?_
                      refine lv_iload_n (pc := 160) hx hb dX6_workOut_160 rfl (lv_at hl 3 rfl) ?_
                      refine k_call1 (pc := 161) (va_runV (As := [.int (iI a), .int (iI d)]) (rest := []) ⟨hx, hb, hml, hown, hts⟩ (c_X6_fill l D cA ad (up (up (up w 200 (oB 6 [.int (iI th), .int (iI (sc 0)), .ref (ad 201), .ref (ad 202), .ref (ad 203), .ref (ad 204), .int (iI (sc 1)), .ref (ad 205), .ref (ad 206), .ref (ad 207), .ref (ad 208), .ref (ad 209), .int (iI (sc 2)), .int (iI (sc 3)), .int (iI (sc 4)), .ref (ad 210), .int (iI 1), .ref (ad 211), .ref (ad 212)])) 211 (eI (cA 0) 400 (updI (updI T d 0) d 1))) 212 (eJ (cA 2) 400 (updI (updI G d (-1)) d (opF sc fn d)))) H.size sc fn th 1 (updI (updI T d 0) d 1) (updI (updI G d (-1)) d (opF sc fn d)) (up_n (by decide) (up_n (by decide) (up_s _ _ _))) (up_n (by decide) (up_s _ _ _)) (up_s _ _ _) (upd_b (upd_b iT (show (0 : Int) ≤ 0 ∧ (0 : Int) ≤ 3 by omega)) (show (0 : Int) ≤ 1 ∧ (1 : Int) ≤ 3 by omega)) (upd_b (upd_b iG (show (-1 : Int) ≤ -1 ∧ (-1 : Int) ≤ 1000000000000 by omega)) hbv) a d (by omega)) (cwV 2 hts gX6_workOut_X6_fill rfl rfl rfl (by decide +kernel) ⟨Nat.le_of_ble_eq_true rfl, Nat.le_of_ble_eq_true rfl⟩) (gV_V hP hD hK hB hS hA hZ 200 (ci := 6) rfl (up_n (by decide) (up_n (by decide) (up_s _ _ _)))) rfl rfl hl.1 rfl (lv_room (Nat.le_of_ble_eq_true rfl)) dX6_workOut_161 ⟨Nat.le_of_ble_eq_true rfl, Nat.le_of_ble_eq_true rfl⟩) hS (gA_sub hD hS hA) (fun v_161 ad_161 w_161 H locs hv_161 hP hD hS => ?_)
                      obtain ⟨hv1, hv2, hv3⟩ := hv_161
                      subst hv1
                      rw [hv2, hv3] at hP hD
                      rw [show up ((up (up (up w 200 (oB 6 [.int (iI th), .int (iI (sc 0)), .ref (ad 201), .ref (ad 202), .ref (ad 203), .ref (ad 204), .int (iI (sc 1)), .ref (ad 205), .ref (ad 206), .ref (ad 207), .ref (ad 208), .ref (ad 209), .int (iI (sc 2)), .int (iI (sc 3)), .int (iI (sc 4)), .ref (ad 210), .int (iI 1), .ref (ad 211), .ref (ad 212)])) 211 (eI (cA 0) 400 (updI (updI T d 0) d 1))) 212 (eJ (cA 2) 400 (updI (updI G d (-1)) d (opF sc fn d))))) 211 (eI (cA 0) 400 (flS (updI (updI T d 0) d 1) a d)) = _ from ((up_co _ _ _ (by decide)).trans (congrArg (fun u => up u 212 _) (up_up _ _ _ _)))] at hP hD
                      rw [show up ((up (up (up w 200 (oB 6 [.int (iI th), .int (iI (sc 0)), .ref (ad 201), .ref (ad 202), .ref (ad 203), .ref (ad 204), .int (iI (sc 1)), .ref (ad 205), .ref (ad 206), .ref (ad 207), .ref (ad 208), .ref (ad 209), .int (iI (sc 2)), .int (iI (sc 3)), .int (iI (sc 4)), .ref (ad 210), .int (iI 1), .ref (ad 211), .ref (ad 212)])) 211 (eI (cA 0) 400 (flS (updI (updI T d 0) d 1) a d))) 212 (eJ (cA 2) 400 (updI (updI G d (-1)) d (opF sc fn d))))) 212 (eJ (cA 2) 400 (flF (updI (updI G d (-1)) d (opF sc fn d)) a d d)) = _ from (up_up _ _ _ _)] at hP hD
                      refine W.eq (g2 := F0 m 164 ls []) rfl ?_
                      refine W.cs (cells' := 0) (slots' := 0) rfl rfl ?_
                      refine lv_iload_n (pc := 164) hx hb dX6_workOut_164 rfl (lv_at hl 3 rfl) ?_
                      refine lv_istore_n (pc := 165) (lv' := [(1, .int (iI d)), (6, .int (iI ((d - a) - 1))), (4, .long (lI (opF sc fn d))), (3, .int (iI z_26)), (2, .int (iI d)), (0, .ref (ad 200))]) hx hb dX6_workOut_165 rfl hl (by decide) rfl (fun ls hl => ?_)
                      refine lv_iinc (pc := 166) (v := iI (d + 1)) (lv' := [(2, .int (iI (d + 1))), (1, .int (iI d)), (6, .int (iI ((d - a) - 1))), (4, .long (lI (opF sc fn d))), (3, .int (iI z_26)), (0, .ref (ad 200))]) hx hb dX6_workOut_166 hl (k := 4) rfl (iI_add _ _) (by decide) rfl (fun ls hl => ?_)
                      refine lv_goto (pc := 169) (tgt := 17) hx hb dX6_workOut_169 (by decide) ?_
                      exact ih_17 (d + 1) d (flS (updI (updI T d 0) d 1) a d) (flF (updI (updI G d (-1)) d (opF sc fn d)) a d d) (by omega) (flS_b (upd_b (upd_b iT (show (0 : Int) ≤ 0 ∧ (0 : Int) ≤ 3 by omega)) (by omega))) (flF_b (upd_b (upd_b iG (show (-1 : Int) ≤ -1 ∧ (-1 : Int) ≤ 1000000000000 by omega)) hbv) (Int.le_refl _)) (wk_fill hw2 ⟨by omega, by omega⟩ (by omega) hS2_ hd2_ (by omega)) (by omega) H locs hP hD hS ls (lv_sub hl [0, 1, 5] rfl)
                · skip
                  exfalso
                  omega
              · skip
                refine k_iconst (pc := 99) hx hb dX6_workOut_99 ?_
                refine lv_goto (pc := 100) (tgt := 104) hx hb dX6_workOut_100 (by decide) ?_
                refine k_iast (pc := 104) (w1 := (up (up (up w 200 (oB 6 [.int (iI th), .int (iI (sc 0)), .ref (ad 201), .ref (ad 202), .ref (ad 203), .ref (ad 204), .int (iI (sc 1)), .ref (ad 205), .ref (ad 206), .ref (ad 207), .ref (ad 208), .ref (ad 209), .int (iI (sc 2)), .int (iI (sc 3)), .int (iI (sc 4)), .ref (ad 210), .int (iI 1), .ref (ad 211), .ref (ad 212)])) 211 (eI (cA 0) 400 (updI (updI T d 0) d 2))) 212 (eJ (cA 2) 400 (updI G d (-1))))) hx hb hK hP hD hS 211 0 (up_n (by decide) (up_s _ _ _)) rfl (by omega) (by omega) (by omega) ((up_co _ _ _ (by decide)).trans (congrArg (fun u => up u 212 _) (up_up _ _ _ _))) dX6_workOut_104 (fun H locs hP hD hS => ?_)
                refine lv_aload_n (pc := 105) hx hb dX6_workOut_105 rfl (lv_at hl 4 rfl) ?_
                refine k_get (pc := 106) (ci := 6) (C := RX6) (T := TX6) (N := 19) hx hb hts hi6 hown hK hP 200 (up_n (by decide) (up_n (by decide) (up_s _ _ _))) rfl 18 (by decide) hf51 (fun _ h9 => h9) rfl dX6_workOut_106 ?_
                refine lv_iload_n (pc := 109) hx hb dX6_workOut_109 rfl (lv_at hl 2 rfl) ?_
                refine lv_aload_n (pc := 110) hx hb dX6_workOut_110 rfl (lv_at hl 4 rfl) ?_
                refine k_get (pc := 111) (ci := 6) (C := RX6) (T := TX6) (N := 19) hx hb hts hi6 hown hK hP 200 (up_n (by decide) (up_n (by decide) (up_s _ _ _))) rfl 11 (by decide) hf35 (fun _ h9 => h9) rfl dX6_workOut_111 ?_
                refine lv_iload_n (pc := 114) hx hb dX6_workOut_114 rfl (lv_at hl 2 rfl) ?_
                refine k_zald (pc := 115) hx hb hK hP 209 1 (up_n (by decide) (up_n (by decide) (up_n (by decide) k9))) rfl (by omega) (by omega) (by omega) dX6_workOut_115 ?_
                have hq_115 := hI.2.2.2.2.1 d
                refine k_if_eq (pc := 116) (tgt := 134) hx hb ⟨by omega, by omega⟩ dX6_workOut_116 (by decide) (fun hc_116 => ?_) (fun hc_116 => ?_)
                · skip
                  exfalso
                  omega
                · skip
                  refine lv_lload (pc := 119) hx hb dX6_workOut_119 (lv_at hl 0 rfl) ?_
                  refine lv_aload_n (pc := 121) hx hb dX6_workOut_121 rfl (lv_at hl 4 rfl) ?_
                  refine k_get (pc := 122) (ci := 6) (C := RX6) (T := TX6) (N := 19) hx hb hts hi6 hown hK hP 200 (up_n (by decide) (up_n (by decide) (up_s _ _ _))) rfl 12 (by decide) hf38 (fun _ h9 => h9) rfl dX6_workOut_122 ?_
                  refine k_i2l (pc := 125) hx hb ⟨by omega, by omega⟩ dX6_workOut_125 ?_
                  have h80 : -9223372036854775808 ≤ opF sc fn d * sc 2 ∧ opF sc fn d * sc 2 < 9223372036854775808 := by
                    have h9 := mulB (a := opF sc fn d) (b := sc 2) (M := 10000000000) (N := 100) ⟨by omega, by omega⟩ ⟨by omega, by omega⟩
                    constructor <;> omega
                  refine k_lmul (pc := 126) hx hb dX6_workOut_126 ?_
                  refine k_ldc2 (z := 100) (pc := 127) hx hb hown (hts (.constantLong RX6 126 (100)) (by decide +kernel)) (by decide +kernel) dX6_workOut_127 ?_
                  refine k_ldiv (pc := 130) hx hb h80 (by decide) (by decide) dX6_workOut_130 ?_
                  refine lv_goto (pc := 131) (tgt := 136) hx hb dX6_workOut_131 (by decide) ?_
                  refine k_last (pc := 136) (w1 := (up (up (up w 200 (oB 6 [.int (iI th), .int (iI (sc 0)), .ref (ad 201), .ref (ad 202), .ref (ad 203), .ref (ad 204), .int (iI (sc 1)), .ref (ad 205), .ref (ad 206), .ref (ad 207), .ref (ad 208), .ref (ad 209), .int (iI (sc 2)), .int (iI (sc 3)), .int (iI (sc 4)), .ref (ad 210), .int (iI 1), .ref (ad 211), .ref (ad 212)])) 211 (eI (cA 0) 400 (updI (updI T d 0) d 2))) 212 (eJ (cA 2) 400 (updI (updI G d (-1)) d (Int.tdiv ((opF sc fn d) * (sc 2)) 100))))) hx hb hK hP hD hS 212 2 (up_s _ _ _) rfl (by omega) (by omega) (by omega) (up_up _ _ _ _) dX6_workOut_136 (fun H locs hP hD hS => ?_)
                  have htt := td_ice htd (by omega)
                  have hbv := (tbOk_td hI).1 d
                  rw [htt.1] at hbv
                  have hw2 := wk_x (x := (Int.tdiv ((opF sc fn d) * (sc 2)) 100)) (y := 2) (x0 := (-1)) (y0 := 0) iW i0.2.2.2
                  have hd2_ : (updI (updI G d (-1)) d (Int.tdiv ((opF sc fn d) * (sc 2)) 100)) d = tdF sc fn d ∧ (updI (updI T d 0) d 2) d = tdS sc fn d := ⟨by rw [updI_s, htt.1], by rw [updI_s, htt.2]⟩
                  have hS2_ : tdS sc fn d ≠ 0 := by rw [htt.2]; decide
                  refine lv_iload_n (pc := 137) hx hb dX6_workOut_137 rfl (lv_at hl 2 rfl) ?_
                  refine lv_iload_n (pc := 138) hx hb dX6_workOut_138 rfl (lv_at hl 3 rfl) ?_
                  refine k_isub (pc := 139) hx hb dX6_workOut_139 ?_
                  refine k_iconst (pc := 140) hx hb dX6_workOut_140 ?_
                  refine k_isub (pc := 141) hx hb dX6_workOut_141 ?_
                  refine lv_istore (pc := 142) (lv' := [(6, .int (iI ((d - a) - 1))), (4, .long (lI (opF sc fn d))), (3, .int (iI z_26)), (2, .int (iI d)), (1, .int (iI a)), (0, .ref (ad 200))]) hx hb dX6_workOut_142 hl (by decide) rfl (fun ls hl => ?_)
                  refine lv_iload_n (pc := 144) hx hb dX6_workOut_144 rfl (lv_at hl 4 rfl) ?_
                  refine k_iconst (pc := 145) hx hb dX6_workOut_145 ?_
                  refine k_icmp_eq (pc := 146) (tgt := 164) hx hb ⟨by omega, by omega⟩ ⟨by omega, by omega⟩ dX6_workOut_146 (by decide) (fun hc_146 => ?_) (fun hc_146 => ?_)
                  · skip
                    refine lv_iload_n (pc := 164) hx hb dX6_workOut_164 rfl (lv_at hl 3 rfl) ?_
                    refine lv_istore_n (pc := 165) (lv' := [(1, .int (iI d)), (6, .int (iI ((d - a) - 1))), (4, .long (lI (opF sc fn d))), (3, .int (iI z_26)), (2, .int (iI d)), (0, .ref (ad 200))]) hx hb dX6_workOut_165 rfl hl (by decide) rfl (fun ls hl => ?_)
                    refine lv_iinc (pc := 166) (v := iI (d + 1)) (lv' := [(2, .int (iI (d + 1))), (1, .int (iI d)), (6, .int (iI ((d - a) - 1))), (4, .long (lI (opF sc fn d))), (3, .int (iI z_26)), (0, .ref (ad 200))]) hx hb dX6_workOut_166 hl (k := 4) rfl (iI_add _ _) (by decide) rfl (fun ls hl => ?_)
                    refine lv_goto (pc := 169) (tgt := 17) hx hb dX6_workOut_169 (by decide) ?_
                    exact ih_17 (d + 1) d (updI (updI T d 0) d 2) (updI (updI G d (-1)) d (Int.tdiv ((opF sc fn d) * (sc 2)) 100)) (by omega) (upd_b (upd_b iT (show (0 : Int) ≤ 0 ∧ (0 : Int) ≤ 3 by omega)) (by omega)) (upd_b (upd_b iG (show (-1 : Int) ≤ -1 ∧ (-1 : Int) ≤ 1000000000000 by omega)) hbv) (by by_cases e9 : a = -1; rw [e9] at hw2; exact wk_none hw2 (tbOk_td hI).2.2.2 ⟨i0.1, by omega⟩ hS2_ hd2_; exact wk_long hw2 (tbOk_td hI).2.2.2 ⟨by omega, by omega⟩ (by omega) hS2_ hd2_ (by omega)) (by omega) H locs hP hD hS ls (lv_sub hl [0, 1, 5] rfl)
                  · skip
                    refine lv_iload (pc := 149) hx hb dX6_workOut_149 (lv_at hl 0 rfl) ?_
                    refine lv_aload_n (pc := 151) hx hb dX6_workOut_151 rfl (lv_at hl 5 rfl) ?_
                    refine k_get (pc := 152) (ci := 6) (C := RX6) (T := TX6) (N := 19) hx hb hts hi6 hown hK hP 200 (up_n (by decide) (up_n (by decide) (up_s _ _ _))) rfl 13 (by decide) hf42 (fun _ h9 => h9) rfl dX6_workOut_152 ?_
                    refine k_icmp_gt (pc := 155) (tgt := 164) hx hb ⟨by omega, by omega⟩ ⟨by omega, by omega⟩ dX6_workOut_155 (by decide) (fun hc_155 => ?_) (fun hc_155 => ?_)
                    · skip
                      refine lv_iload_n (pc := 164) hx hb dX6_workOut_164 rfl (lv_at hl 3 rfl) ?_
                      refine lv_istore_n (pc := 165) (lv' := [(1, .int (iI d)), (6, .int (iI ((d - a) - 1))), (4, .long (lI (opF sc fn d))), (3, .int (iI z_26)), (2, .int (iI d)), (0, .ref (ad 200))]) hx hb dX6_workOut_165 rfl hl (by decide) rfl (fun ls hl => ?_)
                      refine lv_iinc (pc := 166) (v := iI (d + 1)) (lv' := [(2, .int (iI (d + 1))), (1, .int (iI d)), (6, .int (iI ((d - a) - 1))), (4, .long (lI (opF sc fn d))), (3, .int (iI z_26)), (0, .ref (ad 200))]) hx hb dX6_workOut_166 hl (k := 4) rfl (iI_add _ _) (by decide) rfl (fun ls hl => ?_)
                      refine lv_goto (pc := 169) (tgt := 17) hx hb dX6_workOut_169 (by decide) ?_
                      exact ih_17 (d + 1) d (updI (updI T d 0) d 2) (updI (updI G d (-1)) d (Int.tdiv ((opF sc fn d) * (sc 2)) 100)) (by omega) (upd_b (upd_b iT (show (0 : Int) ≤ 0 ∧ (0 : Int) ≤ 3 by omega)) (by omega)) (upd_b (upd_b iG (show (-1 : Int) ≤ -1 ∧ (-1 : Int) ≤ 1000000000000 by omega)) hbv) (by by_cases e9 : a = -1; rw [e9] at hw2; exact wk_none hw2 (tbOk_td hI).2.2.2 ⟨i0.1, by omega⟩ hS2_ hd2_; exact wk_long hw2 (tbOk_td hI).2.2.2 ⟨by omega, by omega⟩ (by omega) hS2_ hd2_ (by omega)) (by omega) H locs hP hD hS ls (lv_sub hl [0, 1, 5] rfl)
                    · skip
                      refine lv_aload_n (pc := 158) hx hb dX6_workOut_158 rfl (lv_at hl 5 rfl) ?_
                      refine lv_iload_n (pc := 159) hx hb dX6_workOut_159 rfl (lv_at hl 4 rfl) ?_
                      refine lv_iload_n (pc := 160) hx hb dX6_workOut_160 rfl (lv_at hl 3 rfl) ?_
                      refine k_call1 (pc := 161) (va_runV (As := [.int (iI a), .int (iI d)]) (rest := []) ⟨hx, hb, hml, hown, hts⟩ (c_X6_fill l D cA ad (up (up (up w 200 (oB 6 [.int (iI th), .int (iI (sc 0)), .ref (ad 201), .ref (ad 202), .ref (ad 203), .ref (ad 204), .int (iI (sc 1)), .ref (ad 205), .ref (ad 206), .ref (ad 207), .ref (ad 208), .ref (ad 209), .int (iI (sc 2)), .int (iI (sc 3)), .int (iI (sc 4)), .ref (ad 210), .int (iI 1), .ref (ad 211), .ref (ad 212)])) 211 (eI (cA 0) 400 (updI (updI T d 0) d 2))) 212 (eJ (cA 2) 400 (updI (updI G d (-1)) d (Int.tdiv ((opF sc fn d) * (sc 2)) 100)))) H.size sc fn th 1 (updI (updI T d 0) d 2) (updI (updI G d (-1)) d (Int.tdiv ((opF sc fn d) * (sc 2)) 100)) (up_n (by decide) (up_n (by decide) (up_s _ _ _))) (up_n (by decide) (up_s _ _ _)) (up_s _ _ _) (upd_b (upd_b iT (show (0 : Int) ≤ 0 ∧ (0 : Int) ≤ 3 by omega)) (show (0 : Int) ≤ 2 ∧ (2 : Int) ≤ 3 by omega)) (upd_b (upd_b iG (show (-1 : Int) ≤ -1 ∧ (-1 : Int) ≤ 1000000000000 by omega)) hbv) a d (by omega)) (cwV 2 hts gX6_workOut_X6_fill rfl rfl rfl (by decide +kernel) ⟨Nat.le_of_ble_eq_true rfl, Nat.le_of_ble_eq_true rfl⟩) (gV_V hP hD hK hB hS hA hZ 200 (ci := 6) rfl (up_n (by decide) (up_n (by decide) (up_s _ _ _)))) rfl rfl hl.1 rfl (lv_room (Nat.le_of_ble_eq_true rfl)) dX6_workOut_161 ⟨Nat.le_of_ble_eq_true rfl, Nat.le_of_ble_eq_true rfl⟩) hS (gA_sub hD hS hA) (fun v_161 ad_161 w_161 H locs hv_161 hP hD hS => ?_)
                      obtain ⟨hv1, hv2, hv3⟩ := hv_161
                      subst hv1
                      rw [hv2, hv3] at hP hD
                      rw [show up ((up (up (up w 200 (oB 6 [.int (iI th), .int (iI (sc 0)), .ref (ad 201), .ref (ad 202), .ref (ad 203), .ref (ad 204), .int (iI (sc 1)), .ref (ad 205), .ref (ad 206), .ref (ad 207), .ref (ad 208), .ref (ad 209), .int (iI (sc 2)), .int (iI (sc 3)), .int (iI (sc 4)), .ref (ad 210), .int (iI 1), .ref (ad 211), .ref (ad 212)])) 211 (eI (cA 0) 400 (updI (updI T d 0) d 2))) 212 (eJ (cA 2) 400 (updI (updI G d (-1)) d (Int.tdiv ((opF sc fn d) * (sc 2)) 100))))) 211 (eI (cA 0) 400 (flS (updI (updI T d 0) d 2) a d)) = _ from ((up_co _ _ _ (by decide)).trans (congrArg (fun u => up u 212 _) (up_up _ _ _ _)))] at hP hD
                      rw [show up ((up (up (up w 200 (oB 6 [.int (iI th), .int (iI (sc 0)), .ref (ad 201), .ref (ad 202), .ref (ad 203), .ref (ad 204), .int (iI (sc 1)), .ref (ad 205), .ref (ad 206), .ref (ad 207), .ref (ad 208), .ref (ad 209), .int (iI (sc 2)), .int (iI (sc 3)), .int (iI (sc 4)), .ref (ad 210), .int (iI 1), .ref (ad 211), .ref (ad 212)])) 211 (eI (cA 0) 400 (flS (updI (updI T d 0) d 2) a d))) 212 (eJ (cA 2) 400 (updI (updI G d (-1)) d (Int.tdiv ((opF sc fn d) * (sc 2)) 100))))) 212 (eJ (cA 2) 400 (flF (updI (updI G d (-1)) d (Int.tdiv ((opF sc fn d) * (sc 2)) 100)) a d d)) = _ from (up_up _ _ _ _)] at hP hD
                      refine W.eq (g2 := F0 m 164 ls []) rfl ?_
                      refine W.cs (cells' := 0) (slots' := 0) rfl rfl ?_
                      refine lv_iload_n (pc := 164) hx hb dX6_workOut_164 rfl (lv_at hl 3 rfl) ?_
                      refine lv_istore_n (pc := 165) (lv' := [(1, .int (iI d)), (6, .int (iI ((d - a) - 1))), (4, .long (lI (opF sc fn d))), (3, .int (iI z_26)), (2, .int (iI d)), (0, .ref (ad 200))]) hx hb dX6_workOut_165 rfl hl (by decide) rfl (fun ls hl => ?_)
                      refine lv_iinc (pc := 166) (v := iI (d + 1)) (lv' := [(2, .int (iI (d + 1))), (1, .int (iI d)), (6, .int (iI ((d - a) - 1))), (4, .long (lI (opF sc fn d))), (3, .int (iI z_26)), (0, .ref (ad 200))]) hx hb dX6_workOut_166 hl (k := 4) rfl (iI_add _ _) (by decide) rfl (fun ls hl => ?_)
                      refine lv_goto (pc := 169) (tgt := 17) hx hb dX6_workOut_169 (by decide) ?_
                      exact ih_17 (d + 1) d (flS (updI (updI T d 0) d 2) a d) (flF (updI (updI G d (-1)) d (Int.tdiv ((opF sc fn d) * (sc 2)) 100)) a d d) (by omega) (flS_b (upd_b (upd_b iT (show (0 : Int) ≤ 0 ∧ (0 : Int) ≤ 3 by omega)) (by omega))) (flF_b (upd_b (upd_b iG (show (-1 : Int) ≤ -1 ∧ (-1 : Int) ≤ 1000000000000 by omega)) hbv) (Int.le_refl _)) (wk_fill hw2 ⟨by omega, by omega⟩ (by omega) hS2_ hd2_ (by omega)) (by omega) H locs hP hD hS ls (lv_sub hl [0, 1, 5] rfl)
            · skip
              refine lv_goto (pc := 63) (tgt := 166) hx hb dX6_workOut_63 (by decide) ?_
              refine lv_iinc (pc := 166) (v := iI (d + 1)) (lv' := [(2, .int (iI (d + 1))), (3, .int (iI z_26)), (1, .int (iI a)), (0, .ref (ad 200))]) hx hb dX6_workOut_166 hl (k := 1) rfl (iI_add _ _) (by decide) rfl (fun ls hl => ?_)
              refine lv_goto (pc := 169) (tgt := 17) hx hb dX6_workOut_169 (by decide) ?_
              have hno := td_no (sc := sc) (fn := fn) (d := d) (fun z => by have z1 : fn 3 d ≠ 0 ∧ cvno sc fn d ≠ -1 ∧ 2 ≤ fn 9 (cvno sc fn d) := z; rw [← hz_26] at z1; omega)
              exact ih_17 (d + 1) a (updI T d 0) (updI G d (-1)) (by omega) (upd_b iT (show (0 : Int) ≤ 0 ∧ (0 : Int) ≤ 3 by omega)) (upd_b iG (show (-1 : Int) ≤ -1 ∧ (-1 : Int) ≤ 1000000000000 by omega)) (wk_no iW i0.2.2.2 hno.2 hno.1.symm hno.2.symm) (by omega) H locs hP hD hS ls (lv_sub hl [0, 2, 3] rfl)
    have hW9 : ((up w 200 (oB 6 [.int (iI th), .int (iI (sc 0)), .ref (ad 201), .ref (ad 202), .ref (ad 203), .ref (ad 204), .int (iI (sc 1)), .ref (ad 205), .ref (ad 206), .ref (ad 207), .ref (ad 208), .ref (ad 209), .int (iI (sc 2)), .int (iI (sc 3)), .int (iI (sc 4)), .ref (ad 210), .int (iI 1), .ref (ad 211), .ref (ad 212)]))) = (up (up (up w 200 (oB 6 [.int (iI th), .int (iI (sc 0)), .ref (ad 201), .ref (ad 202), .ref (ad 203), .ref (ad 204), .int (iI (sc 1)), .ref (ad 205), .ref (ad 206), .ref (ad 207), .ref (ad 208), .ref (ad 209), .int (iI (sc 2)), .int (iI (sc 3)), .int (iI (sc 4)), .ref (ad 210), .int (iI 1), .ref (ad 211), .ref (ad 212)])) 211 (eI (cA 0) 400 S)) 212 (eJ (cA 2) 400 F)) := by rw [up_self (up_n (by omega) k11), up_self (up_n (by omega) k12)]
    rw [hW9] at hP hD
    exact lp_17 _ 0 (-1) S F (by omega) hS9 hF wk_0 (Nat.lt_succ_self _) H locs hP hD hS ls (lv_sub hl [0, 1, 2] rfl)
  · skip
    have hrk1 : fr = 1 ∧ F = tbF sc fn ∧ S = tbS sc fn := hrk.resolve_left (by omega)
    rw [hQ9]
    exact W.vret hx hb hret (fun t ht hW => ⟨⟨none, ad, w, rfl, ⟨rfl, rfl, by rw [← hrk1.2.1, ← hrk1.2.2, ← hrk1.1, up_self k0, up_self k11, up_self k12]⟩, by rw [ht]; exact hP, hD⟩, hS.F ht⟩) hS.2.2 dX6_workOut_7
