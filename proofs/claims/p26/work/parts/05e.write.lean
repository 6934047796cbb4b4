def spanF (f : Int → Int) (d m : Int) (v : Int → Int) : Int → Int := fun j => if d ≤ j ∧ j < d + m then v j else f j
theorem spanF_0 (f : Int → Int) (d : Int) (v : Int → Int) : spanF f d 0 v = f := by
  funext j
  unfold spanF
  rw [if_neg (by omega)]
theorem spanF_s (f : Int → Int) {d m : Int} (v : Int → Int) (h : 0 ≤ m) {x : Int} (hx : x = v (d + m)) : updI (spanF f d m v) (d + m) x = spanF f d (m + 1) v := by
  funext j
  unfold updI spanF
  by_cases h1 : j = d + m
  · subst h1
    rw [if_pos rfl, if_pos (by omega), hx]
  · rw [if_neg h1]
    by_cases h2 : d ≤ j ∧ j < d + m
    · rw [if_pos h2, if_pos (by omega)]
    · rw [if_neg h2, if_neg (by omega)]
theorem spanF_b {f v : Int → Int} {lo hi d m : Int} (h : ∀ j : Int, lo ≤ f j ∧ f j ≤ hi) (hv : ∀ j : Int, d ≤ j → j < d + m → lo ≤ v j ∧ v j ≤ hi) : ∀ j : Int, lo ≤ spanF f d m v j ∧ spanF f d m v j ≤ hi := by
  intro j
  unfold spanF
  by_cases h2 : d ≤ j ∧ j < d + m
  · rw [if_pos h2]
    exact hv j h2.1 h2.2
  · rw [if_neg h2]
    exact h j
theorem lin_bd {a r n i lo hi : Int} (h0 : lo ≤ a ∧ a ≤ hi) (h1 : lo ≤ a + r * (n - 1) ∧ a + r * (n - 1) ≤ hi) (hi_ : 0 ≤ i ∧ i < n) : lo ≤ a + r * i ∧ a + r * i ≤ hi := by
  rcases Int.le_total 0 r with h | h
  · have c1 : r * i ≤ r * (n - 1) := Int.mul_le_mul_of_nonneg_left (by omega) h
    have c2 := Int.mul_nonneg h hi_.1
    omega
  · have c1 : -r * i ≤ -r * (n - 1) := Int.mul_le_mul_of_nonneg_left (by omega) (by omega)
    have c2 := Int.mul_nonneg (show 0 ≤ -r by omega) hi_.1
    rw [Int.neg_mul, Int.neg_mul] at c1
    rw [Int.neg_mul] at c2
    omega
theorem inv_2 {sc : Nat → Int} {fn : Nat → Int → Int} (h : bkInv sc fn) {g : Int → Int} (hg : ∀ j : Int, -500 ≤ g j ∧ g j ≤ 2000) : bkInv sc (upF fn 2 g) := by
  obtain ⟨a1, a2, a3, a4, a5, a6, a7, a8, a9, a10, a11⟩ := h
  exact ⟨a1, a2, hg, a4, a5, a6, a7, a8, a9, a10, fun k hk => by rw [upF_n (by omega), upF_n (by omega)]; exact a11 k hk⟩
theorem inv_3 {sc : Nat → Int} {fn : Nat → Int → Int} (h : bkInv sc fn) {g : Int → Int} (hg : ∀ j : Int, 0 ≤ g j ∧ g j ≤ 1) : bkInv sc (upF fn 3 g) := by
  obtain ⟨a1, a2, a3, a4, a5, a6, a7, a8, a9, a10, a11⟩ := h
  exact ⟨a1, a2, a3, hg, a5, a6, a7, a8, a9, a10, fun k hk => by rw [upF_n (by omega), upF_n (by omega)]; exact a11 k hk⟩
theorem inv_4 {sc : Nat → Int} {fn : Nat → Int → Int} (h : bkInv sc fn) {g : Int → Int} (hg : ∀ j : Int, 0 ≤ g j ∧ g j ≤ 1) : bkInv sc (upF fn 4 g) := by
  obtain ⟨a1, a2, a3, a4, a5, a6, a7, a8, a9, a10, a11⟩ := h
  exact ⟨a1, a2, a3, a4, hg, a6, a7, a8, a9, a10, fun k hk => by rw [upF_n (by omega), upF_n (by omega)]; exact a11 k hk⟩
theorem inv_ru {sc : Nat → Int} {fn : Nat → Int → Int} (h : bkInv sc fn) {x y : Int} (hx : 0 ≤ x ∧ x ≤ 100) (hy : 0 ≤ y ∧ y ≤ 60) : bkInv (upS (upS sc 2 x) 3 y) fn := by
  obtain ⟨⟨b1, b2, b3, b4, b5⟩, a2, a3, a4, a5, a6, a7, a8, a9, a10, a11⟩ := h
  exact ⟨⟨b1, b2, hx, hy, b5⟩, a2, a3, a4, a5, a6, a7, a8, a9, a10, a11⟩
theorem inv_sh {sc : Nat → Int} {fn : Nat → Int → Int} (h : bkInv sc fn) {g1 g2 : Int → Int} {n : Int} (hn : 0 ≤ n ∧ n ≤ 20) (hg : shOk g1 g2 n) : bkInv (upS sc 1 n) (upF (upF fn 0 g1) 1 g2) := by
  obtain ⟨⟨b1, b2, b3, b4, b5⟩, a2, a3, a4, a5, a6, a7, a8, a9, a10, a11⟩ := h
  exact ⟨⟨b1, hn, b3, b4, b5⟩, hg, a3, a4, a5, a6, a7, a8, a9, a10, fun k hk => by rw [upF_n (by omega), upF_n (by omega), upF_n (by omega), upF_n (by omega)]; exact a11 k hk⟩
theorem upS_self {sc : Nat → Int} {i : Nat} {v : Int} (h : sc i = v) : upS sc i v = sc := by
  funext j
  unfold upS
  by_cases h1 : j = i
  · rw [if_pos h1, h1, h]
  · rw [if_neg h1]
theorem upF_self {fn : Nat → Int → Int} {i : Nat} {g : Int → Int} (h : fn i = g) : upF fn i g = fn := by
  funext j
  unfold upF
  by_cases h1 : j = i
  · rw [if_pos h1, h1, h]
  · rw [if_neg h1]
/-- a point more for a curve -/
def ptF (fn : Nat → Int → Int) (k : Nat) (p s q : Int) : Nat → Int → Int := upF (upF (upF fn (20 + k) (insF (fn (20 + k)) (fn 9 (k : Int)) p s)) (30 + k) (insF (fn (30 + k)) (fn 9 (k : Int)) p q)) 9 (updI (fn 9) (k : Int) (fn 9 (k : Int) + 1))
theorem ptF_low {fn : Nat → Int → Int} {k i : Nat} {p s q : Int} (h : i < 9) : ptF fn k p s q i = fn i := by
  unfold ptF
  rw [upF_n (by omega), upF_n (by omega), upF_n (by omega)]
theorem ptF_st {fn : Nat → Int → Int} {k j : Nat} {p s q : Int} (hj : j < 6) : ptF fn k p s q (20 + j) = if j = k then insF (fn (20 + k)) (fn 9 (k : Int)) p s else fn (20 + j) := by
  unfold ptF
  rw [upF_n (by omega)]
  by_cases h : j = k
  · subst h
    rw [if_pos rfl, upF_n (by omega), upF_s]
  · rw [if_neg h]
    unfold upF
    rw [if_neg (by omega), if_neg (by omega)]
theorem ptF_fl {fn : Nat → Int → Int} {k j : Nat} {p s q : Int} (hk : k < 6) (hj : j < 6) : ptF fn k p s q (30 + j) = if j = k then insF (fn (30 + k)) (fn 9 (k : Int)) p q else fn (30 + j) := by
  unfold ptF
  rw [upF_n (by omega)]
  by_cases h : j = k
  · subst h
    rw [if_pos rfl, upF_s]
  · rw [if_neg h]
    unfold upF
    rw [if_neg (by omega), if_neg (by omega)]
theorem ptF_n {fn : Nat → Int → Int} {k : Nat} {p s q : Int} : ptF fn k p s q 9 = updI (fn 9) (k : Int) (fn 9 (k : Int) + 1) := by
  unfold ptF
  rw [upF_s]
theorem inv_pt {sc : Nat → Int} {fn : Nat → Int → Int} (h : bkInv sc fn) {k : Nat} (hk : (k : Int) < sc 0) {p s q : Int} (hs : -500 ≤ s ∧ s ≤ 2000) (hq : 0 ≤ q ∧ q ≤ 1000000) (hp : clP (fn (20 + k)) (fn 9 (k : Int)) s p) (hc : canP (fn (20 + k)) (fn (30 + k)) (fn 9 (k : Int)) s q p) : bkInv sc (ptF fn k p s q) := by
  obtain ⟨a1, a2, a3, a4, a5, a6, a7, a8, a9, a10, a11⟩ := h
  have b := a10 (k : Int)
  have c := hc.1
  refine ⟨a1, by rw [ptF_low (by omega), ptF_low (by omega)]; exact a2, by rw [ptF_low (by omega)]; exact a3, by rw [ptF_low (by omega)]; exact a4, by rw [ptF_low (by omega)]; exact a5, by rw [ptF_low (by omega)]; exact a6, by rw [ptF_low (by omega)]; exact a7, by rw [ptF_low (by omega)]; exact a8, by rw [ptF_low (by omega)]; exact a9, ?_, fun j hj => ?_⟩
  · rw [ptF_n]
    exact upd_b a10 (by omega)
  · have d := a1.1
    rw [ptF_st (by omega), ptF_fl (by omega) (by omega), ptF_n]
    by_cases e : j = k
    · subst e
      rw [if_pos rfl, if_pos rfl, updI_s]
      exact cvOk_ins (a11 j hj) b.1 hs hq hp hc
    · rw [if_neg e, if_neg e, updI_n _ _ (by omega)]
      exact a11 j hj

abbrev rmX5_erase : Room := { frames := 8, cells := 2, slots := 12, locals := 123 }
theorem hiX5_erase_5 : ∀ w ∈ wsX50, w ∈ wsX5_erase := by decide +kernel
set_option maxHeartbeats 4000000 in
set_option maxRecDepth 100000 in
theorem c_X5_erase (l : Launch) (hl0 : l.stackTraces = false) (D : va_G) (cA : Nat → ClassId) (ad : Nat → Nat) (w : Nat → Option va_E) (sz : Nat) (sc : Nat → Int) (fn : Nat → Int → Int) (hI : bkInv sc fn) (hbk : bookS cA ad w sc fn) (d n : Int) (hd : (-2147483648 ≤ d ∧ d < 2147483648)) (hn : (-2147483648 ≤ n ∧ n < 2147483648)) : vx_Met l yX5_erase wsX5_erase rmX5_erase (gV D cA ad w sz [.ref (ad 0), .int (iI d), .int (iI n)]) (gW D (fun v9 ad1 w1 => ∃ (sc2 : Nat → Int) (fn2 : Nat → Int → Int), bookS cA ad1 w1 sc2 fn2 ∧ bkInv sc2 fn2 ∧ keepR ad ad1 w w1 ∧ (sc2 = sc ∧ fn2 = (upF fn 3 (spanF (fn 3) d n (fun _ => 0))) ∧ (0 ≤ d ∧ d < 400 ∧ 1 ≤ n ∧ d + n ≤ 400) ∧ v9 = some (.int (iI (cntT (fn 3) d n.toNat))))) (gA ad w sz)) (gX D (fun E => E = xIA ∧ ¬ (0 ≤ d ∧ d < 400 ∧ 1 ≤ n ∧ d + n ≤ 400)) ad w (gA ad w sz)) 2 12 (gA ad w sz) := by
  refine vx_ofW (cc := cX5_erase) (maxL := 5) (ret := (some .int)) (by decide) rfl ?_
  intro p e s m args below meth c s₁ B hml hE hv
  obtain ⟨hav, hsz, hP, hD0, hK, hB, hZ⟩ := hv
  have hx := B.exec
  have hb := B.bytes
  have hret := B.returns
  have hts := atoms_spec (ws := wsX5_erase) B.pre
  have hown : s.vm.findClass RX5 = some m.cls := findClass_of_methodNamed B.named
  have hlocks := B.notSynchronized
  subst hsz
  have hD := hD0.self (sz := s.heap.size)
  generalize hAe : gA ad w s.heap.size = A at hD hZ ⊢
  have hA : ∀ q : Nat, s.heap.size ≤ q → A q := fun q h => by rw [← hAe]; exact Or.inr h
  have hS : va_S A s.heap s.heap [] := va_S.rf
  have hi5 := hiX5_erase_5
  have hf26 := hts (.fieldLink RX5 26 "GaugeBook" "hasStage" "[Z") (by decide +kernel)
  have hf82 := hts (.fieldLink RX5 82 "GaugeBook" "isReckoned" "Z") (by decide +kernel)
  have he9 : entryFrame m args 5 = F0 m 0 ((lg_sl ([.ref (ad 0), .int (iI d), .int (iI n)] : List Value) ++ List.replicate (5 - (lg_sl ([.ref (ad 0), .int (iI d), .int (iI n)] : List Value)).length) Slot.unset).toArray) [] := by rw [hav, lg_entry_eq]
  rw [he9]
  have hl := lv_entry ([.ref (ad 0), .int (iI d), .int (iI n)] : List Value) (n := 5) (Nat.le_of_ble_eq_true rfl)
  generalize (lg_sl ([.ref (ad 0), .int (iI d), .int (iI n)] : List Value) ++ List.replicate (5 - (lg_sl ([.ref (ad 0), .int (iI d), .int (iI n)] : List Value)).length) Slot.unset).toArray = ls at hl ⊢
  have hl : lv_has ls 5 [(0, .ref (ad 0)), (1, .int (iI d)), (2, .int (iI n))] := hl
  obtain ⟨Q9, hQ9⟩ : ∃ z, z = vx_MQ below (gW D (fun v9 ad1 w1 => ∃ (sc2 : Nat → Int) (fn2 : Nat → Int → Int), bookS cA ad1 w1 sc2 fn2 ∧ bkInv sc2 fn2 ∧ keepR ad ad1 w w1 ∧ (sc2 = sc ∧ fn2 = (upF fn 3 (spanF (fn 3) d n (fun _ => 0))) ∧ (0 ≤ d ∧ d < 400 ∧ 1 ≤ n ∧ d + n ≤ 400) ∧ v9 = some (.int (iI (cntT (fn 3) d n.toNat))))) A) (gX D (fun E => E = xIA ∧ ¬ (0 ≤ d ∧ d < 400 ∧ 1 ≤ n ∧ d + n ≤ 400)) ad w A) args s 2 12 A := ⟨_, rfl⟩
  rw [← hQ9]
  show W p l e rmX5_erase s m args below meth c s.heap [] 0 0 Q9 (F0 m 0 ls [])
  obtain ⟨H, hHe⟩ : ∃ z, z = s.heap := ⟨_, rfl⟩
  obtain ⟨locs, hLe⟩ : ∃ z, z = ([] : List Loc) := ⟨_, rfl⟩
  have hP : gP D vwCl ad w H := by rw [hHe]; exact hP
  have hS : va_S A s.heap H locs := by rw [hHe, hLe]; exact va_S.rf
  rw [show W p l e rmX5_erase s m args below meth c s.heap [] 0 0 Q9 (F0 m 0 ls []) = W p l e rmX5_erase s m args below meth c H locs 0 0 Q9 (F0 m 0 ls []) by rw [hHe, hLe]]
  clear hHe hLe
  obtain ⟨rk, F, S, rn, rd, rm_, rz, ⟨h0, h1, h2, h3, h4, h5, h6, h7, h8, h9, h10, h11, h12, h13, h14, h15, hcv, hms⟩, hrk, hF, hS9⟩ := hbk
  have hI1 := hI.1
  refine lv_iload_n (pc := 0) hx hb dX5_erase_0 rfl (lv_at hl 1 rfl) ?_
  refine lv_iload_n (pc := 1) hx hb dX5_erase_1 rfl (lv_at hl 2 rfl) ?_
  refine k_callx (pc := 2) (vx_runS (As := [.int (iI d), .int (iI n)]) (rest := []) ⟨hx, hb, hml, hown, hts⟩ (c_X5_requireSpan l hl0 D cA ad w H.size d n ⟨by omega, by omega⟩ ⟨by omega, by omega⟩) (va_cwS 2 hts gX5_erase_X5_requireSpan rfl rfl rfl (by decide +kernel) ⟨Nat.le_of_ble_eq_true rfl, Nat.le_of_ble_eq_true rfl⟩) (gV_S hP hD hK hB hS hA hZ) rfl rfl hl.1 rfl (lv_room (Nat.le_of_ble_eq_true rfl)) dX5_erase_2 ⟨Nat.le_of_ble_eq_true rfl, Nat.le_of_ble_eq_true rfl⟩) hS (gA_sub hD hS hA) (fun E_2 ce_2 q_2 H locs hpx_2 hP hD hS hce_2 hcv_2 hcl_2 => ?_) (fun v_2 ad_2 w_2 H locs hv_2 hP hD hS => ?_)
  · skip
    rw [hQ9]
    exact vx_out (fun x h => (hE x h).elim) hlocks hce_2 hcv_2 hcl_2 (fun t ht hW => ⟨hpx_2, by rw [ht]; exact hP, hD, hS.F ht⟩) hS.2.2 (by decide) (by decide)
  · skip
    obtain ⟨hv1, hv2, hv3, hq_2⟩ := hv_2
    subst hv1
    rw [hv2, hv3] at hP hD
    refine W.eq (g2 := F0 m 5 ls []) rfl ?_
    refine W.cs (cells' := 2) (slots' := 12) rfl rfl ?_
    refine lv_aload_n (pc := 5) hx hb dX5_erase_5 rfl (lv_at hl 0 rfl) ?_
    refine k_get (pc := 6) (ci := 5) (C := RX5) (T := TX5) (N := 13) hx hb hts hi5 hown hK hP 0 h0 rfl 3 (by decide) hf26 (fun _ h9 => h9) rfl dX5_erase_6 ?_
    refine lv_iload_n (pc := 9) hx hb dX5_erase_9 rfl (lv_at hl 1 rfl) ?_
    refine lv_iload_n (pc := 10) hx hb dX5_erase_10 rfl (lv_at hl 2 rfl) ?_
    refine k_call0 (pc := 11) (va_runS (As := [.ref (ad 6), .int (iI d), .int (iI n)]) (rest := []) ⟨hx, hb, hml, hown, hts⟩ (c_X5_countTrue l D cA ad w 6 (fn 3) d n h6 (fun j9 => by have h9_ := hI.2.2.2.1 j9; omega) (by omega)) (va_cwS 3 hts gX5_erase_X5_countTrue rfl rfl rfl (by decide +kernel) ⟨Nat.le_of_ble_eq_true rfl, Nat.le_of_ble_eq_true rfl⟩) (gR_S hP hK hB) rfl rfl hl.1 rfl (lv_room (Nat.le_of_ble_eq_true rfl)) dX5_erase_11 ⟨Nat.le_of_ble_eq_true rfl, Nat.le_of_ble_eq_true rfl⟩) (fun v_11 hv_11 => ?_)
    obtain ⟨z_11, rfl, hz_11, hy_11, hw_11⟩ := hv_11
    refine W.eq (g2 := F0 m 14 ls [.int (iI z_11)]) rfl ?_
    have he_14 : z_11 = cntT (fn 3) d n.toNat := by omega
    rw [he_14]
    refine lv_istore_n (pc := 14) (lv' := [(3, .int (iI (cntT (fn 3) d n.toNat))), (0, .ref (ad 0)), (1, .int (iI d)), (2, .int (iI n))]) hx hb dX5_erase_14 rfl hl (by decide) rfl (fun ls hl => ?_)
    refine k_iconst (pc := 15) hx hb dX5_erase_15 ?_
    refine lv_istore (pc := 16) (lv' := [(4, .int (iI 0)), (3, .int (iI (cntT (fn 3) d n.toNat))), (0, .ref (ad 0)), (1, .int (iI d)), (2, .int (iI n))]) hx hb dX5_erase_16 hl (by decide) rfl (fun ls hl => ?_)
    have lp_18 : ∀ (N9 : Nat) (i : Int), (0 ≤ i ∧ i ≤ n) → (n - i).toNat < N9 → ∀ (H : Heap) (locs : List Loc), gP D vwCl ad (up w 6 (eI (cA 1) 400 (spanF (fn 3) d i (fun _ => 0)))) H → gD A ad (up w 6 (eI (cA 1) 400 (spanF (fn 3) d i (fun _ => 0)))) → va_S A s.heap H locs → ∀ (ls : Array Slot), lv_has ls 5 [(4, .int (iI i)), (3, .int (iI (cntT (fn 3) d n.toNat))), (0, .ref (ad 0)), (1, .int (iI d)), (2, .int (iI n))] → W p l e rmX5_erase s m args below meth c H locs 2 12 Q9 (F0 m 18 ls []) := by
      intro N9
      induction N9 with
      | zero => intro i i0 hmu; exact absurd hmu (Nat.not_lt_zero _)
      | succ N9 ih_18 =>
        intro i i0 hmu_18 H locs hP hD hS ls hl
        refine lv_iload (pc := 18) hx hb dX5_erase_18 (lv_at hl 0 rfl) ?_
        refine lv_iload_n (pc := 20) hx hb dX5_erase_20 rfl (lv_at hl 4 rfl) ?_
        refine k_icmp_ge (pc := 21) (tgt := 40) hx hb ⟨by omega, by omega⟩ ⟨by omega, by omega⟩ dX5_erase_21 (by decide) (fun hc_21 => ?_) (fun hc_21 => ?_)
        · skip
          have hin_ : i = n := by omega
          rw [hin_] at hP hD
          refine lv_aload_n (pc := 40) hx hb dX5_erase_40 rfl (lv_at hl 2 rfl) ?_
          refine k_iconst (pc := 41) hx hb dX5_erase_41 ?_
          refine k_put (pc := 42) (ci := 5) (C := RX5) (T := TX5) (N := 13) (ty := .boolean) (v := .int (iI 0)) (w1 := (up (up w 6 (eI (cA 1) 400 (spanF (fn 3) d n (fun _ => 0)))) 0 (oB 5 [.ref (ad 1), .ref (ad 2), .ref (ad 5), .ref (ad 6), .ref (ad 7), .ref (ad 8), .ref (ad 9), .ref (ad 12), .int (iI (sc 0)), .int (iI (sc 4)), .int (iI (sc 2)), .int (iI (sc 3)), .int (iI 0)]))) hx hb hts hi5 tyX5 tyX5_ok nmX5 hown hK hP hD hS 0 (up_n (by decide) h0) rfl 12 (by decide) hf82 (fun _ h9 => h9) rfl (by decide +kernel) (by decide +kernel) rfl (Nat.le_of_ble_eq_true rfl) rfl dX5_erase_42 (fun H locs hP hD hS => ?_)
          refine lv_iload_n (pc := 45) hx hb dX5_erase_45 rfl (lv_at hl 1 rfl) ?_
          rw [hQ9]
          refine vx_ret ?_
          exact W.iret (v := iI (cntT (fn 3) d n.toNat)) hx hb hret (fun t ht hW => ⟨⟨some (.int (iI (cntT (fn 3) d n.toNat))), ad, (up (up w 6 (eI (cA 1) 400 (spanF (fn 3) d n (fun _ => 0)))) 0 (oB 5 [.ref (ad 1), .ref (ad 2), .ref (ad 5), .ref (ad 6), .ref (ad 7), .ref (ad 8), .ref (ad 9), .ref (ad 12), .int (iI (sc 0)), .int (iI (sc 4)), .int (iI (sc 2)), .int (iI (sc 3)), .int (iI 0)])), rfl, ⟨sc, (upF fn 3 (spanF (fn 3) d n (fun _ => 0))), ⟨0, F, S, rn, rd, rm_, rz, ⟨(up_s _ _ _), (up_n (by decide) (up_n (by decide) h1)), (up_n (by decide) (up_n (by decide) h2)), (up_n (by decide) (up_n (by decide) h3)), (up_n (by decide) (up_n (by decide) h4)), (up_n (by decide) (up_n (by decide) h5)), (up_n (by decide) (up_s _ _ _)), (up_n (by decide) (up_n (by decide) h7)), (up_n (by decide) (up_n (by decide) h8)), (up_n (by decide) (up_n (by decide) h9)), (up_n (by decide) (up_n (by decide) h10)), (up_n (by decide) (up_n (by decide) h11)), (up_n (by decide) (up_n (by decide) h12)), (up_n (by decide) (up_n (by decide) h13)), (up_n (by decide) (up_n (by decide) h14)), (up_n (by decide) (up_n (by decide) h15)), (fun k9 hk9 => by have h9_ := (cv_keep (fn2 := (upF fn 3 (spanF (fn 3) d n (fun _ => 0)))) hcv rfl rfl (fun k => ⟨(upF_n (by omega)), (upF_n (by omega))⟩)) k9 hk9; have i9_ := hI.1.1; exact ⟨(up_n (by omega) (up_n (by omega) h9_.1)), (up_n (by omega) (up_n (by omega) h9_.2.1)), (up_n (by omega) (up_n (by omega) h9_.2.2))⟩), (fun k9 hk9 => by have h9_ := hms k9 hk9; have i9_ := hI.1.2.2.2.2; exact (up_n (by omega) (up_n (by omega) h9_)))⟩, (Or.inl rfl), hF, hS9⟩, (inv_3 hI (spanF_b hI.2.2.2.1 (fun j g1 g2 => by omega))), ⟨rfl, fun r hr => ⟨(up_n (by omega) (up_n (by omega) rfl)), rfl⟩⟩, ⟨rfl, rfl, by omega, rfl⟩⟩, by rw [ht]; exact hP, hD⟩, hS.F ht⟩) hS.2.2 dX5_erase_46
        · skip
          refine lv_aload_n (pc := 24) hx hb dX5_erase_24 rfl (lv_at hl 2 rfl) ?_
          refine k_get (pc := 25) (ci := 5) (C := RX5) (T := TX5) (N := 13) hx hb hts hi5 hown hK hP 0 (up_n (by decide) h0) rfl 3 (by decide) hf26 (fun _ h9 => h9) rfl dX5_erase_25 ?_
          refine lv_iload_n (pc := 28) hx hb dX5_erase_28 rfl (lv_at hl 3 rfl) ?_
          refine lv_iload (pc := 29) hx hb dX5_erase_29 (lv_at hl 0 rfl) ?_
          refine k_iadd (pc := 31) hx hb dX5_erase_31 ?_
          refine k_iconst (pc := 32) hx hb dX5_erase_32 ?_
          refine k_zast (pc := 33) (w1 := (up w 6 (eI (cA 1) 400 (updI (spanF (fn 3) d i (fun _ => 0)) (d + i) 0)))) hx hb hK hP hD hS 6 1 (up_s _ _ _) rfl (by omega) (by omega) (by omega) (Or.inl rfl) (up_up _ _ _ _) dX5_erase_33 (fun H locs hP hD hS => ?_)
          refine lv_iinc (pc := 34) (v := iI (i + 1)) (lv' := [(4, .int (iI (i + 1))), (3, .int (iI (cntT (fn 3) d n.toNat))), (0, .ref (ad 0)), (1, .int (iI d)), (2, .int (iI n))]) hx hb dX5_erase_34 hl (k := 0) rfl (iI_add _ _) (by decide) rfl (fun ls hl => ?_)
          refine lv_goto (pc := 37) (tgt := 18) hx hb dX5_erase_37 (by decide) ?_
          have hW9 : ((up w 6 (eI (cA 1) 400 (updI (spanF (fn 3) d i (fun _ => 0)) (d + i) 0)))) = (up w 6 (eI (cA 1) 400 (spanF (fn 3) d (i + 1) (fun _ => 0)))) := by rw [spanF_s (fn 3) (fun _ => 0) (by omega) rfl]
          rw [hW9] at hP hD
          exact ih_18 (i + 1) (by omega) (by omega) H locs hP hD hS ls (lv_sub hl [0, 1, 2, 3, 4] rfl)
    have hW9 : (w) = (up w 6 (eI (cA 1) 400 (spanF (fn 3) d 0 (fun _ => 0)))) := by rw [spanF_0, up_self h6]
    rw [hW9] at hP hD
    exact lp_18 _ 0 (by omega) (Nat.lt_succ_self _) H locs hP hD hS ls (lv_sub hl [0, 1, 2, 3, 4] rfl)

abbrev rmX5_freeze : Room := { frames := 8, cells := 2, slots := 12, locals := 123 }
theorem hiX5_freeze_5 : ∀ w ∈ wsX50, w ∈ wsX5_freeze := by decide +kernel
set_option maxHeartbeats 4000000 in
set_option maxRecDepth 100000 in
theorem c_X5_freeze (l : Launch) (hl0 : l.stackTraces = false) (D : va_G) (cA : Nat → ClassId) (ad : Nat → Nat) (w : Nat → Option va_E) (sz : Nat) (sc : Nat → Int) (fn : Nat → Int → Int) (hI : bkInv sc fn) (hbk : bookS cA ad w sc fn) (d n : Int) (hd : (-2147483648 ≤ d ∧ d < 2147483648)) (hn : (-2147483648 ≤ n ∧ n < 2147483648)) (ib : Int) (hib : ib = 0 ∨ ib = 1) : vx_Met l yX5_freeze wsX5_freeze rmX5_freeze (gV D cA ad w sz [.ref (ad 0), .int (iI d), .int (iI n), .int (iI ib)]) (gW D (fun v9 ad1 w1 => ∃ (sc2 : Nat → Int) (fn2 : Nat → Int → Int), bookS cA ad1 w1 sc2 fn2 ∧ bkInv sc2 fn2 ∧ keepR ad ad1 w w1 ∧ (sc2 = sc ∧ fn2 = (upF fn 4 (spanF (fn 4) d n (fun _ => ib))) ∧ (0 ≤ d ∧ d < 400 ∧ 1 ≤ n ∧ d + n ≤ 400) ∧ v9 = some (.int (iI (if ib = 0 then cntT (fn 4) d n.toNat else n - cntT (fn 4) d n.toNat))))) (gA ad w sz)) (gX D (fun E => E = xIA ∧ ¬ (0 ≤ d ∧ d < 400 ∧ 1 ≤ n ∧ d + n ≤ 400)) ad w (gA ad w sz)) 2 12 (gA ad w sz) := by
  refine vx_ofW (cc := cX5_freeze) (maxL := 6) (ret := (some .int)) (by decide) rfl ?_
  intro p e s m args below meth c s₁ B hml hE hv
  obtain ⟨hav, hsz, hP, hD0, hK, hB, hZ⟩ := hv
  have hx := B.exec
  have hb := B.bytes
  have hret := B.returns
  have hts := atoms_spec (ws := wsX5_freeze) B.pre
  have hown : s.vm.findClass RX5 = some m.cls := findClass_of_methodNamed B.named
  have hlocks := B.notSynchronized
  subst hsz
  have hD := hD0.self (sz := s.heap.size)
  generalize hAe : gA ad w s.heap.size = A at hD hZ ⊢
  have hA : ∀ q : Nat, s.heap.size ≤ q → A q := fun q h => by rw [← hAe]; exact Or.inr h
  have hS : va_S A s.heap s.heap [] := va_S.rf
  have hi5 := hiX5_freeze_5
  have hf30 := hts (.fieldLink RX5 30 "GaugeBook" "ice" "[Z") (by decide +kernel)
  have hf82 := hts (.fieldLink RX5 82 "GaugeBook" "isReckoned" "Z") (by decide +kernel)
  have he9 : entryFrame m args 6 = F0 m 0 ((lg_sl ([.ref (ad 0), .int (iI d), .int (iI n), .int (iI ib)] : List Value) ++ List.replicate (6 - (lg_sl ([.ref (ad 0), .int (iI d), .int (iI n), .int (iI ib)] : List Value)).length) Slot.unset).toArray) [] := by rw [hav, lg_entry_eq]
  rw [he9]
  have hl := lv_entry ([.ref (ad 0), .int (iI d), .int (iI n), .int (iI ib)] : List Value) (n := 6) (Nat.le_of_ble_eq_true rfl)
  generalize (lg_sl ([.ref (ad 0), .int (iI d), .int (iI n), .int (iI ib)] : List Value) ++ List.replicate (6 - (lg_sl ([.ref (ad 0), .int (iI d), .int (iI n), .int (iI ib)] : List Value)).length) Slot.unset).toArray = ls at hl ⊢
  have hl : lv_has ls 6 [(0, .ref (ad 0)), (1, .int (iI d)), (2, .int (iI n)), (3, .int (iI ib))] := hl
  obtain ⟨Q9, hQ9⟩ : ∃ z, z = vx_MQ below (gW D (fun v9 ad1 w1 => ∃ (sc2 : Nat → Int) (fn2 : Nat → Int → Int), bookS cA ad1 w1 sc2 fn2 ∧ bkInv sc2 fn2 ∧ keepR ad ad1 w w1 ∧ (sc2 = sc ∧ fn2 = (upF fn 4 (spanF (fn 4) d n (fun _ => ib))) ∧ (0 ≤ d ∧ d < 400 ∧ 1 ≤ n ∧ d + n ≤ 400) ∧ v9 = some (.int (iI (if ib = 0 then cntT (fn 4) d n.toNat else n - cntT (fn 4) d n.toNat))))) A) (gX D (fun E => E = xIA ∧ ¬ (0 ≤ d ∧ d < 400 ∧ 1 ≤ n ∧ d + n ≤ 400)) ad w A) args s 2 12 A := ⟨_, rfl⟩
  rw [← hQ9]
  show W p l e rmX5_freeze s m args below meth c s.heap [] 0 0 Q9 (F0 m 0 ls [])
  obtain ⟨H, hHe⟩ : ∃ z, z = s.heap := ⟨_, rfl⟩
  obtain ⟨locs, hLe⟩ : ∃ z, z = ([] : List Loc) := ⟨_, rfl⟩
  have hP : gP D vwCl ad w H := by rw [hHe]; exact hP
  have hS : va_S A s.heap H locs := by rw [hHe, hLe]; exact va_S.rf
  rw [show W p l e rmX5_freeze s m args below meth c s.heap [] 0 0 Q9 (F0 m 0 ls []) = W p l e rmX5_freeze s m args below meth c H locs 0 0 Q9 (F0 m 0 ls []) by rw [hHe, hLe]]
  clear hHe hLe
  obtain ⟨rk, F, S, rn, rd, rm_, rz, ⟨h0, h1, h2, h3, h4, h5, h6, h7, h8, h9, h10, h11, h12, h13, h14, h15, hcv, hms⟩, hrk, hF, hS9⟩ := hbk
  have hI1 := hI.1
  refine lv_iload_n (pc := 0) hx hb dX5_freeze_0 rfl (lv_at hl 1 rfl) ?_
  refine lv_iload_n (pc := 1) hx hb dX5_freeze_1 rfl (lv_at hl 2 rfl) ?_
  refine k_callx (pc := 2) (vx_runS (As := [.int (iI d), .int (iI n)]) (rest := []) ⟨hx, hb, hml, hown, hts⟩ (c_X5_requireSpan l hl0 D cA ad w H.size d n ⟨by omega, by omega⟩ ⟨by omega, by omega⟩) (va_cwS 2 hts gX5_freeze_X5_requireSpan rfl rfl rfl (by decide +kernel) ⟨Nat.le_of_ble_eq_true rfl, Nat.le_of_ble_eq_true rfl⟩) (gV_S hP hD hK hB hS hA hZ) rfl rfl hl.1 rfl (lv_room (Nat.le_of_ble_eq_true rfl)) dX5_freeze_2 ⟨Nat.le_of_ble_eq_true rfl, Nat.le_of_ble_eq_true rfl⟩) hS (gA_sub hD hS hA) (fun E_2 ce_2 q_2 H locs hpx_2 hP hD hS hce_2 hcv_2 hcl_2 => ?_) (fun v_2 ad_2 w_2 H locs hv_2 hP hD hS => ?_)
  · skip
    rw [hQ9]
    exact vx_out (fun x h => (hE x h).elim) hlocks hce_2 hcv_2 hcl_2 (fun t ht hW => ⟨hpx_2, by rw [ht]; exact hP, hD, hS.F ht⟩) hS.2.2 (by decide) (by decide)
  · skip
    obtain ⟨hv1, hv2, hv3, hq_2⟩ := hv_2
    subst hv1
    rw [hv2, hv3] at hP hD
    refine W.eq (g2 := F0 m 5 ls []) rfl ?_
    refine W.cs (cells' := 2) (slots' := 12) rfl rfl ?_
    refine lv_aload_n (pc := 5) hx hb dX5_freeze_5 rfl (lv_at hl 0 rfl) ?_
    refine k_get (pc := 6) (ci := 5) (C := RX5) (T := TX5) (N := 13) hx hb hts hi5 hown hK hP 0 h0 rfl 4 (by decide) hf30 (fun _ h9 => h9) rfl dX5_freeze_6 ?_
    refine lv_iload_n (pc := 9) hx hb dX5_freeze_9 rfl (lv_at hl 1 rfl) ?_
    refine lv_iload_n (pc := 10) hx hb dX5_freeze_10 rfl (lv_at hl 2 rfl) ?_
    refine k_call0 (pc := 11) (va_runS (As := [.ref (ad 7), .int (iI d), .int (iI n)]) (rest := []) ⟨hx, hb, hml, hown, hts⟩ (c_X5_countTrue l D cA ad w 7 (fn 4) d n h7 (fun j9 => by have h9_ := hI.2.2.2.2.1 j9; omega) (by omega)) (va_cwS 3 hts gX5_freeze_X5_countTrue rfl rfl rfl (by decide +kernel) ⟨Nat.le_of_ble_eq_true rfl, Nat.le_of_ble_eq_true rfl⟩) (gR_S hP hK hB) rfl rfl hl.1 rfl (lv_room (Nat.le_of_ble_eq_true rfl)) dX5_freeze_11 ⟨Nat.le_of_ble_eq_true rfl, Nat.le_of_ble_eq_true rfl⟩) (fun v_11 hv_11 => ?_)
    obtain ⟨z_11, rfl, hz_11, hy_11, hw_11⟩ := hv_11
    refine W.eq (g2 := F0 m 14 ls [.int (iI z_11)]) rfl ?_
    have he_14 : z_11 = cntT (fn 4) d n.toNat := by omega
    rw [he_14]
    refine lv_istore (pc := 14) (lv' := [(4, .int (iI (cntT (fn 4) d n.toNat))), (0, .ref (ad 0)), (1, .int (iI d)), (2, .int (iI n)), (3, .int (iI ib))]) hx hb dX5_freeze_14 hl (by decide) rfl (fun ls hl => ?_)
    refine k_iconst (pc := 16) hx hb dX5_freeze_16 ?_
    refine lv_istore (pc := 17) (lv' := [(5, .int (iI 0)), (4, .int (iI (cntT (fn 4) d n.toNat))), (0, .ref (ad 0)), (1, .int (iI d)), (2, .int (iI n)), (3, .int (iI ib))]) hx hb dX5_freeze_17 hl (by decide) rfl (fun ls hl => ?_)
    have lp_19 : ∀ (N9 : Nat) (i : Int), (0 ≤ i ∧ i ≤ n) → (n - i).toNat < N9 → ∀ (H : Heap) (locs : List Loc), gP D vwCl ad (up w 7 (eI (cA 1) 400 (spanF (fn 4) d i (fun _ => ib)))) H → gD A ad (up w 7 (eI (cA 1) 400 (spanF (fn 4) d i (fun _ => ib)))) → va_S A s.heap H locs → ∀ (ls : Array Slot), lv_has ls 6 [(5, .int (iI i)), (4, .int (iI (cntT (fn 4) d n.toNat))), (0, .ref (ad 0)), (1, .int (iI d)), (2, .int (iI n)), (3, .int (iI ib))] → W p l e rmX5_freeze s m args below meth c H locs 2 12 Q9 (F0 m 19 ls []) := by
      intro N9
      induction N9 with
      | zero => intro i i0 hmu; exact absurd hmu (Nat.not_lt_zero _)
      | succ N9 ih_19 =>
        intro i i0 hmu_19 H locs hP hD hS ls hl
        refine lv_iload (pc := 19) hx hb dX5_freeze_19 (lv_at hl 0 rfl) ?_
        refine lv_iload_n (pc := 21) hx hb dX5_freeze_21 rfl (lv_at hl 4 rfl) ?_
        refine k_icmp_ge (pc := 22) (tgt := 41) hx hb ⟨by omega, by omega⟩ ⟨by omega, by omega⟩ dX5_freeze_22 (by decide) (fun hc_22 => ?_) (fun hc_22 => ?_)
        · skip
          have hin_ : i = n := by omega
          rw [hin_] at hP hD
          refine lv_aload_n (pc := 41) hx hb dX5_freeze_41 rfl (lv_at hl 2 rfl) ?_
          refine k_iconst (pc := 42) hx hb dX5_freeze_42 ?_
          refine k_put (pc := 43) (ci := 5) (C := RX5) (T := TX5) (N := 13) (ty := .boolean) (v := .int (iI 0)) (w1 := (up (up w 7 (eI (cA 1) 400 (spanF (fn 4) d n (fun _ => ib)))) 0 (oB 5 [.ref (ad 1), .ref (ad 2), .ref (ad 5), .ref (ad 6), .ref (ad 7), .ref (ad 8), .ref (ad 9), .ref (ad 12), .int (iI (sc 0)), .int (iI (sc 4)), .int (iI (sc 2)), .int (iI (sc 3)), .int (iI 0)]))) hx hb hts hi5 tyX5 tyX5_ok nmX5 hown hK hP hD hS 0 (up_n (by decide) h0) rfl 12 (by decide) hf82 (fun _ h9 => h9) rfl (by decide +kernel) (by decide +kernel) rfl (Nat.le_of_ble_eq_true rfl) rfl dX5_freeze_43 (fun H locs hP hD hS => ?_)
          refine lv_iload_n (pc := 46) hx hb dX5_freeze_46 rfl (lv_at hl 5 rfl) ?_
          refine k_if_eq (pc := 47) (tgt := 57) hx hb ⟨by omega, by omega⟩ dX5_freeze_47 (by decide) (fun hc_47 => ?_) (fun hc_47 => ?_)
          · skip
            refine lv_iload (pc := 57) hx hb dX5_freeze_57 (lv_at hl 1 rfl) ?_
            have he_59 : cntT (fn 4) d n.toNat = if ib = 0 then cntT (fn 4) d n.toNat else n - cntT (fn 4) d n.toNat := by first | rw [if_pos (by omega)] | rw [if_neg (by omega)]
            rw [he_59]
            rw [hQ9]
            refine vx_ret ?_
            exact W.iret (v := iI (if ib = 0 then cntT (fn 4) d n.toNat else n - cntT (fn 4) d n.toNat)) hx hb hret (fun t ht hW => ⟨⟨some (.int (iI (if ib = 0 then cntT (fn 4) d n.toNat else n - cntT (fn 4) d n.toNat))), ad, (up (up w 7 (eI (cA 1) 400 (spanF (fn 4) d n (fun _ => ib)))) 0 (oB 5 [.ref (ad 1), .ref (ad 2), .ref (ad 5), .ref (ad 6), .ref (ad 7), .ref (ad 8), .ref (ad 9), .ref (ad 12), .int (iI (sc 0)), .int (iI (sc 4)), .int (iI (sc 2)), .int (iI (sc 3)), .int (iI 0)])), rfl, ⟨sc, (upF fn 4 (spanF (fn 4) d n (fun _ => ib))), ⟨0, F, S, rn, rd, rm_, rz, ⟨(up_s _ _ _), (up_n (by decide) (up_n (by decide) h1)), (up_n (by decide) (up_n (by decide) h2)), (up_n (by decide) (up_n (by decide) h3)), (up_n (by decide) (up_n (by decide) h4)), (up_n (by decide) (up_n (by decide) h5)), (up_n (by decide) (up_n (by decide) h6)), (up_n (by decide) (up_s _ _ _)), (up_n (by decide) (up_n (by decide) h8)), (up_n (by decide) (up_n (by decide) h9)), (up_n (by decide) (up_n (by decide) h10)), (up_n (by decide) (up_n (by decide) h11)), (up_n (by decide) (up_n (by decide) h12)), (up_n (by decide) (up_n (by decide) h13)), (up_n (by decide) (up_n (by decide) h14)), (up_n (by decide) (up_n (by decide) h15)), (fun k9 hk9 => by have h9_ := (cv_keep (fn2 := (upF fn 4 (spanF (fn 4) d n (fun _ => ib)))) hcv rfl rfl (fun k => ⟨(upF_n (by omega)), (upF_n (by omega))⟩)) k9 hk9; have i9_ := hI.1.1; exact ⟨(up_n (by omega) (up_n (by omega) h9_.1)), (up_n (by omega) (up_n (by omega) h9_.2.1)), (up_n (by omega) (up_n (by omega) h9_.2.2))⟩), (fun k9 hk9 => by have h9_ := hms k9 hk9; have i9_ := hI.1.2.2.2.2; exact (up_n (by omega) (up_n (by omega) h9_)))⟩, (Or.inl rfl), hF, hS9⟩, (inv_4 hI (spanF_b hI.2.2.2.2.1 (fun j g1 g2 => by omega))), ⟨rfl, fun r hr => ⟨(up_n (by omega) (up_n (by omega) rfl)), rfl⟩⟩, ⟨rfl, rfl, by omega, rfl⟩⟩, by rw [ht]; exact hP, hD⟩, hS.F ht⟩) hS.2.2 dX5_freeze_59
          · skip
            refine lv_iload_n (pc := 50) hx hb dX5_freeze_50 rfl (lv_at hl 4 rfl) ?_
            refine lv_iload (pc := 51) hx hb dX5_freeze_51 (lv_at hl 1 rfl) ?_
            refine k_isub (pc := 53) hx hb dX5_freeze_53 ?_
            refine lv_goto (pc := 54) (tgt := 59) hx hb dX5_freeze_54 (by decide) ?_
            have he_59 : n - (cntT (fn 4) d n.toNat) = if ib = 0 then cntT (fn 4) d n.toNat else n - cntT (fn 4) d n.toNat := by first | rw [if_pos (by omega)] | rw [if_neg (by omega)]
            rw [he_59]
            rw [hQ9]
            refine vx_ret ?_
            exact W.iret (v := iI (if ib = 0 then cntT (fn 4) d n.toNat else n - cntT (fn 4) d n.toNat)) hx hb hret (fun t ht hW => ⟨⟨some (.int (iI (if ib = 0 then cntT (fn 4) d n.toNat else n - cntT (fn 4) d n.toNat))), ad, (up (up w 7 (eI (cA 1) 400 (spanF (fn 4) d n (fun _ => ib)))) 0 (oB 5 [.ref (ad 1), .ref (ad 2), .ref (ad 5), .ref (ad 6), .ref (ad 7), .ref (ad 8), .ref (ad 9), .ref (ad 12), .int (iI (sc 0)), .int (iI (sc 4)), .int (iI (sc 2)), .int (iI (sc 3)), .int (iI 0)])), rfl, ⟨sc, (upF fn 4 (spanF (fn 4) d n (fun _ => ib))), ⟨0, F, S, rn, rd, rm_, rz, ⟨(up_s _ _ _), (up_n (by decide) (up_n (by decide) h1)), (up_n (by decide) (up_n (by decide) h2)), (up_n (by decide) (up_n (by decide) h3)), (up_n (by decide) (up_n (by decide) h4)), (up_n (by decide) (up_n (by decide) h5)), (up_n (by decide) (up_n (by decide) h6)), (up_n (by decide) (up_s _ _ _)), (up_n (by decide) (up_n (by decide) h8)), (up_n (by decide) (up_n (by decide) h9)), (up_n (by decide) (up_n (by decide) h10)), (up_n (by decide) (up_n (by decide) h11)), (up_n (by decide) (up_n (by decide) h12)), (up_n (by decide) (up_n (by decide) h13)), (up_n (by decide) (up_n (by decide) h14)), (up_n (by decide) (up_n (by decide) h15)), (fun k9 hk9 => by have h9_ := (cv_keep (fn2 := (upF fn 4 (spanF (fn 4) d n (fun _ => ib)))) hcv rfl rfl (fun k => ⟨(upF_n (by omega)), (upF_n (by omega))⟩)) k9 hk9; have i9_ := hI.1.1; exact ⟨(up_n (by omega) (up_n (by omega) h9_.1)), (up_n (by omega) (up_n (by omega) h9_.2.1)), (up_n (by omega) (up_n (by omega) h9_.2.2))⟩), (fun k9 hk9 => by have h9_ := hms k9 hk9; have i9_ := hI.1.2.2.2.2; exact (up_n (by omega) (up_n (by omega) h9_)))⟩, (Or.inl rfl), hF, hS9⟩, (inv_4 hI (spanF_b hI.2.2.2.2.1 (fun j g1 g2 => by omega))), ⟨rfl, fun r hr => ⟨(up_n (by omega) (up_n (by omega) rfl)), rfl⟩⟩, ⟨rfl, rfl, by omega, rfl⟩⟩, by rw [ht]; exact hP, hD⟩, hS.F ht⟩) hS.2.2 dX5_freeze_59
        · skip
          refine lv_aload_n (pc := 25) hx hb dX5_freeze_25 rfl (lv_at hl 2 rfl) ?_
          refine k_get (pc := 26) (ci := 5) (C := RX5) (T := TX5) (N := 13) hx hb hts hi5 hown hK hP 0 (up_n (by decide) h0) rfl 4 (by decide) hf30 (fun _ h9 => h9) rfl dX5_freeze_26 ?_
          refine lv_iload_n (pc := 29) hx hb dX5_freeze_29 rfl (lv_at hl 3 rfl) ?_
          refine lv_iload (pc := 30) hx hb dX5_freeze_30 (lv_at hl 0 rfl) ?_
          refine k_iadd (pc := 32) hx hb dX5_freeze_32 ?_
          refine lv_iload_n (pc := 33) hx hb dX5_freeze_33 rfl (lv_at hl 5 rfl) ?_
          refine k_zast (pc := 34) (w1 := (up w 7 (eI (cA 1) 400 (updI (spanF (fn 4) d i (fun _ => ib)) (d + i) ib)))) hx hb hK hP hD hS 7 1 (up_s _ _ _) rfl (by omega) (by omega) (by omega) hib (up_up _ _ _ _) dX5_freeze_34 (fun H locs hP hD hS => ?_)
          refine lv_iinc (pc := 35) (v := iI (i + 1)) (lv' := [(5, .int (iI (i + 1))), (4, .int (iI (cntT (fn 4) d n.toNat))), (0, .ref (ad 0)), (1, .int (iI d)), (2, .int (iI n)), (3, .int (iI ib))]) hx hb dX5_freeze_35 hl (k := 0) rfl (iI_add _ _) (by decide) rfl (fun ls hl => ?_)
          refine lv_goto (pc := 38) (tgt := 19) hx hb dX5_freeze_38 (by decide) ?_
          have hW9 : ((up w 7 (eI (cA 1) 400 (updI (spanF (fn 4) d i (fun _ => ib)) (d + i) ib)))) = (up w 7 (eI (cA 1) 400 (spanF (fn 4) d (i + 1) (fun _ => ib)))) := by rw [spanF_s (fn 4) (fun _ => ib) (by omega) rfl]
          rw [hW9] at hP hD
          exact ih_19 (i + 1) (by omega) (by omega) H locs hP hD hS ls (lv_sub hl [0, 1, 2, 3, 4, 5] rfl)
    have hW9 : (w) = (up w 7 (eI (cA 1) 400 (spanF (fn 4) d 0 (fun _ => ib)))) := by rw [spanF_0, up_self h7]
    rw [hW9] at hP hD
    exact lp_19 _ 0 (by omega) (Nat.lt_succ_self _) H locs hP hD hS ls (lv_sub hl [0, 1, 2, 3, 4, 5] rfl)

abbrev rmX5_read : Room := { frames := 8, cells := 4, slots := 24, locals := 123 }
theorem hiX5_read_5 : ∀ w ∈ wsX50, w ∈ wsX5_read := by decide +kernel
set_option maxHeartbeats 4000000 in
set_option maxRecDepth 100000 in
theorem c_X5_read (l : Launch) (hl0 : l.stackTraces = false) (D : va_G) (cA : Nat → ClassId) (ad : Nat → Nat) (w : Nat → Option va_E) (sz : Nat) (sc : Nat → Int) (fn : Nat → Int → Int) (hI : bkInv sc fn) (hbk : bookS cA ad w sc fn) (d n : Int) (hd : (-2147483648 ≤ d ∧ d < 2147483648)) (hn : (-2147483648 ≤ n ∧ n < 2147483648)) (sg ri : Int) (hsg : (-2147483648 ≤ sg ∧ sg < 2147483648)) (hri : (-2147483648 ≤ ri ∧ ri < 2147483648)) : vx_Met l yX5_read wsX5_read rmX5_read (gV D cA ad w sz [.ref (ad 0), .int (iI d), .int (iI n), .int (iI sg), .int (iI ri)]) (gW D (fun v9 ad1 w1 => ∃ (sc2 : Nat → Int) (fn2 : Nat → Int → Int), bookS cA ad1 w1 sc2 fn2 ∧ bkInv sc2 fn2 ∧ keepR ad ad1 w w1 ∧ (sc2 = sc ∧ fn2 = (upF (upF fn 2 (spanF (fn 2) d n (fun j => sg + ri * (j - d)))) 3 (spanF (fn 3) d n (fun _ => 1))) ∧ ((0 ≤ d ∧ d < 400 ∧ 1 ≤ n ∧ d + n ≤ 400) ∧ (-500 ≤ sg ∧ sg ≤ 2000) ∧ (-500 ≤ sg + ri * (n - 1) ∧ sg + ri * (n - 1) ≤ 2000)) ∧ v9 = some (.int (iI (cntT (fn 3) d n.toNat))))) (gA ad w sz)) (gX D (fun E => E = xIA ∧ ¬ ((0 ≤ d ∧ d < 400 ∧ 1 ≤ n ∧ d + n ≤ 400) ∧ (-500 ≤ sg ∧ sg ≤ 2000) ∧ (-500 ≤ sg + ri * (n - 1) ∧ sg + ri * (n - 1) ≤ 2000))) ad w (gA ad w sz)) 4 24 (gA ad w sz) := by
  refine vx_ofW (cc := cX5_read) (maxL := 7) (ret := (some .int)) (by decide) rfl ?_
  intro p e s m args below meth c s₁ B hml hE hv
  obtain ⟨hav, hsz, hP, hD0, hK, hB, hZ⟩ := hv
  have hx := B.exec
  have hb := B.bytes
  have hret := B.returns
  have hts := atoms_spec (ws := wsX5_read) B.pre
  have hown : s.vm.findClass RX5 = some m.cls := findClass_of_methodNamed B.named
  have hlocks := B.notSynchronized
  subst hsz
  have hD := hD0.self (sz := s.heap.size)
  generalize hAe : gA ad w s.heap.size = A at hD hZ ⊢
  have hA : ∀ q : Nat, s.heap.size ≤ q → A q := fun q h => by rw [← hAe]; exact Or.inr h
  have hS : va_S A s.heap s.heap [] := va_S.rf
  have hi5 := hiX5_read_5
  have hf22 := hts (.fieldLink RX5 22 "GaugeBook" "stages" "[I") (by decide +kernel)
  have hf26 := hts (.fieldLink RX5 26 "GaugeBook" "hasStage" "[Z") (by decide +kernel)
  have hf82 := hts (.fieldLink RX5 82 "GaugeBook" "isReckoned" "Z") (by decide +kernel)
  have he9 : entryFrame m args 7 = F0 m 0 ((lg_sl ([.ref (ad 0), .int (iI d), .int (iI n), .int (iI sg), .int (iI ri)] : List Value) ++ List.replicate (7 - (lg_sl ([.ref (ad 0), .int (iI d), .int (iI n), .int (iI sg), .int (iI ri)] : List Value)).length) Slot.unset).toArray) [] := by rw [hav, lg_entry_eq]
  rw [he9]
  have hl := lv_entry ([.ref (ad 0), .int (iI d), .int (iI n), .int (iI sg), .int (iI ri)] : List Value) (n := 7) (Nat.le_of_ble_eq_true rfl)
  generalize (lg_sl ([.ref (ad 0), .int (iI d), .int (iI n), .int (iI sg), .int (iI ri)] : List Value) ++ List.replicate (7 - (lg_sl ([.ref (ad 0), .int (iI d), .int (iI n), .int (iI sg), .int (iI ri)] : List Value)).length) Slot.unset).toArray = ls at hl ⊢
  have hl : lv_has ls 7 [(0, .ref (ad 0)), (1, .int (iI d)), (2, .int (iI n)), (3, .int (iI sg)), (4, .int (iI ri))] := hl
  obtain ⟨Q9, hQ9⟩ : ∃ z, z = vx_MQ below (gW D (fun v9 ad1 w1 => ∃ (sc2 : Nat → Int) (fn2 : Nat → Int → Int), bookS cA ad1 w1 sc2 fn2 ∧ bkInv sc2 fn2 ∧ keepR ad ad1 w w1 ∧ (sc2 = sc ∧ fn2 = (upF (upF fn 2 (spanF (fn 2) d n (fun j => sg + ri * (j - d)))) 3 (spanF (fn 3) d n (fun _ => 1))) ∧ ((0 ≤ d ∧ d < 400 ∧ 1 ≤ n ∧ d + n ≤ 400) ∧ (-500 ≤ sg ∧ sg ≤ 2000) ∧ (-500 ≤ sg + ri * (n - 1) ∧ sg + ri * (n - 1) ≤ 2000)) ∧ v9 = some (.int (iI (cntT (fn 3) d n.toNat))))) A) (gX D (fun E => E = xIA ∧ ¬ ((0 ≤ d ∧ d < 400 ∧ 1 ≤ n ∧ d + n ≤ 400) ∧ (-500 ≤ sg ∧ sg ≤ 2000) ∧ (-500 ≤ sg + ri * (n - 1) ∧ sg + ri * (n - 1) ≤ 2000))) ad w A) args s 4 24 A := ⟨_, rfl⟩
  rw [← hQ9]
  show W p l e rmX5_read s m args below meth c s.heap [] 0 0 Q9 (F0 m 0 ls [])
  obtain ⟨H, hHe⟩ : ∃ z, z = s.heap := ⟨_, rfl⟩
  obtain ⟨locs, hLe⟩ : ∃ z, z = ([] : List Loc) := ⟨_, rfl⟩
  have hP : gP D vwCl ad w H := by rw [hHe]; exact hP
  have hS : va_S A s.heap H locs := by rw [hHe, hLe]; exact va_S.rf
  rw [show W p l e rmX5_read s m args below meth c s.heap [] 0 0 Q9 (F0 m 0 ls []) = W p l e rmX5_read s m args below meth c H locs 0 0 Q9 (F0 m 0 ls []) by rw [hHe, hLe]]
  clear hHe hLe
  obtain ⟨rk, F, S, rn, rd, rm_, rz, ⟨h0, h1, h2, h3, h4, h5, h6, h7, h8, h9, h10, h11, h12, h13, h14, h15, hcv, hms⟩, hrk, hF, hS9⟩ := hbk
  have hI1 := hI.1
  refine lv_iload_n (pc := 0) hx hb dX5_read_0 rfl (lv_at hl 1 rfl) ?_
  refine lv_iload_n (pc := 1) hx hb dX5_read_1 rfl (lv_at hl 2 rfl) ?_
  refine k_callx (pc := 2) (vx_runS (As := [.int (iI d), .int (iI n)]) (rest := []) ⟨hx, hb, hml, hown, hts⟩ (c_X5_requireSpan l hl0 D cA ad w H.size d n ⟨by omega, by omega⟩ ⟨by omega, by omega⟩) (va_cwS 2 hts gX5_read_X5_requireSpan rfl rfl rfl (by decide +kernel) ⟨Nat.le_of_ble_eq_true rfl, Nat.le_of_ble_eq_true rfl⟩) (gV_S hP hD hK hB hS hA hZ) rfl rfl hl.1 rfl (lv_room (Nat.le_of_ble_eq_true rfl)) dX5_read_2 ⟨Nat.le_of_ble_eq_true rfl, Nat.le_of_ble_eq_true rfl⟩) hS (gA_sub hD hS hA) (fun E_2 ce_2 q_2 H locs hpx_2 hP hD hS hce_2 hcv_2 hcl_2 => ?_) (fun v_2 ad_2 w_2 H locs hv_2 hP hD hS => ?_)
  · skip
    rw [hQ9]
    exact vx_out (fun x h => (hE x h).elim) hlocks hce_2 hcv_2 hcl_2 (fun t ht hW => ⟨⟨hpx_2.1, fun z => hpx_2.2 z.1⟩, by rw [ht]; exact hP, hD, hS.F ht⟩) hS.2.2 (by decide) (by decide)
  · skip
    obtain ⟨hv1, hv2, hv3, hq_2⟩ := hv_2
    subst hv1
    rw [hv2, hv3] at hP hD
    refine W.eq (g2 := F0 m 5 ls []) rfl ?_
    refine W.cs (cells' := 2) (slots' := 12) rfl rfl ?_
    refine lv_iload_n (pc := 5) hx hb dX5_read_5 rfl (lv_at hl 3 rfl) ?_
    refine k_i2l (pc := 6) hx hb ⟨by omega, by omega⟩ dX5_read_6 ?_
    refine k_callx (pc := 7) (vx_runS (As := [.long (lI sg)]) (rest := []) ⟨hx, hb, hml, hown, hts⟩ (c_X5_requireStage l hl0 D cA ad w H.size sg ⟨by omega, by omega⟩) (va_cwS 1 hts gX5_read_X5_requireStage rfl rfl rfl (by decide +kernel) ⟨Nat.le_of_ble_eq_true rfl, Nat.le_of_ble_eq_true rfl⟩) (gV_S hP hD hK hB hS hA hZ) rfl rfl hl.1 rfl (lv_room (Nat.le_of_ble_eq_true rfl)) dX5_read_7 ⟨Nat.le_of_ble_eq_true rfl, Nat.le_of_ble_eq_true rfl⟩) hS (gA_sub hD hS hA) (fun E_7 ce_7 q_7 H locs hpx_7 hP hD hS hce_7 hcv_7 hcl_7 => ?_) (fun v_7 ad_7 w_7 H locs hv_7 hP hD hS => ?_)
    · skip
      rw [hQ9]
      exact vx_out (fun x h => (hE x h).elim) hlocks hce_7 hcv_7 hcl_7 (fun t ht hW => ⟨⟨hpx_7.1, fun z => hpx_7.2 z.2.1⟩, by rw [ht]; exact hP, hD, hS.F ht⟩) hS.2.2 (by decide) (by decide)
    · skip
      obtain ⟨hv1, hv2, hv3, hq_7⟩ := hv_7
      subst hv1
      rw [hv2, hv3] at hP hD
      refine W.eq (g2 := F0 m 10 ls []) rfl ?_
      refine W.cs (cells' := 3) (slots' := 18) rfl rfl ?_
      refine lv_iload_n (pc := 10) hx hb dX5_read_10 rfl (lv_at hl 3 rfl) ?_
      refine k_i2l (pc := 11) hx hb ⟨by omega, by omega⟩ dX5_read_11 ?_
      refine lv_iload (pc := 12) hx hb dX5_read_12 (lv_at hl 4 rfl) ?_
      refine k_i2l (pc := 14) hx hb ⟨by omega, by omega⟩ dX5_read_14 ?_
      refine lv_iload_n (pc := 15) hx hb dX5_read_15 rfl (lv_at hl 2 rfl) ?_
      refine k_iconst (pc := 16) hx hb dX5_read_16 ?_
      refine k_isub (pc := 17) hx hb dX5_read_17 ?_
      refine k_i2l (pc := 18) hx hb ⟨by omega, by omega⟩ dX5_read_18 ?_
      refine k_lmul (pc := 19) hx hb dX5_read_19 ?_
      refine k_ladd (pc := 20) hx hb dX5_read_20 ?_
      refine k_callx (pc := 21) (vx_runS (As := [.long (lI (sg + (ri * (n - 1))))]) (rest := []) ⟨hx, hb, hml, hown, hts⟩ (c_X5_requireStage l hl0 D cA ad w H.size (sg + (ri * (n - 1))) (by have h9 := mulB (a := ri) (b := n - 1) (M := 2147483648) (N := 400) ⟨by omega, by omega⟩ ⟨by omega, by omega⟩; constructor <;> omega)) (va_cwS 1 hts gX5_read_X5_requireStage rfl rfl rfl (by decide +kernel) ⟨Nat.le_of_ble_eq_true rfl, Nat.le_of_ble_eq_true rfl⟩) (gV_S hP hD hK hB hS hA hZ) rfl rfl hl.1 rfl (lv_room (Nat.le_of_ble_eq_true rfl)) dX5_read_21 ⟨Nat.le_of_ble_eq_true rfl, Nat.le_of_ble_eq_true rfl⟩) hS (gA_sub hD hS hA) (fun E_21 ce_21 q_21 H locs hpx_21 hP hD hS hce_21 hcv_21 hcl_21 => ?_) (fun v_21 ad_21 w_21 H locs hv_21 hP hD hS => ?_)
      · skip
        rw [hQ9]
        exact vx_out (fun x h => (hE x h).elim) hlocks hce_21 hcv_21 hcl_21 (fun t ht hW => ⟨⟨hpx_21.1, fun z => hpx_21.2 z.2.2⟩, by rw [ht]; exact hP, hD, hS.F ht⟩) hS.2.2 (by decide) (by decide)
      · skip
        obtain ⟨hv1, hv2, hv3, hq_21⟩ := hv_21
        subst hv1
        rw [hv2, hv3] at hP hD
        refine W.eq (g2 := F0 m 24 ls []) rfl ?_
        refine W.cs (cells' := 4) (slots' := 24) rfl rfl ?_
        refine lv_aload_n (pc := 24) hx hb dX5_read_24 rfl (lv_at hl 0 rfl) ?_
        refine k_get (pc := 25) (ci := 5) (C := RX5) (T := TX5) (N := 13) hx hb hts hi5 hown hK hP 0 h0 rfl 3 (by decide) hf26 (fun _ h9 => h9) rfl dX5_read_25 ?_
        refine lv_iload_n (pc := 28) hx hb dX5_read_28 rfl (lv_at hl 1 rfl) ?_
        refine lv_iload_n (pc := 29) hx hb dX5_read_29 rfl (lv_at hl 2 rfl) ?_
        refine k_call0 (pc := 30) (va_runS (As := [.ref (ad 6), .int (iI d), .int (iI n)]) (rest := []) ⟨hx, hb, hml, hown, hts⟩ (c_X5_countTrue l D cA ad w 6 (fn 3) d n h6 (fun j9 => by have h9_ := hI.2.2.2.1 j9; omega) (by omega)) (va_cwS 3 hts gX5_read_X5_countTrue rfl rfl rfl (by decide +kernel) ⟨Nat.le_of_ble_eq_true rfl, Nat.le_of_ble_eq_true rfl⟩) (gR_S hP hK hB) rfl rfl hl.1 rfl (lv_room (Nat.le_of_ble_eq_true rfl)) dX5_read_30 ⟨Nat.le_of_ble_eq_true rfl, Nat.le_of_ble_eq_true rfl⟩) (fun v_30 hv_30 => ?_)
        obtain ⟨z_30, rfl, hz_30, hy_30, hw_30⟩ := hv_30
        refine W.eq (g2 := F0 m 33 ls [.int (iI z_30)]) rfl ?_
        have he_33 : z_30 = cntT (fn 3) d n.toNat := by omega
        rw [he_33]
        refine lv_istore (pc := 33) (lv' := [(5, .int (iI (cntT (fn 3) d n.toNat))), (0, .ref (ad 0)), (1, .int (iI d)), (2, .int (iI n)), (3, .int (iI sg)), (4, .int (iI ri))]) hx hb dX5_read_33 hl (by decide) rfl (fun ls hl => ?_)
        refine k_iconst (pc := 35) hx hb dX5_read_35 ?_
        refine lv_istore (pc := 36) (lv' := [(6, .int (iI 0)), (5, .int (iI (cntT (fn 3) d n.toNat))), (0, .ref (ad 0)), (1, .int (iI d)), (2, .int (iI n)), (3, .int (iI sg)), (4, .int (iI ri))]) hx hb dX5_read_36 hl (by decide) rfl (fun ls hl => ?_)
        have lp_38 : ∀ (N9 : Nat) (i : Int), (0 ≤ i ∧ i ≤ n) → (n - i).toNat < N9 → ∀ (H : Heap) (locs : List Loc), gP D vwCl ad (up (up w 5 (eI (cA 0) 400 (spanF (fn 2) d i (fun j => sg + ri * (j - d))))) 6 (eI (cA 1) 400 (spanF (fn 3) d i (fun _ => 1)))) H → gD A ad (up (up w 5 (eI (cA 0) 400 (spanF (fn 2) d i (fun j => sg + ri * (j - d))))) 6 (eI (cA 1) 400 (spanF (fn 3) d i (fun _ => 1)))) → va_S A s.heap H locs → ∀ (ls : Array Slot), lv_has ls 7 [(6, .int (iI i)), (5, .int (iI (cntT (fn 3) d n.toNat))), (0, .ref (ad 0)), (1, .int (iI d)), (2, .int (iI n)), (3, .int (iI sg)), (4, .int (iI ri))] → W p l e rmX5_read s m args below meth c H locs 4 24 Q9 (F0 m 38 ls []) := by
          intro N9
          induction N9 with
          | zero => intro i i0 hmu; exact absurd hmu (Nat.not_lt_zero _)
          | succ N9 ih_38 =>
            intro i i0 hmu_38 H locs hP hD hS ls hl
            refine lv_iload (pc := 38) hx hb dX5_read_38 (lv_at hl 0 rfl) ?_
            refine lv_iload_n (pc := 40) hx hb dX5_read_40 rfl (lv_at hl 4 rfl) ?_
            refine k_icmp_ge (pc := 41) (tgt := 76) hx hb ⟨by omega, by omega⟩ ⟨by omega, by omega⟩ dX5_read_41 (by decide) (fun hc_41 => ?_) (fun hc_41 => ?_)
            · skip
              have hin_ : i = n := by omega
              rw [hin_] at hP hD
              refine lv_aload_n (pc := 76) hx hb dX5_read_76 rfl (lv_at hl 2 rfl) ?_
              refine k_iconst (pc := 77) hx hb dX5_read_77 ?_
              refine k_put (pc := 78) (ci := 5) (C := RX5) (T := TX5) (N := 13) (ty := .boolean) (v := .int (iI 0)) (w1 := (up (up (up w 5 (eI (cA 0) 400 (spanF (fn 2) d n (fun j => sg + ri * (j - d))))) 6 (eI (cA 1) 400 (spanF (fn 3) d n (fun _ => 1)))) 0 (oB 5 [.ref (ad 1), .ref (ad 2), .ref (ad 5), .ref (ad 6), .ref (ad 7), .ref (ad 8), .ref (ad 9), .ref (ad 12), .int (iI (sc 0)), .int (iI (sc 4)), .int (iI (sc 2)), .int (iI (sc 3)), .int (iI 0)]))) hx hb hts hi5 tyX5 tyX5_ok nmX5 hown hK hP hD hS 0 (up_n (by decide) (up_n (by decide) h0)) rfl 12 (by decide) hf82 (fun _ h9 => h9) rfl (by decide +kernel) (by decide +kernel) rfl (Nat.le_of_ble_eq_true rfl) rfl dX5_read_78 (fun H locs hP hD hS => ?_)
              refine lv_iload (pc := 81) hx hb dX5_read_81 (lv_at hl 1 rfl) ?_
              rw [hQ9]
              refine vx_ret ?_
              exact W.iret (v := iI (cntT (fn 3) d n.toNat)) hx hb hret (fun t ht hW => ⟨⟨some (.int (iI (cntT (fn 3) d n.toNat))), ad, (up (up (up w 5 (eI (cA 0) 400 (spanF (fn 2) d n (fun j => sg + ri * (j - d))))) 6 (eI (cA 1) 400 (spanF (fn 3) d n (fun _ => 1)))) 0 (oB 5 [.ref (ad 1), .ref (ad 2), .ref (ad 5), .ref (ad 6), .ref (ad 7), .ref (ad 8), .ref (ad 9), .ref (ad 12), .int (iI (sc 0)), .int (iI (sc 4)), .int (iI (sc 2)), .int (iI (sc 3)), .int (iI 0)])), rfl, ⟨sc, (upF (upF fn 2 (spanF (fn 2) d n (fun j => sg + ri * (j - d)))) 3 (spanF (fn 3) d n (fun _ => 1))), ⟨0, F, S, rn, rd, rm_, rz, ⟨(up_s _ _ _), (up_n (by decide) (up_n (by decide) (up_n (by decide) h1))), (up_n (by decide) (up_n (by decide) (up_n (by decide) h2))), (up_n (by decide) (up_n (by decide) (up_n (by decide) h3))), (up_n (by decide) (up_n (by decide) (up_n (by decide) h4))), (up_n (by decide) (up_n (by decide) (up_s _ _ _))), (up_n (by decide) (up_s _ _ _)), (up_n (by decide) (up_n (by decide) (up_n (by decide) h7))), (up_n (by decide) (up_n (by decide) (up_n (by decide) h8))), (up_n (by decide) (up_n (by decide) (up_n (by decide) h9))), (up_n (by decide) (up_n (by decide) (up_n (by decide) h10))), (up_n (by decide) (up_n (by decide) (up_n (by decide) h11))), (up_n (by decide) (up_n (by decide) (up_n (by decide) h12))), (up_n (by decide) (up_n (by decide) (up_n (by decide) h13))), (up_n (by decide) (up_n (by decide) (up_n (by decide) h14))), (up_n (by decide) (up_n (by decide) (up_n (by decide) h15))), (fun k9 hk9 => by have h9_ := (cv_keep (fn2 := (upF (upF fn 2 (spanF (fn 2) d n (fun j => sg + ri * (j - d)))) 3 (spanF (fn 3) d n (fun _ => 1)))) hcv rfl rfl (fun k => ⟨((upF_n (by omega)).trans (upF_n (by omega))), ((upF_n (by omega)).trans (upF_n (by omega)))⟩)) k9 hk9; have i9_ := hI.1.1; exact ⟨(up_n (by omega) (up_n (by omega) (up_n (by omega) h9_.1))), (up_n (by omega) (up_n (by omega) (up_n (by omega) h9_.2.1))), (up_n (by omega) (up_n (by omega) (up_n (by omega) h9_.2.2)))⟩), (fun k9 hk9 => by have h9_ := hms k9 hk9; have i9_ := hI.1.2.2.2.2; exact (up_n (by omega) (up_n (by omega) (up_n (by omega) h9_))))⟩, (Or.inl rfl), hF, hS9⟩, (inv_3 (inv_2 hI (spanF_b hI.2.2.1 (fun j g1 g2 => lin_bd (n := n) (i := j - d) (by omega) (by omega) (by omega)))) (spanF_b hI.2.2.2.1 (fun j g1 g2 => by omega))), ⟨rfl, fun r hr => ⟨(up_n (by omega) (up_n (by omega) (up_n (by omega) rfl))), rfl⟩⟩, ⟨rfl, rfl, ⟨by omega, by omega, by omega⟩, rfl⟩⟩, by rw [ht]; exact hP, hD⟩, hS.F ht⟩) hS.2.2 dX5_read_83
            · skip
              refine lv_aload_n (pc := 44) hx hb dX5_read_44 rfl (lv_at hl 2 rfl) ?_
              refine k_get (pc := 45) (ci := 5) (C := RX5) (T := TX5) (N := 13) hx hb hts hi5 hown hK hP 0 (up_n (by decide) (up_n (by decide) h0)) rfl 2 (by decide) hf22 (fun _ h9 => h9) rfl dX5_read_45 ?_
              refine lv_iload_n (pc := 48) hx hb dX5_read_48 rfl (lv_at hl 3 rfl) ?_
              refine lv_iload (pc := 49) hx hb dX5_read_49 (lv_at hl 0 rfl) ?_
              refine k_iadd (pc := 51) hx hb dX5_read_51 ?_
              refine lv_iload_n (pc := 52) hx hb dX5_read_52 rfl (lv_at hl 5 rfl) ?_
              refine lv_iload (pc := 53) hx hb dX5_read_53 (lv_at hl 6 rfl) ?_
              refine lv_iload (pc := 55) hx hb dX5_read_55 (lv_at hl 0 rfl) ?_
              refine k_imul (pc := 57) hx hb dX5_read_57 ?_
              refine k_iadd (pc := 58) hx hb dX5_read_58 ?_
              refine k_iast (pc := 59) (w1 := (up (up w 5 (eI (cA 0) 400 (updI (spanF (fn 2) d i (fun j => sg + ri * (j - d))) (d + i) (sg + (ri * i))))) 6 (eI (cA 1) 400 (spanF (fn 3) d i (fun _ => 1))))) hx hb hK hP hD hS 5 0 (up_n (by decide) (up_s _ _ _)) rfl (by omega) (by omega) (by omega) ((up_co _ _ _ (by decide)).trans (congrArg (fun u => up u 6 _) (up_up _ _ _ _))) dX5_read_59 (fun H locs hP hD hS => ?_)
              refine lv_aload_n (pc := 60) hx hb dX5_read_60 rfl (lv_at hl 2 rfl) ?_
              refine k_get (pc := 61) (ci := 5) (C := RX5) (T := TX5) (N := 13) hx hb hts hi5 hown hK hP 0 (up_n (by decide) (up_n (by decide) h0)) rfl 3 (by decide) hf26 (fun _ h9 => h9) rfl dX5_read_61 ?_
              refine lv_iload_n (pc := 64) hx hb dX5_read_64 rfl (lv_at hl 3 rfl) ?_
              refine lv_iload (pc := 65) hx hb dX5_read_65 (lv_at hl 0 rfl) ?_
              refine k_iadd (pc := 67) hx hb dX5_read_67 ?_
              refine k_iconst (pc := 68) hx hb dX5_read_68 ?_
              refine k_zast (pc := 69) (w1 := (up (up w 5 (eI (cA 0) 400 (updI (spanF (fn 2) d i (fun j => sg + ri * (j - d))) (d + i) (sg + (ri * i))))) 6 (eI (cA 1) 400 (updI (spanF (fn 3) d i (fun _ => 1)) (d + i) 1)))) hx hb hK hP hD hS 6 1 (up_s _ _ _) rfl (by omega) (by omega) (by omega) (Or.inr rfl) (up_up _ _ _ _) dX5_read_69 (fun H locs hP hD hS => ?_)
              refine lv_iinc (pc := 70) (v := iI (i + 1)) (lv' := [(6, .int (iI (i + 1))), (5, .int (iI (cntT (fn 3) d n.toNat))), (0, .ref (ad 0)), (1, .int (iI d)), (2, .int (iI n)), (3, .int (iI sg)), (4, .int (iI ri))]) hx hb dX5_read_70 hl (k := 0) rfl (iI_add _ _) (by decide) rfl (fun ls hl => ?_)
              refine lv_goto (pc := 73) (tgt := 38) hx hb dX5_read_73 (by decide) ?_
              have hW9 : ((up (up w 5 (eI (cA 0) 400 (updI (spanF (fn 2) d i (fun j => sg + ri * (j - d))) (d + i) (sg + (ri * i))))) 6 (eI (cA 1) 400 (updI (spanF (fn 3) d i (fun _ => 1)) (d + i) 1)))) = (up (up w 5 (eI (cA 0) 400 (spanF (fn 2) d (i + 1) (fun j => sg + ri * (j - d))))) 6 (eI (cA 1) 400 (spanF (fn 3) d (i + 1) (fun _ => 1)))) := by rw [spanF_s (fn 2) (fun j => sg + ri * (j - d)) (by omega) (show sg + ri * i = sg + ri * (d + i - d) by rw [show d + i - d = i by omega]), spanF_s (fn 3) (fun _ => 1) (by omega) rfl]
              rw [hW9] at hP hD
              exact ih_38 (i + 1) (by omega) (by omega) H locs hP hD hS ls (lv_sub hl [0, 1, 2, 3, 4, 5, 6] rfl)
        have hW9 : (w) = (up (up w 5 (eI (cA 0) 400 (spanF (fn 2) d 0 (fun j => sg + ri * (j - d))))) 6 (eI (cA 1) 400 (spanF (fn 3) d 0 (fun _ => 1)))) := by rw [spanF_0, spanF_0, up_self h5, up_self h6]
        rw [hW9] at hP hD
        exact lp_38 _ 0 (by omega) (Nat.lt_succ_self _) H locs hP hD hS ls (lv_sub hl [0, 1, 2, 3, 4, 5, 6] rfl)

abbrev rmX5_setRules : Room := { frames := 6, cells := 1, slots := 6, locals := 82 }
theorem hxwX5_setRules_xIA_116 : ∀ w ∈ (vx_atS RX5 116 xIA ["java/lang/RuntimeException", "java/lang/Exception"]).filter goodWord, w ∈ wsX5_setRules := by decide +kernel
theorem hiX5_setRules_5 : ∀ w ∈ wsX50, w ∈ wsX5_setRules := by decide +kernel
set_option maxHeartbeats 4000000 in
set_option maxRecDepth 100000 in
theorem c_X5_setRules (l : Launch) (hl0 : l.stackTraces = false) (D : va_G) (cA : Nat → ClassId) (ad : Nat → Nat) (w : Nat → Option va_E) (sz : Nat) (sc : Nat → Int) (fn : Nat → Int → Int) (hI : bkInv sc fn) (hbk : bookS cA ad w sc fn) (fa li : Int) (hfa : (-2147483648 ≤ fa ∧ fa < 2147483648)) (hli : (-2147483648 ≤ li ∧ li < 2147483648)) : vx_Met l yX5_setRules wsX5_setRules rmX5_setRules (gV D cA ad w sz [.ref (ad 0), .int (iI fa), .int (iI li)]) (gW D (fun v9 ad1 w1 => ∃ (sc2 : Nat → Int) (fn2 : Nat → Int → Int), bookS cA ad1 w1 sc2 fn2 ∧ bkInv sc2 fn2 ∧ keepR ad ad1 w w1 ∧ (sc2 = (upS (upS sc 2 fa) 3 li) ∧ fn2 = fn ∧ ((0 ≤ fa ∧ fa ≤ 100) ∧ (0 ≤ li ∧ li ≤ 60)) ∧ v9 = some (.int (iI (sc 2))))) (gA ad w sz)) (gX D (fun E => E = xIA ∧ ¬ ((0 ≤ fa ∧ fa ≤ 100) ∧ (0 ≤ li ∧ li ≤ 60))) ad w (gA ad w sz)) 1 6 (gA ad w sz) := by
  refine vx_ofW (cc := cX5_setRules) (maxL := 4) (ret := (some .int)) (by decide) rfl ?_
  intro p e s m args below meth c s₁ B hml hE hv
  obtain ⟨hav, hsz, hP, hD0, hK, hB, hZ⟩ := hv
  have hx := B.exec
  have hb := B.bytes
  have hret := B.returns
  have hts := atoms_spec (ws := wsX5_setRules) B.pre
  have hown : s.vm.findClass RX5 = some m.cls := findClass_of_methodNamed B.named
  have hlocks := B.notSynchronized
  subst hsz
  have hD := hD0.self (sz := s.heap.size)
  generalize hAe : gA ad w s.heap.size = A at hD hZ ⊢
  have hA : ∀ q : Nat, s.heap.size ≤ q → A q := fun q h => by rw [← hAe]; exact Or.inr h
  have hS : va_S A s.heap s.heap [] := va_S.rf
  have hi5 := hiX5_setRules_5
  have hxw_xIA_116 := hxwX5_setRules_xIA_116
  have hf53 := hts (.fieldLink RX5 53 "GaugeBook" "iceFactor" "I") (by decide +kernel)
  have hf57 := hts (.fieldLink RX5 57 "GaugeBook" "gapLimit" "I") (by decide +kernel)
  have hf82 := hts (.fieldLink RX5 82 "GaugeBook" "isReckoned" "Z") (by decide +kernel)
  have he9 : entryFrame m args 4 = F0 m 0 ((lg_sl ([.ref (ad 0), .int (iI fa), .int (iI li)] : List Value) ++ List.replicate (4 - (lg_sl ([.ref (ad 0), .int (iI fa), .int (iI li)] : List Value)).length) Slot.unset).toArray) [] := by rw [hav, lg_entry_eq]
  rw [he9]
  have hl := lv_entry ([.ref (ad 0), .int (iI fa), .int (iI li)] : List Value) (n := 4) (Nat.le_of_ble_eq_true rfl)
  generalize (lg_sl ([.ref (ad 0), .int (iI fa), .int (iI li)] : List Value) ++ List.replicate (4 - (lg_sl ([.ref (ad 0), .int (iI fa), .int (iI li)] : List Value)).length) Slot.unset).toArray = ls at hl ⊢
  have hl : lv_has ls 4 [(0, .ref (ad 0)), (1, .int (iI fa)), (2, .int (iI li))] := hl
  obtain ⟨Q9, hQ9⟩ : ∃ z, z = vx_MQ below (gW D (fun v9 ad1 w1 => ∃ (sc2 : Nat → Int) (fn2 : Nat → Int → Int), bookS cA ad1 w1 sc2 fn2 ∧ bkInv sc2 fn2 ∧ keepR ad ad1 w w1 ∧ (sc2 = (upS (upS sc 2 fa) 3 li) ∧ fn2 = fn ∧ ((0 ≤ fa ∧ fa ≤ 100) ∧ (0 ≤ li ∧ li ≤ 60)) ∧ v9 = some (.int (iI (sc 2))))) A) (gX D (fun E => E = xIA ∧ ¬ ((0 ≤ fa ∧ fa ≤ 100) ∧ (0 ≤ li ∧ li ≤ 60))) ad w A) args s 1 6 A := ⟨_, rfl⟩
  rw [← hQ9]
  show W p l e rmX5_setRules s m args below meth c s.heap [] 0 0 Q9 (F0 m 0 ls [])
  obtain ⟨H, hHe⟩ : ∃ z, z = s.heap := ⟨_, rfl⟩
  obtain ⟨locs, hLe⟩ : ∃ z, z = ([] : List Loc) := ⟨_, rfl⟩
  have hP : gP D vwCl ad w H := by rw [hHe]; exact hP
  have hS : va_S A s.heap H locs := by rw [hHe, hLe]; exact va_S.rf
  rw [show W p l e rmX5_setRules s m args below meth c s.heap [] 0 0 Q9 (F0 m 0 ls []) = W p l e rmX5_setRules s m args below meth c H locs 0 0 Q9 (F0 m 0 ls []) by rw [hHe, hLe]]
  clear hHe hLe
  obtain ⟨rk, F, S, rn, rd, rm_, rz, ⟨h0, h1, h2, h3, h4, h5, h6, h7, h8, h9, h10, h11, h12, h13, h14, h15, hcv, hms⟩, hrk, hF, hS9⟩ := hbk
  have hI1 := hI.1
  refine lv_iload_n (pc := 0) hx hb dX5_setRules_0 rfl (lv_at hl 1 rfl) ?_
  refine k_if_lt (pc := 1) (tgt := 10) hx hb ⟨by omega, by omega⟩ dX5_setRules_1 (by decide) (fun hc_1 => ?_) (fun hc_1 => ?_)
  · skip
    obtain ⟨sa_10, hsa_10⟩ := ns_152 hB
    rw [hQ9]
    exact vx_throwS (pc := 10) (own := RX5) (cls := xIA) (names := ["java/lang/RuntimeException", "java/lang/Exception"]) (ik := 112) (is := 152) (ic := 116) (A := A) hx hb hl0 hown (by decide +kernel) (by decide +kernel) (hts (.classLink RX5 112 "java/lang/IllegalArgumentException") (by decide +kernel)) (hts (.initialized "java/lang/IllegalArgumentException") (by decide +kernel)) hsa_10 (gx_hat hB (E := xIA) (i := 0) rfl (fun w h => hts w (hxw_xIA_116 w h)) (by decide +kernel)) (by decide +kernel) hZ.1 hZ.2 hS (hl.1.trans hml.symm) dX5_setRules_10 dX5_setRules_13 dX5_setRules_14 dX5_setRules_16 dX5_setRules_19 (fun x h => (hE x h).elim) (Nat.le_of_ble_eq_true rfl) (Nat.le_of_ble_eq_true rfl) (Nat.le_of_ble_eq_true rfl) (Nat.le_of_ble_eq_true rfl) hlocks (fun t hW hz hk => ⟨⟨rfl, by omega⟩, fun r x hr => (hP r x hr).kept (hk _ (hP r x hr).lt), hD, Nat.le_trans hS.1 hz, fun q h1 h2 => (hk q (Nat.lt_of_lt_of_le h1 hS.1)).trans (hS.2.1 q h1 h2)⟩) hS.2.2 (Nat.le_of_ble_eq_true rfl) (Nat.le_of_ble_eq_true rfl)
  · skip
    refine lv_iload_n (pc := 4) hx hb dX5_setRules_4 rfl (lv_at hl 1 rfl) ?_
    refine k_bipush (pc := 5) hx hb dX5_setRules_5 (by decide +kernel) ?_
    refine k_icmp_le (pc := 7) (tgt := 20) hx hb ⟨by omega, by omega⟩ ⟨by omega, by omega⟩ dX5_setRules_7 (by decide) (fun hc_7 => ?_) (fun hc_7 => ?_)
    · skip
      refine lv_iload_n (pc := 20) hx hb dX5_setRules_20 rfl (lv_at hl 2 rfl) ?_
      refine k_if_lt (pc := 21) (tgt := 30) hx hb ⟨by omega, by omega⟩ dX5_setRules_21 (by decide) (fun hc_21 => ?_) (fun hc_21 => ?_)
      · skip
        obtain ⟨sa_30, hsa_30⟩ := ns_154 hB
        rw [hQ9]
        exact vx_throwS (pc := 30) (own := RX5) (cls := xIA) (names := ["java/lang/RuntimeException", "java/lang/Exception"]) (ik := 112) (is := 154) (ic := 116) (A := A) hx hb hl0 hown (by decide +kernel) (by decide +kernel) (hts (.classLink RX5 112 "java/lang/IllegalArgumentException") (by decide +kernel)) (hts (.initialized "java/lang/IllegalArgumentException") (by decide +kernel)) hsa_30 (gx_hat hB (E := xIA) (i := 0) rfl (fun w h => hts w (hxw_xIA_116 w h)) (by decide +kernel)) (by decide +kernel) hZ.1 hZ.2 hS (hl.1.trans hml.symm) dX5_setRules_30 dX5_setRules_33 dX5_setRules_34 dX5_setRules_36 dX5_setRules_39 (fun x h => (hE x h).elim) (Nat.le_of_ble_eq_true rfl) (Nat.le_of_ble_eq_true rfl) (Nat.le_of_ble_eq_true rfl) (Nat.le_of_ble_eq_true rfl) hlocks (fun t hW hz hk => ⟨⟨rfl, by omega⟩, fun r x hr => (hP r x hr).kept (hk _ (hP r x hr).lt), hD, Nat.le_trans hS.1 hz, fun q h1 h2 => (hk q (Nat.lt_of_lt_of_le h1 hS.1)).trans (hS.2.1 q h1 h2)⟩) hS.2.2 (Nat.le_of_ble_eq_true rfl) (Nat.le_of_ble_eq_true rfl)
      · skip
        refine lv_iload_n (pc := 24) hx hb dX5_setRules_24 rfl (lv_at hl 2 rfl) ?_
        refine k_bipush (pc := 25) hx hb dX5_setRules_25 (by decide +kernel) ?_
        refine k_icmp_le (pc := 27) (tgt := 40) hx hb ⟨by omega, by omega⟩ ⟨by omega, by omega⟩ dX5_setRules_27 (by decide) (fun hc_27 => ?_) (fun hc_27 => ?_)
        · skip
          refine lv_aload_n (pc := 40) hx hb dX5_setRules_40 rfl (lv_at hl 0 rfl) ?_
          refine k_get (pc := 41) (ci := 5) (C := RX5) (T := TX5) (N := 13) hx hb hts hi5 hown hK hP 0 h0 rfl 10 (by decide) hf53 (fun _ h9 => h9) rfl dX5_setRules_41 ?_
          refine lv_istore_n (pc := 44) (lv' := [(3, .int (iI (sc 2))), (0, .ref (ad 0)), (1, .int (iI fa)), (2, .int (iI li))]) hx hb dX5_setRules_44 rfl hl (by decide) rfl (fun ls hl => ?_)
          refine lv_aload_n (pc := 45) hx hb dX5_setRules_45 rfl (lv_at hl 1 rfl) ?_
          refine lv_iload_n (pc := 46) hx hb dX5_setRules_46 rfl (lv_at hl 2 rfl) ?_
          refine k_put (pc := 47) (ci := 5) (C := RX5) (T := TX5) (N := 13) (ty := .int) (v := .int (iI fa)) (w1 := (up w 0 (oB 5 [.ref (ad 1), .ref (ad 2), .ref (ad 5), .ref (ad 6), .ref (ad 7), .ref (ad 8), .ref (ad 9), .ref (ad 12), .int (iI (sc 0)), .int (iI (sc 4)), .int (iI fa), .int (iI (sc 3)), .int (iI rk)]))) hx hb hts hi5 tyX5 tyX5_ok nmX5 hown hK hP hD hS 0 h0 rfl 10 (by decide) hf53 (fun _ h9 => h9) rfl (by decide +kernel) rfl rfl (Nat.le_of_ble_eq_true rfl) rfl dX5_setRules_47 (fun H locs hP hD hS => ?_)
          refine lv_aload_n (pc := 50) hx hb dX5_setRules_50 rfl (lv_at hl 1 rfl) ?_
          refine lv_iload_n (pc := 51) hx hb dX5_setRules_51 rfl (lv_at hl 3 rfl) ?_
          refine k_put (pc := 52) (ci := 5) (C := RX5) (T := TX5) (N := 13) (ty := .int) (v := .int (iI li)) (w1 := (up w 0 (oB 5 [.ref (ad 1), .ref (ad 2), .ref (ad 5), .ref (ad 6), .ref (ad 7), .ref (ad 8), .ref (ad 9), .ref (ad 12), .int (iI (sc 0)), .int (iI (sc 4)), .int (iI fa), .int (iI li), .int (iI rk)]))) hx hb hts hi5 tyX5 tyX5_ok nmX5 hown hK hP hD hS 0 (up_s _ _ _) rfl 11 (by decide) hf57 (fun _ h9 => h9) rfl (by decide +kernel) rfl rfl (Nat.le_of_ble_eq_true rfl) (up_up _ _ _ _) dX5_setRules_52 (fun H locs hP hD hS => ?_)
          refine lv_aload_n (pc := 55) hx hb dX5_setRules_55 rfl (lv_at hl 1 rfl) ?_
          refine k_iconst (pc := 56) hx hb dX5_setRules_56 ?_
          refine k_put (pc := 57) (ci := 5) (C := RX5) (T := TX5) (N := 13) (ty := .boolean) (v := .int (iI 0)) (w1 := (up w 0 (oB 5 [.ref (ad 1), .ref (ad 2), .ref (ad 5), .ref (ad 6), .ref (ad 7), .ref (ad 8), .ref (ad 9), .ref (ad 12), .int (iI (sc 0)), .int (iI (sc 4)), .int (iI fa), .int (iI li), .int (iI 0)]))) hx hb hts hi5 tyX5 tyX5_ok nmX5 hown hK hP hD hS 0 (up_s _ _ _) rfl 12 (by decide) hf82 (fun _ h9 => h9) rfl (by decide +kernel) (by decide +kernel) rfl (Nat.le_of_ble_eq_true rfl) (up_up _ _ _ _) dX5_setRules_57 (fun H locs hP hD hS => ?_)
          refine lv_iload_n (pc := 60) hx hb dX5_setRules_60 rfl (lv_at hl 0 rfl) ?_
          rw [hQ9]
          refine vx_ret ?_
          refine W.widen (k := 1) (n := 6) (by decide) (by decide) ?_
          exact W.iret (v := iI (sc 2)) hx hb hret (fun t ht hW => ⟨⟨some (.int (iI (sc 2))), ad, (up w 0 (oB 5 [.ref (ad 1), .ref (ad 2), .ref (ad 5), .ref (ad 6), .ref (ad 7), .ref (ad 8), .ref (ad 9), .ref (ad 12), .int (iI (sc 0)), .int (iI (sc 4)), .int (iI fa), .int (iI li), .int (iI 0)])), rfl, ⟨(upS (upS sc 2 fa) 3 li), fn, ⟨0, F, S, rn, rd, rm_, rz, ⟨(up_s _ _ _), (up_n (by decide) h1), (up_n (by decide) h2), (up_n (by decide) h3), (up_n (by decide) h4), (up_n (by decide) h5), (up_n (by decide) h6), (up_n (by decide) h7), (up_n (by decide) h8), (up_n (by decide) h9), (up_n (by decide) h10), (up_n (by decide) h11), (up_n (by decide) h12), (up_n (by decide) h13), (up_n (by decide) h14), (up_n (by decide) h15), (fun k9 hk9 => by have h9_ := hcv k9 hk9; have i9_ := hI.1.1; exact ⟨(up_n (by omega) h9_.1), (up_n (by omega) h9_.2.1), (up_n (by omega) h9_.2.2)⟩), (fun k9 hk9 => by have h9_ := hms k9 hk9; have i9_ := hI.1.2.2.2.2; exact (up_n (by omega) h9_))⟩, (Or.inl rfl), hF, hS9⟩, (inv_ru hI (by omega) (by omega)), ⟨rfl, fun r hr => ⟨(up_n (by omega) rfl), rfl⟩⟩, ⟨rfl, rfl, by omega, rfl⟩⟩, by rw [ht]; exact hP, hD⟩, hS.F ht⟩) hS.2.2 dX5_setRules_61
        · skip
          obtain ⟨sa_30, hsa_30⟩ := ns_154 hB
          rw [hQ9]
          exact vx_throwS (pc := 30) (own := RX5) (cls := xIA) (names := ["java/lang/RuntimeException", "java/lang/Exception"]) (ik := 112) (is := 154) (ic := 116) (A := A) hx hb hl0 hown (by decide +kernel) (by decide +kernel) (hts (.classLink RX5 112 "java/lang/IllegalArgumentException") (by decide +kernel)) (hts (.initialized "java/lang/IllegalArgumentException") (by decide +kernel)) hsa_30 (gx_hat hB (E := xIA) (i := 0) rfl (fun w h => hts w (hxw_xIA_116 w h)) (by decide +kernel)) (by decide +kernel) hZ.1 hZ.2 hS (hl.1.trans hml.symm) dX5_setRules_30 dX5_setRules_33 dX5_setRules_34 dX5_setRules_36 dX5_setRules_39 (fun x h => (hE x h).elim) (Nat.le_of_ble_eq_true rfl) (Nat.le_of_ble_eq_true rfl) (Nat.le_of_ble_eq_true rfl) (Nat.le_of_ble_eq_true rfl) hlocks (fun t hW hz hk => ⟨⟨rfl, by omega⟩, fun r x hr => (hP r x hr).kept (hk _ (hP r x hr).lt), hD, Nat.le_trans hS.1 hz, fun q h1 h2 => (hk q (Nat.lt_of_lt_of_le h1 hS.1)).trans (hS.2.1 q h1 h2)⟩) hS.2.2 (Nat.le_of_ble_eq_true rfl) (Nat.le_of_ble_eq_true rfl)
    · skip
      obtain ⟨sa_10, hsa_10⟩ := ns_152 hB
      rw [hQ9]
      exact vx_throwS (pc := 10) (own := RX5) (cls := xIA) (names := ["java/lang/RuntimeException", "java/lang/Exception"]) (ik := 112) (is := 152) (ic := 116) (A := A) hx hb hl0 hown (by decide +kernel) (by decide +kernel) (hts (.classLink RX5 112 "java/lang/IllegalArgumentException") (by decide +kernel)) (hts (.initialized "java/lang/IllegalArgumentException") (by decide +kernel)) hsa_10 (gx_hat hB (E := xIA) (i := 0) rfl (fun w h => hts w (hxw_xIA_116 w h)) (by decide +kernel)) (by decide +kernel) hZ.1 hZ.2 hS (hl.1.trans hml.symm) dX5_setRules_10 dX5_setRules_13 dX5_setRules_14 dX5_setRules_16 dX5_setRules_19 (fun x h => (hE x h).elim) (Nat.le_of_ble_eq_true rfl) (Nat.le_of_ble_eq_true rfl) (Nat.le_of_ble_eq_true rfl) (Nat.le_of_ble_eq_true rfl) hlocks (fun t hW hz hk => ⟨⟨rfl, by omega⟩, fun r x hr => (hP r x hr).kept (hk _ (hP r x hr).lt), hD, Nat.le_trans hS.1 hz, fun q h1 h2 => (hk q (Nat.lt_of_lt_of_le h1 hS.1)).trans (hS.2.1 q h1 h2)⟩) hS.2.2 (Nat.le_of_ble_eq_true rfl) (Nat.le_of_ble_eq_true rfl)

abbrev rmX5_setShift : Room := { frames := 7, cells := 2, slots := 12, locals := 102 }
theorem hxwX5_setShift_xIA_116 : ∀ w ∈ (vx_atS RX5 116 xIA ["java/lang/RuntimeException", "java/lang/Exception"]).filter goodWord, w ∈ wsX5_setShift := by decide +kernel
theorem hxwX5_setShift_xIS_71 : ∀ w ∈ (vx_atS RX5 71 xIS ["java/lang/RuntimeException", "java/lang/Exception"]).filter goodWord, w ∈ wsX5_setShift := by decide +kernel
theorem hiX5_setShift_5 : ∀ w ∈ wsX50, w ∈ wsX5_setShift := by decide +kernel
set_option maxHeartbeats 4000000 in
set_option maxRecDepth 100000 in
theorem c_X5_setShift (l : Launch) (hl0 : l.stackTraces = false) (D : va_G) (cA : Nat → ClassId) (ad : Nat → Nat) (w : Nat → Option va_E) (sz : Nat) (sc : Nat → Int) (fn : Nat → Int → Int) (hI : bkInv sc fn) (hbk : bookS cA ad w sc fn) (d sv : Int) (hd : (-2147483648 ≤ d ∧ d < 2147483648)) (hsv : (-2147483648 ≤ sv ∧ sv < 2147483648)) : vx_Met l yX5_setShift wsX5_setShift rmX5_setShift (gV D cA ad w sz [.ref (ad 0), .int (iI d), .int (iI sv)]) (gW D (fun v9 ad1 w1 => ∃ (sc2 : Nat → Int) (fn2 : Nat → Int → Int), bookS cA ad1 w1 sc2 fn2 ∧ bkInv sc2 fn2 ∧ keepR ad ad1 w w1 ∧ (∃ k : Int, clP (fn 0) (sc 1) d k ∧ ((0 ≤ d ∧ d < 400) ∧ (-200 ≤ sv ∧ sv ≤ 200)) ∧ ((sc2 = sc ∧ fn2 = upF fn 1 (updI (fn 1) k sv) ∧ k < sc 1 ∧ fn 0 k = d) ∨ (sc2 = upS sc 1 (sc 1 + 1) ∧ fn2 = upF (upF fn 0 (insF (fn 0) (sc 1) k d)) 1 (insF (fn 1) (sc 1) k sv) ∧ ¬ (k < sc 1 ∧ fn 0 k = d) ∧ sc 1 < 20)) ∧ v9 = some (.int (iI (sftF (fn 0) (fn 1) (sc 1) d))))) (gA ad w sz)) (gX D (fun E => (E = xIA ∧ ¬ ((0 ≤ d ∧ d < 400) ∧ (-200 ≤ sv ∧ sv ≤ 200))) ∨ (E = xIS ∧ ((0 ≤ d ∧ d < 400) ∧ (-200 ≤ sv ∧ sv ≤ 200)) ∧ ∃ k : Int, clP (fn 0) (sc 1) d k ∧ ¬ (k < sc 1 ∧ fn 0 k = d) ∧ ¬ sc 1 < 20)) ad w (gA ad w sz)) 2 12 (gA ad w sz) := by
  refine vx_ofW (cc := cX5_setShift) (maxL := 4) (ret := (some .int)) (by decide) rfl ?_
  intro p e s m args below meth c s₁ B hml hE hv
  obtain ⟨hav, hsz, hP, hD0, hK, hB, hZ⟩ := hv
  have hx := B.exec
  have hb := B.bytes
  have hret := B.returns
  have hts := atoms_spec (ws := wsX5_setShift) B.pre
  have hown : s.vm.findClass RX5 = some m.cls := findClass_of_methodNamed B.named
  have hlocks := B.notSynchronized
  subst hsz
  have hD := hD0.self (sz := s.heap.size)
  generalize hAe : gA ad w s.heap.size = A at hD hZ ⊢
  have hA : ∀ q : Nat, s.heap.size ≤ q → A q := fun q h => by rw [← hAe]; exact Or.inr h
  have hS : va_S A s.heap s.heap [] := va_S.rf
  have hi5 := hiX5_setShift_5
  have hxw_xIA_116 := hxwX5_setShift_xIA_116
  have hxw_xIS_71 := hxwX5_setShift_xIS_71
  have hf18 := hts (.fieldLink RX5 18 "GaugeBook" "shifts" "LGaugeBook$Shifts;") (by decide +kernel)
  have hf82 := hts (.fieldLink RX5 82 "GaugeBook" "isReckoned" "Z") (by decide +kernel)
  have he9 : entryFrame m args 4 = F0 m 0 ((lg_sl ([.ref (ad 0), .int (iI d), .int (iI sv)] : List Value) ++ List.replicate (4 - (lg_sl ([.ref (ad 0), .int (iI d), .int (iI sv)] : List Value)).length) Slot.unset).toArray) [] := by rw [hav, lg_entry_eq]
  rw [he9]
  have hl := lv_entry ([.ref (ad 0), .int (iI d), .int (iI sv)] : List Value) (n := 4) (Nat.le_of_ble_eq_true rfl)
  generalize (lg_sl ([.ref (ad 0), .int (iI d), .int (iI sv)] : List Value) ++ List.replicate (4 - (lg_sl ([.ref (ad 0), .int (iI d), .int (iI sv)] : List Value)).length) Slot.unset).toArray = ls at hl ⊢
  have hl : lv_has ls 4 [(0, .ref (ad 0)), (1, .int (iI d)), (2, .int (iI sv))] := hl
  obtain ⟨Q9, hQ9⟩ : ∃ z, z = vx_MQ below (gW D (fun v9 ad1 w1 => ∃ (sc2 : Nat → Int) (fn2 : Nat → Int → Int), bookS cA ad1 w1 sc2 fn2 ∧ bkInv sc2 fn2 ∧ keepR ad ad1 w w1 ∧ (∃ k : Int, clP (fn 0) (sc 1) d k ∧ ((0 ≤ d ∧ d < 400) ∧ (-200 ≤ sv ∧ sv ≤ 200)) ∧ ((sc2 = sc ∧ fn2 = upF fn 1 (updI (fn 1) k sv) ∧ k < sc 1 ∧ fn 0 k = d) ∨ (sc2 = upS sc 1 (sc 1 + 1) ∧ fn2 = upF (upF fn 0 (insF (fn 0) (sc 1) k d)) 1 (insF (fn 1) (sc 1) k sv) ∧ ¬ (k < sc 1 ∧ fn 0 k = d) ∧ sc 1 < 20)) ∧ v9 = some (.int (iI (sftF (fn 0) (fn 1) (sc 1) d))))) A) (gX D (fun E => (E = xIA ∧ ¬ ((0 ≤ d ∧ d < 400) ∧ (-200 ≤ sv ∧ sv ≤ 200))) ∨ (E = xIS ∧ ((0 ≤ d ∧ d < 400) ∧ (-200 ≤ sv ∧ sv ≤ 200)) ∧ ∃ k : Int, clP (fn 0) (sc 1) d k ∧ ¬ (k < sc 1 ∧ fn 0 k = d) ∧ ¬ sc 1 < 20)) ad w A) args s 2 12 A := ⟨_, rfl⟩
  rw [← hQ9]
  show W p l e rmX5_setShift s m args below meth c s.heap [] 0 0 Q9 (F0 m 0 ls [])
  obtain ⟨H, hHe⟩ : ∃ z, z = s.heap := ⟨_, rfl⟩
  obtain ⟨locs, hLe⟩ : ∃ z, z = ([] : List Loc) := ⟨_, rfl⟩
  have hP : gP D vwCl ad w H := by rw [hHe]; exact hP
  have hS : va_S A s.heap H locs := by rw [hHe, hLe]; exact va_S.rf
  rw [show W p l e rmX5_setShift s m args below meth c s.heap [] 0 0 Q9 (F0 m 0 ls []) = W p l e rmX5_setShift s m args below meth c H locs 0 0 Q9 (F0 m 0 ls []) by rw [hHe, hLe]]
  clear hHe hLe
  obtain ⟨rk, F, S, rn, rd, rm_, rz, ⟨h0, h1, h2, h3, h4, h5, h6, h7, h8, h9, h10, h11, h12, h13, h14, h15, hcv, hms⟩, hrk, hF, hS9⟩ := hbk
  have hI1 := hI.1
  refine lv_iload_n (pc := 0) hx hb dX5_setShift_0 rfl (lv_at hl 1 rfl) ?_
  refine k_callx (pc := 1) (vx_runS (As := [.int (iI d)]) (rest := []) ⟨hx, hb, hml, hown, hts⟩ (c_X5_requireDay l hl0 D cA ad w H.size d ⟨by omega, by omega⟩) (va_cwS 1 hts gX5_setShift_X5_requireDay rfl rfl rfl (by decide +kernel) ⟨Nat.le_of_ble_eq_true rfl, Nat.le_of_ble_eq_true rfl⟩) (gV_S hP hD hK hB hS hA hZ) rfl rfl hl.1 rfl (lv_room (Nat.le_of_ble_eq_true rfl)) dX5_setShift_1 ⟨Nat.le_of_ble_eq_true rfl, Nat.le_of_ble_eq_true rfl⟩) hS (gA_sub hD hS hA) (fun E_1 ce_1 q_1 H locs hpx_1 hP hD hS hce_1 hcv_1 hcl_1 => ?_) (fun v_1 ad_1 w_1 H locs hv_1 hP hD hS => ?_)
  · skip
    rw [hQ9]
    exact vx_out (fun x h => (hE x h).elim) hlocks hce_1 hcv_1 hcl_1 (fun t ht hW => ⟨Or.inl ⟨hpx_1.1, fun z => hpx_1.2 z.1⟩, by rw [ht]; exact hP, hD, hS.F ht⟩) hS.2.2 (by decide) (by decide)
  · skip
    obtain ⟨hv1, hv2, hv3, hq_1⟩ := hv_1
    subst hv1
    rw [hv2, hv3] at hP hD
    refine W.eq (g2 := F0 m 4 ls []) rfl ?_
    refine W.cs (cells' := 1) (slots' := 6) rfl rfl ?_
    refine lv_iload_n (pc := 4) hx hb dX5_setShift_4 rfl (lv_at hl 2 rfl) ?_
    refine k_sipush (pc := 5) hx hb dX5_setShift_5 (by decide +kernel) ?_
    refine k_icmp_lt (pc := 8) (tgt := 18) hx hb ⟨by omega, by omega⟩ ⟨by omega, by omega⟩ dX5_setShift_8 (by decide) (fun hc_8 => ?_) (fun hc_8 => ?_)
    · skip
      obtain ⟨sa_18, hsa_18⟩ := ns_134 hB
      rw [hQ9]
      exact vx_throwS (pc := 18) (own := RX5) (cls := xIA) (names := ["java/lang/RuntimeException", "java/lang/Exception"]) (ik := 112) (is := 134) (ic := 116) (A := A) hx hb hl0 hown (by decide +kernel) (by decide +kernel) (hts (.classLink RX5 112 "java/lang/IllegalArgumentException") (by decide +kernel)) (hts (.initialized "java/lang/IllegalArgumentException") (by decide +kernel)) hsa_18 (gx_hat hB (E := xIA) (i := 0) rfl (fun w h => hts w (hxw_xIA_116 w h)) (by decide +kernel)) (by decide +kernel) hZ.1 hZ.2 hS (hl.1.trans hml.symm) dX5_setShift_18 dX5_setShift_21 dX5_setShift_22 dX5_setShift_24 dX5_setShift_27 (fun x h => (hE x h).elim) (Nat.le_of_ble_eq_true rfl) (Nat.le_of_ble_eq_true rfl) (Nat.le_of_ble_eq_true rfl) (Nat.le_of_ble_eq_true rfl) hlocks (fun t hW hz hk => ⟨Or.inl ⟨rfl, by omega⟩, fun r x hr => (hP r x hr).kept (hk _ (hP r x hr).lt), hD, Nat.le_trans hS.1 hz, fun q h1 h2 => (hk q (Nat.lt_of_lt_of_le h1 hS.1)).trans (hS.2.1 q h1 h2)⟩) hS.2.2 (Nat.le_of_ble_eq_true rfl) (Nat.le_of_ble_eq_true rfl)
    · skip
      refine lv_iload_n (pc := 11) hx hb dX5_setShift_11 rfl (lv_at hl 2 rfl) ?_
      refine k_sipush (pc := 12) hx hb dX5_setShift_12 (by decide +kernel) ?_
      refine k_icmp_le (pc := 15) (tgt := 28) hx hb ⟨by omega, by omega⟩ ⟨by omega, by omega⟩ dX5_setShift_15 (by decide) (fun hc_15 => ?_) (fun hc_15 => ?_)
      · skip
        refine lv_aload_n (pc := 28) hx hb dX5_setShift_28 rfl (lv_at hl 0 rfl) ?_
        refine k_get (pc := 29) (ci := 5) (C := RX5) (T := TX5) (N := 13) hx hb hts hi5 hown hK hP 0 h0 rfl 1 (by decide) hf18 (fun _ h9 => h9) rfl dX5_setShift_29 ?_
        refine lv_iload_n (pc := 32) hx hb dX5_setShift_32 rfl (lv_at hl 1 rfl) ?_
        refine k_call0 (pc := 33) (va_runV (As := [.int (iI d)]) (rest := []) ⟨hx, hb, hml, hown, hts⟩ (c_X4_on l D cA ad w 2 3 4 (sc 1) (fn 0) (fn 1) h2 h3 h4 hI1.2.1 hI.2.1 d ⟨by omega, by omega⟩) (cwV 1 hts gX5_setShift_X4_on rfl rfl rfl (by decide +kernel) ⟨Nat.le_of_ble_eq_true rfl, Nat.le_of_ble_eq_true rfl⟩) (gR_V hP hK hB 2 (ci := 4) rfl h2) rfl rfl hl.1 rfl (lv_room (Nat.le_of_ble_eq_true rfl)) dX5_setShift_33 ⟨Nat.le_of_ble_eq_true rfl, Nat.le_of_ble_eq_true rfl⟩) (fun v_33 hv_33 => ?_)
        obtain ⟨z_33, rfl, hz_33, hy_33, hw_33⟩ := hv_33
        refine W.eq (g2 := F0 m 36 ls [.int (iI z_33)]) rfl ?_
        have he_36 : z_33 = sftF (fn 0) (fn 1) (sc 1) d := by omega
        rw [he_36]
        refine lv_istore_n (pc := 36) (lv' := [(3, .int (iI (sftF (fn 0) (fn 1) (sc 1) d))), (0, .ref (ad 0)), (1, .int (iI d)), (2, .int (iI sv))]) hx hb dX5_setShift_36 rfl hl (by decide) rfl (fun ls hl => ?_)
        refine lv_aload_n (pc := 37) hx hb dX5_setShift_37 rfl (lv_at hl 1 rfl) ?_
        refine k_get (pc := 38) (ci := 5) (C := RX5) (T := TX5) (N := 13) hx hb hts hi5 hown hK hP 0 h0 rfl 1 (by decide) hf18 (fun _ h9 => h9) rfl dX5_setShift_38 ?_
        refine lv_iload_n (pc := 41) hx hb dX5_setShift_41 rfl (lv_at hl 2 rfl) ?_
        refine lv_iload_n (pc := 42) hx hb dX5_setShift_42 rfl (lv_at hl 3 rfl) ?_
        refine k_call1 (pc := 43) (va_runV (As := [.int (iI d), .int (iI sv)]) (rest := []) ⟨hx, hb, hml, hown, hts⟩ (c_X4_tell l D cA ad w H.size 2 3 4 (sc 1) (fn 0) (fn 1) h2 h3 h4 hI1.2.1 hI.2.1 (by decide) (by decide) (by decide) d sv (by omega) (by omega)) (cwV 2 hts gX5_setShift_X4_tell rfl rfl rfl (by decide +kernel) ⟨Nat.le_of_ble_eq_true rfl, Nat.le_of_ble_eq_true rfl⟩) (gV_V hP hD hK hB hS hA hZ 2 (ci := 4) rfl h2) rfl rfl hl.1 rfl (lv_room (Nat.le_of_ble_eq_true rfl)) dX5_setShift_43 ⟨Nat.le_of_ble_eq_true rfl, Nat.le_of_ble_eq_true rfl⟩) hS (gA_sub hD hS hA) (fun v_43 ad_43 w_43 H locs hv_43 hP hD hS => ?_)
        obtain ⟨k_43, hk_43, hv2, ⟨he_43, hf_43, hv1, hv3⟩ | ⟨he_43, hf_43, hv1, hv3⟩ | ⟨he_43, hf_43, hv1, hv3⟩⟩ := hv_43
        · skip
          subst hv1
          rw [hv2, hv3] at hP hD
          refine W.eq (g2 := F0 m 46 ls [.int (iI 1)]) rfl ?_
          refine W.cs (cells' := 1) (slots' := 6) rfl rfl ?_
          refine k_if_ne (pc := 46) (tgt := 59) hx hb ⟨by omega, by omega⟩ dX5_setShift_46 (by decide) (fun hc_46 => ?_) (fun hc_46 => ?_)
          · skip
            refine lv_aload_n (pc := 59) hx hb dX5_setShift_59 rfl (lv_at hl 1 rfl) ?_
            refine k_iconst (pc := 60) hx hb dX5_setShift_60 ?_
            refine k_put (pc := 61) (ci := 5) (C := RX5) (T := TX5) (N := 13) (ty := .boolean) (v := .int (iI 0)) (w1 := (up (up w 4 (eI (cA 0) 20 (updI (fn 1) k_43 sv))) 0 (oB 5 [.ref (ad 1), .ref (ad 2), .ref (ad 5), .ref (ad 6), .ref (ad 7), .ref (ad 8), .ref (ad 9), .ref (ad 12), .int (iI (sc 0)), .int (iI (sc 4)), .int (iI (sc 2)), .int (iI (sc 3)), .int (iI 0)]))) hx hb hts hi5 tyX5 tyX5_ok nmX5 hown hK hP hD hS 0 (up_n (by decide) h0) rfl 12 (by decide) hf82 (fun _ h9 => h9) rfl (by decide +kernel) (by decide +kernel) rfl (Nat.le_of_ble_eq_true rfl) rfl dX5_setShift_61 (fun H locs hP hD hS => ?_)
            refine lv_iload_n (pc := 64) hx hb dX5_setShift_64 rfl (lv_at hl 0 rfl) ?_
            rw [hQ9]
            refine vx_ret ?_
            refine W.widen (k := 2) (n := 12) (by decide) (by decide) ?_
            exact W.iret (v := iI (sftF (fn 0) (fn 1) (sc 1) d)) hx hb hret (fun t ht hW => ⟨⟨some (.int (iI (sftF (fn 0) (fn 1) (sc 1) d))), ad, (up (up w 4 (eI (cA 0) 20 (updI (fn 1) k_43 sv))) 0 (oB 5 [.ref (ad 1), .ref (ad 2), .ref (ad 5), .ref (ad 6), .ref (ad 7), .ref (ad 8), .ref (ad 9), .ref (ad 12), .int (iI (sc 0)), .int (iI (sc 4)), .int (iI (sc 2)), .int (iI (sc 3)), .int (iI 0)])), rfl, ⟨sc, (upF fn 1 (updI (fn 1) k_43 sv)), ⟨0, F, S, rn, rd, rm_, rz, ⟨(up_s _ _ _), (up_n (by decide) (up_n (by decide) h1)), (up_n (by decide) (up_n (by decide) h2)), (up_n (by decide) (up_n (by decide) h3)), (up_n (by decide) (up_s _ _ _)), (up_n (by decide) (up_n (by decide) h5)), (up_n (by decide) (up_n (by decide) h6)), (up_n (by decide) (up_n (by decide) h7)), (up_n (by decide) (up_n (by decide) h8)), (up_n (by decide) (up_n (by decide) h9)), (up_n (by decide) (up_n (by decide) h10)), (up_n (by decide) (up_n (by decide) h11)), (up_n (by decide) (up_n (by decide) h12)), (up_n (by decide) (up_n (by decide) h13)), (up_n (by decide) (up_n (by decide) h14)), (up_n (by decide) (up_n (by decide) h15)), (fun k9 hk9 => by have h9_ := (cv_keep (fn2 := (upF fn 1 (updI (fn 1) k_43 sv))) hcv rfl rfl (fun k => ⟨(upF_n (by omega)), (upF_n (by omega))⟩)) k9 hk9; have i9_ := hI.1.1; exact ⟨(up_n (by omega) (up_n (by omega) h9_.1)), (up_n (by omega) (up_n (by omega) h9_.2.1)), (up_n (by omega) (up_n (by omega) h9_.2.2))⟩), (fun k9 hk9 => by have h9_ := hms k9 hk9; have i9_ := hI.1.2.2.2.2; exact (up_n (by omega) (up_n (by omega) h9_)))⟩, (Or.inl rfl), hF, hS9⟩, (by have hx9 := inv_sh hI (g1 := fn 0) (g2 := updI (fn 1) k_43 sv) (n := sc 1) hI1.2.1 ⟨hI.2.1.1, hI.2.1.2.1, upd_b hI.2.1.2.2 (by omega)⟩; rw [upS_self rfl, upF_self rfl] at hx9; exact hx9), ⟨rfl, fun r hr => ⟨(up_n (by omega) (up_n (by omega) rfl)), rfl⟩⟩, ⟨k_43, hk_43, by omega, Or.inl ⟨rfl, rfl, he_43, hf_43⟩, rfl⟩⟩, by rw [ht]; exact hP, hD⟩, hS.F ht⟩) hS.2.2 dX5_setShift_65
          · skip
            exfalso
            omega
        · skip
          subst hv1
          rw [hv2, hv3] at hP hD
          refine W.eq (g2 := F0 m 46 ls [.int (iI 1)]) rfl ?_
          refine W.cs (cells' := 1) (slots' := 6) rfl rfl ?_
          refine k_if_ne (pc := 46) (tgt := 59) hx hb ⟨by omega, by omega⟩ dX5_setShift_46 (by decide) (fun hc_46 => ?_) (fun hc_46 => ?_)
          · skip
            refine lv_aload_n (pc := 59) hx hb dX5_setShift_59 rfl (lv_at hl 1 rfl) ?_
            refine k_iconst (pc := 60) hx hb dX5_setShift_60 ?_
            refine k_put (pc := 61) (ci := 5) (C := RX5) (T := TX5) (N := 13) (ty := .boolean) (v := .int (iI 0)) (w1 := (up (up (up (up w 3 (eI (cA 0) 20 (insF (fn 0) (sc 1) k_43 d))) 4 (eI (cA 0) 20 (insF (fn 1) (sc 1) k_43 sv))) 2 (oB 4 [.ref (ad 3), .ref (ad 4), .int (iI ((sc 1) + 1))])) 0 (oB 5 [.ref (ad 1), .ref (ad 2), .ref (ad 5), .ref (ad 6), .ref (ad 7), .ref (ad 8), .ref (ad 9), .ref (ad 12), .int (iI (sc 0)), .int (iI (sc 4)), .int (iI (sc 2)), .int (iI (sc 3)), .int (iI 0)]))) hx hb hts hi5 tyX5 tyX5_ok nmX5 hown hK hP hD hS 0 (up_n (by decide) (up_n (by decide) (up_n (by decide) h0))) rfl 12 (by decide) hf82 (fun _ h9 => h9) rfl (by decide +kernel) (by decide +kernel) rfl (Nat.le_of_ble_eq_true rfl) rfl dX5_setShift_61 (fun H locs hP hD hS => ?_)
            refine lv_iload_n (pc := 64) hx hb dX5_setShift_64 rfl (lv_at hl 0 rfl) ?_
            rw [hQ9]
            refine vx_ret ?_
            refine W.widen (k := 2) (n := 12) (by decide) (by decide) ?_
            exact W.iret (v := iI (sftF (fn 0) (fn 1) (sc 1) d)) hx hb hret (fun t ht hW => ⟨⟨some (.int (iI (sftF (fn 0) (fn 1) (sc 1) d))), ad, (up (up (up (up w 3 (eI (cA 0) 20 (insF (fn 0) (sc 1) k_43 d))) 4 (eI (cA 0) 20 (insF (fn 1) (sc 1) k_43 sv))) 2 (oB 4 [.ref (ad 3), .ref (ad 4), .int (iI ((sc 1) + 1))])) 0 (oB 5 [.ref (ad 1), .ref (ad 2), .ref (ad 5), .ref (ad 6), .ref (ad 7), .ref (ad 8), .ref (ad 9), .ref (ad 12), .int (iI (sc 0)), .int (iI (sc 4)), .int (iI (sc 2)), .int (iI (sc 3)), .int (iI 0)])), rfl, ⟨(upS sc 1 (sc 1 + 1)), (upF (upF fn 0 (insF (fn 0) (sc 1) k_43 d)) 1 (insF (fn 1) (sc 1) k_43 sv)), ⟨0, F, S, rn, rd, rm_, rz, ⟨(up_s _ _ _), (up_n (by decide) (up_n (by decide) (up_n (by decide) (up_n (by decide) h1)))), (up_n (by decide) (up_s _ _ _)), (up_n (by decide) (up_n (by decide) (up_n (by decide) (up_s _ _ _)))), (up_n (by decide) (up_n (by decide) (up_s _ _ _))), (up_n (by decide) (up_n (by decide) (up_n (by decide) (up_n (by decide) h5)))), (up_n (by decide) (up_n (by decide) (up_n (by decide) (up_n (by decide) h6)))), (up_n (by decide) (up_n (by decide) (up_n (by decide) (up_n (by decide) h7)))), (up_n (by decide) (up_n (by decide) (up_n (by decide) (up_n (by decide) h8)))), (up_n (by decide) (up_n (by decide) (up_n (by decide) (up_n (by decide) h9)))), (up_n (by decide) (up_n (by decide) (up_n (by decide) (up_n (by decide) h10)))), (up_n (by decide) (up_n (by decide) (up_n (by decide) (up_n (by decide) h11)))), (up_n (by decide) (up_n (by decide) (up_n (by decide) (up_n (by decide) h12)))), (up_n (by decide) (up_n (by decide) (up_n (by decide) (up_n (by decide) h13)))), (up_n (by decide) (up_n (by decide) (up_n (by decide) (up_n (by decide) h14)))), (up_n (by decide) (up_n (by decide) (up_n (by decide) (up_n (by decide) h15)))), (fun k9 hk9 => by have h9_ := (cv_keep (fn2 := (upF (upF fn 0 (insF (fn 0) (sc 1) k_43 d)) 1 (insF (fn 1) (sc 1) k_43 sv))) hcv rfl rfl (fun k => ⟨((upF_n (by omega)).trans (upF_n (by omega))), ((upF_n (by omega)).trans (upF_n (by omega)))⟩)) k9 hk9; have i9_ := hI.1.1; exact ⟨(up_n (by omega) (up_n (by omega) (up_n (by omega) (up_n (by omega) h9_.1)))), (up_n (by omega) (up_n (by omega) (up_n (by omega) (up_n (by omega) h9_.2.1)))), (up_n (by omega) (up_n (by omega) (up_n (by omega) (up_n (by omega) h9_.2.2))))⟩), (fun k9 hk9 => by have h9_ := hms k9 hk9; have i9_ := hI.1.2.2.2.2; exact (up_n (by omega) (up_n (by omega) (up_n (by omega) (up_n (by omega) h9_)))))⟩, (Or.inl rfl), hF, hS9⟩, (inv_sh hI (by omega) (shOk_ins hI.2.1 (by omega) (by omega) hk_43 he_43)), ⟨rfl, fun r hr => ⟨(up_n (by omega) (up_n (by omega) (up_n (by omega) (up_n (by omega) rfl)))), rfl⟩⟩, ⟨k_43, hk_43, by omega, Or.inr ⟨rfl, rfl, he_43, hf_43⟩, rfl⟩⟩, by rw [ht]; exact hP, hD⟩, hS.F ht⟩) hS.2.2 dX5_setShift_65
          · skip
            exfalso
            omega
        · skip
          subst hv1
          rw [hv2, hv3] at hP hD
          refine W.eq (g2 := F0 m 46 ls [.int (iI 0)]) rfl ?_
          refine W.cs (cells' := 1) (slots' := 6) rfl rfl ?_
          refine k_if_ne (pc := 46) (tgt := 59) hx hb ⟨by omega, by omega⟩ dX5_setShift_46 (by decide) (fun hc_46 => ?_) (fun hc_46 => ?_)
          · skip
            exfalso
            omega
          · skip
            obtain ⟨sa_49, hsa_49⟩ := ns_142 hB
            rw [hQ9]
            exact vx_throwS (pc := 49) (own := RX5) (cls := xIS) (names := ["java/lang/RuntimeException", "java/lang/Exception"]) (ik := 67) (is := 142) (ic := 71) (A := A) hx hb hl0 hown (by decide +kernel) (by decide +kernel) (hts (.classLink RX5 67 "java/lang/IllegalStateException") (by decide +kernel)) (hts (.initialized "java/lang/IllegalStateException") (by decide +kernel)) hsa_49 (gx_hat hB (E := xIS) (i := 1) rfl (fun w h => hts w (hxw_xIS_71 w h)) (by decide +kernel)) (by decide +kernel) hZ.1 hZ.2 hS (hl.1.trans hml.symm) dX5_setShift_49 dX5_setShift_52 dX5_setShift_53 dX5_setShift_55 dX5_setShift_58 (fun x h => (hE x h).elim) (Nat.le_of_ble_eq_true rfl) (Nat.le_of_ble_eq_true rfl) (Nat.le_of_ble_eq_true rfl) (Nat.le_of_ble_eq_true rfl) hlocks (fun t hW hz hk => ⟨Or.inr ⟨rfl, by omega, k_43, hk_43, he_43, hf_43⟩, fun r x hr => (hP r x hr).kept (hk _ (hP r x hr).lt), hD, Nat.le_trans hS.1 hz, fun q h1 h2 => (hk q (Nat.lt_of_lt_of_le h1 hS.1)).trans (hS.2.1 q h1 h2)⟩) hS.2.2 (Nat.le_of_ble_eq_true rfl) (Nat.le_of_ble_eq_true rfl)
      · skip
        obtain ⟨sa_18, hsa_18⟩ := ns_134 hB
        rw [hQ9]
        exact vx_throwS (pc := 18) (own := RX5) (cls := xIA) (names := ["java/lang/RuntimeException", "java/lang/Exception"]) (ik := 112) (is := 134) (ic := 116) (A := A) hx hb hl0 hown (by decide +kernel) (by decide +kernel) (hts (.classLink RX5 112 "java/lang/IllegalArgumentException") (by decide +kernel)) (hts (.initialized "java/lang/IllegalArgumentException") (by decide +kernel)) hsa_18 (gx_hat hB (E := xIA) (i := 0) rfl (fun w h => hts w (hxw_xIA_116 w h)) (by decide +kernel)) (by decide +kernel) hZ.1 hZ.2 hS (hl.1.trans hml.symm) dX5_setShift_18 dX5_setShift_21 dX5_setShift_22 dX5_setShift_24 dX5_setShift_27 (fun x h => (hE x h).elim) (Nat.le_of_ble_eq_true rfl) (Nat.le_of_ble_eq_true rfl) (Nat.le_of_ble_eq_true rfl) (Nat.le_of_ble_eq_true rfl) hlocks (fun t hW hz hk => ⟨Or.inl ⟨rfl, by omega⟩, fun r x hr => (hP r x hr).kept (hk _ (hP r x hr).lt), hD, Nat.le_trans hS.1 hz, fun q h1 h2 => (hk q (Nat.lt_of_lt_of_le h1 hS.1)).trans (hS.2.1 q h1 h2)⟩) hS.2.2 (Nat.le_of_ble_eq_true rfl) (Nat.le_of_ble_eq_true rfl)
