/-! the law's own book: roles 200 the object, 201 the row of curves' rows, 202 .. 207 these, 208 shifts, 209 stages, 210 ice, 211 numbers -/
theorem upM_201 (w : Nat → Option va_E) (x y : va_E) : upM w 201 6 x y = up (up (up (up (up (up (up w 201 x) 202 y) 203 y) 204 y) 205 y) 206 y) 207 y := by
  funext j
  unfold upM up
  by_cases h1 : j = 207
  · rw [if_neg (by omega), if_pos (by omega), if_pos h1]
  by_cases h2 : j = 206
  · rw [if_neg (by omega), if_pos (by omega), if_neg (by omega), if_pos h2]
  by_cases h3 : j = 205
  · rw [if_neg (by omega), if_pos (by omega), if_neg (by omega), if_neg (by omega), if_pos h3]
  by_cases h4 : j = 204
  · rw [if_neg (by omega), if_pos (by omega), if_neg (by omega), if_neg (by omega), if_neg (by omega), if_pos h4]
  by_cases h5 : j = 203
  · rw [if_neg (by omega), if_pos (by omega), if_neg (by omega), if_neg (by omega), if_neg (by omega), if_neg (by omega), if_pos h5]
  by_cases h6 : j = 202
  · rw [if_neg (by omega), if_pos (by omega), if_neg (by omega), if_neg (by omega), if_neg (by omega), if_neg (by omega), if_neg (by omega), if_pos h6]
  by_cases h7 : j = 201
  · rw [if_pos h7, if_neg (by omega), if_neg (by omega), if_neg (by omega), if_neg (by omega), if_neg (by omega), if_neg (by omega), if_pos h7]
  · rw [if_neg h7, if_neg (by omega), if_neg (by omega), if_neg (by omega), if_neg (by omega), if_neg (by omega), if_neg (by omega), if_neg (by omega), if_neg h7]
def lbS (cA : Nat → ClassId) (ad : Nat → Nat) (w : Nat → Option va_E) (sh st ic nn : Int → Int) (cv : Nat → Int → Int) : Prop :=
  w 200 = some (oB 6 [.ref (ad 201), .ref (ad 208), .ref (ad 209), .ref (ad 210), .ref (ad 211)]) ∧ w 201 = some (eQ (cA 6) 6 (fun j : Nat => if j < 6 then some (ad (202 + j)) else none)) ∧ (∀ j : Nat, j < 6 → w (202 + j) = some (eI (cA 0) 30 (cv j))) ∧ w 208 = some (eI (cA 0) 400 sh) ∧ w 209 = some (eI (cA 0) 400 st) ∧ w 210 = some (eI (cA 1) 400 ic) ∧ w 211 = some (eI (cA 0) 4 nn)
theorem lbS_keep {cA : Nat → ClassId} {ad ad1 : Nat → Nat} {w w1 : Nat → Option va_E} {sh st ic nn : Int → Int} {cv : Nat → Int → Int} (hk : keepR ad ad1 w w1) (h : lbS cA ad w sh st ic nn cv) : lbS cA ad1 w1 sh st ic nn cv := by
  obtain ⟨h0, h1, h2, h3, h4, h5, h6⟩ := h
  refine ⟨?_, ?_, fun j hj => ?_, ?_, ?_, ?_, ?_⟩
  · rw [(hk.2 200 (by omega)).1, h0, (hk.2 201 (by omega)).2, (hk.2 208 (by omega)).2, (hk.2 209 (by omega)).2, (hk.2 210 (by omega)).2, (hk.2 211 (by omega)).2]
  · rw [(hk.2 201 (by omega)).1, h1]
    congr 2
    funext j
    by_cases e9 : j < 6
    · rw [if_pos e9, if_pos e9, (hk.2 (202 + j) (by omega)).2]
    · rw [if_neg e9, if_neg e9]
  · rw [(hk.2 (202 + j) (by omega)).1]
    exact h2 j hj
  · rw [(hk.2 208 (by omega)).1]; exact h3
  · rw [(hk.2 209 (by omega)).1]; exact h4
  · rw [(hk.2 210 (by omega)).1]; exact h5
  · rw [(hk.2 211 (by omega)).1]; exact h6
section LBU
variable {cA : Nat → ClassId} {ad : Nat → Nat} {w : Nat → Option va_E} {sh st ic nn : Int → Int} {cv : Nat → Int → Int}
theorem lbS_cv (c : Nat) (g : Int → Int) (hc : c < 6) (h : lbS cA ad w sh st ic nn cv) : lbS cA ad (up w (202 + c) (eI (cA 0) 30 g)) sh st ic nn (fun j => if j = c then g else cv j) := by
  obtain ⟨h0, h1, h2, h3, h4, h5, h6⟩ := h
  refine ⟨up_n (by omega) h0, up_n (by omega) h1, fun j hj => ?_, up_n (by omega) h3, up_n (by omega) h4, up_n (by omega) h5, up_n (by omega) h6⟩
  show up w (202 + c) (eI (cA 0) 30 g) (202 + j) = some (eI (cA 0) 30 (if j = c then g else cv j))
  by_cases e : j = c
  · rw [if_pos e, e]
    exact up_s _ _ _
  · rw [if_neg e]
    exact up_n (by omega) (h2 j hj)
theorem lbS_sh (g : Int → Int) (h : lbS cA ad w sh st ic nn cv) : lbS cA ad (up w 208 (eI (cA 0) 400 g)) g st ic nn cv := by
  obtain ⟨h0, h1, h2, h3, h4, h5, h6⟩ := h
  exact ⟨up_n (by omega) h0, up_n (by omega) h1, fun j hj => up_n (by omega) (h2 j hj), up_s _ _ _, up_n (by omega) h4, up_n (by omega) h5, up_n (by omega) h6⟩
theorem lbS_st (g : Int → Int) (h : lbS cA ad w sh st ic nn cv) : lbS cA ad (up w 209 (eI (cA 0) 400 g)) sh g ic nn cv := by
  obtain ⟨h0, h1, h2, h3, h4, h5, h6⟩ := h
  exact ⟨up_n (by omega) h0, up_n (by omega) h1, fun j hj => up_n (by omega) (h2 j hj), up_n (by omega) h3, up_s _ _ _, up_n (by omega) h5, up_n (by omega) h6⟩
theorem lbS_ic (g : Int → Int) (h : lbS cA ad w sh st ic nn cv) : lbS cA ad (up w 210 (eI (cA 1) 400 g)) sh st g nn cv := by
  obtain ⟨h0, h1, h2, h3, h4, h5, h6⟩ := h
  exact ⟨up_n (by omega) h0, up_n (by omega) h1, fun j hj => up_n (by omega) (h2 j hj), up_n (by omega) h3, up_n (by omega) h4, up_s _ _ _, up_n (by omega) h6⟩
theorem lbS_nn (g : Int → Int) (h : lbS cA ad w sh st ic nn cv) : lbS cA ad (up w 211 (eI (cA 0) 4 g)) sh st ic g cv := by
  obtain ⟨h0, h1, h2, h3, h4, h5, h6⟩ := h
  exact ⟨up_n (by omega) h0, up_n (by omega) h1, fun j hj => up_n (by omega) (h2 j hj), up_n (by omega) h3, up_n (by omega) h4, up_n (by omega) h5, up_s _ _ _⟩
end LBU
/-- the last told day up to d, and the first from d on, among the days before k -/
def shA (sh : Int → Int) (d k a : Int) : Prop := (a = -1 ∧ ∀ j : Int, 0 ≤ j → j < k → j ≤ d → sh j = 9999) ∨ (0 ≤ a ∧ a ≤ d ∧ sh a ≠ 9999 ∧ ∀ j : Int, a < j → j < k → j ≤ d → sh j = 9999)
def shB (sh : Int → Int) (d k b : Int) : Prop := (b = -1 ∧ ∀ j : Int, d ≤ j → j < k → sh j = 9999) ∨ (d ≤ b ∧ sh b ≠ 9999 ∧ ∀ j : Int, d ≤ j → j < b → sh j = 9999)
theorem shA_9 {sh : Int → Int} {d k a : Int} (h : shA sh d k a) (e : sh k = 9999) : shA sh d (k + 1) a := by
  rcases h with ⟨h1, h2⟩ | ⟨h1, h2, h3, h4⟩
  · exact Or.inl ⟨h1, fun j a1 a2 a3 => by by_cases c : j = k; rw [c]; exact e; exact h2 j a1 (by omega) a3⟩
  · exact Or.inr ⟨h1, h2, h3, fun j a1 a2 a3 => by by_cases c : j = k; rw [c]; exact e; exact h4 j a1 (by omega) a3⟩
theorem shA_gt {sh : Int → Int} {d k a : Int} (h : shA sh d k a) (e : d < k) : shA sh d (k + 1) a := by
  rcases h with ⟨h1, h2⟩ | ⟨h1, h2, h3, h4⟩
  · exact Or.inl ⟨h1, fun j a1 a2 a3 => h2 j a1 (by omega) a3⟩
  · exact Or.inr ⟨h1, h2, h3, fun j a1 a2 a3 => h4 j a1 (by omega) a3⟩
theorem shA_s {sh : Int → Int} {d k : Int} (h0 : 0 ≤ k) (h1 : k ≤ d) (e : sh k ≠ 9999) : shA sh d (k + 1) k := Or.inr ⟨h0, h1, e, fun j a1 a2 a3 => by omega⟩
theorem shB_9 {sh : Int → Int} {d k b : Int} (h : shB sh d k b) (e : sh k = 9999) : shB sh d (k + 1) b := by
  rcases h with ⟨h1, h2⟩ | h
  · exact Or.inl ⟨h1, fun j a1 a2 => by by_cases c : j = k; rw [c]; exact e; exact h2 j a1 (by omega)⟩
  · exact Or.inr h
theorem shB_lt {sh : Int → Int} {d k b : Int} (h : shB sh d k b) (e : k < d) : shB sh d (k + 1) b := by
  rcases h with ⟨h1, h2⟩ | h
  · exact Or.inl ⟨h1, fun j a1 a2 => by omega⟩
  · exact Or.inr h
theorem shB_has {sh : Int → Int} {d k b : Int} (h : shB sh d k b) (e : 0 ≤ b) : shB sh d (k + 1) b := by
  rcases h with ⟨h1, h2⟩ | h
  · omega
  · exact Or.inr h
theorem shB_s {sh : Int → Int} {d k b : Int} (h0 : 0 ≤ d) (h : shB sh d k b) (hb : b < 0) (h1 : d ≤ k) (e : sh k ≠ 9999) : shB sh d (k + 1) k := by
  rcases h with ⟨h2, h3⟩ | ⟨h2, -⟩
  · exact Or.inr ⟨h1, e, h3⟩
  · omega

abbrev rmL_below : Room := { frames := 0, cells := 0, slots := 0, locals := 0 }
set_option maxHeartbeats 4000000 in
set_option maxRecDepth 100000 in
theorem c_L_below (l : Launch) (D : va_G) (cA : Nat → ClassId) (ad : Nat → Nat) (w : Nat → Option va_E) (v n : Int) (hn : 1 ≤ n ∧ n < 2147483648) : Met l yL_below wsL_below rmL_below (gR D cA ad w [.int (iI v), .int (iI n)]) (gR0 (fun v9 => ∃ z : Int, v9 = some (.int (iI z)) ∧ 0 ≤ z ∧ z < n)) 0 0 (fun _ => False) := by
  refine Met.ofW (cc := cL_below) (maxL := 2) (ret := (some .int)) (by decide) rfl ?_
  intro p e s m args below meth c s₁ B hml hv
  obtain ⟨hav, hP, hK, hB⟩ := hv
  have hx := B.exec
  have hb := B.bytes
  have hret := B.returns
  have hts := atoms_spec (ws := wsL_below) B.pre
  have hown : s.vm.findClass RL = some m.cls := findClass_of_methodNamed B.named
  have hlocks := B.notSynchronized
  have hS : va_S (fun _ => False) s.heap s.heap [] := va_S.rf
  have he9 : entryFrame m args 2 = F0 m 0 ((lg_sl ([.int (iI v), .int (iI n)] : List Value) ++ List.replicate (2 - (lg_sl ([.int (iI v), .int (iI n)] : List Value)).length) Slot.unset).toArray) [] := by rw [hav, lg_entry_eq]
  rw [he9]
  have hl := lv_entry ([.int (iI v), .int (iI n)] : List Value) (n := 2) (Nat.le_of_ble_eq_true rfl)
  generalize (lg_sl ([.int (iI v), .int (iI n)] : List Value) ++ List.replicate (2 - (lg_sl ([.int (iI v), .int (iI n)] : List Value)).length) Slot.unset).toArray = ls at hl ⊢
  have hl : lv_has ls 2 [(0, .int (iI v)), (1, .int (iI n))] := hl
  obtain ⟨Q9, hQ9⟩ : ∃ z, z = MQ below (gR0 (fun v9 => ∃ z : Int, v9 = some (.int (iI z)) ∧ 0 ≤ z ∧ z < n)) args s 0 0 (fun _ => False) := ⟨_, rfl⟩
  rw [← hQ9]
  show W p l e rmL_below s m args below meth c s.heap [] 0 0 Q9 (F0 m 0 ls [])
  have hm_ := iAnd_m v
  have hb_ := below_b (n := n) hm_.1 hn.1
  refine lv_iload_n (pc := 0) hx hb dL_below_0 rfl (lv_at hl 0 rfl) ?_
  refine k_ldc (z := 2147483647) (pc := 1) hx hb hown (hts (.constant RL 7 (2147483647)) (by decide +kernel)) (by decide +kernel) dL_below_1 ?_
  refine k_iand (pc := 3) hx hb dL_below_3 ?_
  refine lv_iload_n (pc := 4) hx hb dL_below_4 rfl (lv_at hl 1 rfl) ?_
  refine k_irem (pc := 5) hx hb ⟨by omega, by omega⟩ ⟨by omega, by omega⟩ (by omega) dL_below_5 ?_
  rw [hQ9]
  exact W.iret (v := iI ((iAnd v 2147483647) - Int.tdiv (iAnd v 2147483647) n * n)) hx hb hret (fun t ht hW => ⟨some (.int (iI ((iAnd v 2147483647) - Int.tdiv (iAnd v 2147483647) n * n))), rfl, ⟨(iAnd v 2147483647) - Int.tdiv (iAnd v 2147483647) n * n, rfl, hb_⟩, ht⟩) (fun q hq => by cases hq) dL_below_6

abbrev rmL_cell : Room := { frames := 0, cells := 0, slots := 0, locals := 0 }
set_option maxHeartbeats 4000000 in
set_option maxRecDepth 100000 in
theorem c_L_cell (l : Launch) (b L : Nat) (xs : Nat → Int32) (hL : L ≤ 260) (k : Int) (hk : 0 ≤ k ∧ k < 2147483000) : Met l yL_cell wsL_cell rmL_cell (gS b L xs [.ref b, .int (iI k)]) (gR0 (fun v9 => ∃ z : Int, v9 = some (.int (iI z)) ∧ rI z)) 0 0 (fun _ => False) := by
  refine Met.ofW (cc := cL_cell) (maxL := 2) (ret := (some .int)) (by decide) rfl ?_
  intro p e s m args below meth c s₁ B hml hv
  obtain ⟨hav, hX, hbl⟩ := hv
  have hx := B.exec
  have hb := B.bytes
  have hret := B.returns
  have hts := atoms_spec (ws := wsL_cell) B.pre
  have hown : s.vm.findClass RL = some m.cls := findClass_of_methodNamed B.named
  have hS : va_S (fun _ => False) s.heap s.heap [] := va_S.rf
  have he9 : entryFrame m args 2 = F0 m 0 ((lg_sl ([.ref b, .int (iI k)] : List Value) ++ List.replicate (2 - (lg_sl ([.ref b, .int (iI k)] : List Value)).length) Slot.unset).toArray) [] := by rw [hav, lg_entry_eq]
  rw [he9]
  have hl := lv_entry ([.ref b, .int (iI k)] : List Value) (n := 2) (Nat.le_of_ble_eq_true rfl)
  generalize (lg_sl ([.ref b, .int (iI k)] : List Value) ++ List.replicate (2 - (lg_sl ([.ref b, .int (iI k)] : List Value)).length) Slot.unset).toArray = ls at hl ⊢
  have hl : lv_has ls 2 [(0, .ref b), (1, .int (iI k))] := hl
  refine lv_iload_n (pc := 0) hx hb dL_cell_0 rfl (lv_at hl 1 rfl) ?_
  refine lv_aload_n (pc := 1) hx hb dL_cell_1 rfl (lv_at hl 0 rfl) ?_
  refine k_slen (pc := 2) hx hb hX hbl (fun h => h) hS dL_cell_2 ?_
  refine k_icmp_ge (pc := 3) (tgt := 12) hx hb ⟨by omega, by omega⟩ ⟨by omega, by omega⟩ dL_cell_3 (by decide) (fun hc => ?_) (fun hc => ?_)
  · refine k_ldc (pc := 12) (z := 790386105) hx hb hown (hts (.constant RL 8 (790386105)) (by decide +kernel)) (by decide +kernel) dL_cell_12 ?_
    refine lv_iload_n (pc := 14) hx hb dL_cell_14 rfl (lv_at hl 1 rfl) ?_
    refine k_iconst (pc := 15) hx hb dL_cell_15 ?_
    refine k_iadd (pc := 16) hx hb dL_cell_16 ?_
    refine k_imul (pc := 17) hx hb dL_cell_17 ?_
    exact W.iret (v := iI (790386105 * (k + 3))) hx hb hret (fun t ht hW => ⟨some (.int (iI (790386105 * (k + 3)))), rfl, ⟨wI (790386105 * (k + 3)), by rw [show iI (wI (790386105 * (k + 3))) = iI (790386105 * (k + 3)) from iI_of _], wI_r _⟩, ht⟩) (fun q hq => by cases hq) dL_cell_18
  · refine lv_aload_n (pc := 6) hx hb dL_cell_6 rfl (lv_at hl 0 rfl) ?_
    refine lv_iload_n (pc := 7) hx hb dL_cell_7 rfl (lv_at hl 1 rfl) ?_
    refine k_sld (pc := 8) hx hb hX hbl (fun h => h) hS (i := k) hk.1 (by omega) (by omega) dL_cell_8 ?_
    refine lv_goto (pc := 9) (tgt := 18) hx hb dL_cell_9 (by decide) ?_
    exact W.iret (v := iI (xs k.toNat).toInt) hx hb hret (fun t ht hW => ⟨some (.int (iI (xs k.toNat).toInt)), rfl, ⟨(xs k.toNat).toInt, rfl, iI_rng _⟩, ht⟩) (fun q hq => by cases hq) dL_cell_18

abbrev rmX6_init : Room := { frames := 1, cells := 11, slots := 1390, locals := 12 }
theorem hiX6_init_6 : ∀ w ∈ wsX60, w ∈ wsX6_init := by decide +kernel
set_option maxHeartbeats 4000000 in
set_option maxRecDepth 100000 in
theorem c_X6_init (l : Launch) (D : va_G) (cA : Nat → ClassId) (ad : Nat → Nat) (w : Nat → Option va_E) (sz : Nat) (h0 : w 200 = some (oB 6 [.null, .null, .null, .null, .null])) : Met l yX6_init wsX6_init rmX6_init (gV D cA ad w sz [.ref (ad 200)]) (gW D (fun v9 ad1 w1 => v9 = none ∧ (∀ r : Nat, r < 200 → w1 r = w r ∧ ad1 r = ad r) ∧ ad1 200 = ad 200 ∧ ∃ sh st nn : Int → Int, lbS cA ad1 w1 sh st (fun _ => 0) nn (fun _ _ => 0) ∧ (∀ j : Int, (0 ≤ j ∧ j < 400 → sh j = 9999 ∧ st j = 9999) ∧ (sh j = 9999 ∨ sh j = 0)) ∧ nn 1 = 5) (gA ad w sz)) 11 1390 (gA ad w sz) := by
  refine Met.ofW (cc := cX6_init) (maxL := 2) (ret := none) (by decide) rfl ?_
  intro p e s m args below meth c s₁ B hml hv
  obtain ⟨hav, hsz, hP, hD0, hK, hB, hZ⟩ := hv
  have hx := B.exec
  have hb := B.bytes
  have hret := B.returns
  have hts := atoms_spec (ws := wsX6_init) B.pre
  have hown : s.vm.findClass RX6 = some m.cls := findClass_of_methodNamed B.named
  have hlocks := B.notSynchronized
  have hin : meth.name = "<init>" := (name_of_methodNamed B.named B.method).1
  subst hsz
  have hD := hD0.self (sz := s.heap.size)
  generalize hAe : gA ad w s.heap.size = A at hD hZ ⊢
  have hA : ∀ q : Nat, s.heap.size ≤ q → A q := fun q h => by rw [← hAe]; exact Or.inr h
  have hS : va_S A s.heap s.heap [] := va_S.rf
  have hi6 := hiX6_init_6
  have hf9 := hts (.fieldLink RX6 9 "GaugeBookLaw$Book" "curves" "[[I") (by decide +kernel)
  have hf14 := hts (.fieldLink RX6 14 "GaugeBookLaw$Book" "shifts" "[I") (by decide +kernel)
  have hf18 := hts (.fieldLink RX6 18 "GaugeBookLaw$Book" "stages" "[I") (by decide +kernel)
  have hf21 := hts (.fieldLink RX6 21 "GaugeBookLaw$Book" "ice" "[Z") (by decide +kernel)
  have hf25 := hts (.fieldLink RX6 25 "GaugeBookLaw$Book" "n" "[I") (by decide +kernel)
  have he9 : entryFrame m args 2 = F0 m 0 ((lg_sl ([.ref (ad 200)] : List Value) ++ List.replicate (2 - (lg_sl ([.ref (ad 200)] : List Value)).length) Slot.unset).toArray) [] := by rw [hav, lg_entry_eq]
  rw [he9]
  have hl := lv_entry ([.ref (ad 200)] : List Value) (n := 2) (Nat.le_of_ble_eq_true rfl)
  generalize (lg_sl ([.ref (ad 200)] : List Value) ++ List.replicate (2 - (lg_sl ([.ref (ad 200)] : List Value)).length) Slot.unset).toArray = ls at hl ⊢
  have hl : lv_has ls 2 [(0, .ref (ad 200))] := hl
  obtain ⟨Q9, hQ9⟩ : ∃ z, z = MQ below (gW D (fun v9 ad1 w1 => v9 = none ∧ (∀ r : Nat, r < 200 → w1 r = w r ∧ ad1 r = ad r) ∧ ad1 200 = ad 200 ∧ ∃ sh st nn : Int → Int, lbS cA ad1 w1 sh st (fun _ => 0) nn (fun _ _ => 0) ∧ (∀ j : Int, (0 ≤ j ∧ j < 400 → sh j = 9999 ∧ st j = 9999) ∧ (sh j = 9999 ∨ sh j = 0)) ∧ nn 1 = 5) A) args s 11 1390 A := ⟨_, rfl⟩
  rw [← hQ9]
  show W p l e rmX6_init s m args below meth c s.heap [] 0 0 Q9 (F0 m 0 ls [])
  obtain ⟨H, hHe⟩ : ∃ z, z = s.heap := ⟨_, rfl⟩
  obtain ⟨locs, hLe⟩ : ∃ z, z = ([] : List Loc) := ⟨_, rfl⟩
  have hP : gP D vwCl ad w H := by rw [hHe]; exact hP
  have hS : va_S A s.heap H locs := by rw [hHe, hLe]; exact va_S.rf
  rw [show W p l e rmX6_init s m args below meth c s.heap [] 0 0 Q9 (F0 m 0 ls []) = W p l e rmX6_init s m args below meth c H locs 0 0 Q9 (F0 m 0 ls []) by rw [hHe, hLe]]
  clear hHe hLe
  refine lv_aload_n (pc := 0) hx hb dX6_init_0 rfl (lv_at hl 0 rfl) ?_
  refine W.eq (g2 := F0 m 1 ls [.ref (ad 200)]) rfl ?_
  refine W.objInit hx hb hown (hts (.methodLink RX6 1 objectInit) (by decide +kernel)) (hts (.instanceMethod objectInit) (by decide +kernel)) (hts (.code objectInit ⟨#[0xb1]⟩ 1 none) (by decide +kernel)) rfl (by rw [hml]; exact hl.1) rfl dX6_init_1 (Nat.le_of_ble_eq_true rfl) (Nat.le_of_ble_eq_true rfl) ?_
  refine W.eq (g2 := F0 m 4 ls []) rfl ?_
  refine lv_aload_n (pc := 4) hx hb dX6_init_4 rfl (lv_at hl 0 rfl) ?_
  refine k_bipush (pc := 5) hx hb dX6_init_5 (by decide +kernel) ?_
  refine k_bipush (pc := 7) hx hb dX6_init_7 (by decide +kernel) ?_
  refine k_mna (pc := 9) (own := RX6) hx hb hown (hts (.classLink RX6 7 "[[I") (by decide +kernel)) hB.2.2.2.2.2.2.2.2 (hts (.arrayClass .int) (by decide +kernel)) hK hP hD hS hA 201 0 6 rfl rfl 6 30 rfl rfl (by decide) (by decide) (Nat.le_of_ble_eq_true rfl) (Nat.le_of_ble_eq_true rfl) dX6_init_9 (fun q_9 H hP hD hS => ?_)
  obtain ⟨ad_9, hga_9⟩ : ∃ z9 : Nat → Nat, adM ad 201 6 q_9 = z9 := ⟨_, rfl⟩
  have hnn_9 : ∀ j9 : Nat, ¬ (201 ≤ j9 ∧ j9 ≤ 207) → ad j9 = ad_9 j9 := fun j9 h9_ => by rw [← hga_9]; unfold adM; rw [if_neg (by omega)]
  have hqq_9 : q_9 = ad_9 201 := by rw [← hga_9]; unfold adM; rw [if_pos (by omega)]; omega
  have hqf_9 : (fun j : Nat => if j < 6 then some (q_9 + 1 + j) else none) = fun j : Nat => if j < 6 then some (ad_9 (202 + j)) else none := by funext j; by_cases e9 : j < 6; rw [if_pos e9, if_pos e9, ← hga_9]; congr 1; unfold adM; rw [if_pos (by omega)]; omega; rw [if_neg e9, if_neg e9]
  rw [hga_9, hqf_9, upM_201] at hP hD
  rw [hqq_9]
  rw [hnn_9 200 (by omega)]
  rw [hnn_9 200 (by omega)] at hl
  refine W.eq (g2 := F0 m 13 ls [.ref (ad_9 201), .ref (ad_9 200)]) rfl ?_
  refine W.cs (cells' := 7) (slots' := 186) rfl rfl ?_
  refine k_putF (pc := 13) (ci := 6) (C := RX6) (T := TX6) (N := 5) (ty := .array (.array .int)) (v := .ref (ad_9 201)) (w1 := (up (up (up (up (up (up (up (up w 201 (eQ (cA 6) 6 (fun j : Nat => if j < 6 then some (ad_9 (202 + j)) else none))) 202 (eI (cA 0) 30 (fun _ => 0))) 203 (eI (cA 0) 30 (fun _ => 0))) 204 (eI (cA 0) 30 (fun _ => 0))) 205 (eI (cA 0) 30 (fun _ => 0))) 206 (eI (cA 0) 30 (fun _ => 0))) 207 (eI (cA 0) 30 (fun _ => 0))) 200 (oB 6 [.ref (ad_9 201), .null, .null, .null, .null]))) hx hb hts hi6 tyX6 tyX6_ok nmX6 hown hK hP hD hS 200 (up_n (by decide) (up_n (by decide) (up_n (by decide) (up_n (by decide) (up_n (by decide) (up_n (by decide) (up_n (by decide) h0))))))) rfl 0 (by decide) hf9 (fun _ h9 => h9) rfl hin rfl (by decide +kernel) rfl rfl (Nat.le_of_ble_eq_true rfl) rfl dX6_init_13 (fun H locs hP hD hS => ?_)
  refine lv_aload_n (pc := 16) hx hb dX6_init_16 rfl (lv_at hl 0 rfl) ?_
  refine k_sipush (pc := 17) hx hb dX6_init_17 (by decide +kernel) ?_
  refine k_newI (pc := 20) hx hb (hts (.arrayClass .int) (by decide +kernel)) hK hP hD hS hA 208 0 rfl 400 rfl (by decide) (Nat.le_of_ble_eq_true rfl) (Nat.le_of_ble_eq_true rfl) dX6_init_20 (fun q_20 H hP hD hS => ?_)
  obtain ⟨ad_20, hga_20⟩ : ∃ z9 : Nat → Nat, adN ad_9 208 q_20 = z9 := ⟨_, rfl⟩
  rw [hga_20] at hP hD
  have hnn_20 : ∀ j9 : Nat, j9 ≠ 208 → ad_9 j9 = ad_20 j9 := fun j9 h9_ => by rw [← hga_20, adN_n _ _ h9_]
  rw [show q_20 = ad_20 208 by rw [← hga_20, adN_s]]
  rw [hnn_20 201 (by omega)] at hP hD
  rw [show (fun j : Nat => if j < 6 then some (ad_9 (202 + j)) else none) = fun j : Nat => if j < 6 then some (ad_20 (202 + j)) else none by funext j; by_cases e9 : j < 6; rw [if_pos e9, if_pos e9, hnn_20 (202 + j) (by omega)]; rw [if_neg e9, if_neg e9]] at hP hD
  rw [hnn_20 200 (by omega)]
  rw [hnn_20 200 (by omega)] at hl
  refine W.eq (g2 := F0 m 22 ls [.ref (ad_20 208), .ref (ad_20 200)]) rfl ?_
  refine W.cs (cells' := 8) (slots' := 586) rfl rfl ?_
  refine k_putF (pc := 22) (ci := 6) (C := RX6) (T := TX6) (N := 5) (ty := .array .int) (v := .ref (ad_20 208)) (w1 := (up (up (up (up (up (up (up (up (up w 201 (eQ (cA 6) 6 (fun j : Nat => if j < 6 then some (ad_20 (202 + j)) else none))) 202 (eI (cA 0) 30 (fun _ => 0))) 203 (eI (cA 0) 30 (fun _ => 0))) 204 (eI (cA 0) 30 (fun _ => 0))) 205 (eI (cA 0) 30 (fun _ => 0))) 206 (eI (cA 0) 30 (fun _ => 0))) 207 (eI (cA 0) 30 (fun _ => 0))) 200 (oB 6 [.ref (ad_20 201), .ref (ad_20 208), .null, .null, .null])) 208 (eI (cA 0) 400 (fun _ => 0)))) hx hb hts hi6 tyX6 tyX6_ok nmX6 hown hK hP hD hS 200 (up_n (by decide) (up_s _ _ _)) rfl 1 (by decide) hf14 (fun _ h9 => h9) rfl hin rfl (by decide +kernel) rfl rfl (Nat.le_of_ble_eq_true rfl) ((up_co _ _ _ (by decide)).trans (congrArg (fun u => up u 208 _) (up_up _ _ _ _))) dX6_init_22 (fun H locs hP hD hS => ?_)
  refine lv_aload_n (pc := 25) hx hb dX6_init_25 rfl (lv_at hl 0 rfl) ?_
  refine k_sipush (pc := 26) hx hb dX6_init_26 (by decide +kernel) ?_
  refine k_newI (pc := 29) hx hb (hts (.arrayClass .int) (by decide +kernel)) hK hP hD hS hA 209 0 rfl 400 rfl (by decide) (Nat.le_of_ble_eq_true rfl) (Nat.le_of_ble_eq_true rfl) dX6_init_29 (fun q_29 H hP hD hS => ?_)
  obtain ⟨ad_29, hga_29⟩ : ∃ z9 : Nat → Nat, adN ad_20 209 q_29 = z9 := ⟨_, rfl⟩
  rw [hga_29] at hP hD
  have hnn_29 : ∀ j9 : Nat, j9 ≠ 209 → ad_20 j9 = ad_29 j9 := fun j9 h9_ => by rw [← hga_29, adN_n _ _ h9_]
  rw [show q_29 = ad_29 209 by rw [← hga_29, adN_s]]
  rw [hnn_29 201 (by omega)] at hP hD
  rw [hnn_29 208 (by omega)] at hP hD
  rw [show (fun j : Nat => if j < 6 then some (ad_20 (202 + j)) else none) = fun j : Nat => if j < 6 then some (ad_29 (202 + j)) else none by funext j; by_cases e9 : j < 6; rw [if_pos e9, if_pos e9, hnn_29 (202 + j) (by omega)]; rw [if_neg e9, if_neg e9]] at hP hD
  rw [hnn_29 200 (by omega)]
  rw [hnn_29 200 (by omega)] at hl
  refine W.eq (g2 := F0 m 31 ls [.ref (ad_29 209), .ref (ad_29 200)]) rfl ?_
  refine W.cs (cells' := 9) (slots' := 986) rfl rfl ?_
  refine k_putF (pc := 31) (ci := 6) (C := RX6) (T := TX6) (N := 5) (ty := .array .int) (v := .ref (ad_29 209)) (w1 := (up (up (up (up (up (up (up (up (up (up w 201 (eQ (cA 6) 6 (fun j : Nat => if j < 6 then some (ad_29 (202 + j)) else none))) 202 (eI (cA 0) 30 (fun _ => 0))) 203 (eI (cA 0) 30 (fun _ => 0))) 204 (eI (cA 0) 30 (fun _ => 0))) 205 (eI (cA 0) 30 (fun _ => 0))) 206 (eI (cA 0) 30 (fun _ => 0))) 207 (eI (cA 0) 30 (fun _ => 0))) 200 (oB 6 [.ref (ad_29 201), .ref (ad_29 208), .ref (ad_29 209), .null, .null])) 208 (eI (cA 0) 400 (fun _ => 0))) 209 (eI (cA 0) 400 (fun _ => 0)))) hx hb hts hi6 tyX6 tyX6_ok nmX6 hown hK hP hD hS 200 (up_n (by decide) (up_n (by decide) (up_s _ _ _))) rfl 2 (by decide) hf18 (fun _ h9 => h9) rfl hin rfl (by decide +kernel) rfl rfl (Nat.le_of_ble_eq_true rfl) ((up_co _ _ _ (by decide)).trans (congrArg (fun u => up u 209 _) ((up_co _ _ _ (by decide)).trans (congrArg (fun u => up u 208 _) (up_up _ _ _ _))))) dX6_init_31 (fun H locs hP hD hS => ?_)
  refine lv_aload_n (pc := 34) hx hb dX6_init_34 rfl (lv_at hl 0 rfl) ?_
  refine k_sipush (pc := 35) hx hb dX6_init_35 (by decide +kernel) ?_
  refine k_newZ (pc := 38) hx hb (hts (.arrayClass .boolean) (by decide +kernel)) hK hP hD hS hA 210 1 rfl 400 rfl (by decide) (Nat.le_of_ble_eq_true rfl) (Nat.le_of_ble_eq_true rfl) dX6_init_38 (fun q_38 H hP hD hS => ?_)
  obtain ⟨ad_38, hga_38⟩ : ∃ z9 : Nat → Nat, adN ad_29 210 q_38 = z9 := ⟨_, rfl⟩
  rw [hga_38] at hP hD
  have hnn_38 : ∀ j9 : Nat, j9 ≠ 210 → ad_29 j9 = ad_38 j9 := fun j9 h9_ => by rw [← hga_38, adN_n _ _ h9_]
  rw [show q_38 = ad_38 210 by rw [← hga_38, adN_s]]
  rw [hnn_38 201 (by omega)] at hP hD
  rw [hnn_38 208 (by omega)] at hP hD
  rw [hnn_38 209 (by omega)] at hP hD
  rw [show (fun j : Nat => if j < 6 then some (ad_29 (202 + j)) else none) = fun j : Nat => if j < 6 then some (ad_38 (202 + j)) else none by funext j; by_cases e9 : j < 6; rw [if_pos e9, if_pos e9, hnn_38 (202 + j) (by omega)]; rw [if_neg e9, if_neg e9]] at hP hD
  rw [hnn_38 200 (by omega)]
  rw [hnn_38 200 (by omega)] at hl
  refine W.eq (g2 := F0 m 40 ls [.ref (ad_38 210), .ref (ad_38 200)]) rfl ?_
  refine W.cs (cells' := 10) (slots' := 1386) rfl rfl ?_
  refine k_putF (pc := 40) (ci := 6) (C := RX6) (T := TX6) (N := 5) (ty := .array .boolean) (v := .ref (ad_38 210)) (w1 := (up (up (up (up (up (up (up (up (up (up (up w 201 (eQ (cA 6) 6 (fun j : Nat => if j < 6 then some (ad_38 (202 + j)) else none))) 202 (eI (cA 0) 30 (fun _ => 0))) 203 (eI (cA 0) 30 (fun _ => 0))) 204 (eI (cA 0) 30 (fun _ => 0))) 205 (eI (cA 0) 30 (fun _ => 0))) 206 (eI (cA 0) 30 (fun _ => 0))) 207 (eI (cA 0) 30 (fun _ => 0))) 200 (oB 6 [.ref (ad_38 201), .ref (ad_38 208), .ref (ad_38 209), .ref (ad_38 210), .null])) 208 (eI (cA 0) 400 (fun _ => 0))) 209 (eI (cA 0) 400 (fun _ => 0))) 210 (eI (cA 1) 400 (fun _ => 0)))) hx hb hts hi6 tyX6 tyX6_ok nmX6 hown hK hP hD hS 200 (up_n (by decide) (up_n (by decide) (up_n (by decide) (up_s _ _ _)))) rfl 3 (by decide) hf21 (fun _ h9 => h9) rfl hin rfl (by decide +kernel) rfl rfl (Nat.le_of_ble_eq_true rfl) ((up_co _ _ _ (by decide)).trans (congrArg (fun u => up u 210 _) ((up_co _ _ _ (by decide)).trans (congrArg (fun u => up u 209 _) ((up_co _ _ _ (by decide)).trans (congrArg (fun u => up u 208 _) (up_up _ _ _ _))))))) dX6_init_40 (fun H locs hP hD hS => ?_)
  refine lv_aload_n (pc := 43) hx hb dX6_init_43 rfl (lv_at hl 0 rfl) ?_
  refine k_iconst (pc := 44) hx hb dX6_init_44 ?_
  refine k_newI (pc := 45) hx hb (hts (.arrayClass .int) (by decide +kernel)) hK hP hD hS hA 211 0 rfl 4 rfl (by decide) (Nat.le_of_ble_eq_true rfl) (Nat.le_of_ble_eq_true rfl) dX6_init_45 (fun q_45 H hP hD hS => ?_)
  obtain ⟨ad_45, hga_45⟩ : ∃ z9 : Nat → Nat, adN ad_38 211 q_45 = z9 := ⟨_, rfl⟩
  rw [hga_45] at hP hD
  have hnn_45 : ∀ j9 : Nat, j9 ≠ 211 → ad_38 j9 = ad_45 j9 := fun j9 h9_ => by rw [← hga_45, adN_n _ _ h9_]
  rw [show q_45 = ad_45 211 by rw [← hga_45, adN_s]]
  rw [hnn_45 201 (by omega)] at hP hD
  rw [hnn_45 208 (by omega)] at hP hD
  rw [hnn_45 209 (by omega)] at hP hD
  rw [hnn_45 210 (by omega)] at hP hD
  rw [show (fun j : Nat => if j < 6 then some (ad_38 (202 + j)) else none) = fun j : Nat => if j < 6 then some (ad_45 (202 + j)) else none by funext j; by_cases e9 : j < 6; rw [if_pos e9, if_pos e9, hnn_45 (202 + j) (by omega)]; rw [if_neg e9, if_neg e9]] at hP hD
  rw [hnn_45 200 (by omega)]
  rw [hnn_45 200 (by omega)] at hl
  refine W.eq (g2 := F0 m 47 ls [.ref (ad_45 211), .ref (ad_45 200)]) rfl ?_
  refine W.cs (cells' := 11) (slots' := 1390) rfl rfl ?_
  refine lv_dup (pc := 47) hx hb dX6_init_47 rfl ?_
  refine k_iconst (pc := 48) hx hb dX6_init_48 ?_
  refine k_bipush (pc := 49) hx hb dX6_init_49 (by decide +kernel) ?_
  refine k_iast (pc := 51) (w1 := (up (up (up (up (up (up (up (up (up (up (up (up w 201 (eQ (cA 6) 6 (fun j : Nat => if j < 6 then some (ad_45 (202 + j)) else none))) 202 (eI (cA 0) 30 (fun _ => 0))) 203 (eI (cA 0) 30 (fun _ => 0))) 204 (eI (cA 0) 30 (fun _ => 0))) 205 (eI (cA 0) 30 (fun _ => 0))) 206 (eI (cA 0) 30 (fun _ => 0))) 207 (eI (cA 0) 30 (fun _ => 0))) 200 (oB 6 [.ref (ad_45 201), .ref (ad_45 208), .ref (ad_45 209), .ref (ad_45 210), .null])) 208 (eI (cA 0) 400 (fun _ => 0))) 209 (eI (cA 0) 400 (fun _ => 0))) 210 (eI (cA 1) 400 (fun _ => 0))) 211 (eI (cA 0) 4 (updI (fun _ => 0) 0 60)))) hx hb hK hP hD hS 211 0 (up_s _ _ _) rfl (by omega) (by omega) (by omega) (up_up _ _ _ _) dX6_init_51 (fun H locs hP hD hS => ?_)
  refine lv_dup (pc := 52) hx hb dX6_init_52 rfl ?_
  refine k_iconst (pc := 53) hx hb dX6_init_53 ?_
  refine k_iconst (pc := 54) hx hb dX6_init_54 ?_
  refine k_iast (pc := 55) (w1 := (up (up (up (up (up (up (up (up (up (up (up (up w 201 (eQ (cA 6) 6 (fun j : Nat => if j < 6 then some (ad_45 (202 + j)) else none))) 202 (eI (cA 0) 30 (fun _ => 0))) 203 (eI (cA 0) 30 (fun _ => 0))) 204 (eI (cA 0) 30 (fun _ => 0))) 205 (eI (cA 0) 30 (fun _ => 0))) 206 (eI (cA 0) 30 (fun _ => 0))) 207 (eI (cA 0) 30 (fun _ => 0))) 200 (oB 6 [.ref (ad_45 201), .ref (ad_45 208), .ref (ad_45 209), .ref (ad_45 210), .null])) 208 (eI (cA 0) 400 (fun _ => 0))) 209 (eI (cA 0) 400 (fun _ => 0))) 210 (eI (cA 1) 400 (fun _ => 0))) 211 (eI (cA 0) 4 (updI (updI (fun _ => 0) 0 60) 1 5)))) hx hb hK hP hD hS 211 0 (up_s _ _ _) rfl (by omega) (by omega) (by omega) (up_up _ _ _ _) dX6_init_55 (fun H locs hP hD hS => ?_)
  refine lv_dup (pc := 56) hx hb dX6_init_56 rfl ?_
  refine k_iconst (pc := 57) hx hb dX6_init_57 ?_
  refine k_iconst (pc := 58) hx hb dX6_init_58 ?_
  refine k_iast (pc := 59) (w1 := (up (up (up (up (up (up (up (up (up (up (up (up w 201 (eQ (cA 6) 6 (fun j : Nat => if j < 6 then some (ad_45 (202 + j)) else none))) 202 (eI (cA 0) 30 (fun _ => 0))) 203 (eI (cA 0) 30 (fun _ => 0))) 204 (eI (cA 0) 30 (fun _ => 0))) 205 (eI (cA 0) 30 (fun _ => 0))) 206 (eI (cA 0) 30 (fun _ => 0))) 207 (eI (cA 0) 30 (fun _ => 0))) 200 (oB 6 [.ref (ad_45 201), .ref (ad_45 208), .ref (ad_45 209), .ref (ad_45 210), .null])) 208 (eI (cA 0) 400 (fun _ => 0))) 209 (eI (cA 0) 400 (fun _ => 0))) 210 (eI (cA 1) 400 (fun _ => 0))) 211 (eI (cA 0) 4 (updI (updI (updI (fun _ => 0) 0 60) 1 5) 2 0)))) hx hb hK hP hD hS 211 0 (up_s _ _ _) rfl (by omega) (by omega) (by omega) (up_up _ _ _ _) dX6_init_59 (fun H locs hP hD hS => ?_)
  refine lv_dup (pc := 60) hx hb dX6_init_60 rfl ?_
  refine k_iconst (pc := 61) hx hb dX6_init_61 ?_
  refine k_iconst (pc := 62) hx hb dX6_init_62 ?_
  refine k_iast (pc := 63) (w1 := (up (up (up (up (up (up (up (up (up (up (up (up w 201 (eQ (cA 6) 6 (fun j : Nat => if j < 6 then some (ad_45 (202 + j)) else none))) 202 (eI (cA 0) 30 (fun _ => 0))) 203 (eI (cA 0) 30 (fun _ => 0))) 204 (eI (cA 0) 30 (fun _ => 0))) 205 (eI (cA 0) 30 (fun _ => 0))) 206 (eI (cA 0) 30 (fun _ => 0))) 207 (eI (cA 0) 30 (fun _ => 0))) 200 (oB 6 [.ref (ad_45 201), .ref (ad_45 208), .ref (ad_45 209), .ref (ad_45 210), .null])) 208 (eI (cA 0) 400 (fun _ => 0))) 209 (eI (cA 0) 400 (fun _ => 0))) 210 (eI (cA 1) 400 (fun _ => 0))) 211 (eI (cA 0) 4 (updI (updI (updI (updI (fun _ => 0) 0 60) 1 5) 2 0) 3 0)))) hx hb hK hP hD hS 211 0 (up_s _ _ _) rfl (by omega) (by omega) (by omega) (up_up _ _ _ _) dX6_init_63 (fun H locs hP hD hS => ?_)
  refine k_putF (pc := 64) (ci := 6) (C := RX6) (T := TX6) (N := 5) (ty := .array .int) (v := .ref (ad_45 211)) (w1 := (up (up (up (up (up (up (up (up (up (up (up (up w 201 (eQ (cA 6) 6 (fun j : Nat => if j < 6 then some (ad_45 (202 + j)) else none))) 202 (eI (cA 0) 30 (fun _ => 0))) 203 (eI (cA 0) 30 (fun _ => 0))) 204 (eI (cA 0) 30 (fun _ => 0))) 205 (eI (cA 0) 30 (fun _ => 0))) 206 (eI (cA 0) 30 (fun _ => 0))) 207 (eI (cA 0) 30 (fun _ => 0))) 200 (oB 6 [.ref (ad_45 201), .ref (ad_45 208), .ref (ad_45 209), .ref (ad_45 210), .ref (ad_45 211)])) 208 (eI (cA 0) 400 (fun _ => 0))) 209 (eI (cA 0) 400 (fun _ => 0))) 210 (eI (cA 1) 400 (fun _ => 0))) 211 (eI (cA 0) 4 (updI (updI (updI (updI (fun _ => 0) 0 60) 1 5) 2 0) 3 0)))) hx hb hts hi6 tyX6 tyX6_ok nmX6 hown hK hP hD hS 200 (up_n (by decide) (up_n (by decide) (up_n (by decide) (up_n (by decide) (up_s _ _ _))))) rfl 4 (by decide) hf25 (fun _ h9 => h9) rfl hin rfl (by decide +kernel) rfl rfl (Nat.le_of_ble_eq_true rfl) ((up_co _ _ _ (by decide)).trans (congrArg (fun u => up u 211 _) ((up_co _ _ _ (by decide)).trans (congrArg (fun u => up u 210 _) ((up_co _ _ _ (by decide)).trans (congrArg (fun u => up u 209 _) ((up_co _ _ _ (by decide)).trans (congrArg (fun u => up u 208 _) (up_up _ _ _ _))))))))) dX6_init_64 (fun H locs hP hD hS => ?_)
  refine k_iconst (pc := 67) hx hb dX6_init_67 ?_
  refine lv_istore_n (pc := 68) (lv' := [(1, .int (iI 0)), (0, .ref (ad_45 200))]) hx hb dX6_init_68 rfl hl (by decide) rfl (fun ls hl => ?_)
  have lp_69 : ∀ (N9 : Nat) (d : Int), (0 ≤ d ∧ d ≤ 400) → (400 - d).toNat < N9 → ∀ (H : Heap) (locs : List Loc), gP D vwCl ad_45 (up (up (up (up (up (up (up (up (up (up (up (up w 201 (eQ (cA 6) 6 (fun j : Nat => if j < 6 then some (ad_45 (202 + j)) else none))) 202 (eI (cA 0) 30 (fun _ => 0))) 203 (eI (cA 0) 30 (fun _ => 0))) 204 (eI (cA 0) 30 (fun _ => 0))) 205 (eI (cA 0) 30 (fun _ => 0))) 206 (eI (cA 0) 30 (fun _ => 0))) 207 (eI (cA 0) 30 (fun _ => 0))) 200 (oB 6 [.ref (ad_45 201), .ref (ad_45 208), .ref (ad_45 209), .ref (ad_45 210), .ref (ad_45 211)])) 208 (eI (cA 0) 400 (spanF (fun _ => 0) 0 d (fun _ => 9999)))) 209 (eI (cA 0) 400 (spanF (fun _ => 0) 0 d (fun _ => 9999)))) 210 (eI (cA 1) 400 (fun _ => 0))) 211 (eI (cA 0) 4 (updI (updI (updI (updI (fun _ => 0) 0 60) 1 5) 2 0) 3 0))) H → gD A ad_45 (up (up (up (up (up (up (up (up (up (up (up (up w 201 (eQ (cA 6) 6 (fun j : Nat => if j < 6 then some (ad_45 (202 + j)) else none))) 202 (eI (cA 0) 30 (fun _ => 0))) 203 (eI (cA 0) 30 (fun _ => 0))) 204 (eI (cA 0) 30 (fun _ => 0))) 205 (eI (cA 0) 30 (fun _ => 0))) 206 (eI (cA 0) 30 (fun _ => 0))) 207 (eI (cA 0) 30 (fun _ => 0))) 200 (oB 6 [.ref (ad_45 201), .ref (ad_45 208), .ref (ad_45 209), .ref (ad_45 210), .ref (ad_45 211)])) 208 (eI (cA 0) 400 (spanF (fun _ => 0) 0 d (fun _ => 9999)))) 209 (eI (cA 0) 400 (spanF (fun _ => 0) 0 d (fun _ => 9999)))) 210 (eI (cA 1) 400 (fun _ => 0))) 211 (eI (cA 0) 4 (updI (updI (updI (updI (fun _ => 0) 0 60) 1 5) 2 0) 3 0))) → va_S A s.heap H locs → ∀ (ls : Array Slot), lv_has ls 2 [(1, .int (iI d)), (0, .ref (ad_45 200))] → W p l e rmX6_init s m args below meth c H locs 11 1390 Q9 (F0 m 69 ls []) := by
    intro N9
    induction N9 with
    | zero => intro d i0 hmu; exact absurd hmu (Nat.not_lt_zero _)
    | succ N9 ih_69 =>
      intro d i0 hmu_69 H locs hP hD hS ls hl
      refine lv_iload_n (pc := 69) hx hb dX6_init_69 rfl (lv_at hl 0 rfl) ?_
      refine k_sipush (pc := 70) hx hb dX6_init_70 (by decide +kernel) ?_
      refine k_icmp_ge (pc := 73) (tgt := 100) hx hb ⟨by omega, by omega⟩ ⟨by omega, by omega⟩ dX6_init_73 (by decide) (fun hc_73 => ?_) (fun hc_73 => ?_)
      · skip
        have hlb_ : lbS cA ad_45 (up (up (up (up (up (up (up (up (up (up (up (up w 201 (eQ (cA 6) 6 (fun j : Nat => if j < 6 then some (ad_45 (202 + j)) else none))) 202 (eI (cA 0) 30 (fun _ => 0))) 203 (eI (cA 0) 30 (fun _ => 0))) 204 (eI (cA 0) 30 (fun _ => 0))) 205 (eI (cA 0) 30 (fun _ => 0))) 206 (eI (cA 0) 30 (fun _ => 0))) 207 (eI (cA 0) 30 (fun _ => 0))) 200 (oB 6 [.ref (ad_45 201), .ref (ad_45 208), .ref (ad_45 209), .ref (ad_45 210), .ref (ad_45 211)])) 208 (eI (cA 0) 400 (spanF (fun _ => 0) 0 d (fun _ => 9999)))) 209 (eI (cA 0) 400 (spanF (fun _ => 0) 0 d (fun _ => 9999)))) 210 (eI (cA 1) 400 (fun _ => 0))) 211 (eI (cA 0) 4 (updI (updI (updI (updI (fun _ => 0) 0 60) 1 5) 2 0) 3 0))) (spanF (fun _ => 0) 0 d (fun _ => 9999)) (spanF (fun _ => 0) 0 d (fun _ => 9999)) (fun _ => 0) (updI (updI (updI (updI (fun _ => 0) 0 60) 1 5) 2 0) 3 0) (fun _ _ => 0) := ⟨(up_n (by decide) (up_n (by decide) (up_n (by decide) (up_n (by decide) (up_s _ _ _))))), (up_n (by decide) (up_n (by decide) (up_n (by decide) (up_n (by decide) (up_n (by decide) (up_n (by decide) (up_n (by decide) (up_n (by decide) (up_n (by decide) (up_n (by decide) (up_n (by decide) (up_s _ _ _)))))))))))), (fun j hj => by rcases (show j = 0 ∨ j = 1 ∨ j = 2 ∨ j = 3 ∨ j = 4 ∨ j = 5 by omega) with rfl | rfl | rfl | rfl | rfl | rfl; exact (up_n (by decide) (up_n (by decide) (up_n (by decide) (up_n (by decide) (up_n (by decide) (up_n (by decide) (up_n (by decide) (up_n (by decide) (up_n (by decide) (up_n (by decide) (up_s _ _ _))))))))))); exact (up_n (by decide) (up_n (by decide) (up_n (by decide) (up_n (by decide) (up_n (by decide) (up_n (by decide) (up_n (by decide) (up_n (by decide) (up_n (by decide) (up_s _ _ _)))))))))); exact (up_n (by decide) (up_n (by decide) (up_n (by decide) (up_n (by decide) (up_n (by decide) (up_n (by decide) (up_n (by decide) (up_n (by decide) (up_s _ _ _))))))))); exact (up_n (by decide) (up_n (by decide) (up_n (by decide) (up_n (by decide) (up_n (by decide) (up_n (by decide) (up_n (by decide) (up_s _ _ _)))))))); exact (up_n (by decide) (up_n (by decide) (up_n (by decide) (up_n (by decide) (up_n (by decide) (up_n (by decide) (up_s _ _ _))))))); exact (up_n (by decide) (up_n (by decide) (up_n (by decide) (up_n (by decide) (up_n (by decide) (up_s _ _ _))))))), (up_n (by decide) (up_n (by decide) (up_n (by decide) (up_s _ _ _)))), (up_n (by decide) (up_n (by decide) (up_s _ _ _))), (up_n (by decide) (up_s _ _ _)), (up_s _ _ _)⟩
        have hn_all : ∀ j : Nat, j < 201 → ad j = ad_45 j := fun j h => by rw [hnn_9 j (by omega), hnn_20 j (by omega), hnn_29 j (by omega), hnn_38 j (by omega), hnn_45 j (by omega)]
        rw [hQ9]
        exact W.vret hx hb hret (fun t ht hW => ⟨⟨none, ad_45, (up (up (up (up (up (up (up (up (up (up (up (up w 201 (eQ (cA 6) 6 (fun j : Nat => if j < 6 then some (ad_45 (202 + j)) else none))) 202 (eI (cA 0) 30 (fun _ => 0))) 203 (eI (cA 0) 30 (fun _ => 0))) 204 (eI (cA 0) 30 (fun _ => 0))) 205 (eI (cA 0) 30 (fun _ => 0))) 206 (eI (cA 0) 30 (fun _ => 0))) 207 (eI (cA 0) 30 (fun _ => 0))) 200 (oB 6 [.ref (ad_45 201), .ref (ad_45 208), .ref (ad_45 209), .ref (ad_45 210), .ref (ad_45 211)])) 208 (eI (cA 0) 400 (spanF (fun _ => 0) 0 d (fun _ => 9999)))) 209 (eI (cA 0) 400 (spanF (fun _ => 0) 0 d (fun _ => 9999)))) 210 (eI (cA 1) 400 (fun _ => 0))) 211 (eI (cA 0) 4 (updI (updI (updI (updI (fun _ => 0) 0 60) 1 5) 2 0) 3 0))), rfl, ⟨rfl, fun r hr => ⟨(up_n (by omega) (up_n (by omega) (up_n (by omega) (up_n (by omega) (up_n (by omega) (up_n (by omega) (up_n (by omega) (up_n (by omega) (up_n (by omega) (up_n (by omega) (up_n (by omega) (up_n (by omega) rfl)))))))))))), (hn_all r (by omega)).symm⟩, (hn_all 200 (by omega)).symm, _, _, _, hlb_, fun j => ⟨fun h9 => by unfold spanF; rw [if_pos (by omega)]; exact ⟨rfl, rfl⟩, by unfold spanF; by_cases c9 : 0 ≤ j ∧ j < 0 + d; rw [if_pos c9]; exact Or.inl rfl; rw [if_neg c9]; exact Or.inr rfl⟩, by decide⟩, by rw [ht]; exact hP, hD⟩, hS.F ht⟩) hS.2.2 dX6_init_100
      · skip
        refine lv_aload_n (pc := 76) hx hb dX6_init_76 rfl (lv_at hl 1 rfl) ?_
        refine k_get (pc := 77) (ci := 6) (C := RX6) (T := TX6) (N := 5) hx hb hts hi6 hown hK hP 200 (up_n (by decide) (up_n (by decide) (up_n (by decide) (up_n (by decide) (up_s _ _ _))))) rfl 1 (by decide) hf14 (fun _ h9 => h9) rfl dX6_init_77 ?_
        refine lv_iload_n (pc := 80) hx hb dX6_init_80 rfl (lv_at hl 0 rfl) ?_
        refine k_sipush (pc := 81) hx hb dX6_init_81 (by decide +kernel) ?_
        refine k_iast (pc := 84) (w1 := (up (up (up (up (up (up (up (up (up (up (up (up w 201 (eQ (cA 6) 6 (fun j : Nat => if j < 6 then some (ad_45 (202 + j)) else none))) 202 (eI (cA 0) 30 (fun _ => 0))) 203 (eI (cA 0) 30 (fun _ => 0))) 204 (eI (cA 0) 30 (fun _ => 0))) 205 (eI (cA 0) 30 (fun _ => 0))) 206 (eI (cA 0) 30 (fun _ => 0))) 207 (eI (cA 0) 30 (fun _ => 0))) 200 (oB 6 [.ref (ad_45 201), .ref (ad_45 208), .ref (ad_45 209), .ref (ad_45 210), .ref (ad_45 211)])) 208 (eI (cA 0) 400 (updI (spanF (fun _ => 0) 0 d (fun _ => 9999)) d 9999))) 209 (eI (cA 0) 400 (spanF (fun _ => 0) 0 d (fun _ => 9999)))) 210 (eI (cA 1) 400 (fun _ => 0))) 211 (eI (cA 0) 4 (updI (updI (updI (updI (fun _ => 0) 0 60) 1 5) 2 0) 3 0)))) hx hb hK hP hD hS 208 0 (up_n (by decide) (up_n (by decide) (up_n (by decide) (up_s _ _ _)))) rfl (by omega) (by omega) (by omega) ((up_co _ _ _ (by decide)).trans (congrArg (fun u => up u 211 _) ((up_co _ _ _ (by decide)).trans (congrArg (fun u => up u 210 _) ((up_co _ _ _ (by decide)).trans (congrArg (fun u => up u 209 _) (up_up _ _ _ _))))))) dX6_init_84 (fun H locs hP hD hS => ?_)
        refine lv_aload_n (pc := 85) hx hb dX6_init_85 rfl (lv_at hl 1 rfl) ?_
        refine k_get (pc := 86) (ci := 6) (C := RX6) (T := TX6) (N := 5) hx hb hts hi6 hown hK hP 200 (up_n (by decide) (up_n (by decide) (up_n (by decide) (up_n (by decide) (up_s _ _ _))))) rfl 2 (by decide) hf18 (fun _ h9 => h9) rfl dX6_init_86 ?_
        refine lv_iload_n (pc := 89) hx hb dX6_init_89 rfl (lv_at hl 0 rfl) ?_
        refine k_sipush (pc := 90) hx hb dX6_init_90 (by decide +kernel) ?_
        refine k_iast (pc := 93) (w1 := (up (up (up (up (up (up (up (up (up (up (up (up w 201 (eQ (cA 6) 6 (fun j : Nat => if j < 6 then some (ad_45 (202 + j)) else none))) 202 (eI (cA 0) 30 (fun _ => 0))) 203 (eI (cA 0) 30 (fun _ => 0))) 204 (eI (cA 0) 30 (fun _ => 0))) 205 (eI (cA 0) 30 (fun _ => 0))) 206 (eI (cA 0) 30 (fun _ => 0))) 207 (eI (cA 0) 30 (fun _ => 0))) 200 (oB 6 [.ref (ad_45 201), .ref (ad_45 208), .ref (ad_45 209), .ref (ad_45 210), .ref (ad_45 211)])) 208 (eI (cA 0) 400 (updI (spanF (fun _ => 0) 0 d (fun _ => 9999)) d 9999))) 209 (eI (cA 0) 400 (updI (spanF (fun _ => 0) 0 d (fun _ => 9999)) d 9999))) 210 (eI (cA 1) 400 (fun _ => 0))) 211 (eI (cA 0) 4 (updI (updI (updI (updI (fun _ => 0) 0 60) 1 5) 2 0) 3 0)))) hx hb hK hP hD hS 209 0 (up_n (by decide) (up_n (by decide) (up_s _ _ _))) rfl (by omega) (by omega) (by omega) ((up_co _ _ _ (by decide)).trans (congrArg (fun u => up u 211 _) ((up_co _ _ _ (by decide)).trans (congrArg (fun u => up u 210 _) (up_up _ _ _ _))))) dX6_init_93 (fun H locs hP hD hS => ?_)
        refine lv_iinc (pc := 94) (v := iI (d + 1)) (lv' := [(1, .int (iI (d + 1))), (0, .ref (ad_45 200))]) hx hb dX6_init_94 hl (k := 0) rfl (iI_add _ _) (by decide) rfl (fun ls hl => ?_)
        refine lv_goto (pc := 97) (tgt := 69) hx hb dX6_init_97 (by decide) ?_
        have hW9 : ((up (up (up (up (up (up (up (up (up (up (up (up w 201 (eQ (cA 6) 6 (fun j : Nat => if j < 6 then some (ad_45 (202 + j)) else none))) 202 (eI (cA 0) 30 (fun _ => 0))) 203 (eI (cA 0) 30 (fun _ => 0))) 204 (eI (cA 0) 30 (fun _ => 0))) 205 (eI (cA 0) 30 (fun _ => 0))) 206 (eI (cA 0) 30 (fun _ => 0))) 207 (eI (cA 0) 30 (fun _ => 0))) 200 (oB 6 [.ref (ad_45 201), .ref (ad_45 208), .ref (ad_45 209), .ref (ad_45 210), .ref (ad_45 211)])) 208 (eI (cA 0) 400 (updI (spanF (fun _ => 0) 0 d (fun _ => 9999)) d 9999))) 209 (eI (cA 0) 400 (updI (spanF (fun _ => 0) 0 d (fun _ => 9999)) d 9999))) 210 (eI (cA 1) 400 (fun _ => 0))) 211 (eI (cA 0) 4 (updI (updI (updI (updI (fun _ => 0) 0 60) 1 5) 2 0) 3 0)))) = (up (up (up (up (up (up (up (up (up (up (up (up w 201 (eQ (cA 6) 6 (fun j : Nat => if j < 6 then some (ad_45 (202 + j)) else none))) 202 (eI (cA 0) 30 (fun _ => 0))) 203 (eI (cA 0) 30 (fun _ => 0))) 204 (eI (cA 0) 30 (fun _ => 0))) 205 (eI (cA 0) 30 (fun _ => 0))) 206 (eI (cA 0) 30 (fun _ => 0))) 207 (eI (cA 0) 30 (fun _ => 0))) 200 (oB 6 [.ref (ad_45 201), .ref (ad_45 208), .ref (ad_45 209), .ref (ad_45 210), .ref (ad_45 211)])) 208 (eI (cA 0) 400 (spanF (fun _ => 0) 0 (d + 1) (fun _ => 9999)))) 209 (eI (cA 0) 400 (spanF (fun _ => 0) 0 (d + 1) (fun _ => 9999)))) 210 (eI (cA 1) 400 (fun _ => 0))) 211 (eI (cA 0) 4 (updI (updI (updI (updI (fun _ => 0) 0 60) 1 5) 2 0) 3 0))) := by rw [show updI (spanF (fun _ => 0) 0 d (fun _ => 9999)) d 9999 = spanF (fun _ => 0) 0 (d + 1) (fun _ => 9999) by have h9_ := spanF_s (fun _ => 0) (d := 0) (m := d) (fun _ => 9999) (by omega) (x := 9999) rfl; rw [Int.zero_add] at h9_; exact h9_]
        rw [hW9] at hP hD
        exact ih_69 (d + 1) (by omega) (by omega) H locs hP hD hS ls (lv_sub hl [0, 1] rfl)
  have hW9 : ((up (up (up (up (up (up (up (up (up (up (up (up w 201 (eQ (cA 6) 6 (fun j : Nat => if j < 6 then some (ad_45 (202 + j)) else none))) 202 (eI (cA 0) 30 (fun _ => 0))) 203 (eI (cA 0) 30 (fun _ => 0))) 204 (eI (cA 0) 30 (fun _ => 0))) 205 (eI (cA 0) 30 (fun _ => 0))) 206 (eI (cA 0) 30 (fun _ => 0))) 207 (eI (cA 0) 30 (fun _ => 0))) 200 (oB 6 [.ref (ad_45 201), .ref (ad_45 208), .ref (ad_45 209), .ref (ad_45 210), .ref (ad_45 211)])) 208 (eI (cA 0) 400 (fun _ => 0))) 209 (eI (cA 0) 400 (fun _ => 0))) 210 (eI (cA 1) 400 (fun _ => 0))) 211 (eI (cA 0) 4 (updI (updI (updI (updI (fun _ => 0) 0 60) 1 5) 2 0) 3 0)))) = (up (up (up (up (up (up (up (up (up (up (up (up w 201 (eQ (cA 6) 6 (fun j : Nat => if j < 6 then some (ad_45 (202 + j)) else none))) 202 (eI (cA 0) 30 (fun _ => 0))) 203 (eI (cA 0) 30 (fun _ => 0))) 204 (eI (cA 0) 30 (fun _ => 0))) 205 (eI (cA 0) 30 (fun _ => 0))) 206 (eI (cA 0) 30 (fun _ => 0))) 207 (eI (cA 0) 30 (fun _ => 0))) 200 (oB 6 [.ref (ad_45 201), .ref (ad_45 208), .ref (ad_45 209), .ref (ad_45 210), .ref (ad_45 211)])) 208 (eI (cA 0) 400 (spanF (fun _ => 0) 0 0 (fun _ => 9999)))) 209 (eI (cA 0) 400 (spanF (fun _ => 0) 0 0 (fun _ => 9999)))) 210 (eI (cA 1) 400 (fun _ => 0))) 211 (eI (cA 0) 4 (updI (updI (updI (updI (fun _ => 0) 0 60) 1 5) 2 0) 3 0))) := by rw [spanF_0]
  rw [hW9] at hP hD
  exact lp_69 _ 0 (by omega) (Nat.lt_succ_self _) H locs hP hD hS ls (lv_sub hl [0, 1] rfl)

abbrev rmX6_shift : Room := { frames := 0, cells := 0, slots := 0, locals := 0 }
theorem hiX6_shift_6 : ∀ w ∈ wsX60, w ∈ wsX6_shift := by decide +kernel
set_option maxHeartbeats 4000000 in
set_option maxRecDepth 100000 in
theorem c_X6_shift (l : Launch) (D : va_G) (cA : Nat → ClassId) (ad : Nat → Nat) (w : Nat → Option va_E) (sc : Nat → Int) (fn : Nat → Int → Int) (sh : Int → Int) (h200 : w 200 = some (oB 6 [.ref (ad 201), .ref (ad 208), .ref (ad 209), .ref (ad 210), .ref (ad 211)])) (h208 : w 208 = some (eI (cA 0) 400 sh)) (hu : rlU sc fn sh) (ho : shOk (fn 0) (fn 1) (sc 1)) (hn : 0 ≤ sc 1) (d : Int) (hd : 0 ≤ d ∧ d < 400) : Met l yX6_shift wsX6_shift rmX6_shift (gR D cA ad w [.ref (ad 200), .int (iI d)]) (gR0 (fun v9 => ∃ z : Int, v9 = some (.int (iI z)) ∧ z = sftF (fn 0) (fn 1) (sc 1) d)) 0 0 (fun _ => False) := by
  refine Met.ofW (cc := cX6_shift) (maxL := 5) (ret := (some .int)) (by decide) rfl ?_
  intro p e s m args below meth c s₁ B hml hv
  obtain ⟨hav, hP, hK, hB⟩ := hv
  have hx := B.exec
  have hb := B.bytes
  have hret := B.returns
  have hts := atoms_spec (ws := wsX6_shift) B.pre
  have hown : s.vm.findClass RX6 = some m.cls := findClass_of_methodNamed B.named
  have hlocks := B.notSynchronized
  have hS : va_S (fun _ => False) s.heap s.heap [] := va_S.rf
  have hi6 := hiX6_shift_6
  have hf14 := hts (.fieldLink RX6 14 "GaugeBookLaw$Book" "shifts" "[I") (by decide +kernel)
  have he9 : entryFrame m args 5 = F0 m 0 ((lg_sl ([.ref (ad 200), .int (iI d)] : List Value) ++ List.replicate (5 - (lg_sl ([.ref (ad 200), .int (iI d)] : List Value)).length) Slot.unset).toArray) [] := by rw [hav, lg_entry_eq]
  rw [he9]
  have hl := lv_entry ([.ref (ad 200), .int (iI d)] : List Value) (n := 5) (Nat.le_of_ble_eq_true rfl)
  generalize (lg_sl ([.ref (ad 200), .int (iI d)] : List Value) ++ List.replicate (5 - (lg_sl ([.ref (ad 200), .int (iI d)] : List Value)).length) Slot.unset).toArray = ls at hl ⊢
  have hl : lv_has ls 5 [(0, .ref (ad 200)), (1, .int (iI d))] := hl
  obtain ⟨Q9, hQ9⟩ : ∃ z, z = MQ below (gR0 (fun v9 => ∃ z : Int, v9 = some (.int (iI z)) ∧ z = sftF (fn 0) (fn 1) (sc 1) d)) args s 0 0 (fun _ => False) := ⟨_, rfl⟩
  rw [← hQ9]
  show W p l e rmX6_shift s m args below meth c s.heap [] 0 0 Q9 (F0 m 0 ls [])
  refine k_iconst (pc := 0) hx hb dX6_shift_0 ?_
  refine lv_istore_n (pc := 1) (lv' := [(2, .int (iI (-1))), (0, .ref (ad 200)), (1, .int (iI d))]) hx hb dX6_shift_1 rfl hl (by decide) rfl (fun ls hl => ?_)
  refine k_iconst (pc := 2) hx hb dX6_shift_2 ?_
  refine lv_istore_n (pc := 3) (lv' := [(3, .int (iI (-1))), (2, .int (iI (-1))), (0, .ref (ad 200)), (1, .int (iI d))]) hx hb dX6_shift_3 rfl hl (by decide) rfl (fun ls hl => ?_)
  refine k_iconst (pc := 4) hx hb dX6_shift_4 ?_
  refine lv_istore (pc := 5) (lv' := [(4, .int (iI 0)), (3, .int (iI (-1))), (2, .int (iI (-1))), (0, .ref (ad 200)), (1, .int (iI d))]) hx hb dX6_shift_5 hl (by decide) rfl (fun ls hl => ?_)
  have lp_7 : ∀ (N9 : Nat) (k : Int) (a : Int) (b : Int), (0 ≤ k ∧ k ≤ 400 ∧ -1 ≤ a ∧ a < k ∧ -1 ≤ b ∧ b < k) → (shA sh d k a) → (shB sh d k b) → (400 - k).toNat < N9 → ∀ (ls : Array Slot), lv_has ls 5 [(4, .int (iI k)), (3, .int (iI b)), (2, .int (iI a)), (0, .ref (ad 200)), (1, .int (iI d))] → W p l e rmX6_shift s m args below meth c s.heap [] 0 0 Q9 (F0 m 7 ls []) := by
    intro N9
    induction N9 with
    | zero => intro k a b i0 iA iB hmu; exact absurd hmu (Nat.not_lt_zero _)
    | succ N9 ih_7 =>
      intro k a b i0 iA iB hmu_7 ls hl
      refine lv_iload (pc := 7) hx hb dX6_shift_7 (lv_at hl 0 rfl) ?_
      refine k_sipush (pc := 9) hx hb dX6_shift_9 (by decide +kernel) ?_
      refine k_icmp_ge (pc := 12) (tgt := 59) hx hb ⟨by omega, by omega⟩ ⟨by omega, by omega⟩ dX6_shift_12 (by decide) (fun hc_12 => ?_) (fun hc_12 => ?_)
      · skip
        have hk_ : k = 400 := by omega
        rw [hk_] at iA iB
        have hfin := sft_law (a := a) (b := b) hu ho hn hd iA (by rcases iB with h | ⟨h1, h2, h3⟩; exact Or.inl h; exact Or.inr ⟨h1, by omega, h2, h3⟩)
        refine lv_iload_n (pc := 59) hx hb dX6_shift_59 rfl (lv_at hl 2 rfl) ?_
        refine k_if_lt (pc := 60) (tgt := 67) hx hb ⟨by omega, by omega⟩ dX6_shift_60 (by decide) (fun hc_60 => ?_) (fun hc_60 => ?_)
        · skip
          refine lv_iload_n (pc := 67) hx hb dX6_shift_67 rfl (lv_at hl 2 rfl) ?_
          refine k_if_lt (pc := 68) (tgt := 80) hx hb ⟨by omega, by omega⟩ dX6_shift_68 (by decide) (fun hc_68 => ?_) (fun hc_68 => ?_)
          · skip
            refine lv_iload_n (pc := 80) hx hb dX6_shift_80 rfl (lv_at hl 1 rfl) ?_
            refine k_if_lt (pc := 81) (tgt := 93) hx hb ⟨by omega, by omega⟩ dX6_shift_81 (by decide) (fun hc_81 => ?_) (fun hc_81 => ?_)
            · skip
              refine k_iconst (pc := 93) hx hb dX6_shift_93 ?_
              rw [hQ9]
              exact W.iret (v := iI 0) hx hb hret (fun t ht hW => ⟨some (.int (iI 0)), rfl, ⟨0, rfl, hfin.1 (by omega) (by omega)⟩, ht⟩) (fun q hq => by cases hq) dX6_shift_94
            · skip
              refine lv_aload_n (pc := 84) hx hb dX6_shift_84 rfl (lv_at hl 3 rfl) ?_
              refine k_get (pc := 85) (ci := 6) (C := RX6) (T := TX6) (N := 5) hx hb hts hi6 hown hK hP 200 h200 rfl 1 (by decide) hf14 (fun _ h9 => h9) rfl dX6_shift_85 ?_
              refine lv_iload_n (pc := 88) hx hb dX6_shift_88 rfl (lv_at hl 1 rfl) ?_
              refine k_iald (pc := 89) hx hb hK hP 208 0 h208 rfl (by omega) (by omega) (by omega) dX6_shift_89 ?_
              have hq_89 := hu.2 b
              refine lv_goto (pc := 90) (tgt := 94) hx hb dX6_shift_90 (by decide) ?_
              rw [hQ9]
              exact W.iret (v := iI (sh b)) hx hb hret (fun t ht hW => ⟨some (.int (iI (sh b))), rfl, ⟨sh b, rfl, hfin.2.1 (by omega) (by omega)⟩, ht⟩) (fun q hq => by cases hq) dX6_shift_94
          · skip
            refine lv_aload_n (pc := 71) hx hb dX6_shift_71 rfl (lv_at hl 3 rfl) ?_
            refine k_get (pc := 72) (ci := 6) (C := RX6) (T := TX6) (N := 5) hx hb hts hi6 hown hK hP 200 h200 rfl 1 (by decide) hf14 (fun _ h9 => h9) rfl dX6_shift_72 ?_
            refine lv_iload_n (pc := 75) hx hb dX6_shift_75 rfl (lv_at hl 2 rfl) ?_
            refine k_iald (pc := 76) hx hb hK hP 208 0 h208 rfl (by omega) (by omega) (by omega) dX6_shift_76 ?_
            have hq_76 := hu.2 a
            refine lv_goto (pc := 77) (tgt := 94) hx hb dX6_shift_77 (by decide) ?_
            rw [hQ9]
            exact W.iret (v := iI (sh a)) hx hb hret (fun t ht hW => ⟨some (.int (iI (sh a))), rfl, ⟨sh a, rfl, hfin.2.2.1 (by omega) (by omega)⟩, ht⟩) (fun q hq => by cases hq) dX6_shift_94
        · skip
          refine lv_iload_n (pc := 63) hx hb dX6_shift_63 rfl (lv_at hl 1 rfl) ?_
          refine k_if_ge (pc := 64) (tgt := 95) hx hb ⟨by omega, by omega⟩ dX6_shift_64 (by decide) (fun hc_64 => ?_) (fun hc_64 => ?_)
          · skip
            refine lv_iload_n (pc := 95) hx hb dX6_shift_95 rfl (lv_at hl 2 rfl) ?_
            refine lv_iload_n (pc := 96) hx hb dX6_shift_96 rfl (lv_at hl 1 rfl) ?_
            refine k_icmp_ne (pc := 97) (tgt := 109) hx hb ⟨by omega, by omega⟩ ⟨by omega, by omega⟩ dX6_shift_97 (by decide) (fun hc_97 => ?_) (fun hc_97 => ?_)
            · skip
              have sa_ : sh a ≠ 9999 ∧ a ≤ d := by rcases iA with ⟨e1, -⟩ | ⟨-, e2, e3, -⟩; omega; exact ⟨e3, e2⟩
              have sb_ : sh b ≠ 9999 ∧ d ≤ b := by rcases iB with ⟨e1, -⟩ | ⟨e2, e3, -⟩; omega; exact ⟨e3, e2⟩
              have u1_ := hu.2 a
              have u2_ := hu.2 b
              have m9_ := mulB (a := sh b - sh a) (b := d - a) (M := 400) (N := 400) ⟨by omega, by omega⟩ ⟨by omega, by omega⟩
              refine lv_aload_n (pc := 109) hx hb dX6_shift_109 rfl (lv_at hl 3 rfl) ?_
              refine k_get (pc := 110) (ci := 6) (C := RX6) (T := TX6) (N := 5) hx hb hts hi6 hown hK hP 200 h200 rfl 1 (by decide) hf14 (fun _ h9 => h9) rfl dX6_shift_110 ?_
              refine lv_iload_n (pc := 113) hx hb dX6_shift_113 rfl (lv_at hl 2 rfl) ?_
              refine k_iald (pc := 114) hx hb hK hP 208 0 h208 rfl (by omega) (by omega) (by omega) dX6_shift_114 ?_
              have hq_114 := hu.2 a
              refine lv_aload_n (pc := 115) hx hb dX6_shift_115 rfl (lv_at hl 3 rfl) ?_
              refine k_get (pc := 116) (ci := 6) (C := RX6) (T := TX6) (N := 5) hx hb hts hi6 hown hK hP 200 h200 rfl 1 (by decide) hf14 (fun _ h9 => h9) rfl dX6_shift_116 ?_
              refine lv_iload_n (pc := 119) hx hb dX6_shift_119 rfl (lv_at hl 1 rfl) ?_
              refine k_iald (pc := 120) hx hb hK hP 208 0 h208 rfl (by omega) (by omega) (by omega) dX6_shift_120 ?_
              have hq_120 := hu.2 b
              refine lv_aload_n (pc := 121) hx hb dX6_shift_121 rfl (lv_at hl 3 rfl) ?_
              refine k_get (pc := 122) (ci := 6) (C := RX6) (T := TX6) (N := 5) hx hb hts hi6 hown hK hP 200 h200 rfl 1 (by decide) hf14 (fun _ h9 => h9) rfl dX6_shift_122 ?_
              refine lv_iload_n (pc := 125) hx hb dX6_shift_125 rfl (lv_at hl 2 rfl) ?_
              refine k_iald (pc := 126) hx hb hK hP 208 0 h208 rfl (by omega) (by omega) (by omega) dX6_shift_126 ?_
              have hq_126 := hu.2 a
              refine k_isub (pc := 127) hx hb dX6_shift_127 ?_
              refine lv_iload_n (pc := 128) hx hb dX6_shift_128 rfl (lv_at hl 4 rfl) ?_
              refine lv_iload_n (pc := 129) hx hb dX6_shift_129 rfl (lv_at hl 2 rfl) ?_
              refine k_isub (pc := 130) hx hb dX6_shift_130 ?_
              refine k_imul (pc := 131) hx hb dX6_shift_131 ?_
              refine lv_iload_n (pc := 132) hx hb dX6_shift_132 rfl (lv_at hl 1 rfl) ?_
              refine lv_iload_n (pc := 133) hx hb dX6_shift_133 rfl (lv_at hl 2 rfl) ?_
              refine k_isub (pc := 134) hx hb dX6_shift_134 ?_
              refine k_idiv (pc := 135) hx hb ⟨by omega, by omega⟩ ⟨by omega, by omega⟩ (by omega) dX6_shift_135 ?_
              refine k_iadd (pc := 136) hx hb dX6_shift_136 ?_
              rw [hQ9]
              exact W.iret (v := iI ((sh a) + (Int.tdiv (((sh b) - (sh a)) * (d - a)) (b - a)))) hx hb hret (fun t ht hW => ⟨some (.int (iI ((sh a) + (Int.tdiv (((sh b) - (sh a)) * (d - a)) (b - a))))), rfl, ⟨(sh a) + (Int.tdiv (((sh b) - (sh a)) * (d - a)) (b - a)), rfl, hfin.2.2.2 (by omega) (by omega) (by omega)⟩, ht⟩) (fun q hq => by cases hq) dX6_shift_137
            · skip
              refine lv_aload_n (pc := 100) hx hb dX6_shift_100 rfl (lv_at hl 3 rfl) ?_
              refine k_get (pc := 101) (ci := 6) (C := RX6) (T := TX6) (N := 5) hx hb hts hi6 hown hK hP 200 h200 rfl 1 (by decide) hf14 (fun _ h9 => h9) rfl dX6_shift_101 ?_
              refine lv_iload_n (pc := 104) hx hb dX6_shift_104 rfl (lv_at hl 2 rfl) ?_
              refine k_iald (pc := 105) hx hb hK hP 208 0 h208 rfl (by omega) (by omega) (by omega) dX6_shift_105 ?_
              have hq_105 := hu.2 a
              refine lv_goto (pc := 106) (tgt := 137) hx hb dX6_shift_106 (by decide) ?_
              rw [hQ9]
              exact W.iret (v := iI (sh a)) hx hb hret (fun t ht hW => ⟨some (.int (iI (sh a))), rfl, ⟨sh a, rfl, hfin.2.2.1 (by omega) (by omega)⟩, ht⟩) (fun q hq => by cases hq) dX6_shift_137
          · skip
            refine lv_iload_n (pc := 67) hx hb dX6_shift_67 rfl (lv_at hl 2 rfl) ?_
            refine k_if_lt (pc := 68) (tgt := 80) hx hb ⟨by omega, by omega⟩ dX6_shift_68 (by decide) (fun hc_68 => ?_) (fun hc_68 => ?_)
            · skip
              refine lv_iload_n (pc := 80) hx hb dX6_shift_80 rfl (lv_at hl 1 rfl) ?_
              refine k_if_lt (pc := 81) (tgt := 93) hx hb ⟨by omega, by omega⟩ dX6_shift_81 (by decide) (fun hc_81 => ?_) (fun hc_81 => ?_)
              · skip
                refine k_iconst (pc := 93) hx hb dX6_shift_93 ?_
                rw [hQ9]
                exact W.iret (v := iI 0) hx hb hret (fun t ht hW => ⟨some (.int (iI 0)), rfl, ⟨0, rfl, hfin.1 (by omega) (by omega)⟩, ht⟩) (fun q hq => by cases hq) dX6_shift_94
              · skip
                refine lv_aload_n (pc := 84) hx hb dX6_shift_84 rfl (lv_at hl 3 rfl) ?_
                refine k_get (pc := 85) (ci := 6) (C := RX6) (T := TX6) (N := 5) hx hb hts hi6 hown hK hP 200 h200 rfl 1 (by decide) hf14 (fun _ h9 => h9) rfl dX6_shift_85 ?_
                refine lv_iload_n (pc := 88) hx hb dX6_shift_88 rfl (lv_at hl 1 rfl) ?_
                refine k_iald (pc := 89) hx hb hK hP 208 0 h208 rfl (by omega) (by omega) (by omega) dX6_shift_89 ?_
                have hq_89 := hu.2 b
                refine lv_goto (pc := 90) (tgt := 94) hx hb dX6_shift_90 (by decide) ?_
                rw [hQ9]
                exact W.iret (v := iI (sh b)) hx hb hret (fun t ht hW => ⟨some (.int (iI (sh b))), rfl, ⟨sh b, rfl, hfin.2.1 (by omega) (by omega)⟩, ht⟩) (fun q hq => by cases hq) dX6_shift_94
            · skip
              refine lv_aload_n (pc := 71) hx hb dX6_shift_71 rfl (lv_at hl 3 rfl) ?_
              refine k_get (pc := 72) (ci := 6) (C := RX6) (T := TX6) (N := 5) hx hb hts hi6 hown hK hP 200 h200 rfl 1 (by decide) hf14 (fun _ h9 => h9) rfl dX6_shift_72 ?_
              refine lv_iload_n (pc := 75) hx hb dX6_shift_75 rfl (lv_at hl 2 rfl) ?_
              refine k_iald (pc := 76) hx hb hK hP 208 0 h208 rfl (by omega) (by omega) (by omega) dX6_shift_76 ?_
              have hq_76 := hu.2 a
              refine lv_goto (pc := 77) (tgt := 94) hx hb dX6_shift_77 (by decide) ?_
              rw [hQ9]
              exact W.iret (v := iI (sh a)) hx hb hret (fun t ht hW => ⟨some (.int (iI (sh a))), rfl, ⟨sh a, rfl, hfin.2.2.1 (by omega) (by omega)⟩, ht⟩) (fun q hq => by cases hq) dX6_shift_94
      · skip
        refine lv_aload_n (pc := 15) hx hb dX6_shift_15 rfl (lv_at hl 3 rfl) ?_
        refine k_get (pc := 16) (ci := 6) (C := RX6) (T := TX6) (N := 5) hx hb hts hi6 hown hK hP 200 h200 rfl 1 (by decide) hf14 (fun _ h9 => h9) rfl dX6_shift_16 ?_
        refine lv_iload (pc := 19) hx hb dX6_shift_19 (lv_at hl 0 rfl) ?_
        refine k_iald (pc := 21) hx hb hK hP 208 0 h208 rfl (by omega) (by omega) (by omega) dX6_shift_21 ?_
        have hq_21 := hu.2 k
        refine k_sipush (pc := 22) hx hb dX6_shift_22 (by decide +kernel) ?_
        refine k_icmp_ne (pc := 25) (tgt := 31) hx hb ⟨by omega, by omega⟩ ⟨by omega, by omega⟩ dX6_shift_25 (by decide) (fun hc_25 => ?_) (fun hc_25 => ?_)
        · skip
          refine lv_iload (pc := 31) hx hb dX6_shift_31 (lv_at hl 0 rfl) ?_
          refine lv_iload_n (pc := 33) hx hb dX6_shift_33 rfl (lv_at hl 4 rfl) ?_
          refine k_icmp_gt (pc := 34) (tgt := 40) hx hb ⟨by omega, by omega⟩ ⟨by omega, by omega⟩ dX6_shift_34 (by decide) (fun hc_34 => ?_) (fun hc_34 => ?_)
          · skip
            refine lv_iload (pc := 40) hx hb dX6_shift_40 (lv_at hl 0 rfl) ?_
            refine lv_iload_n (pc := 42) hx hb dX6_shift_42 rfl (lv_at hl 4 rfl) ?_
            refine k_icmp_lt (pc := 43) (tgt := 53) hx hb ⟨by omega, by omega⟩ ⟨by omega, by omega⟩ dX6_shift_43 (by decide) (fun hc_43 => ?_) (fun hc_43 => ?_)
            · skip
              refine lv_iinc (pc := 53) (v := iI (k + 1)) (lv' := [(4, .int (iI (k + 1))), (3, .int (iI b)), (2, .int (iI a)), (0, .ref (ad 200)), (1, .int (iI d))]) hx hb dX6_shift_53 hl (k := 0) rfl (iI_add _ _) (by decide) rfl (fun ls hl => ?_)
              refine lv_goto (pc := 56) (tgt := 7) hx hb dX6_shift_56 (by decide) ?_
              exact ih_7 (k + 1) a b (by omega) (by first | exact shA_9 iA (by omega) | exact shA_gt iA (by omega) | exact shA_s (by omega) (by omega) (by omega)) (by first | exact shB_9 iB (by omega) | exact shB_lt iB (by omega) | exact shB_has iB (by omega) | exact shB_s (by omega) iB (by omega) (by omega) (by omega)) (by omega) ls (lv_sub hl [0, 1, 2, 3, 4] rfl)
            · skip
              refine lv_iload_n (pc := 46) hx hb dX6_shift_46 rfl (lv_at hl 1 rfl) ?_
              refine k_if_ge (pc := 47) (tgt := 53) hx hb ⟨by omega, by omega⟩ dX6_shift_47 (by decide) (fun hc_47 => ?_) (fun hc_47 => ?_)
              · skip
                refine lv_iinc (pc := 53) (v := iI (k + 1)) (lv' := [(4, .int (iI (k + 1))), (3, .int (iI b)), (2, .int (iI a)), (0, .ref (ad 200)), (1, .int (iI d))]) hx hb dX6_shift_53 hl (k := 0) rfl (iI_add _ _) (by decide) rfl (fun ls hl => ?_)
                refine lv_goto (pc := 56) (tgt := 7) hx hb dX6_shift_56 (by decide) ?_
                exact ih_7 (k + 1) a b (by omega) (by first | exact shA_9 iA (by omega) | exact shA_gt iA (by omega) | exact shA_s (by omega) (by omega) (by omega)) (by first | exact shB_9 iB (by omega) | exact shB_lt iB (by omega) | exact shB_has iB (by omega) | exact shB_s (by omega) iB (by omega) (by omega) (by omega)) (by omega) ls (lv_sub hl [0, 1, 2, 3, 4] rfl)
              · skip
                refine lv_iload (pc := 50) hx hb dX6_shift_50 (lv_at hl 0 rfl) ?_
                refine lv_istore_n (pc := 52) (lv' := [(3, .int (iI k)), (4, .int (iI k)), (2, .int (iI a)), (0, .ref (ad 200)), (1, .int (iI d))]) hx hb dX6_shift_52 rfl hl (by decide) rfl (fun ls hl => ?_)
                refine lv_iinc (pc := 53) (v := iI (k + 1)) (lv' := [(4, .int (iI (k + 1))), (3, .int (iI k)), (2, .int (iI a)), (0, .ref (ad 200)), (1, .int (iI d))]) hx hb dX6_shift_53 hl (k := 1) rfl (iI_add _ _) (by decide) rfl (fun ls hl => ?_)
                refine lv_goto (pc := 56) (tgt := 7) hx hb dX6_shift_56 (by decide) ?_
                exact ih_7 (k + 1) a k (by omega) (by first | exact shA_9 iA (by omega) | exact shA_gt iA (by omega) | exact shA_s (by omega) (by omega) (by omega)) (by first | exact shB_9 iB (by omega) | exact shB_lt iB (by omega) | exact shB_has iB (by omega) | exact shB_s (by omega) iB (by omega) (by omega) (by omega)) (by omega) ls (lv_sub hl [0, 1, 2, 3, 4] rfl)
          · skip
            refine lv_iload (pc := 37) hx hb dX6_shift_37 (lv_at hl 0 rfl) ?_
            refine lv_istore_n (pc := 39) (lv' := [(2, .int (iI k)), (4, .int (iI k)), (3, .int (iI b)), (0, .ref (ad 200)), (1, .int (iI d))]) hx hb dX6_shift_39 rfl hl (by decide) rfl (fun ls hl => ?_)
            refine lv_iload (pc := 40) hx hb dX6_shift_40 (lv_at hl 1 rfl) ?_
            refine lv_iload_n (pc := 42) hx hb dX6_shift_42 rfl (lv_at hl 4 rfl) ?_
            refine k_icmp_lt (pc := 43) (tgt := 53) hx hb ⟨by omega, by omega⟩ ⟨by omega, by omega⟩ dX6_shift_43 (by decide) (fun hc_43 => ?_) (fun hc_43 => ?_)
            · skip
              refine lv_iinc (pc := 53) (v := iI (k + 1)) (lv' := [(4, .int (iI (k + 1))), (2, .int (iI k)), (3, .int (iI b)), (0, .ref (ad 200)), (1, .int (iI d))]) hx hb dX6_shift_53 hl (k := 1) rfl (iI_add _ _) (by decide) rfl (fun ls hl => ?_)
              refine lv_goto (pc := 56) (tgt := 7) hx hb dX6_shift_56 (by decide) ?_
              exact ih_7 (k + 1) k b (by omega) (by first | exact shA_9 iA (by omega) | exact shA_gt iA (by omega) | exact shA_s (by omega) (by omega) (by omega)) (by first | exact shB_9 iB (by omega) | exact shB_lt iB (by omega) | exact shB_has iB (by omega) | exact shB_s (by omega) iB (by omega) (by omega) (by omega)) (by omega) ls (lv_sub hl [0, 2, 1, 3, 4] rfl)
            · skip
              refine lv_iload_n (pc := 46) hx hb dX6_shift_46 rfl (lv_at hl 2 rfl) ?_
              refine k_if_ge (pc := 47) (tgt := 53) hx hb ⟨by omega, by omega⟩ dX6_shift_47 (by decide) (fun hc_47 => ?_) (fun hc_47 => ?_)
              · skip
                refine lv_iinc (pc := 53) (v := iI (k + 1)) (lv' := [(4, .int (iI (k + 1))), (2, .int (iI k)), (3, .int (iI b)), (0, .ref (ad 200)), (1, .int (iI d))]) hx hb dX6_shift_53 hl (k := 1) rfl (iI_add _ _) (by decide) rfl (fun ls hl => ?_)
                refine lv_goto (pc := 56) (tgt := 7) hx hb dX6_shift_56 (by decide) ?_
                exact ih_7 (k + 1) k b (by omega) (by first | exact shA_9 iA (by omega) | exact shA_gt iA (by omega) | exact shA_s (by omega) (by omega) (by omega)) (by first | exact shB_9 iB (by omega) | exact shB_lt iB (by omega) | exact shB_has iB (by omega) | exact shB_s (by omega) iB (by omega) (by omega) (by omega)) (by omega) ls (lv_sub hl [0, 2, 1, 3, 4] rfl)
              · skip
                refine lv_iload (pc := 50) hx hb dX6_shift_50 (lv_at hl 1 rfl) ?_
                refine lv_istore_n (pc := 52) (lv' := [(3, .int (iI k)), (2, .int (iI k)), (4, .int (iI k)), (0, .ref (ad 200)), (1, .int (iI d))]) hx hb dX6_shift_52 rfl hl (by decide) rfl (fun ls hl => ?_)
                refine lv_iinc (pc := 53) (v := iI (k + 1)) (lv' := [(4, .int (iI (k + 1))), (3, .int (iI k)), (2, .int (iI k)), (0, .ref (ad 200)), (1, .int (iI d))]) hx hb dX6_shift_53 hl (k := 2) rfl (iI_add _ _) (by decide) rfl (fun ls hl => ?_)
                refine lv_goto (pc := 56) (tgt := 7) hx hb dX6_shift_56 (by decide) ?_
                exact ih_7 (k + 1) k k (by omega) (by first | exact shA_9 iA (by omega) | exact shA_gt iA (by omega) | exact shA_s (by omega) (by omega) (by omega)) (by first | exact shB_9 iB (by omega) | exact shB_lt iB (by omega) | exact shB_has iB (by omega) | exact shB_s (by omega) iB (by omega) (by omega) (by omega)) (by omega) ls (lv_sub hl [0, 1, 2, 3, 4] rfl)
        · skip
          refine lv_goto (pc := 28) (tgt := 53) hx hb dX6_shift_28 (by decide) ?_
          refine lv_iinc (pc := 53) (v := iI (k + 1)) (lv' := [(4, .int (iI (k + 1))), (3, .int (iI b)), (2, .int (iI a)), (0, .ref (ad 200)), (1, .int (iI d))]) hx hb dX6_shift_53 hl (k := 0) rfl (iI_add _ _) (by decide) rfl (fun ls hl => ?_)
          refine lv_goto (pc := 56) (tgt := 7) hx hb dX6_shift_56 (by decide) ?_
          exact ih_7 (k + 1) a b (by omega) (by first | exact shA_9 iA (by omega) | exact shA_gt iA (by omega) | exact shA_s (by omega) (by omega) (by omega)) (by first | exact shB_9 iB (by omega) | exact shB_lt iB (by omega) | exact shB_has iB (by omega) | exact shB_s (by omega) iB (by omega) (by omega) (by omega)) (by omega) ls (lv_sub hl [0, 1, 2, 3, 4] rfl)
  exact lp_7 _ 0 (-1) (-1) (by omega) (Or.inl ⟨rfl, fun j h1 h2 => by omega⟩) (Or.inl ⟨rfl, fun j h1 h2 => by omega⟩) (Nat.lt_succ_self _) ls (lv_sub hl [0, 1, 2, 3, 4] rfl)
