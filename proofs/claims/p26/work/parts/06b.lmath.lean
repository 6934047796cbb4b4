/-! the maths of the law: shifts by days, gaps, flows that rise, what is reached, peaks, sums -/
def mdU (sc : Nat → Int) (fn : Nat → Int → Int) (us ut : Int → Int) : Prop := (∀ d : Int, 0 ≤ d → d < 400 → us d ≠ 0 → ∃ i : Int, 0 ≤ i ∧ i < sc 1 ∧ fn 0 i = d ∧ ut d = fn 1 i) ∧ ∀ i : Int, 0 ≤ i → i < sc 1 → us (fn 0 i) ≠ 0 ∧ ut (fn 0 i) = fn 1 i
theorem sft_md {sc : Nat → Int} {fn : Nat → Int → Int} {us ut : Int → Int} {d b e : Int} (hu : mdU sc fn us ut) (ho : shOk (fn 0) (fn 1) (sc 1)) (hn : 0 ≤ sc 1) (hd : 0 ≤ d ∧ d < 400) (hb1 : ∀ j : Int, b < j → j ≤ d → us j = 0) (hb2 : b = -1 ∨ (0 ≤ b ∧ b ≤ d ∧ us b ≠ 0)) (he1 : ∀ j : Int, d ≤ j → j < e → us j = 0) (he2 : e = 400 ∨ (d ≤ e ∧ e < 400 ∧ us e ≠ 0)) :
    (b < 0 → e = 400 → sftP (fn 0) (fn 1) (sc 1) d 0) ∧ (b < 0 → e ≠ 400 → sftP (fn 0) (fn 1) (sc 1) d (ut e)) ∧ (0 ≤ b → (e = 400 ∨ e = b) → sftP (fn 0) (fn 1) (sc 1) d (ut b)) ∧ (0 ≤ b → e ≠ 400 → e ≠ b → sftP (fn 0) (fn 1) (sc 1) d (ut b + Int.tdiv ((ut e - ut b) * (d - b)) (e - b))) := by
  obtain ⟨k, hk⟩ := clP_ex (fn 0) d (sc 1).toNat
  rw [show (((sc 1).toNat : Nat) : Int) = sc 1 by omega] at hk
  obtain ⟨k0, k1, k2, k3⟩ := hk
  have hk : clP (fn 0) (sc 1) d k := ⟨k0, k1, k2, k3⟩
  have hlo : ∀ i : Int, 0 ≤ i → i < sc 1 → fn 0 i ≤ d → fn 0 i ≤ b := fun i a1 a2 a3 => Classical.byContradiction fun c => (hu.2 i a1 a2).1 (hb1 _ (by omega) a3)
  have hhi : ∀ i : Int, 0 ≤ i → i < sc 1 → d ≤ fn 0 i → e ≤ fn 0 i := fun i a1 a2 a3 => Classical.byContradiction fun c => (hu.2 i a1 a2).1 (he1 _ a3 (by omega))
  have hmo := ho.1
  have hrg := ho.2.1
  have hB : 0 ≤ b → ∃ i : Int, 0 ≤ i ∧ i < sc 1 ∧ fn 0 i = b ∧ ut b = fn 1 i := fun h => by
    have h2 : 0 ≤ b ∧ b ≤ d ∧ us b ≠ 0 := hb2.resolve_left (by omega)
    exact hu.1 b h (by omega) h2.2.2
  have hE : e ≠ 400 → ∃ i : Int, 0 ≤ i ∧ i < sc 1 ∧ fn 0 i = e ∧ ut e = fn 1 i := fun h => by
    have h2 := he2.resolve_left h
    exact hu.1 e (by omega) h2.2.1 h2.2.2
  refine ⟨fun g1 g2 => ?_, fun g1 g2 => ?_, fun g1 g2 => ?_, fun g1 g2 g3 => ?_⟩
  · refine Or.inl ⟨Classical.byContradiction fun c => ?_, rfl⟩
    have r := hrg 0
    rcases Int.le_total (fn 0 0) d with h | h
    · have := hlo 0 (by omega) (by omega) h
      omega
    · have := hhi 0 (by omega) (by omega) h
      omega
  · obtain ⟨i, i1, i2, i3, i4⟩ := hE g2
    have hk0 : k = 0 := Classical.byContradiction fun c => by
      have h1 := k2 0 (by omega) (by omega)
      have h2 := hlo 0 (by omega) (by omega) (by omega)
      have r := hrg 0
      omega
    have hi0 : i = 0 := Classical.byContradiction fun c => by
      have h1 := hmo 0 i (by omega) (by omega) i2
      have h2 := k3 (by omega)
      rw [hk0] at h2
      have h3 := hhi 0 (by omega) (by omega) h2
      omega
    exact Or.inr ⟨by omega, k, hk, Or.inr (Or.inl ⟨hk0, by omega, by rw [i4, hi0]⟩)⟩
  · obtain ⟨i, i1, i2, i3, i4⟩ := hB g1
    have hbd : b ≤ d := by rcases hb2 with h | h <;> omega
    by_cases h400 : e = 400
    · have hkn : k = sc 1 := Classical.byContradiction fun c => by
        have h1 := k3 (by omega)
        have h2 := hhi k k0 (by omega) h1
        have r := hrg k
        omega
      have hin : i = sc 1 - 1 := Classical.byContradiction fun c => by
        have h1 := hmo i (sc 1 - 1) i1 (by omega) (by omega)
        have h2 := k2 (sc 1 - 1) (by omega) (by omega)
        have h3 := hlo (sc 1 - 1) (by omega) (by omega) (by omega)
        omega
      exact Or.inr ⟨by omega, k, hk, Or.inl ⟨hkn, by rw [i4, hin]⟩⟩
    · have heb : e = b := g2.resolve_left h400
      have hde : d ≤ e := by rcases he2 with h | h <;> omega
      have hki : k = i := by
        rcases Int.lt_trichotomy k i with c | c | c
        · have h1 := hmo k i k0 c i2
          have h2 := k3 (by omega)
          omega
        · exact c
        · have h1 := k2 i i1 c
          omega
      by_cases c : k = 0
      · exact Or.inr ⟨by omega, k, hk, Or.inr (Or.inl ⟨c, by omega, by rw [i4, ← hki, c]⟩)⟩
      · refine Or.inr ⟨by omega, k, hk, Or.inr (Or.inr ⟨by omega, by omega, ?_⟩)⟩
        have h1 := hmo (k - 1) k (by omega) (by omega) (by omega)
        rw [show d - fn 0 (k - 1) = fn 0 k - fn 0 (k - 1) by rw [hki, i3]; omega, Int.mul_tdiv_cancel _ (by omega), i4, hki]
        omega
  · obtain ⟨i, i1, i2, i3, i4⟩ := hB g1
    obtain ⟨j, j1, j2, j3, j4⟩ := hE g2
    have hbd : b ≤ d := by rcases hb2 with h | h <;> omega
    have hde : d ≤ e := by rcases he2 with h | h <;> omega
    have hbd2 : b < d := Classical.byContradiction fun c => by
      have : us d ≠ 0 := by
        have h2 : 0 ≤ b ∧ b ≤ d ∧ us b ≠ 0 := hb2.resolve_left (by omega)
        rw [show d = b by omega]
        exact h2.2.2
      exact this (he1 d (Int.le_refl d) (by omega))
    have hik : i < k := Classical.byContradiction fun c => by
      have h2 := k3 (by omega)
      rcases Int.lt_or_eq_of_le (show k ≤ i by omega) with c2 | c2
      · have h1 := hmo k i k0 c2 i2
        omega
      · rw [c2] at h2
        omega
    have hkj : k ≤ j := Classical.byContradiction fun c => by
      have h1 := k2 j j1 (by omega)
      omega
    have hi : i = k - 1 := Classical.byContradiction fun c => by
      have h1 := hmo i (k - 1) i1 (by omega) (by omega)
      have h2 := k2 (k - 1) (by omega) (by omega)
      have h3 := hlo (k - 1) (by omega) (by omega) (by omega)
      omega
    have hj : j = k := Classical.byContradiction fun c => by
      have h1 := hmo k j k0 (by omega) j2
      have h2 := k3 (by omega)
      have h3 := hhi k k0 (by omega) h2
      omega
    refine Or.inr ⟨by omega, k, hk, Or.inr (Or.inr ⟨by omega, by omega, ?_⟩)⟩
    rw [← hi, i3, ← i4, ← hj, j3, ← j4]
theorem md_upd {sc : Nat → Int} {fn : Nat → Int → Int} {us ut : Int → Int} {d k v : Int} (h : mdU sc fn us ut) (ho : shOk (fn 0) (fn 1) (sc 1)) (hk : 0 ≤ k ∧ k < sc 1) (hd : fn 0 k = d) : mdU sc (upF fn 1 (updI (fn 1) k v)) (updI us d 1) (updI ut d v) := by
  have one : ∀ i : Int, 0 ≤ i → i < sc 1 → fn 0 i = d → i = k := fun i a1 a2 a3 => by
    rcases Int.lt_trichotomy i k with c | c | c
    · have := ho.1 i k a1 c hk.2
      omega
    · exact c
    · have := ho.1 k i hk.1 c a2
      omega
  refine ⟨fun e a1 a2 a3 => ?_, fun i a1 a2 => ?_⟩
  · show ∃ i : Int, 0 ≤ i ∧ i < sc 1 ∧ fn 0 i = e ∧ updI ut d v e = updI (fn 1) k v i
    by_cases c : e = d
    · exact ⟨k, hk.1, hk.2, by rw [hd, c], by rw [c, updI_s, updI_s]⟩
    · rw [updI_n _ _ c] at a3
      obtain ⟨i, b1, b2, b3, b4⟩ := h.1 e a1 a2 a3
      exact ⟨i, b1, b2, b3, by rw [updI_n _ _ c, updI_n _ _ (by intro g; rw [g] at b3; omega)]; exact b4⟩
  · show updI us d 1 (fn 0 i) ≠ 0 ∧ updI ut d v (fn 0 i) = updI (fn 1) k v i
    by_cases c : fn 0 i = d
    · rw [c, updI_s, updI_s, one i a1 a2 c, updI_s]
      exact ⟨by decide, rfl⟩
    · rw [updI_n _ _ c, updI_n _ _ c, updI_n _ _ (by intro g; rw [g] at c; exact c hd)]
      exact h.2 i a1 a2
theorem md_ins {sc : Nat → Int} {fn : Nat → Int → Int} {us ut : Int → Int} {d k v : Int} (h : mdU sc fn us ut) (hk : 0 ≤ k ∧ k ≤ sc 1) (hd : 0 ≤ d ∧ d < 400) (hu : us d = 0) : mdU (upS sc 1 (sc 1 + 1)) (upF (upF fn 0 (insF (fn 0) (sc 1) k d)) 1 (insF (fn 1) (sc 1) k v)) (updI us d 1) (updI ut d v) := by
  have ne : ∀ i : Int, 0 ≤ i → i < sc 1 → fn 0 i ≠ d := fun i a1 a2 a3 => by
    have := (h.2 i a1 a2).1
    rw [a3] at this
    exact this hu
  refine ⟨fun e a1 a2 a3 => ?_, fun i a1 a2 => ?_⟩
  · show ∃ i : Int, 0 ≤ i ∧ i < sc 1 + 1 ∧ insF (fn 0) (sc 1) k d i = e ∧ updI ut d v e = insF (fn 1) (sc 1) k v i
    by_cases c : e = d
    · refine ⟨k, hk.1, by omega, ?_, ?_⟩
      · unfold insF
        rw [if_neg (by omega), if_pos rfl, c]
      · unfold insF
        rw [if_neg (by omega), if_pos rfl, c, updI_s]
    · rw [updI_n _ _ c] at a3
      obtain ⟨i, b1, b2, b3, b4⟩ := h.1 e a1 a2 a3
      by_cases g : i < k
      · refine ⟨i, b1, by omega, ?_, ?_⟩
        · unfold insF
          rw [if_pos g]
          exact b3
        · unfold insF
          rw [if_pos g, updI_n _ _ c]
          exact b4
      · refine ⟨i + 1, by omega, by omega, ?_, ?_⟩
        · unfold insF
          rw [if_neg (by omega), if_neg (by omega), if_pos (by omega), show i + 1 - 1 = i by omega]
          exact b3
        · unfold insF
          rw [if_neg (by omega), if_neg (by omega), if_pos (by omega), show i + 1 - 1 = i by omega, updI_n _ _ c]
          exact b4
  · have a2 : i < sc 1 + 1 := a2
    show updI us d 1 (insF (fn 0) (sc 1) k d i) ≠ 0 ∧ updI ut d v (insF (fn 0) (sc 1) k d i) = insF (fn 1) (sc 1) k v i
    unfold insF
    by_cases g : i < k
    · rw [if_pos g, if_pos g, updI_n _ _ (ne i a1 (by omega)), updI_n _ _ (ne i a1 (by omega))]
      exact h.2 i a1 (by omega)
    · by_cases g2 : i = k
      · rw [if_neg g, if_neg g, if_pos g2, if_pos g2, updI_s, updI_s]
        exact ⟨by decide, rfl⟩
      · rw [if_neg g, if_neg g, if_neg g2, if_neg g2, if_pos (by omega), if_pos (by omega), updI_n _ _ (ne (i - 1) (by omega) (by omega)), updI_n _ _ (ne (i - 1) (by omega) (by omega))]
        exact h.2 (i - 1) (by omega) (by omega)
/-- the law's row of shifts, 9999 for none -/
def usF (sh : Int → Int) : Int → Int := fun j => if sh j = 9999 then 0 else 1
theorem usF_0 {sh : Int → Int} {j : Int} : usF sh j = 0 ↔ sh j = 9999 := by
  unfold usF
  by_cases h : sh j = 9999
  · rw [if_pos h]; exact ⟨fun _ => h, fun _ => rfl⟩
  · rw [if_neg h]; exact ⟨fun x => by omega, fun x => absurd x h⟩
theorem usF_n {sh : Int → Int} {j : Int} : usF sh j ≠ 0 ↔ sh j ≠ 9999 := not_congr usF_0
theorem usF_upd {sh : Int → Int} {d v : Int} (hv : v ≠ 9999) : usF (updI sh d v) = updI (usF sh) d 1 := by
  funext j
  unfold usF updI
  by_cases h : j = d
  · rw [if_pos h, if_pos h, if_neg hv]
  · rw [if_neg h, if_neg h]
def rlU (sc : Nat → Int) (fn : Nat → Int → Int) (sh : Int → Int) : Prop := mdU sc fn (usF sh) sh ∧ ∀ j : Int, sh j = 9999 ∨ (-200 ≤ sh j ∧ sh j ≤ 200)
theorem rlU_set {sc sc2 : Nat → Int} {fn fn2 : Nat → Int → Int} {sh : Int → Int} {d k v : Int} (h : rlU sc fn sh) (ho : shOk (fn 0) (fn 1) (sc 1)) (hn : 0 ≤ sc 1) (hk : clP (fn 0) (sc 1) d k) (hd : 0 ≤ d ∧ d < 400) (hv : -200 ≤ v ∧ v ≤ 200) (hc : (sc2 = sc ∧ fn2 = upF fn 1 (updI (fn 1) k v) ∧ k < sc 1 ∧ fn 0 k = d) ∨ (sc2 = upS sc 1 (sc 1 + 1) ∧ fn2 = upF (upF fn 0 (insF (fn 0) (sc 1) k d)) 1 (insF (fn 1) (sc 1) k v) ∧ ¬ (k < sc 1 ∧ fn 0 k = d) ∧ sc 1 < 20)) : rlU sc2 fn2 (updI sh d v) ∧ sc2 1 ≤ sc 1 + 1 ∧ sc2 2 = sc 2 ∧ sc2 3 = sc 3 ∧ fn2 2 = fn 2 ∧ fn2 3 = fn 3 ∧ fn2 4 = fn 4 := by
  obtain ⟨h1, h2⟩ := h
  have h3 : ∀ j : Int, updI sh d v j = 9999 ∨ (-200 ≤ updI sh d v j ∧ updI sh d v j ≤ 200) := fun j => by
    unfold updI
    by_cases e : j = d
    · rw [if_pos e]; exact Or.inr hv
    · rw [if_neg e]; exact h2 j
  rcases hc with ⟨rfl, rfl, c1, c2⟩ | ⟨rfl, rfl, c1, c2⟩
  · refine ⟨⟨?_, h3⟩, by omega, rfl, rfl, rfl, rfl, rfl⟩
    rw [usF_upd (by omega)]
    exact md_upd h1 ho ⟨hk.1, c1⟩ c2
  · refine ⟨⟨?_, h3⟩, Int.le_refl _, rfl, rfl, rfl, rfl, rfl⟩
    rw [usF_upd (by omega)]
    refine md_ins h1 ⟨hk.1, hk.2.1⟩ hd ?_
    refine Classical.byContradiction fun c => ?_
    obtain ⟨i, b1, b2, b3, -⟩ := h1.1 d hd.1 hd.2 c
    have e9 : k = i := clP_one hk ⟨b1, by omega, fun j c1 c2 => by have := ho.1 j i c1 c2 b2; omega, fun _ => by omega⟩
    exact c1 ⟨by omega, by rw [e9]; exact b3⟩
/-- the law's own way to the shift of a day -/
theorem sft_law {sc : Nat → Int} {fn : Nat → Int → Int} {sh : Int → Int} {d a b : Int} (hu : rlU sc fn sh) (ho : shOk (fn 0) (fn 1) (sc 1)) (hn : 0 ≤ sc 1) (hd : 0 ≤ d ∧ d < 400) (ha : (a = -1 ∧ ∀ j : Int, 0 ≤ j → j < 400 → j ≤ d → sh j = 9999) ∨ (0 ≤ a ∧ a ≤ d ∧ sh a ≠ 9999 ∧ ∀ j : Int, a < j → j < 400 → j ≤ d → sh j = 9999)) (hb : (b = -1 ∧ ∀ j : Int, d ≤ j → j < 400 → sh j = 9999) ∨ (d ≤ b ∧ b < 400 ∧ sh b ≠ 9999 ∧ ∀ j : Int, d ≤ j → j < b → sh j = 9999)) :
    (a < 0 → b < 0 → 0 = sftF (fn 0) (fn 1) (sc 1) d) ∧ (a < 0 → 0 ≤ b → sh b = sftF (fn 0) (fn 1) (sc 1) d) ∧ (0 ≤ a → (b < 0 ∨ a = b) → sh a = sftF (fn 0) (fn 1) (sc 1) d) ∧ (0 ≤ a → 0 ≤ b → a ≠ b → sh a + Int.tdiv ((sh b - sh a) * (d - a)) (b - a) = sftF (fn 0) (fn 1) (sc 1) d) := by
  have e1 : ∃ e : Int, e = if b < 0 then 400 else b := ⟨_, rfl⟩
  obtain ⟨e, he⟩ := e1
  have hfin := sft_md (b := a) (e := e) (d := d) hu.1 ho hn hd (fun j h1 h2 => usF_0.mpr (by
      rcases ha with ⟨a1, a2⟩ | ⟨a1, a2, a3, a4⟩
      · exact a2 j (by omega) (by omega) h2
      · exact a4 j h1 (by omega) h2)) (by
      rcases ha with ⟨a1, a2⟩ | ⟨a1, a2, a3, a4⟩
      · exact Or.inl a1
      · exact Or.inr ⟨a1, a2, usF_n.mpr a3⟩) (fun j h1 h2 => usF_0.mpr (by
      rcases hb with ⟨a1, a2⟩ | ⟨a1, a2, a3, a4⟩
      · rw [if_pos (by omega)] at he
        exact a2 j h1 (by omega)
      · rw [if_neg (by omega)] at he
        exact a4 j h1 (by omega))) (by
      rcases hb with ⟨a1, a2⟩ | ⟨a1, a2, a3, a4⟩
      · rw [if_pos (by omega)] at he
        exact Or.inl he
      · rw [if_neg (by omega)] at he
        exact Or.inr ⟨by omega, by omega, by rw [he]; exact usF_n.mpr a3⟩)
  refine ⟨fun h1 h2 => ?_, fun h1 h2 => ?_, fun h1 h2 => ?_, fun h1 h2 h3 => ?_⟩
  · rw [if_pos h2] at he
    exact sftF_eq (hfin.1 h1 he)
  · rw [if_neg (by omega)] at he
    rw [← he]
    exact sftF_eq (hfin.2.1 h1 (by rcases hb with hb | hb <;> omega))
  · refine sftF_eq (hfin.2.2.1 h1 ?_)
    by_cases c : b < 0
    · rw [if_pos c] at he
      exact Or.inl he
    · rw [if_neg c] at he
      exact Or.inr (by omega)
  · rw [if_neg (by omega)] at he
    rw [← he]
    exact sftF_eq (hfin.2.2.2 h1 (by rcases hb with hb | hb <;> omega) (by omega))
/-! a higher stage has no smaller flow -/
theorem flow_mono {st fl : Int → Int} {n s : Int} (h : cvOk st fl n) (hn : 2 ≤ n) (hs : s ≤ 4900) : flowF st fl n s ≤ flowF st fl n (s + 1) := by
  rcases Int.lt_or_le s (st 0) with h0 | h0
  · rw [flow_low h h0]
    exact (flow_bd h hn (by omega)).1
  · obtain ⟨k, k1, k2, k3, k4⟩ := flP_ex fl hn h0
    rw [flow_seg h h0 k1 k2 (Or.inr k3) (k4.imp id (fun z => by omega)), flow_seg h (show st 0 ≤ s + 1 by omega) k1 k2 (Or.inr (by omega)) (k4.imp id (fun z => by omega))]
    have a1 := h.1 k (k + 1) k1 (by omega) (by omega)
    have a2 := h.2.1 k (k + 1) k1 (by omega) (by omega)
    rw [(seg_ge a1 a2 k3).1, (seg_ge a1 a2 (show st k ≤ s + 1 by omega)).1]
    have b1 : (fl (k + 1) - fl k) * (s - st k) ≤ (fl (k + 1) - fl k) * (s + 1 - st k) := Int.mul_le_mul_of_nonneg_left (by omega) (by omega)
    have b2 := Int.ediv_le_ediv (show 0 < st (k + 1) - st k by omega) b1
    omega
/-! runs of filled days: run days of state 3 stand right ahead of d; bf is the flow of the day ahead of them -/
def runP (F S : Int → Int) (d run bf : Int) : Prop := 0 ≤ run ∧ run ≤ d ∧ (∀ j : Int, d - run ≤ j → j < d → S j = 3) ∧ ((run = d ∧ bf = -1) ∨ (run < d ∧ S (d - run - 1) ≠ 3 ∧ bf = F (d - run - 1)))
theorem runP_0 (F S : Int → Int) : runP F S 0 0 (-1) := ⟨by omega, by omega, fun j h1 h2 => by omega, Or.inl ⟨rfl, rfl⟩⟩
theorem runP_3 {F S : Int → Int} {d run bf : Int} (h : runP F S d run bf) (hS : S d = 3) : runP F S (d + 1) (run + 1) bf := by
  obtain ⟨h1, h2, h3, h4⟩ := h
  refine ⟨by omega, by omega, fun j a1 a2 => ?_, ?_⟩
  · by_cases c : j = d
    · rw [c]; exact hS
    · exact h3 j (by omega) (by omega)
  · rw [show d + 1 - (run + 1) - 1 = d - run - 1 by omega]
    rcases h4 with h4 | h4
    · exact Or.inl ⟨by omega, h4.2⟩
    · exact Or.inr ⟨by omega, h4.2⟩
theorem runP_n {F S : Int → Int} {d : Int} (hd : 0 ≤ d) (hS : S d ≠ 3) : runP F S (d + 1) 0 (F d) :=
  ⟨by omega, by omega, fun j a1 a2 => by omega, Or.inr ⟨by omega, by rw [show d + 1 - 0 - 1 = d by omega]; exact hS, by rw [show d + 1 - 0 - 1 = d by omega]⟩⟩
/-- what holds of a filled day -/
theorem fil_day {F S : Int → Int} {lim d run bf : Int} (ht : tbOk F S) (h12 : ∀ j : Int, S j ≤ 2) (hr : runP (finF F S lim) (finS F S lim) d run bf) (hd : 0 ≤ d ∧ d < 400) (hS : finS F S lim d = 3) : 0 ≤ bf ∧ run + 1 ≤ lim ∧ ∃ e : Int, d < e ∧ e < 400 ∧ (∀ j : Int, d ≤ j → j < e → finS F S lim j = 3) ∧ finS F S lim e ≠ 3 ∧ min bf (finF F S lim e) ≤ finF F S lim d ∧ finF F S lim d ≤ max bf (finF F S lim e) := by
  have hj := finP_is F S lim d
  rcases hj with ⟨a1, a2, a3⟩ | ⟨a1, ⟨a, b, g, g2, g3, g4⟩ | ⟨a2, a3, a4⟩⟩
  · have := h12 d
    omega
  · obtain ⟨q1, q2, q3, q4, q5, q6, q7⟩ := g
    have inner : ∀ j : Int, a < j → j < b → finS F S lim j = 3 := fun j h1 h2 => by
      have e := finP_sp (show finP F S lim j (F a + Int.tdiv ((F b - F a) * (j - a)) (b - a)) 3 from Or.inr ⟨q7 j h1 h2, Or.inl ⟨a, b, ⟨q1, h1, h2, q4, q5, q6, q7⟩, g2, rfl, rfl⟩⟩)
      exact e.2.symm
    have outA := finP_sp (show finP F S lim a (F a) (S a) from Or.inl ⟨q5, rfl, rfl⟩)
    have outB := finP_sp (show finP F S lim b (F b) (S b) from Or.inl ⟨q6, rfl, rfl⟩)
    have sA := h12 a
    have sB := h12 b
    obtain ⟨r1, r2, r3, r4⟩ := hr
    have er : d - run - 1 = a := by
      rcases Int.lt_trichotomy (d - run - 1) a with c | c | c
      · have := r3 a (by omega) q2
        omega
      · exact c
      · rcases r4 with r4 | r4
        · omega
        · exact absurd (inner (d - run - 1) c (by omega)) r4.2.1
    rcases r4 with r4 | r4
    · omega
    · have ebf : bf = F a := by rw [r4.2.2, er, ← outA.1]
      have pA := ht.2.2.1 a q5
      have itp := itp_bd (D := F b - F a) (x := d - a) (y := b - a) (by omega) (by omega)
      refine ⟨by omega, by omega, b, q3, q4, fun j h1 h2 => inner j (by omega) h2, by omega, ?_, ?_⟩
      · rw [← outB.1, g3, ebf]
        omega
      · rw [← outB.1, g3, ebf]
        omega
  · omega
/-! what is reached -/
theorem min_told {F S : Int → Int} {x : Int} : ∀ k : Nat, (∃ e : Int, 0 ≤ e ∧ e < 400 ∧ S e ≠ 0 ∧ x ≤ F e ∧ F e < x + k) → ∃ e : Int, 0 ≤ e ∧ e < 400 ∧ S e ≠ 0 ∧ x ≤ F e ∧ ∀ g : Int, 0 ≤ g → g < 400 → S g ≠ 0 → x ≤ F g → F e ≤ F g := by
  intro k
  induction k with
  | zero => exact fun h => by obtain ⟨e, -, -, -, h1, h2⟩ := h; omega
  | succ k ih =>
    intro h
    by_cases c : ∃ e : Int, 0 ≤ e ∧ e < 400 ∧ S e ≠ 0 ∧ x ≤ F e ∧ F e < x + k
    · exact ih c
    · obtain ⟨e, e1, e2, e3, e4, e5⟩ := h
      refine ⟨e, e1, e2, e3, e4, fun g g1 g2 g3 g4 => Classical.byContradiction fun c2 => c ⟨g, g1, g2, g3, g4, by omega⟩⟩
theorem cgT_cg {F S : Int → Int} {x y : Int} : ∀ n : Nat, (∀ d : Int, 0 ≤ d → d < n → S d ≠ 0 → (x ≤ F d ↔ y ≤ F d)) → cgT F S x n = cgT F S y n := by
  intro n
  induction n with
  | zero => exact fun _ => rfl
  | succ n ih =>
    intro h
    have a := ih (fun d h1 h2 => h d h1 (by omega))
    unfold cgT
    rw [a]
    by_cases c : S (n : Int) ≠ 0
    · have := h (n : Int) (by omega) (by omega) c
      by_cases c2 : x ≤ F (n : Int)
      · rw [if_pos ⟨c, c2⟩, if_pos ⟨c, this.mp c2⟩]
      · rw [if_neg (fun z => c2 z.2), if_neg (fun z => c2 (this.mpr z.2))]
    · rw [if_neg (fun z => c z.1), if_neg (fun z => c z.1)]
theorem cgT_no {F S : Int → Int} {x : Int} : ∀ n : Nat, (∀ d : Int, 0 ≤ d → d < n → S d ≠ 0 → F d < x) → cgT F S x n = 0 := by
  intro n
  induction n with
  | zero => exact fun _ => rfl
  | succ n ih =>
    intro h
    unfold cgT
    rw [ih (fun d h1 h2 => h d h1 (by omega)), if_neg (fun z => by have := h (n : Int) (by omega) (by omega) z.1; omega)]
    rfl
theorem cgT_all {F S : Int → Int} {x : Int} : ∀ n : Nat, (∀ d : Int, 0 ≤ d → d < n → S d ≠ 0 → x ≤ F d) → cgT F S x n = cntT S 0 n := by
  intro n
  induction n with
  | zero => exact fun _ => rfl
  | succ n ih =>
    intro h
    unfold cgT cntT
    rw [ih (fun d h1 h2 => h d h1 (by omega)), Int.zero_add]
    by_cases c : S (n : Int) ≠ 0
    · rw [if_pos ⟨c, h _ (by omega) (by omega) c⟩, if_pos c]
    · rw [if_neg (fun z => c z.1), if_neg c]
theorem cgT_min {F S : Int → Int} (x : Int) : cgT F S x 400 = 0 ∨ ∃ e : Int, 0 ≤ e ∧ e < 400 ∧ S e ≠ 0 ∧ x ≤ F e ∧ cgT F S x 400 = cgT F S (F e) 400 := by
  by_cases c : ∃ e : Int, 0 ≤ e ∧ e < 400 ∧ S e ≠ 0 ∧ x ≤ F e
  · obtain ⟨e, e1, e2, e3, e4⟩ := c
    obtain ⟨g, g1, g2, g3, g4, g5⟩ := min_told (F := F) (S := S) (x := x) (F e - x + 1).toNat ⟨e, e1, e2, e3, e4, by omega⟩
    exact Or.inr ⟨g, g1, g2, g3, g4, cgT_cg 400 (fun d h1 h2 h3 => ⟨fun z => g5 d h1 (by omega) h3 z, fun z => by omega⟩)⟩
  · exact Or.inl (cgT_no 400 (fun d h1 h2 h3 => Classical.byContradiction fun z => c ⟨d, h1, by omega, h3, by omega⟩))
theorem cntT_no {S : Int → Int} : ∀ n : Nat, cntT S 0 n = 0 → ∀ d : Int, 0 ≤ d → d < n → S d = 0 := by
  intro n
  induction n with
  | zero => exact fun _ d h1 h2 => by omega
  | succ n ih =>
    intro h d h1 h2
    have b := cntT_b S 0 n
    unfold cntT at h
    rw [Int.zero_add] at h
    by_cases c : S (n : Int) ≠ 0
    · rw [if_pos c] at h
      omega
    · rw [if_neg c] at h
      by_cases e : d = (n : Int)
      · rw [e]
        exact Classical.byContradiction c
      · exact ih (by omega) d h1 (by omega)
/-- what is reached: by so many days; exceeded by fewer -/
theorem rc_law {F S : Int → Int} {r v : Int} (hF : ∀ j : Int, S j ≠ 0 → 0 ≤ F j) (h : rcP F S r v) : (cntT S 0 400 = 0 → v = -1) ∧ (cntT S 0 400 ≠ 0 → 1 ≤ r → r ≤ cntT S 0 400 → r ≤ cgT F S v 400 ∧ cgT F S (v + 1) 400 < r) := by
  refine ⟨fun h0 => ?_, fun h0 h1 h2 => ?_⟩
  · rcases h with ⟨a1, a2⟩ | ⟨d, a1, a2, a3, a4, a5, a6⟩
    · exact a1
    · exact absurd (cntT_no 400 h0 d a1 (by omega)) a3
  · have hall := cgT_all (F := F) (S := S) (x := 0) 400 (fun d _ _ h3 => hF d h3)
    rcases h with ⟨a1, a2⟩ | ⟨d, a1, a2, a3, a4, a5, a6⟩
    · exfalso
      rcases cgT_min (F := F) (S := S) 0 with c | ⟨e, e1, e2, e3, e4, e5⟩
      · omega
      · have := a2 e e1 e2 e3
        omega
    · refine ⟨a5, ?_⟩
      rcases cgT_min (F := F) (S := S) (v + 1) with c | ⟨e, e1, e2, e3, e4, e5⟩
      · omega
      · have := a6 e e1 e2 e3 (by omega)
        omega
theorem cgT_s {F S : Int → Int} {x d : Int} (h : 0 ≤ d) : cgT F S x (d + 1).toNat = cgT F S x d.toNat + (if S d ≠ 0 ∧ x ≤ F d then 1 else 0) := by
  rw [show (d + 1).toNat = d.toNat + 1 by omega]
  show cgT F S x d.toNat + (if S (d.toNat : Int) ≠ 0 ∧ x ≤ F (d.toNat : Int) then 1 else 0) = _
  rw [show (d.toNat : Int) = d by omega]
theorem cgT_b {F S : Int → Int} {x : Int} : ∀ n : Nat, 0 ≤ cgT F S x n ∧ cgT F S x n ≤ n := by
  intro n
  induction n with
  | zero => exact ⟨Int.le_refl _, Int.le_refl _⟩
  | succ n ih =>
    unfold cgT
    by_cases c : S (n : Int) ≠ 0 ∧ x ≤ F (n : Int)
    · rw [if_pos c]; omega
    · rw [if_neg c]; omega
/-! peaks, with 1 day apart -/
theorem clC_cg {P Q : Int → Prop} (n : Nat) (h : ∀ d : Int, 0 ≤ d → d < n → (P d ↔ Q d)) : clC P n = clC Q n := by
  have a := clC_m (P := P) (Q := Q) n (fun d h1 h2 h3 => (h d h1 h2).mp h3)
  have b := clC_m (P := Q) (Q := P) n (fun d h1 h2 h3 => (h d h1 h2).mpr h3)
  omega
theorem clC_cnt {S : Int → Int} : ∀ n : Nat, clC (fun d => S d ≠ 0) n = cntT S 0 n := by
  intro n
  induction n with
  | zero => rfl
  | succ n ih =>
    unfold clC cntT
    rw [ih, Int.zero_add]
    by_cases c : S (n : Int) ≠ 0
    · rw [if_pos c, if_pos c]
    · rw [if_neg c, if_neg c]
theorem pkR_1 {F S : Int → Int} (hF : ∀ j : Int, S j ≠ 0 → 0 ≤ F j) : ∀ (k : Nat) {Z : Int → Prop} {c v : Int}, pkR F S 0 1 k Z c v → v = c + clC (fun d => S d ≠ 0 ∧ ¬ Z d) 400 := by
  intro k
  induction k with
  | zero =>
    intro Z c v h
    have e : clC (fun d => S d ≠ 0 ∧ ¬ Z d) 400 = clC (fun _ => False) 400 := clC_cg 400 (fun d h1 h2 => ⟨fun z => by have := h.1 d h1 (by omega) z.1 z.2; have := hF d z.1; omega, fun z => z.elim⟩)
    rw [e, clC_0 400 (fun d z => z), h.2]
    omega
  | succ k ih =>
    intro Z c v h
    obtain ⟨b, ⟨b1, b2, b3, b4, b5, b6⟩, g⟩ := h
    have e1 := ih g
    have e2 := clC_a (P := fun d => S d ≠ 0 ∧ ¬ (Z d ∨ (b - 1 < d ∧ d < b + 1))) (a := b) b1 (fun z => z.2 (Or.inr ⟨by omega, by omega⟩)) 400
    rw [if_pos (by omega)] at e2
    have e3 : clC (fun d => (S d ≠ 0 ∧ ¬ (Z d ∨ (b - 1 < d ∧ d < b + 1))) ∨ d = b) 400 = clC (fun d => S d ≠ 0 ∧ ¬ Z d) 400 := clC_cg 400 (fun d h1 h2 => ⟨fun z => by
        rcases z with z | z
        · exact ⟨z.1, fun y => z.2 (Or.inl y)⟩
        · rw [z]; exact ⟨b3, b4⟩, fun z => by
        by_cases c : d = b
        · exact Or.inr c
        · exact Or.inl ⟨z.1, fun y => by
            rcases y with y | y
            · exact z.2 y
            · omega⟩⟩)
    omega
theorem pk_law {F S : Int → Int} {v : Int} (hF : ∀ j : Int, S j ≠ 0 → 0 ≤ F j) (h : pkE F S 0 1 (fun _ => False) 0 v) : v = cntT S 0 400 := by
  obtain ⟨k, hk⟩ := h
  have e := pkR_1 hF k hk
  rw [e, Int.zero_add, ← clC_cnt]
  exact clC_cg 400 (fun d _ _ => ⟨fun z => z.1, fun z => ⟨z, fun y => y⟩⟩)
/-! sums of two parts -/
theorem sumT_a {F S : Int → Int} {a : Int} : ∀ m n : Nat, sumT F S a (m + n) = sumT F S a m + sumT F S (a + m) n := by
  intro m n
  induction n with
  | zero => show sumT F S a m = sumT F S a m + 0; omega
  | succ n ih =>
    have s1 : sumT F S a (m + (n + 1)) = sumT F S a (m + n) + (if S (a + ((m + n : Nat) : Int)) ≠ 0 then F (a + ((m + n : Nat) : Int)) else 0) := rfl
    have s2 : sumT F S (a + m) (n + 1) = sumT F S (a + m) n + (if S (a + (m : Int) + (n : Int)) ≠ 0 then F (a + (m : Int) + (n : Int)) else 0) := rfl
    rw [s1, s2, ih, show a + ((m + n : Nat) : Int) = a + (m : Int) + (n : Int) by omega, Int.add_assoc]
theorem gd_two {F S : Int → Int} {h g1 g2 g3 v1 v2 v3 : Int} (hF : ∀ j : Int, S j ≠ 0 → 0 ≤ F j) (hh : 0 ≤ h ∧ h < 399) (a1 : gdP F S 0 (h + 1) g1) (a2 : gdP F S (h + 1) 400 g2) (a3 : gdP F S 0 400 g3) (e1 : (g1 = -1 ∧ v1 = -1) ∨ (g1 ≠ -1 ∧ v1 = F g1)) (e2 : (g2 = -1 ∧ v2 = -1) ∨ (g2 ≠ -1 ∧ v2 = F g2)) (e3 : (g3 = -1 ∧ v3 = -1) ∨ (g3 ≠ -1 ∧ v3 = F g3)) : max v1 v2 = v3 := by
  rcases a3 with ⟨c1, c2⟩ | ⟨c1, c2, c3, c4⟩
  · rcases a1 with ⟨d1, d2⟩ | ⟨d1, d2, d3, d4⟩
    · rcases a2 with ⟨f1, f2⟩ | ⟨f1, f2, f3, f4⟩
      · omega
      · exact absurd (c2 g2 (by omega) f2) f3
    · exact absurd (c2 g1 d1 (by omega)) d3
  · have p3 := hF g3 c3
    rcases a1 with ⟨d1, d2⟩ | ⟨d1, d2, d3, d4⟩
    · rcases a2 with ⟨f1, f2⟩ | ⟨f1, f2, f3, f4⟩
      · rcases Int.lt_or_le g3 (h + 1) with k | k
        · exact absurd (d2 g3 c1 k) c3
        · exact absurd (f2 g3 k c2) c3
      · have q1 := c4 g2 (by omega) f2 f3
        rcases Int.lt_or_le g3 (h + 1) with k | k
        · exact absurd (d2 g3 c1 k) c3
        · have q2 := f4 g3 k c2 c3
          omega
    · have q1 := c4 g1 d1 (by omega) d3
      rcases a2 with ⟨f1, f2⟩ | ⟨f1, f2, f3, f4⟩
      · rcases Int.lt_or_le g3 (h + 1) with k | k
        · have q2 := d4 g3 c1 k c3
          have := hF g1 d3
          omega
        · exact absurd (f2 g3 k c2) c3
      · have q3 := c4 g2 (by omega) f2 f3
        rcases Int.lt_or_le g3 (h + 1) with k | k
        · have q2 := d4 g3 c1 k c3
          omega
        · have q2 := f4 g3 k c2 c3
          omega
/-! the states of the days -/
theorem td_s {sc : Nat → Int} {fn : Nat → Int → Int} (d : Int) : (tdS sc fn d = 0 ∧ ¬ isTold sc fn d) ∨ (tdS sc fn d = 1 ∧ isTold sc fn d ∧ fn 4 d = 0 ∧ tdF sc fn d = opF sc fn d) ∨ (tdS sc fn d = 2 ∧ isTold sc fn d ∧ fn 4 d ≠ 0) := by
  by_cases h : isTold sc fn d
  · by_cases h4 : fn 4 d ≠ 0
    · exact Or.inr (Or.inr ⟨(td_ice h h4).2, h, h4⟩)
    · exact Or.inr (Or.inl ⟨(td_open h h4).2, h, Classical.byContradiction h4, (td_open h h4).1⟩)
  · exact Or.inl ⟨(td_no h).2, h⟩
theorem tb_s {sc : Nat → Int} {fn : Nat → Int → Int} (d : Int) : (tbS sc fn d = 0) ∨ (tbS sc fn d = 1 ∧ isTold sc fn d ∧ fn 4 d = 0 ∧ tbF sc fn d = opF sc fn d) ∨ (tbS sc fn d = 2 ∧ isTold sc fn d ∧ fn 4 d ≠ 0) ∨ tbS sc fn d = 3 := by
  have hj := finP_is (tdF sc fn) (tdS sc fn) (sc 3) d
  have e1 : tbF sc fn d = finF (tdF sc fn) (tdS sc fn) (sc 3) d := rfl
  have e2 : tbS sc fn d = finS (tdF sc fn) (tdS sc fn) (sc 3) d := rfl
  rw [← e1, ← e2] at hj
  rcases hj with ⟨a1, a2, a3⟩ | ⟨a1, ⟨a, b, g, g2, g3, g4⟩ | ⟨a2, a3, a4⟩⟩
  · rcases td_s (sc := sc) (fn := fn) d with ⟨c1, c2⟩ | ⟨c1, c2, c3, c4⟩ | ⟨c1, c2, c3⟩
    · exact absurd c1 a1
    · exact Or.inr (Or.inl ⟨a3.trans c1, c2, c3, a2.trans c4⟩)
    · exact Or.inr (Or.inr (Or.inl ⟨a3.trans c1, c2, c3⟩))
  · exact Or.inr (Or.inr (Or.inr g4))
  · exact Or.inl a4
theorem td_le2 {sc : Nat → Int} {fn : Nat → Int → Int} (d : Int) : tdS sc fn d ≤ 2 := by
  rcases td_s (sc := sc) (fn := fn) d with h | h | h <;> omega
