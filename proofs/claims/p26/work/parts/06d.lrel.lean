/-! the class's book in a larger world; what the law's own book says of it -/
theorem bookS_of {cA : Nat → ClassId} {ad ad1 : Nat → Nat} {w w1 : Nat → Option va_E} {sc : Nat → Int} {fn : Nat → Int → Int} (hI : bkInv sc fn) (h : ∀ r : Nat, r < 200 → w1 r = w r ∧ ad1 r = ad r) (hbk : bookS cA ad w sc fn) : bookS cA ad1 w1 sc fn := by
  obtain ⟨rk, F, S, rn, rd, rm_, rz, ⟨h0, h1, h2, h3, h4, h5, h6, h7, h8, h9, h10, h11, h12, h13, h14, h15, hcv, hms⟩, hrk, hF, hS9⟩ := hbk
  exact ⟨rk, F, S, rn, rd, rm_, rz, ⟨(by rw [(h 0 (by omega)).1, (h 1 (by omega)).2, (h 2 (by omega)).2, (h 5 (by omega)).2, (h 6 (by omega)).2, (h 7 (by omega)).2, (h 8 (by omega)).2, (h 9 (by omega)).2, (h 12 (by omega)).2]; exact h0), (by rw [(h 1 (by omega)).1, h1]; congr 2; funext j; by_cases e9 : (j : Int) < sc 0; have i9_ := hI.1; rw [if_pos e9, if_pos e9, (h (30 + 3 * j) (by omega)).2]; rw [if_neg e9, if_neg e9]), (by rw [(h 2 (by omega)).1, (h 3 (by omega)).2, (h 4 (by omega)).2]; exact h2), (by rw [(h 3 (by omega)).1]; exact h3), (by rw [(h 4 (by omega)).1]; exact h4), (by rw [(h 5 (by omega)).1]; exact h5), (by rw [(h 6 (by omega)).1]; exact h6), (by rw [(h 7 (by omega)).1]; exact h7), (by rw [(h 8 (by omega)).1, h8]; congr 2; funext j; by_cases e9 : (j : Int) < sc 4; have i9_ := hI.1; rw [if_pos e9, if_pos e9, (h (60 + j) (by omega)).2]; rw [if_neg e9, if_neg e9]), (by rw [(h 9 (by omega)).1, (h 10 (by omega)).2, (h 11 (by omega)).2]; exact h9), (by rw [(h 10 (by omega)).1]; exact h10), (by rw [(h 11 (by omega)).1]; exact h11), (by rw [(h 12 (by omega)).1, (h 13 (by omega)).2, (h 14 (by omega)).2, (h 15 (by omega)).2]; exact h12), (by rw [(h 13 (by omega)).1]; exact h13), (by rw [(h 14 (by omega)).1]; exact h14), (by rw [(h 15 (by omega)).1]; exact h15), (fun k hk => by have i9_ := hI.1; have h9_ := hcv k hk; rw [(h (30 + 3 * k) (by omega)).1, (h (31 + 3 * k) (by omega)).1, (h (32 + 3 * k) (by omega)).1, (h (31 + 3 * k) (by omega)).2, (h (32 + 3 * k) (by omega)).2]; exact h9_), (fun k hk => by have i9_ := hI.1; rw [(h (60 + k) (by omega)).1]; exact hms k hk)⟩, hrk, hF, hS9⟩
theorem bookS_0 {cA : Nat → ClassId} {ad : Nat → Nat} {w : Nat → Option va_E} {sc : Nat → Int} {fn : Nat → Int → Int} (hbk : bookS cA ad w sc fn) : ∃ fs : List Value, w 0 = some (oB 5 fs) := by
  obtain ⟨rk, F, S, rn, rd, rm_, rz, ⟨h0, h1, h2, h3, h4, h5, h6, h7, h8, h9, h10, h11, h12, h13, h14, h15, hcv, hms⟩, hrk, hF, hS9⟩ := hbk
  exact ⟨_, h0⟩

/-- stages: 9999 for none -/
def rlD (fn : Nat → Int → Int) (st : Int → Int) : Prop := ∀ j : Int, 0 ≤ j → j < 400 → (fn 3 j = 0 → st j = 9999) ∧ (fn 3 j ≠ 0 → st j = fn 2 j)
def rlI (fn : Nat → Int → Int) (ic : Int → Int) : Prop := ∀ j : Int, 0 ≤ j → j < 400 → ic j = fn 4 j
def lbR (sc : Nat → Int) (fn : Nat → Int → Int) (sh st ic nn : Int → Int) : Prop := rlU sc fn sh ∧ rlD fn st ∧ rlI fn ic ∧ nn 1 = 5 ∧ sc 2 = 60 ∧ sc 3 = 5
/-- the curves so far: c of them, from days of their own -/
def lbK (sc : Nat → Int) (fn : Nat → Int → Int) (c : Int) : Prop := sc 0 = c ∧ sc 1 = 0 ∧ ∀ j : Int, 0 ≤ j → j < c → ∃ i : Int, 0 ≤ i ∧ i < 3 ∧ fn 8 j = i * 50 + j * 7
theorem rlU_cg {sc sc2 : Nat → Int} {fn fn2 : Nat → Int → Int} {sh : Int → Int} (h : rlU sc fn sh) (h1 : sc2 1 = sc 1) (h2 : fn2 0 = fn 0) (h3 : fn2 1 = fn 1) : rlU sc2 fn2 sh := by
  unfold rlU mdU at *
  rw [h1, h2, h3]
  exact h
theorem lbR_cg {sc sc2 : Nat → Int} {fn fn2 : Nat → Int → Int} {sh st ic nn n2 : Int → Int} (h : lbR sc fn sh st ic nn) (h1 : sc2 1 = sc 1 ∧ sc2 2 = sc 2 ∧ sc2 3 = sc 3) (h2 : ∀ i : Nat, i < 5 → fn2 i = fn i) (h3 : n2 1 = nn 1) : lbR sc2 fn2 sh st ic n2 := by
  obtain ⟨a1, a2, a3, a4, a5, a6⟩ := h
  refine ⟨rlU_cg a1 h1.1 (h2 0 (by omega)) (h2 1 (by omega)), ?_, ?_, h3.trans a4, h1.2.1.trans a5, h1.2.2.trans a6⟩
  · unfold rlD
    rw [h2 2 (by omega), h2 3 (by omega)]
    exact a2
  · unfold rlI
    rw [h2 4 (by omega)]
    exact a3
theorem lbK_cr {sc : Nat → Int} {fn : Nat → Int → Int} {c i : Int} {k : Nat} (h : lbK sc fn c) (hk : sc 0 = (k : Int)) (h0 : 0 ≤ c) (hi : 0 ≤ i ∧ i < 3) : lbK (upS sc 0 (sc 0 + 1)) (crF fn k (i * 50 + c * 7)) (c + 1) := by
  obtain ⟨a1, a2, a3⟩ := h
  refine ⟨by show sc 0 + 1 = c + 1; omega, a2, fun j h1 h2 => ?_⟩
  rw [crF_8]
  by_cases e : j = (k : Int)
  · rw [e, updI_s]
    exact ⟨i, hi.1, hi.2, by omega⟩
  · rw [updI_n _ _ e]
    exact a3 j h1 (by omega)
theorem lbR_cr {sc : Nat → Int} {fn : Nat → Int → Int} {sh st ic nn n2 : Int → Int} {k : Nat} {d : Int} (h : lbR sc fn sh st ic nn) (h3 : n2 1 = nn 1) : lbR (upS sc 0 (sc 0 + 1)) (crF fn k d) sh st ic n2 :=
  lbR_cg h ⟨rfl, rfl, rfl⟩ (fun i hi => crF_low (by omega)) h3
theorem lbK_pt {sc : Nat → Int} {fn : Nat → Int → Int} {c : Int} {k : Nat} {p s q : Int} (h : lbK sc fn c) : lbK sc (ptF fn k p s q) c := by
  obtain ⟨a1, a2, a3⟩ := h
  refine ⟨a1, a2, fun j h1 h2 => ?_⟩
  rw [ptF_low (by omega)]
  exact a3 j h1 h2
theorem lbR_pt {sc : Nat → Int} {fn : Nat → Int → Int} {sh st ic nn : Int → Int} {k : Nat} {p s q : Int} (h : lbR sc fn sh st ic nn) : lbR sc (ptF fn k p s q) sh st ic nn :=
  lbR_cg h ⟨rfl, rfl, rfl⟩ (fun i hi => ptF_low (by omega)) rfl
/-- the points that the law has thought out: at 2 + 2 i the stage, at 3 + 2 i the flow -/
def ptP (g : Int → Int) (p : Int) : Prop := ∀ i : Int, 0 ≤ i → i < p → (-500 ≤ g (2 + 2 * i) ∧ g (2 + 2 * i) ≤ 2000 ∧ 0 ≤ g (3 + 2 * i) ∧ g (3 + 2 * i) ≤ 1000000) ∧ ∀ j : Int, i < j → j < p → g (2 + 2 * i) < g (2 + 2 * j) ∧ g (3 + 2 * i) < g (3 + 2 * j)
def ptQ (g : Int → Int) (k sg q : Int) : Prop := ptP g k ∧ (-200 ≤ sg ∧ sg ≤ 100 + 120 * k) ∧ (0 ≤ q ∧ q ≤ 60 + 4000 * k) ∧ ∀ i : Int, 0 ≤ i → i < k → g (2 + 2 * i) < sg ∧ g (3 + 2 * i) < q
theorem ptQ_0 {g : Int → Int} {sg q : Int} (h1 : -200 ≤ sg ∧ sg ≤ 100) (h2 : 0 ≤ q ∧ q ≤ 60) : ptQ g 0 sg q := ⟨fun i a1 a2 => by omega, by omega, by omega, fun i a1 a2 => by omega⟩
theorem ptQ_s {g : Int → Int} {k sg q a b : Int} (h : ptQ g k sg q) (h0 : 0 ≤ k ∧ k < 6) (ha : 1 ≤ a ∧ a ≤ 120) (hb : 1 ≤ b ∧ b ≤ 4000) : ptQ (updI (updI g (2 + 2 * k) sg) (3 + 2 * k) q) (k + 1) (sg + a) (q + b) := by
  obtain ⟨h1, h2, h3, h4⟩ := h
  have e1 : ∀ i : Int, i < k → updI (updI g (2 + 2 * k) sg) (3 + 2 * k) q (2 + 2 * i) = g (2 + 2 * i) := fun i hi => by rw [updI_n _ _ (by omega), updI_n _ _ (by omega)]
  have e2 : ∀ i : Int, i < k → updI (updI g (2 + 2 * k) sg) (3 + 2 * k) q (3 + 2 * i) = g (3 + 2 * i) := fun i hi => by rw [updI_n _ _ (by omega), updI_n _ _ (by omega)]
  have e3 : updI (updI g (2 + 2 * k) sg) (3 + 2 * k) q (2 + 2 * k) = sg := by rw [updI_n _ _ (by omega), updI_s]
  have e4 : updI (updI g (2 + 2 * k) sg) (3 + 2 * k) q (3 + 2 * k) = q := updI_s _ _ _
  refine ⟨fun i a1 a2 => ?_, by omega, by omega, fun i a1 a2 => ?_⟩
  · by_cases c : i = k
    · rw [c, e3, e4]
      exact ⟨by omega, fun j b1 b2 => by omega⟩
    · rw [e1 i (by omega), e2 i (by omega)]
      refine ⟨(h1 i a1 (by omega)).1, fun j b1 b2 => ?_⟩
      by_cases c2 : j = k
      · rw [c2, e3, e4]
        exact h4 i a1 (by omega)
      · rw [e1 j (by omega), e2 j (by omega)]
        exact (h1 i a1 (by omega)).2 j b1 (by omega)
  · by_cases c : i = k
    · rw [c, e3, e4]
      omega
    · rw [e1 i (by omega), e2 i (by omega)]
      have := h4 i a1 (by omega)
      omega
theorem ptP_u {g : Int → Int} {p x : Int} (h : ptP g p) : ptP (updI g 1 x) p := by
  intro i a1 a2
  rw [updI_n _ _ (by omega), updI_n _ _ (by omega)]
  refine ⟨(h i a1 a2).1, fun j b1 b2 => ?_⟩
  rw [updI_n _ _ (by omega), updI_n _ _ (by omega)]
  exact (h i a1 a2).2 j b1 b2
/-- the class's curve c has t points: those from lo on -/
def cvQ (fn : Nat → Int → Int) (c : Int) (g : Int → Int) (lo t : Int) : Prop := fn 9 c = t ∧ ∀ i : Int, 0 ≤ i → i < t → fn (20 + c.toNat) i = g (2 + 2 * (lo + i)) ∧ fn (30 + c.toNat) i = g (3 + 2 * (lo + i))
theorem cvQ_0 {fn : Nat → Int → Int} {c lo : Int} {g : Int → Int} (h : fn 9 c = 0) : cvQ fn c g lo 0 := ⟨h, fun i a1 a2 => by omega⟩
theorem pt_up {st fl : Int → Int} {t sg q k : Int} (h : ∀ i : Int, 0 ≤ i → i < t → st i < sg ∧ fl i < q) (ht : 0 ≤ t) (hk : clP st t sg k) : k = t := by
  obtain ⟨k1, k2, k3, k4⟩ := hk
  refine Classical.byContradiction fun c => ?_
  have := k4 (by omega)
  have := h k k1 (by omega)
  omega
theorem pt_dn {st fl : Int → Int} {t sg q k : Int} (h : ∀ i : Int, 0 ≤ i → i < t → sg < st i ∧ q < fl i) (hk : clP st t sg k) : k = 0 := by
  obtain ⟨k1, k2, k3, k4⟩ := hk
  refine Classical.byContradiction fun c => ?_
  have := k3 0 (by omega) (by omega)
  have := h 0 (by omega) (by omega)
  omega
/-- the next point upwards -/
theorem cv_up {fn : Nat → Int → Int} {c lo t p pp : Int} {g : Int → Int} {k : Nat} (h : cvQ fn c g lo t) (hg : ptP g p) (h0 : 0 ≤ lo ∧ 0 ≤ t ∧ lo + t < p ∧ p ≤ 5) (hc : c = (k : Int)) (hp : clP (fn (20 + k)) (fn 9 (k : Int)) (g (2 + 2 * (lo + t))) pp) : pp = t ∧ canP (fn (20 + k)) (fn (30 + k)) (fn 9 (k : Int)) (g (2 + 2 * (lo + t))) (g (3 + 2 * (lo + t))) pp := by
  obtain ⟨h1, h2⟩ := h
  rw [hc] at h1
  rw [hc, Int.toNat_natCast] at h2
  have hlt : ∀ i : Int, 0 ≤ i → i < t → fn (20 + k) i < g (2 + 2 * (lo + t)) ∧ fn (30 + k) i < g (3 + 2 * (lo + t)) := fun i a1 a2 => by
    rw [(h2 i a1 a2).1, (h2 i a1 a2).2]
    exact (hg (lo + i) (by omega) (by omega)).2 (lo + t) (by omega) (by omega)
  rw [h1] at hp ⊢
  have e := pt_up hlt h0.2.1 hp
  refine ⟨e, by omega, ?_, Or.inl e⟩
  by_cases c2 : pp = 0
  · exact Or.inl c2
  · exact Or.inr (hlt (pp - 1) (by omega) (by omega)).2
theorem cv_up2 {fn : Nat → Int → Int} {c lo t : Int} {g : Int → Int} {k : Nat} (h : cvQ fn c g lo t) (hk : k < 6) (h0 : 0 ≤ t) (hc : c = (k : Int)) : cvQ (ptF fn k t (g (2 + 2 * (lo + t))) (g (3 + 2 * (lo + t)))) c g lo (t + 1) := by
  obtain ⟨h1, h2⟩ := h
  subst hc
  rw [Int.toNat_natCast] at h2
  refine ⟨by rw [ptF_n, updI_s, h1], fun i a1 a2 => ?_⟩
  rw [Int.toNat_natCast, ptF_st hk, ptF_fl hk hk, if_pos rfl, if_pos rfl, h1]
  unfold insF
  by_cases e : i < t
  · rw [if_pos e, if_pos e]
    exact h2 i a1 e
  · rw [if_neg e, if_neg e, if_pos (by omega), if_pos (by omega), show i = t by omega]
    exact ⟨rfl, rfl⟩
/-- the next point downwards -/
theorem cv_dn {fn : Nat → Int → Int} {c lo t p pp : Int} {g : Int → Int} {k : Nat} (h : cvQ fn c g (lo + 1) t) (hg : ptP g p) (h0 : 0 ≤ lo ∧ 0 ≤ t ∧ lo + 1 + t ≤ p ∧ p ≤ 5) (hc : c = (k : Int)) (hp : clP (fn (20 + k)) (fn 9 (k : Int)) (g (2 + 2 * lo)) pp) : pp = 0 ∧ canP (fn (20 + k)) (fn (30 + k)) (fn 9 (k : Int)) (g (2 + 2 * lo)) (g (3 + 2 * lo)) pp := by
  obtain ⟨h1, h2⟩ := h
  rw [hc] at h1
  rw [hc, Int.toNat_natCast] at h2
  have hlt : ∀ i : Int, 0 ≤ i → i < t → g (2 + 2 * lo) < fn (20 + k) i ∧ g (3 + 2 * lo) < fn (30 + k) i := fun i a1 a2 => by
    rw [(h2 i a1 a2).1, (h2 i a1 a2).2]
    exact (hg lo (by omega) (by omega)).2 (lo + 1 + i) (by omega) (by omega)
  rw [h1] at hp ⊢
  have e := pt_dn hlt hp
  refine ⟨e, by omega, Or.inl e, ?_⟩
  by_cases c2 : pp = t
  · exact Or.inl c2
  · rw [e]
    exact Or.inr (hlt 0 (by omega) (by omega))
theorem cv_dn2 {fn : Nat → Int → Int} {c lo t : Int} {g : Int → Int} {k : Nat} (h : cvQ fn c g (lo + 1) t) (hk : k < 6) (h0 : 0 ≤ t) (hc : c = (k : Int)) : cvQ (ptF fn k 0 (g (2 + 2 * lo)) (g (3 + 2 * lo))) c g lo (t + 1) := by
  obtain ⟨h1, h2⟩ := h
  subst hc
  rw [Int.toNat_natCast] at h2
  refine ⟨by rw [ptF_n, updI_s, h1], fun i a1 a2 => ?_⟩
  rw [Int.toNat_natCast, ptF_st hk, ptF_fl hk hk, if_pos rfl, if_pos rfl, h1]
  unfold insF
  rw [if_neg (show ¬ i < 0 by omega), if_neg (show ¬ i < 0 by omega)]
  by_cases e : i = 0
  · rw [if_pos e, if_pos e, e, Int.add_zero]
    exact ⟨rfl, rfl⟩
  · rw [if_neg e, if_neg e, if_pos (by omega), if_pos (by omega)]
    have := h2 (i - 1) (by omega) (by omega)
    rw [show lo + 1 + (i - 1) = lo + i by omega] at this
    exact this
/-! shifts, days -/
theorem lbR_sh {sc sc2 : Nat → Int} {fn fn2 : Nat → Int → Int} {sh sh2 st ic nn n2 : Int → Int} {x : Int} (h : lbR sc fn sh st ic nn) (h2 : rlU sc2 fn2 sh2 ∧ sc2 1 ≤ x ∧ sc2 2 = sc 2 ∧ sc2 3 = sc 3 ∧ fn2 2 = fn 2 ∧ fn2 3 = fn 3 ∧ fn2 4 = fn 4) (h3 : n2 1 = nn 1) : lbR sc2 fn2 sh2 st ic n2 := by
  obtain ⟨a1, a2, a3, a4, a5, a6⟩ := h
  obtain ⟨b1, -, b2, b3, b4, b5, b6⟩ := h2
  refine ⟨b1, ?_, ?_, h3.trans a4, b2.trans a5, b3.trans a6⟩
  · unfold rlD
    rw [b4, b5]
    exact a2
  · unfold rlI
    rw [b6]
    exact a3
theorem spanF_o {f v : Int → Int} {d m j : Int} (h : ¬ (d ≤ j ∧ j < d + m)) : spanF f d m v j = f j := if_neg h
theorem lbR_rd {sc : Nat → Int} {fn : Nat → Int → Int} {sh st ic nn : Int → Int} {d n : Int} (v : Int → Int) (h : lbR sc fn sh st ic nn) : lbR sc (upF (upF fn 2 (spanF (fn 2) d n v)) 3 (spanF (fn 3) d n (fun _ => 1))) sh (spanF st d n v) ic nn := by
  obtain ⟨a1, a2, a3, a4, a5, a6⟩ := h
  refine ⟨rlU_cg a1 rfl rfl rfl, fun j h1 h2 => ?_, a3, a4, a5, a6⟩
  show (spanF (fn 3) d n (fun _ => 1) j = 0 → spanF st d n v j = 9999) ∧ (spanF (fn 3) d n (fun _ => 1) j ≠ 0 → spanF st d n v j = spanF (fn 2) d n v j)
  unfold spanF
  by_cases c : d ≤ j ∧ j < d + n
  · rw [if_pos c, if_pos c, if_pos c]
    exact ⟨fun z => absurd (show (1 : Int) = 0 from z) (by decide), fun _ => rfl⟩
  · rw [if_neg c, if_neg c, if_neg c]
    exact a2 j h1 h2
theorem lbR_er {sc : Nat → Int} {fn : Nat → Int → Int} {sh st ic nn : Int → Int} {d n : Int} (h : lbR sc fn sh st ic nn) : lbR sc (upF fn 3 (spanF (fn 3) d n (fun _ => 0))) sh (spanF st d n (fun _ => 9999)) ic nn := by
  obtain ⟨a1, a2, a3, a4, a5, a6⟩ := h
  refine ⟨rlU_cg a1 rfl rfl rfl, fun j h1 h2 => ?_, a3, a4, a5, a6⟩
  show (spanF (fn 3) d n (fun _ => 0) j = 0 → spanF st d n (fun _ => 9999) j = 9999) ∧ (spanF (fn 3) d n (fun _ => 0) j ≠ 0 → spanF st d n (fun _ => 9999) j = fn 2 j)
  unfold spanF
  by_cases c : d ≤ j ∧ j < d + n
  · rw [if_pos c, if_pos c]
    exact ⟨fun _ => rfl, fun z => absurd rfl z⟩
  · rw [if_neg c, if_neg c]
    exact a2 j h1 h2
theorem lbR_fr {sc : Nat → Int} {fn : Nat → Int → Int} {sh st ic nn : Int → Int} {d n : Int} {v u : Int → Int} (h : lbR sc fn sh st ic nn) (hv : ∀ j : Int, u j = v j) : lbR sc (upF fn 4 (spanF (fn 4) d n v)) sh st (spanF ic d n u) nn := by
  obtain ⟨a1, a2, a3, a4, a5, a6⟩ := h
  refine ⟨rlU_cg a1 rfl rfl rfl, a2, fun j h1 h2 => ?_, a4, a5, a6⟩
  show spanF ic d n u j = spanF (fn 4) d n v j
  unfold spanF
  by_cases c : d ≤ j ∧ j < d + n
  · rw [if_pos c, if_pos c]
    exact hv j
  · rw [if_neg c, if_neg c]
    exact a3 j h1 h2
/-- what stays all through build -/
def lbC (p : Program) (l : Launch) (s : State) (m : MethodId) (args : Array Value) (c : Code) (D : va_G) (cA : Nat → ClassId) (A : Nat → Prop) (b L : Nat) (xs : Nat → Int32) : Prop := p.tables.exec = Jvm.exec ∧ c.code = cL_build ∧ c.maxLocals = 18 ∧ s.vm.findClass RL = some m.cls ∧ (∀ w ∈ wsL_build, w.before args s = true) ∧ va_K D vwCl (gT cA) s ∧ gB s ∧ gZ A s s.heap ∧ (∀ q, s.heap.size ≤ q → A q) ∧ va_X b L xs s s.heap ∧ b < s.heap.size ∧ ¬ A b ∧ L ≤ 260
abbrev rmL_build : Room := { frames := 8, cells := 30, slots := 2000, locals := 400 }
