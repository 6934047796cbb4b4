/-- the order of the ranking: the greater flow first, of equal flows the earlier day -/
def rkR (F : Int → Int) (a b : Int) : Prop := F b < F a ∨ (F a = F b ∧ a < b)
theorem rkR_t {F : Int → Int} {a b c : Int} (h : rkR F a b) (k : rkR F b c) : rkR F a c := by unfold rkR at *; omega
theorem rkR_i {F : Int → Int} {a : Int} (h : rkR F a a) : False := by unfold rkR at *; omega
def srtP (F f : Int → Int) (a b : Int) : Prop := ∀ i j : Int, a ≤ i → i < j → j < b → rkR F (f i) (f j)
def blkP (F f g : Int → Int) (a b : Int) : Prop := srtP F g a b ∧ (∀ i : Int, a ≤ i → i < b → ∃ j : Int, a ≤ j ∧ j < b ∧ g i = f j) ∧ ∀ j : Int, a ≤ j → j < b → ∃ i : Int, a ≤ i ∧ i < b ∧ g i = f j
def mgP (F f g : Int → Int) (s mi en lf rt pl : Int) : Prop := srtP F g s pl ∧ (∀ k : Int, s ≤ k → k < pl → ∃ j : Int, ((s ≤ j ∧ j < lf) ∨ (mi ≤ j ∧ j < rt)) ∧ g k = f j) ∧ (∀ j : Int, ((s ≤ j ∧ j < lf) ∨ (mi ≤ j ∧ j < rt)) → ∃ k : Int, s ≤ k ∧ k < pl ∧ g k = f j) ∧ ∀ k j : Int, s ≤ k → k < pl → ((lf ≤ j ∧ j < mi) ∨ (rt ≤ j ∧ j < en)) → rkR F (g k) (f j)
theorem mg_0 {F f g : Int → Int} {s mi en : Int} : mgP F f g s mi en s mi s :=
  ⟨fun i j h1 h2 h3 => by omega, fun k h1 h2 => by omega, fun j h => by omega, fun k j h1 h2 h3 => by omega⟩
theorem mg_x {F f g : Int → Int} {s mi en lf rt pl x : Int} (hi : s ≤ pl) (h : mgP F f g s mi en lf rt pl) {lf1 rt1 : Int} (hx : (s ≤ x ∧ x < lf1) ∨ (mi ≤ x ∧ x < rt1)) (ho : ∀ j : Int, ((s ≤ j ∧ j < lf1) ∨ (mi ≤ j ∧ j < rt1)) ↔ (((s ≤ j ∧ j < lf) ∨ (mi ≤ j ∧ j < rt)) ∨ j = x)) (hr : (lf ≤ x ∧ x < mi) ∨ (rt ≤ x ∧ x < en)) (hl : lf ≤ lf1 ∧ rt ≤ rt1) (hn : ∀ j : Int, ((lf1 ≤ j ∧ j < mi) ∨ (rt1 ≤ j ∧ j < en)) → rkR F (f x) (f j)) : mgP F f (updI g pl (f x)) s mi en lf1 rt1 (pl + 1) := by
  obtain ⟨h1, h2, h3, h4⟩ := h
  refine ⟨fun i j a1 a2 a3 => ?_, fun k a1 a2 => ?_, fun j a1 => ?_, fun k j a1 a2 a3 => ?_⟩
  · rw [updI_n _ _ (show i ≠ pl by omega)]
    by_cases e : j = pl
    · rw [e, updI_s]
      exact h4 i x a1 (by omega) hr
    · rw [updI_n _ _ e]
      exact h1 i j a1 a2 (by omega)
  · by_cases e : k = pl
    · rw [e, updI_s]
      exact ⟨x, hx, rfl⟩
    · rw [updI_n _ _ e]
      obtain ⟨j, b1, b2⟩ := h2 k a1 (by omega)
      exact ⟨j, (ho j).mpr (Or.inl b1), b2⟩
  · rcases (ho j).mp a1 with b1 | b1
    · obtain ⟨k, c1, c2, c3⟩ := h3 j b1
      exact ⟨k, c1, by omega, by rw [updI_n _ _ (by omega)]; exact c3⟩
    · exact ⟨pl, hi, by omega, by rw [updI_s, b1]⟩
  · by_cases e : k = pl
    · rw [e, updI_s]
      exact hn j a3
    · rw [updI_n _ _ e]
      exact h4 k j a1 (by omega) (by omega)
theorem mg_l {F f g : Int → Int} {s mi en lf rt pl : Int} (hi : s ≤ lf ∧ lf < mi ∧ mi ≤ rt ∧ rt ≤ en ∧ s ≤ pl) (h : mgP F f g s mi en lf rt pl) (h1 : srtP F f s mi) (h2 : srtP F f mi en) (hx : ∀ i j : Int, s ≤ i → i < mi → mi ≤ j → j < en → f i < f j) (hc : en ≤ rt ∨ F (f rt) ≤ F (f lf)) : mgP F f (updI g pl (f lf)) s mi en (lf + 1) rt (pl + 1) := by
  refine mg_x hi.2.2.2.2 h (by omega) (fun j => by omega) (by omega) (by omega) (fun j hj => ?_)
  rcases hj with hj | hj
  · exact h1 lf j (by omega) (by omega) (by omega)
  · have c1 : rkR F (f lf) (f rt) := by
      have := hx lf rt (by omega) (by omega) (by omega) (by omega)
      unfold rkR
      omega
    by_cases e : j = rt
    · rw [e]; exact c1
    · exact rkR_t c1 (h2 rt j (by omega) (by omega) (by omega))
theorem mg_r {F f g : Int → Int} {s mi en lf rt pl : Int} (hi : s ≤ lf ∧ lf ≤ mi ∧ mi ≤ rt ∧ rt < en ∧ s ≤ pl) (h : mgP F f g s mi en lf rt pl) (h1 : srtP F f s mi) (h2 : srtP F f mi en) (hc : mi ≤ lf ∨ F (f lf) < F (f rt)) : mgP F f (updI g pl (f rt)) s mi en lf (rt + 1) (pl + 1) := by
  refine mg_x hi.2.2.2.2 h (by omega) (fun j => by omega) (by omega) (by omega) (fun j hj => ?_)
  rcases hj with hj | hj
  · have c1 : rkR F (f rt) (f lf) := by unfold rkR; omega
    by_cases e : j = lf
    · rw [e]; exact c1
    · exact rkR_t c1 (h1 lf j (by omega) (by omega) (by omega))
  · exact h2 rt j (by omega) (by omega) (by omega)
theorem mg_e {F f g : Int → Int} {s mi en : Int} (hi : s ≤ mi ∧ mi ≤ en) (h : mgP F f g s mi en mi en en) : blkP F f g s en := by
  obtain ⟨h1, h2, h3, h4⟩ := h
  refine ⟨h1, fun i a1 a2 => ?_, fun j a1 a2 => ?_⟩
  · obtain ⟨j, b1, b2⟩ := h2 i a1 a2
    exact ⟨j, by omega, by omega, b2⟩
  · obtain ⟨k, b1, b2, b3⟩ := h3 j (by omega)
    exact ⟨k, b1, b2, b3⟩
/-- runs of the width wd, each in order -/
def blkS (F f : Int → Int) (n wd : Int) : Prop := ∀ q : Int, 0 ≤ q → srtP F f (wd * q) (min (wd * q + wd) n)
/-- the days of a run come before the days of the later runs -/
def crsP (f : Int → Int) (n wd : Int) : Prop := ∀ q i j : Int, 0 ≤ q → 0 ≤ i → i < wd * q → wd * q ≤ j → j < n → f i < f j
theorem mul2 (wd q : Int) : wd * (2 * q) = 2 * wd * q := by rw [← Int.mul_assoc, Int.mul_comm wd 2]
theorem mul2s (wd q : Int) : wd * (2 * q + 1) = 2 * wd * q + wd := by rw [Int.mul_add, mul2, Int.mul_one]
theorem mr_pre {F f : Int → Int} {n wd s q : Int} (hw : 1 ≤ wd) (hs : blkS F f n wd) (hx : crsP f n wd) (hq : 0 ≤ q) (e : s = 2 * wd * q) (h0 : 0 ≤ s) (hn : s < n) : srtP F f s (min (s + wd) n) ∧ srtP F f (min (s + wd) n) (min (s + 2 * wd) n) ∧ ∀ i j : Int, s ≤ i → i < min (s + wd) n → min (s + wd) n ≤ j → j < min (s + 2 * wd) n → f i < f j := by
  have a1 := hs (2 * q) (by omega)
  have a2 := hs (2 * q + 1) (by omega)
  have a3 := hx (2 * q + 1)
  rw [mul2, ← e] at a1
  rw [mul2s, ← e] at a2 a3
  refine ⟨a1, fun i j b1 b2 b3 => ?_, fun i j b1 b2 b3 b4 => a3 i j (by omega) (by omega) (by omega) (by omega) (by omega)⟩
  exact a2 i j (by omega) b2 (by omega)
def invB (F f g : Int → Int) (n wd q : Int) : Prop := ∀ k : Int, 0 ≤ k → k < q → blkP F f g (2 * wd * k) (min (2 * wd * k + 2 * wd) n)
theorem invB_s {F f g g2 : Int → Int} {n wd s q : Int} (hw : 1 ≤ wd) (hq : 0 ≤ q) (e : s = 2 * wd * q) (h : invB F f g n wd q) (hb : blkP F f g2 s (min (s + 2 * wd) n)) (hk : ∀ j : Int, j < s ∨ min (s + 2 * wd) n ≤ j → g2 j = g j) : invB F f g2 n wd (q + 1) := by
  intro k h1 h2
  by_cases e2 : k = q
  · rw [e2, ← e]
    exact hb
  · obtain ⟨b1, b2, b3⟩ := h k h1 (by omega)
    have c1 : 2 * wd * (k + 1) ≤ 2 * wd * q := Int.mul_le_mul_of_nonneg_left (by omega) (by omega)
    rw [Int.mul_add, Int.mul_one] at c1
    have c2 : ∀ j : Int, j < min (2 * wd * k + 2 * wd) n → g2 j = g j := fun j hj => hk j (by omega)
    refine ⟨fun i j d1 d2 d3 => ?_, fun i d1 d2 => ?_, fun j d1 d2 => ?_⟩
    · rw [c2 i (by omega), c2 j d3]
      exact b1 i j d1 d2 d3
    · rw [c2 i d2]
      exact b2 i d1 d2
    · obtain ⟨i, f1, f2, f3⟩ := b3 j d1 d2
      exact ⟨i, f1, f2, by rw [c2 i f2]; exact f3⟩
theorem run_of {W i : Int} (hW : 0 < W) (hi : 0 ≤ i) : ∃ q : Int, 0 ≤ q ∧ W * q ≤ i ∧ i < W * q + W := by
  refine ⟨i / W, Int.ediv_nonneg hi (by omega), ?_, ?_⟩
  · have h1 := Int.mul_ediv_add_emod i W
    have h2 := Int.emod_nonneg i (show W ≠ 0 by omega)
    omega
  · have h1 := Int.mul_ediv_add_emod i W
    have h2 := Int.emod_lt_of_pos i hW
    omega
theorem mr_end {F f g f2 : Int → Int} {n wd s q : Int} (hw : 1 ≤ wd) (hx : crsP f n wd) (hq : 0 ≤ q) (e : s = 2 * wd * q) (hn : n ≤ s) (h : invB F f g n wd q) (h2 : ∀ j : Int, 0 ≤ j → j < n → f2 j = g j) : blkS F f2 n (2 * wd) ∧ crsP f2 n (2 * wd) ∧ (∀ i : Int, 0 ≤ i → i < n → ∃ j : Int, 0 ≤ j ∧ j < n ∧ f2 i = f j) ∧ ∀ j : Int, 0 ≤ j → j < n → ∃ i : Int, 0 ≤ i ∧ i < n ∧ f2 i = f j := by
  have hlt : ∀ k : Int, 2 * wd * k < n → k < q := fun k hk => Classical.byContradiction fun c => by
    have c1 : 2 * wd * q ≤ 2 * wd * k := Int.mul_le_mul_of_nonneg_left (by omega) (by omega)
    omega
  have hk0 : ∀ k : Int, 0 ≤ k → 0 ≤ 2 * wd * k := fun k hk => Int.mul_nonneg (by omega) hk
  refine ⟨fun k k0 i j a1 a2 a3 => ?_, fun k i j k0 a1 a2 a3 a4 => ?_, fun i a1 a2 => ?_, fun j a1 a2 => ?_⟩
  · have := hk0 k k0
    rw [h2 i (by omega) (by omega), h2 j (by omega) (by omega)]
    exact (h k k0 (hlt k (by omega))).1 i j a1 a2 a3
  · obtain ⟨k1, b1, b2, b3⟩ := run_of (W := 2 * wd) (by omega) a1
    obtain ⟨k2, d1, d2, d3⟩ := run_of (W := 2 * wd) (i := j) (by omega) (by have := hk0 k k0; omega)
    have e1 : k1 < k := Classical.byContradiction fun c => by
      have c1 : 2 * wd * k ≤ 2 * wd * k1 := Int.mul_le_mul_of_nonneg_left (by omega) (by omega)
      omega
    have e2 : k ≤ k2 := Classical.byContradiction fun c => by
      have c1 : 2 * wd * (k2 + 1) ≤ 2 * wd * k := Int.mul_le_mul_of_nonneg_left (by omega) (by omega)
      rw [Int.mul_add, Int.mul_one] at c1
      omega
    have e3 : 2 * wd * (k1 + 1) ≤ 2 * wd * k := Int.mul_le_mul_of_nonneg_left (by omega) (by omega)
    have e4 : 2 * wd * k ≤ 2 * wd * k2 := Int.mul_le_mul_of_nonneg_left (by omega) (by omega)
    rw [Int.mul_add, Int.mul_one] at e3
    obtain ⟨i1, f1, f2_, f3⟩ := (h k1 b1 (hlt k1 (by omega))).2.1 i b2 (by omega)
    obtain ⟨j1, g1, g2_, g3⟩ := (h k2 d1 (hlt k2 (by omega))).2.1 j d2 (by omega)
    rw [h2 i (by omega) (by omega), h2 j (by omega) a4, f3, g3]
    have hk1 := hk0 k1 b1
    exact hx (2 * k) i1 j1 (by omega) (by omega) (by rw [mul2]; omega) (by rw [mul2]; omega) (by omega)
  · obtain ⟨k1, b1, b2, b3⟩ := run_of (W := 2 * wd) (by omega) a1
    obtain ⟨i1, f1, f2_, f3⟩ := (h k1 b1 (hlt k1 (by omega))).2.1 i b2 (by omega)
    have := hk0 k1 b1
    exact ⟨i1, by omega, by omega, by rw [h2 i a1 a2]; exact f3⟩
  · obtain ⟨k1, b1, b2, b3⟩ := run_of (W := 2 * wd) (by omega) a1
    obtain ⟨i1, f1, f2_, f3⟩ := (h k1 b1 (hlt k1 (by omega))).2.2 j b2 (by omega)
    have := hk0 k1 b1
    exact ⟨i1, by omega, by omega, by rw [h2 i1 (by omega) (by omega)]; exact f3⟩
/-- the told days before d, in their order -/
def stP9 (S f : Int → Int) (d k : Int) : Prop := (∀ i j : Int, 0 ≤ i → i < j → j < k → f i < f j) ∧ (∀ i : Int, 0 ≤ i → i < k → 0 ≤ f i ∧ f i < d ∧ S (f i) ≠ 0) ∧ ∀ e : Int, 0 ≤ e → e < d → S e ≠ 0 → ∃ i : Int, 0 ≤ i ∧ i < k ∧ f i = e
theorem st9_0 {S f : Int → Int} : stP9 S f 0 0 := ⟨fun i j h1 h2 h3 => by omega, fun i h1 h2 => by omega, fun e h1 h2 => by omega⟩
theorem st9_n {S f : Int → Int} {d k : Int} (h : stP9 S f d k) (hd : ¬ S d ≠ 0) : stP9 S f (d + 1) k := by
  obtain ⟨h1, h2, h3⟩ := h
  refine ⟨h1, fun i a1 a2 => ?_, fun e a1 a2 a3 => ?_⟩
  · have := h2 i a1 a2
    exact ⟨this.1, by omega, this.2.2⟩
  · by_cases c : e = d
    · rw [c] at a3; exact absurd a3 hd
    · exact h3 e a1 (by omega) a3
theorem st9_s {S f : Int → Int} {d k : Int} (h : stP9 S f d k) (hd : S d ≠ 0) (h0 : 0 ≤ d ∧ 0 ≤ k) : stP9 S (updI f k d) (d + 1) (k + 1) := by
  obtain ⟨h1, h2, h3⟩ := h
  refine ⟨fun i j a1 a2 a3 => ?_, fun i a1 a2 => ?_, fun e a1 a2 a3 => ?_⟩
  · rw [updI_n _ _ (show i ≠ k by omega)]
    by_cases c : j = k
    · rw [c, updI_s]
      exact (h2 i a1 (by omega)).2.1
    · rw [updI_n _ _ c]
      exact h1 i j a1 a2 (by omega)
  · by_cases c : i = k
    · rw [c, updI_s]
      exact ⟨h0.1, by omega, hd⟩
    · rw [updI_n _ _ c]
      have := h2 i a1 (by omega)
      exact ⟨this.1, by omega, this.2.2⟩
  · by_cases c : e = d
    · exact ⟨k, h0.2, by omega, by rw [updI_s, c]⟩
    · obtain ⟨i, b1, b2, b3⟩ := h3 e a1 (by omega) a3
      exact ⟨i, b1, by omega, by rw [updI_n _ _ (by omega)]; exact b3⟩
/-- what f tells: all told days, and no others -/
def tldP (S f : Int → Int) (n : Int) : Prop := (∀ i : Int, 0 ≤ i → i < n → 0 ≤ f i ∧ f i < 400 ∧ S (f i) ≠ 0) ∧ ∀ e : Int, 0 ≤ e → e < 400 → S e ≠ 0 → ∃ i : Int, 0 ≤ i ∧ i < n ∧ f i = e
theorem tld_mr {S f f2 : Int → Int} {n : Int} (h : tldP S f n) (h1 : ∀ i : Int, 0 ≤ i → i < n → ∃ j : Int, 0 ≤ j ∧ j < n ∧ f2 i = f j) (h2 : ∀ j : Int, 0 ≤ j → j < n → ∃ i : Int, 0 ≤ i ∧ i < n ∧ f2 i = f j) : tldP S f2 n := by
  refine ⟨fun i a1 a2 => ?_, fun e a1 a2 a3 => ?_⟩
  · obtain ⟨j, b1, b2, b3⟩ := h1 i a1 a2
    rw [b3]
    exact h.1 j b1 b2
  · obtain ⟨j, b1, b2, b3⟩ := h.2 e a1 a2 a3
    obtain ⟨i, c1, c2, c3⟩ := h2 j b1 b2
    exact ⟨i, c1, c2, c3.trans b3⟩
/-- the ranking: all told days, in the order of rkR -/
def rkP (F S f : Int → Int) (n : Int) : Prop := srtP F f 0 n ∧ tldP S f n
theorem blkS_1 {F f : Int → Int} {n : Int} : blkS F f n 1 := fun q h i j a1 a2 a3 => by omega
theorem crsP_1 {f : Int → Int} {n : Int} (h : ∀ i j : Int, 0 ≤ i → i < j → j < n → f i < f j) : crsP f n 1 := fun q i j h1 h2 h3 h4 h5 => h i j h2 (by omega) h5
theorem rk_end {F S f : Int → Int} {n wd : Int} (hw : n ≤ wd) (h : blkS F f n wd) (ht : tldP S f n) : rkP F S f n := by
  refine ⟨fun i j a1 a2 a3 => ?_, ht⟩
  have := h 0 (by omega)
  rw [Int.mul_zero] at this
  exact this i j a1 a2 (by omega)
def nrF (z : Int → Int) (p a : Int) : Int → Int := fun j => if 0 ≤ j ∧ j < 400 ∧ p - a < j ∧ j < p + a then 1 else z j
theorem nr_e {z : Int → Int} {p a x k : Int} (hp : 0 ≤ p ∧ p < 400) (ha : 1 ≤ a) (hx : x = max 0 (p - a + 1)) (hk : x + k = min 399 (p + a - 1) + 1) : spanF z x k (fun _ => 1) = nrF z p a := by
  funext j
  unfold spanF nrF
  by_cases h : x ≤ j ∧ j < x + k
  · rw [if_pos h, if_pos (by omega)]
  · rw [if_neg h, if_neg (by omega)]
/-- the peaks: take the best day that isn't out, and put out what is near -/
def pkB (F S : Int → Int) (lm : Int) (Z : Int → Prop) (b : Int) : Prop := 0 ≤ b ∧ b < 400 ∧ S b ≠ 0 ∧ ¬ Z b ∧ lm ≤ F b ∧ ∀ d : Int, 0 ≤ d → d < 400 → S d ≠ 0 → ¬ Z d → lm ≤ F d → d ≠ b → rkR F b d
def pkR (F S : Int → Int) (lm ap : Int) : Nat → (Int → Prop) → Int → Int → Prop
  | 0, Z, c, v => (∀ d : Int, 0 ≤ d → d < 400 → S d ≠ 0 → ¬ Z d → F d < lm) ∧ v = c
  | k + 1, Z, c, v => ∃ b : Int, pkB F S lm Z b ∧ pkR F S lm ap k (fun d => Z d ∨ (b - ap < d ∧ d < b + ap)) (c + 1) v
theorem pkR_cg {F S : Int → Int} {lm ap : Int} : ∀ (k : Nat) {Z Z2 : Int → Prop} {c v : Int}, (∀ d : Int, 0 ≤ d → d < 400 → (Z d ↔ Z2 d)) → pkR F S lm ap k Z c v → pkR F S lm ap k Z2 c v := by
  intro k
  induction k with
  | zero => exact fun h g => ⟨fun d h1 h2 h3 h4 => g.1 d h1 h2 h3 (fun x => h4 ((h d h1 h2).mp x)), g.2⟩
  | succ k ih =>
    intro Z Z2 c v h g
    obtain ⟨b, ⟨b1, b2, b3, b4, b5, b6⟩, g2⟩ := g
    refine ⟨b, ⟨b1, b2, b3, fun x => b4 ((h b b1 b2).mpr x), b5, fun d h1 h2 h3 h4 => b6 d h1 h2 h3 (fun x => h4 ((h d h1 h2).mp x))⟩, ih (fun d h1 h2 => ?_) g2⟩
    rw [h d h1 h2]
theorem pkR_det {F S : Int → Int} {lm ap : Int} : ∀ (k k2 : Nat) {Z : Int → Prop} {c v v2 : Int}, pkR F S lm ap k Z c v → pkR F S lm ap k2 Z c v2 → v = v2 := by
  intro k
  induction k with
  | zero =>
    intro k2 Z c v v2 g g2
    cases k2 with
    | zero => rw [g.2, g2.2]
    | succ k2 =>
      obtain ⟨b, ⟨b1, b2, b3, b4, b5, b6⟩, -⟩ := g2
      exact absurd (g.1 b b1 b2 b3 b4) (by omega)
  | succ k ih =>
    intro k2 Z c v v2 g g2
    obtain ⟨b, ⟨b1, b2, b3, b4, b5, b6⟩, g3⟩ := g
    cases k2 with
    | zero => exact absurd (g2.1 b b1 b2 b3 b4) (by omega)
    | succ k2 =>
      obtain ⟨e, ⟨e1, e2, e3, e4, e5, e6⟩, g4⟩ := g2
      by_cases c1 : b = e
      · subst c1
        exact ih k2 g3 g4
      · exact (rkR_i (rkR_t (b6 e e1 e2 e3 e4 e5 (Ne.symm c1)) (e6 b b1 b2 b3 b4 b5 c1))).elim
def pkE (F S : Int → Int) (lm ap : Int) (Z : Int → Prop) (c v : Int) : Prop := ∃ k : Nat, pkR F S lm ap k Z c v
theorem pkE_det {F S : Int → Int} {lm ap : Int} {Z : Int → Prop} {c v v2 : Int} (h : pkE F S lm ap Z c v) (h2 : pkE F S lm ap Z c v2) : v = v2 := pkR_det _ _ h.choose_spec h2.choose_spec
theorem pkE_s {F S : Int → Int} {lm ap : Int} {Z Z2 : Int → Prop} {c v b : Int} (hb : pkB F S lm Z b) (hz : ∀ d : Int, 0 ≤ d → d < 400 → (Z2 d ↔ (Z d ∨ (b - ap < d ∧ d < b + ap)))) (h : pkE F S lm ap Z2 (c + 1) v) : pkE F S lm ap Z c v := by
  obtain ⟨k, hk⟩ := h
  exact ⟨k + 1, b, hb, pkR_cg k hz hk⟩
theorem pkE_cg {F S : Int → Int} {lm ap : Int} {Z Z2 : Int → Prop} {c v : Int} (hz : ∀ d : Int, 0 ≤ d → d < 400 → (Z d ↔ Z2 d)) (h : pkE F S lm ap Z c v) : pkE F S lm ap Z2 c v := by
  obtain ⟨k, hk⟩ := h
  exact ⟨k, pkR_cg k hz hk⟩
theorem pkE_0 {F S : Int → Int} {lm ap : Int} {Z : Int → Prop} {c : Int} (h : ∀ d : Int, 0 ≤ d → d < 400 → S d ≠ 0 → ¬ Z d → F d < lm) : pkE F S lm ap Z c c := ⟨0, h, rfl⟩
theorem nrF_or {z : Int → Int} {p a d : Int} (h0 : 0 ≤ d) (h1 : d < 400) : (nrF z p a d ≠ 0) ↔ (z d ≠ 0 ∨ (p - a < d ∧ d < p + a)) := by
  unfold nrF
  by_cases h : p - a < d ∧ d < p + a
  · rw [if_pos ⟨h0, h1, h⟩]
    exact ⟨fun _ => Or.inr h, fun _ => by omega⟩
  · rw [if_neg (by omega)]
    exact ⟨fun x => Or.inl x, fun x => x.elim id (fun y => absurd y h)⟩
theorem pk_stop {F S f z : Int → Int} {n lm k : Int} (h : rkP F S f n) (hk : 1 ≤ k) (hz : ∀ i : Int, 0 ≤ i → i < k - 1 → z (f i) ≠ 0) (hl : n ≤ k - 1 ∨ F (f (k - 1)) < lm) : ∀ d : Int, 0 ≤ d → d < 400 → S d ≠ 0 → ¬ z d ≠ 0 → F d < lm := by
  intro d h1 h2 h3 h4
  obtain ⟨i, a1, a2, a3⟩ := h.2.2 d h1 h2 h3
  by_cases c : i < k - 1
  · exact absurd (a3 ▸ hz i a1 c) h4
  · rcases hl with hl | hl
    · omega
    · by_cases c2 : i = k - 1
      · rw [← a3, c2]; exact hl
      · have := h.1 (k - 1) i (by omega) (by omega) a2
        rw [← a3]
        unfold rkR at this
        omega
theorem pk_best {F S f z : Int → Int} {n lm k : Int} (h : rkP F S f n) (hk : 1 ≤ k ∧ k ≤ n) (hz : ∀ i : Int, 0 ≤ i → i < k - 1 → z (f i) ≠ 0) (h0 : ¬ z (f (k - 1)) ≠ 0) (hl : lm ≤ F (f (k - 1))) : pkB F S lm (fun d => z d ≠ 0) (f (k - 1)) := by
  have h7 := h.2.1 (k - 1) (by omega) (by omega)
  refine ⟨h7.1, h7.2.1, h7.2.2, h0, hl, fun d h1 h2 h3 h4 h5 h6 => ?_⟩
  obtain ⟨i, a1, a2, a3⟩ := h.2.2 d h1 h2 h3
  by_cases c : i < k - 1
  · exact absurd (a3 ▸ hz i a1 c) h4
  · by_cases c2 : i = k - 1
    · exact absurd (by rw [← a3, c2]) h6
    · rw [← a3]
      exact h.1 (k - 1) i (by omega) (by omega) a2
/-- how many told days have at least the flow x -/
def cgT (F S : Int → Int) (x : Int) : Nat → Int
  | 0 => 0
  | n + 1 => cgT F S x n + (if S (n : Int) ≠ 0 ∧ x ≤ F (n : Int) then 1 else 0)
noncomputable def clC (P : Int → Prop) : Nat → Int
  | 0 => 0
  | n + 1 => clC P n + @ite Int (P (n : Int)) (Classical.propDecidable _) 1 0
theorem clC_m {P Q : Int → Prop} : ∀ n : Nat, (∀ d : Int, 0 ≤ d → d < n → P d → Q d) → clC P n ≤ clC Q n := by
  intro n
  induction n with
  | zero => exact fun _ => Int.le_refl _
  | succ n ih =>
    intro h
    have a := ih (fun d h1 h2 => h d h1 (by omega))
    have b := h (n : Int) (by omega) (by omega)
    unfold clC
    by_cases c : P (n : Int)
    · rw [if_pos c, if_pos (b c)]; omega
    · rw [if_neg c]
      split <;> omega
theorem clC_a {P : Int → Prop} {a : Int} (ha : 0 ≤ a) (hp : ¬ P a) : ∀ n : Nat, clC (fun d => P d ∨ d = a) n = clC P n + (if a < n then 1 else 0) := by
  intro n
  induction n with
  | zero => rw [if_neg (by omega)]; rfl
  | succ n ih =>
    have s1 : clC (fun d => P d ∨ d = a) (n + 1) = clC (fun d => P d ∨ d = a) n + @ite Int (P (n : Int) ∨ (n : Int) = a) (Classical.propDecidable _) 1 0 := rfl
    have s2 : clC P (n + 1) = clC P n + @ite Int (P (n : Int)) (Classical.propDecidable _) 1 0 := rfl
    rw [s1, s2, ih]
    by_cases e : (n : Int) = a
    · have x1 : @ite Int (P (n : Int) ∨ (n : Int) = a) (Classical.propDecidable _) 1 0 = 1 := if_pos (Or.inr e)
      have x2 : @ite Int (P (n : Int)) (Classical.propDecidable _) 1 0 = 0 := if_neg (by rw [e]; exact hp)
      rw [x1, x2, if_neg (show ¬ a < (n : Int) by omega), if_pos (show a < ((n + 1 : Nat) : Int) by omega)]
      try omega
    · have x3 : (if a < ((n + 1 : Nat) : Int) then (1 : Int) else 0) = if a < (n : Int) then 1 else 0 := by
        by_cases g : a < (n : Int)
        · rw [if_pos g, if_pos (by omega)]
        · rw [if_neg g, if_neg (by omega)]
      rw [x3]
      by_cases c : P (n : Int)
      · have x1 : @ite Int (P (n : Int) ∨ (n : Int) = a) (Classical.propDecidable _) 1 0 = 1 := if_pos (Or.inl c)
        have x2 : @ite Int (P (n : Int)) (Classical.propDecidable _) 1 0 = 1 := if_pos c
        rw [x1, x2]
        try omega
      · have x1 : @ite Int (P (n : Int) ∨ (n : Int) = a) (Classical.propDecidable _) 1 0 = 0 := if_neg (fun x => Or.elim x c e)
        have x2 : @ite Int (P (n : Int)) (Classical.propDecidable _) 1 0 = 0 := if_neg c
        rw [x1, x2]
        try omega
theorem clC_0 {P : Int → Prop} : ∀ n : Nat, (∀ d : Int, ¬ P d) → clC P n = 0 := by
  intro n h
  induction n with
  | zero => rfl
  | succ n ih => unfold clC; rw [ih, if_neg (h _)]; rfl
theorem clC_e {f : Int → Int} {n : Int} : ∀ r : Nat, (r : Int) ≤ n → (∀ i j : Int, 0 ≤ i → i < j → j < n → f i ≠ f j) → (∀ i : Int, 0 ≤ i → i < n → 0 ≤ f i ∧ f i < 400) → clC (fun d => ∃ i : Int, 0 ≤ i ∧ i < (r : Int) ∧ f i = d) 400 = r := by
  intro r
  induction r with
  | zero => exact fun _ _ _ => clC_0 400 (fun d h => by obtain ⟨i, a, b, -⟩ := h; omega)
  | succ r ih =>
    intro h1 h2 h3
    have a := ih (by omega) h2 h3
    have h4 := h3 (r : Int) (by omega) (by omega)
    have b := clC_a (P := fun d => ∃ i : Int, 0 ≤ i ∧ i < (r : Int) ∧ f i = d) (a := f (r : Int)) h4.1 (fun x => by obtain ⟨i, y1, y2, y3⟩ := x; exact h2 i r y1 y2 (by omega) y3) 400
    rw [if_pos (by omega), a] at b
    have e9 : (fun d : Int => ∃ i : Int, 0 ≤ i ∧ i < ((r + 1 : Nat) : Int) ∧ f i = d) = fun d : Int => (∃ i : Int, 0 ≤ i ∧ i < (r : Int) ∧ f i = d) ∨ d = f (r : Int) := by
      funext d
      apply propext
      constructor
      · intro x
        obtain ⟨i, y1, y2, y3⟩ := x
        by_cases c : i = (r : Int)
        · exact Or.inr (by rw [← y3, c])
        · exact Or.inl ⟨i, y1, by omega, y3⟩
      · intro x
        rcases x with x | x
        · obtain ⟨i, y1, y2, y3⟩ := x
          exact ⟨i, y1, by omega, y3⟩
        · exact ⟨r, by omega, by omega, x.symm⟩
    rw [e9]
    exact b.trans (by omega)
theorem cgT_c {F S : Int → Int} {x : Int} : ∀ n : Nat, cgT F S x n = clC (fun d => S d ≠ 0 ∧ x ≤ F d) n := by
  intro n
  induction n with
  | zero => rfl
  | succ n ih =>
    unfold cgT clC
    rw [ih]
    by_cases c : S (n : Int) ≠ 0 ∧ x ≤ F (n : Int)
    · rw [if_pos c, if_pos c]
    · rw [if_neg c, if_neg c]
/-- the greatest flow that is reached on r days or more -/
def rcP (F S : Int → Int) (r v : Int) : Prop := (v = -1 ∧ ∀ d : Int, 0 ≤ d → d < 400 → S d ≠ 0 → cgT F S (F d) 400 < r) ∨ ∃ d : Int, 0 ≤ d ∧ d < 400 ∧ S d ≠ 0 ∧ v = F d ∧ r ≤ cgT F S v 400 ∧ ∀ e : Int, 0 ≤ e → e < 400 → S e ≠ 0 → v < F e → cgT F S (F e) 400 < r
theorem rcP_det {F S : Int → Int} {r v v2 : Int} (h : rcP F S r v) (h2 : rcP F S r v2) : v = v2 := by
  rcases h with ⟨a1, a2⟩ | ⟨d, a1, a2, a3, a4, a5, a6⟩
  · rcases h2 with ⟨b1, b2⟩ | ⟨e, b1, b2, b3, b4, b5, b6⟩
    · rw [a1, b1]
    · have := a2 e b1 b2 b3
      rw [← b4] at this
      omega
  · rcases h2 with ⟨b1, b2⟩ | ⟨e, b1, b2, b3, b4, b5, b6⟩
    · have := b2 d a1 a2 a3
      rw [← a4] at this
      omega
    · rcases Int.lt_trichotomy v v2 with c | c | c
      · have := a6 e b1 b2 b3 (by omega)
        rw [← b4] at this
        omega
      · exact c
      · have := b6 d a1 a2 a3 (by omega)
        rw [← a4] at this
        omega
theorem rk_le {F S f : Int → Int} {n x r : Int} (h : rkP F S f n) (h0 : 0 ≤ r ∧ r ≤ n) (hx : ∀ i : Int, 0 ≤ i → i < n → x ≤ F (f i) → i < r) : cgT F S x 400 ≤ r := by
  rw [cgT_c]
  have a := clC_e (f := f) (n := n) r.toNat (by omega) (fun i j a1 a2 a3 e => rkR_i (a := f j) (by have := h.1 i j a1 a2 a3; rw [e] at this; exact this)) (fun i a1 a2 => ⟨(h.2.1 i a1 a2).1, (h.2.1 i a1 a2).2.1⟩)
  have b := clC_m (P := fun d => S d ≠ 0 ∧ x ≤ F d) (Q := fun d => ∃ i : Int, 0 ≤ i ∧ i < (r.toNat : Int) ∧ f i = d) 400 (fun d h1 h2 h3 => by
    obtain ⟨i, c1, c2, c3⟩ := h.2.2 d h1 (by omega) h3.1
    exact ⟨i, c1, by have := hx i c1 c2 (by rw [c3]; exact h3.2); omega, c3⟩)
  omega
theorem rk_ge {F S f : Int → Int} {n x r : Int} (h : rkP F S f n) (h0 : 0 ≤ r ∧ r ≤ n) (hx : ∀ i : Int, 0 ≤ i → i < r → x ≤ F (f i)) : r ≤ cgT F S x 400 := by
  rw [cgT_c]
  have a := clC_e (f := f) (n := n) r.toNat (by omega) (fun i j a1 a2 a3 e => rkR_i (a := f j) (by have := h.1 i j a1 a2 a3; rw [e] at this; exact this)) (fun i a1 a2 => ⟨(h.2.1 i a1 a2).1, (h.2.1 i a1 a2).2.1⟩)
  have b := clC_m (Q := fun d => S d ≠ 0 ∧ x ≤ F d) (P := fun d => ∃ i : Int, 0 ≤ i ∧ i < (r.toNat : Int) ∧ f i = d) 400 (fun d h1 h2 h3 => by
    obtain ⟨i, c1, c2, c3⟩ := h3
    exact ⟨by rw [← c3]; exact (h.2.1 i c1 (by omega)).2.2, by rw [← c3]; exact hx i c1 (by omega)⟩)
  omega
theorem rc_no {F S f : Int → Int} {n r : Int} (h : rkP F S f n) (h0 : 0 ≤ n) (hr : n < r) : rcP F S r (-1) :=
  Or.inl ⟨rfl, fun d _ _ _ => by have := rk_le (x := F d) h ⟨h0, Int.le_refl n⟩ (fun i _ h2 _ => h2); omega⟩
theorem rc_is {F S f : Int → Int} {n r : Int} (h : rkP F S f n) (h0 : 1 ≤ r ∧ r ≤ n) : rcP F S r (F (f (r - 1))) := by
  have h7 := h.2.1 (r - 1) (by omega) (by omega)
  refine Or.inr ⟨f (r - 1), h7.1, h7.2.1, h7.2.2, rfl, rk_ge h (by omega) (fun i a1 a2 => ?_), fun e a1 a2 a3 a4 => ?_⟩
  · by_cases c : i = r - 1
    · rw [c]; exact Int.le_refl _
    · have := h.1 i (r - 1) a1 (by omega) (by omega)
      unfold rkR at this
      omega
  · have := rk_le (x := F e) (r := r - 1) h (by omega) (fun i b1 b2 b3 => Classical.byContradiction fun c => by
      by_cases c2 : i = r - 1
      · rw [c2] at b3; omega
      · have := h.1 (r - 1) i (by omega) (by omega) b2
        unfold rkR at this
        omega)
    omega
