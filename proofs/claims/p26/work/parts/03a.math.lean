/-! the book's mathematics: curves -/
theorem tdiv_pos {a b : Int} (h : 0 ≤ a) : a.tdiv b = a / b := Int.tdiv_eq_ediv_of_nonneg h
/-- a piece of a curve -/
def segF (st fl : Int → Int) (k s : Int) : Int := fl k + Int.tdiv ((fl (k + 1) - fl k) * (s - st k)) (st (k + 1) - st k)
/-- a curve of n points: both rows rise, in their bounds -/
def cvOk (st fl : Int → Int) (n : Int) : Prop := (∀ i j : Int, 0 ≤ i → i < j → j < n → st i < st j) ∧ (∀ i j : Int, 0 ≤ i → i < j → j < n → fl i < fl j) ∧ (∀ j : Int, -500 ≤ st j ∧ st j ≤ 2000) ∧ ∀ j : Int, 0 ≤ fl j ∧ fl j ≤ 1000000
/-- z is the flow of a curve for the stage s -/
def flP (st fl : Int → Int) (n s z : Int) : Prop := (s < st 0 ∧ z = 0) ∨ (st 0 ≤ s ∧ ∃ k : Int, 0 ≤ k ∧ k + 2 ≤ n ∧ (k = 0 ∨ st k ≤ s) ∧ (k + 2 = n ∨ s ≤ st (k + 1)) ∧ z = segF st fl k s)
theorem seg_lo (st fl : Int → Int) (k : Int) : segF st fl k (st k) = fl k := by
  unfold segF
  rw [Int.sub_self, Int.mul_zero, Int.zero_tdiv, Int.add_zero]
theorem seg_hi (st fl : Int → Int) {k : Int} (h : st k < st (k + 1)) : segF st fl k (st (k + 1)) = fl (k + 1) := by
  unfold segF
  rw [Int.mul_tdiv_cancel _ (by omega)]
  omega
theorem flP_lt {st fl : Int → Int} {n s k j : Int} (h : cvOk st fl n) (hk : 0 ≤ k) (hj : j + 2 ≤ n) (hkj : k < j) (h1 : k + 2 = n ∨ s ≤ st (k + 1)) (h2 : j = 0 ∨ st j ≤ s) : segF st fl k s = segF st fl j s := by
  have a1 : s ≤ st (k + 1) := by
    rcases h1 with h1 | h1
    · omega
    · exact h1
  have a2 : st j ≤ s := by
    rcases h2 with h2 | h2
    · omega
    · exact h2
  have a3 : j = k + 1 := by
    rcases Int.lt_or_le (k + 1) j with h3 | h3
    · have := h.1 (k + 1) j (by omega) h3 (by omega)
      omega
    · omega
  subst a3
  have a4 : s = st (k + 1) := by omega
  subst a4
  rw [seg_hi st fl (h.1 k (k + 1) hk (by omega) (by omega)), seg_lo]
theorem flP_one {st fl : Int → Int} {n s z y : Int} (h : cvOk st fl n) (a : flP st fl n s z) (b : flP st fl n s y) : z = y := by
  rcases a with ⟨a1, rfl⟩ | ⟨a1, k, a2, a3, a4, a5, rfl⟩ <;> rcases b with ⟨b1, rfl⟩ | ⟨b1, j, b2, b3, b4, b5, rfl⟩
  · rfl
  · omega
  · omega
  · rcases Int.lt_trichotomy k j with h1 | h1 | h1
    · exact flP_lt h a2 b3 h1 a5 b4
    · rw [h1]
    · exact (flP_lt h b2 a3 h1 b5 a4).symm
noncomputable def flowF (st fl : Int → Int) (n s : Int) : Int := Classical.epsilon (flP st fl n s)
theorem flowF_eq {st fl : Int → Int} {n s z : Int} (h : cvOk st fl n) (a : flP st fl n s z) : z = flowF st fl n s := flP_one h a (Classical.epsilon_spec ⟨z, a⟩)
/-- the last place before m with a property that holds at 0 -/
theorem last_le (p : Int → Prop) (hp : ∀ j : Int, p j ∨ ¬ p j) : ∀ m : Nat, p 0 → ∃ k : Int, 0 ≤ k ∧ k ≤ m ∧ p k ∧ ∀ j : Int, k < j → j ≤ m → ¬ p j := by
  intro m
  induction m with
  | zero => exact fun h => ⟨0, by omega, by omega, h, fun j h1 h2 => by omega⟩
  | succ m ih =>
    intro h
    rcases hp ((m : Int) + 1) with h1 | h1
    · exact ⟨(m : Int) + 1, by omega, by omega, h1, fun j h2 h3 => by omega⟩
    · obtain ⟨k, k1, k2, k3, k4⟩ := ih h
      refine ⟨k, k1, by omega, k3, fun j h2 h3 => ?_⟩
      rcases Int.lt_or_le (m : Int) j with h4 | h4
      · rw [show j = (m : Int) + 1 by omega]
        exact h1
      · exact k4 j h2 h4
theorem flP_ex {st : Int → Int} (fl : Int → Int) {n s : Int} (hn : 2 ≤ n) (h0 : st 0 ≤ s) : ∃ k : Int, 0 ≤ k ∧ k + 2 ≤ n ∧ st k ≤ s ∧ (k + 2 = n ∨ s < st (k + 1)) := by
  obtain ⟨k, k1, k2, k3, k4⟩ := last_le (fun j => st j ≤ s) (fun j => Int.lt_or_le s (st j) |>.elim (fun h => Or.inr (by omega)) (fun h => Or.inl h)) (n - 2).toNat h0
  refine ⟨k, k1, by omega, k3, ?_⟩
  rcases Int.lt_or_le (k + 2) n with h1 | h1
  · have := k4 (k + 1) (by omega) (by omega)
    exact Or.inr (by omega)
  · exact Or.inl (by omega)
theorem flow_seg {st fl : Int → Int} {n s k : Int} (h : cvOk st fl n) (h0 : st 0 ≤ s) (k0 : 0 ≤ k) (k2 : k + 2 ≤ n) (k3 : k = 0 ∨ st k ≤ s) (k4 : k + 2 = n ∨ s ≤ st (k + 1)) : flowF st fl n s = segF st fl k s :=
  (flowF_eq h (Or.inr ⟨h0, k, k0, k2, k3, k4, rfl⟩)).symm
theorem flow_low {st fl : Int → Int} {n s : Int} (h : cvOk st fl n) (h0 : s < st 0) : flowF st fl n s = 0 := (flowF_eq h (Or.inl ⟨h0, rfl⟩)).symm
theorem seg_ge {st fl : Int → Int} {k s : Int} (h1 : st k < st (k + 1)) (h2 : fl k < fl (k + 1)) (h3 : st k ≤ s) : segF st fl k s = fl k + (fl (k + 1) - fl k) * (s - st k) / (st (k + 1) - st k) ∧ fl k ≤ segF st fl k s := by
  have e := tdiv_pos (b := st (k + 1) - st k) (Int.mul_nonneg (show 0 ≤ fl (k + 1) - fl k by omega) (show 0 ≤ s - st k by omega))
  have e2 := Int.ediv_nonneg (Int.mul_nonneg (show 0 ≤ fl (k + 1) - fl k by omega) (show 0 ≤ s - st k by omega)) (show 0 ≤ st (k + 1) - st k by omega)
  unfold segF
  rw [e]
  exact ⟨rfl, by omega⟩
theorem seg_le {st fl : Int → Int} {k s : Int} (h1 : st k < st (k + 1)) (h2 : fl k < fl (k + 1)) (h3 : st k ≤ s) (h4 : s ≤ st (k + 1)) : segF st fl k s ≤ fl (k + 1) := by
  rw [(seg_ge h1 h2 h3).1]
  have h5 : (fl (k + 1) - fl k) * (s - st k) / (st (k + 1) - st k) ≤ fl (k + 1) - fl k := by
    apply Int.ediv_le_of_le_mul (by omega)
    exact Int.mul_le_mul_of_nonneg_left (by omega) (by omega)
  omega
theorem flow_bd {st fl : Int → Int} {n s : Int} (h : cvOk st fl n) (hn : 2 ≤ n) (hs : s ≤ 5000) : 0 ≤ flowF st fl n s ∧ flowF st fl n s ≤ 10000000000 := by
  rcases Int.lt_or_le s (st 0) with h0 | h0
  · rw [flow_low h h0]
    omega
  · obtain ⟨k, k1, k2, k3, k4⟩ := flP_ex fl hn h0
    rw [flow_seg h h0 k1 k2 (Or.inr k3) (k4.imp id (fun z => by omega))]
    have a1 := h.1 k (k + 1) k1 (by omega) (by omega)
    have a2 := h.2.1 k (k + 1) k1 (by omega) (by omega)
    have a3 := h.2.2.1 k
    have a4 := h.2.2.2 k
    have a5 := h.2.2.2 (k + 1)
    obtain ⟨e, e2⟩ := seg_ge a1 a2 k3
    refine ⟨by omega, ?_⟩
    rw [e]
    have b1 : (fl (k + 1) - fl k) * (s - st k) ≤ 1000000 * 5500 := Int.mul_le_mul (by omega) (by omega) (by omega) (by omega)
    have b2 : (fl (k + 1) - fl k) * (s - st k) / (st (k + 1) - st k) ≤ (fl (k + 1) - fl k) * (s - st k) := Int.ediv_le_self _ (Int.mul_nonneg (by omega) (by omega))
    omega
/-- the first stage for a flow -/
def stP (st fl : Int → Int) (n q z : Int) : Prop := (fl (n - 1) < q ∧ z = -9999) ∨ (q ≤ fl (n - 1) ∧ st 0 ≤ z ∧ q ≤ flowF st fl n z ∧ ∀ x : Int, st 0 ≤ x → x < z → flowF st fl n x < q)
theorem stP_one {st fl : Int → Int} {n q z y : Int} (a : stP st fl n q z) (b : stP st fl n q y) : z = y := by
  rcases a with ⟨a1, rfl⟩ | ⟨a1, a2, a3, a4⟩ <;> rcases b with ⟨b1, rfl⟩ | ⟨b1, b2, b3, b4⟩
  · rfl
  · omega
  · omega
  · rcases Int.lt_trichotomy z y with h1 | h1 | h1
    · have := b4 z a2 h1
      omega
    · exact h1
    · have := a4 y b2 h1
      omega
noncomputable def stageF (st fl : Int → Int) (n q : Int) : Int := Classical.epsilon (stP st fl n q)
theorem stageF_eq {st fl : Int → Int} {n q z : Int} (a : stP st fl n q z) : z = stageF st fl n q := stP_one a (Classical.epsilon_spec ⟨z, a⟩)
theorem stageF_sp {st fl : Int → Int} {n q z : Int} (a : stP st fl n q z) : stP st fl n q (stageF st fl n q) := Classical.epsilon_spec ⟨z, a⟩
theorem flow_le {st fl : Int → Int} {n x j : Int} (h : cvOk st fl n) (h0 : st 0 ≤ x) (hj : 1 ≤ j) (hjn : j < n) (hx : x ≤ st j) : flowF st fl n x ≤ fl j := by
  obtain ⟨k, k1, k2, k3, k4⟩ := flP_ex fl (show 2 ≤ n by omega) h0
  rw [flow_seg h h0 k1 k2 (Or.inr k3) (k4.imp id (fun z => by omega))]
  have a1 := h.1 k (k + 1) k1 (by omega) (by omega)
  have a2 := h.2.1 k (k + 1) k1 (by omega) (by omega)
  rcases Int.lt_or_le j k with h1 | h1
  · have := h.1 j k (by omega) h1 (by omega)
    omega
  · rcases Int.lt_or_le k j with h2 | h2
    · have h3 : x ≤ st (k + 1) := by
        rcases Int.lt_or_le (k + 1) j with h4 | h4
        · rcases k4 with h5 | h5
          · omega
          · omega
        · rw [show k + 1 = j by omega]
          exact hx
      have h6 := seg_le a1 a2 k3 h3
      rcases Int.lt_or_le (k + 1) j with h4 | h4
      · have := h.2.1 (k + 1) j (by omega) h4 hjn
        omega
      · rw [show j = k + 1 by omega]
        exact h6
    · have h7 : j = k := by omega
      subst h7
      rw [show x = st j by omega, seg_lo]
      omega
/-- the class's way to the first stage: by a division that is rounded up -/
theorem stP_up {st fl : Int → Int} {n q k : Int} (h : cvOk st fl n) (hk : 1 ≤ k) (hkn : k < n) (h1 : fl (k - 1) < q) (h2 : q ≤ fl k) :
    stP st fl n q (st (k - 1) + ((q - fl (k - 1)) * (st k - st (k - 1)) + (fl k - fl (k - 1)) - 1) / (fl k - fl (k - 1))) := by
  have a1 := h.1 (k - 1) k (by omega) (by omega) hkn
  have a2 := h.2.1 (k - 1) k (by omega) (by omega) hkn
  have ek : k - 1 + 1 = k := by omega
  have hln : q ≤ fl (n - 1) := by
    rcases Int.lt_or_le k (n - 1) with h3 | h3
    · have := h.2.1 k (n - 1) (by omega) h3 (by omega)
      omega
    · rw [show n - 1 = k by omega]
      exact h2
  obtain ⟨F, hF⟩ : ∃ F, F = fl k - fl (k - 1) := ⟨_, rfl⟩
  obtain ⟨S, hS⟩ : ∃ S, S = st k - st (k - 1) := ⟨_, rfl⟩
  obtain ⟨a, ha⟩ : ∃ a, a = q - fl (k - 1) := ⟨_, rfl⟩
  rw [← hF, ← hS, ← ha]
  obtain ⟨m, hm⟩ : ∃ m, m = (a * S + F - 1) / F := ⟨_, rfl⟩
  rw [← hm]
  have hF0 : 0 < F := by omega
  have hS0 : 0 < S := by omega
  have ha0 : 0 < a := by omega
  have haF : a ≤ F := by omega
  have e1 := Int.mul_ediv_add_emod (a * S + F - 1) F
  have e2 := Int.emod_nonneg (a * S + F - 1) (show F ≠ 0 by omega)
  have e3 := Int.emod_lt_of_pos (a * S + F - 1) hF0
  rw [← hm] at e1
  -- F * m is at least a * S, and F * (m - 1) is less
  have m1 : a * S ≤ F * m := by omega
  have m2 : F * m < a * S + F := by omega
  have aS : 0 < a * S := Int.mul_pos ha0 hS0
  have m0 : 0 < m := by
    rcases Int.lt_or_le 0 m with h3 | h3
    · exact h3
    · have := Int.mul_nonpos_of_nonneg_of_nonpos (show 0 ≤ F by omega) h3
      omega
  have mS : m ≤ S := by
    rcases Int.lt_or_le S m with h3 | h3
    · have b1 : F * (S + 1) ≤ F * m := Int.mul_le_mul_of_nonneg_left (by omega) (by omega)
      have b2 : a * S ≤ F * S := Int.mul_le_mul_of_nonneg_right haF (by omega)
      rw [Int.mul_add, Int.mul_one] at b1
      omega
    · exact h3
  have hst0 : st 0 ≤ st (k - 1) := by
    rcases Int.lt_or_le 0 (k - 1) with h3 | h3
    · have := h.1 0 (k - 1) (by omega) h3 (by omega)
      omega
    · rw [show k - 1 = 0 by omega]
      exact Int.le_refl _
  have key : ∀ x : Int, st (k - 1) ≤ x → x ≤ st k → flowF st fl n x = fl (k - 1) + F * (x - st (k - 1)) / S := by
    intro x hx1 hx2
    rw [flow_seg h (by omega) (show 0 ≤ k - 1 by omega) (by omega) (Or.inr hx1) (Or.inr (by rw [ek]; exact hx2)), (seg_ge (by rw [ek]; exact a1) (by rw [ek]; exact a2) hx1).1, ek, ← hF, ← hS]
  refine Or.inr ⟨hln, by omega, ?_, fun x hx1 hx2 => ?_⟩
  · rw [key _ (by omega) (by omega), show st (k - 1) + m - st (k - 1) = m by omega]
    have : a ≤ F * m / S := (Int.le_ediv_iff_mul_le hS0).mpr m1
    omega
  · rcases Int.lt_or_le x (st (k - 1)) with h3 | h3
    · rcases Int.lt_or_le 0 (k - 1) with h4 | h4
      · have := flow_le h hx1 (show 1 ≤ k - 1 by omega) (by omega) (show x ≤ st (k - 1) by omega)
        omega
      · rw [show k - 1 = 0 by omega] at h3
        omega
    · rw [key x h3 (by omega)]
      have b1 : F * (x - st (k - 1)) ≤ F * (m - 1) := Int.mul_le_mul_of_nonneg_left (by omega) (by omega)
      rw [Int.mul_sub F m 1, Int.mul_one] at b1
      have : F * (x - st (k - 1)) / S < a := (Int.ediv_lt_iff_lt_mul hS0).mpr (by omega)
      omega
theorem stP_0 {st fl : Int → Int} {n q : Int} (h : cvOk st fl n) (hn : 2 ≤ n) (h2 : q ≤ fl 0) : stP st fl n q (st 0) := by
  have a2 := h.2.1 0 (n - 1) (by omega) (by omega) (by omega)
  refine Or.inr ⟨by omega, Int.le_refl _, ?_, fun x hx1 hx2 => by omega⟩
  have a1 := h.1 0 1 (by omega) (by omega) (by omega)
  rw [flow_seg h (Int.le_refl _) (Int.le_refl 0) (by omega) (Or.inl rfl) (Or.inr (by show st 0 ≤ st (0 + 1); rw [Int.zero_add]; omega)), seg_lo]
  exact h2
theorem stP_bd {st fl : Int → Int} {n q z : Int} (h : cvOk st fl n) (hn : 2 ≤ n) (a : stP st fl n q z) : z = -9999 ∨ (-500 ≤ z ∧ z ≤ 2000) := by
  rcases a with ⟨-, rfl⟩ | ⟨a1, a2, a3, a4⟩
  · exact Or.inl rfl
  · have b1 := h.2.2.1 0
    have b2 := h.2.2.1 (n - 1)
    refine Or.inr ⟨by omega, ?_⟩
    rcases Int.lt_or_le (st (n - 1)) z with h3 | h3
    · have c1 := h.1 0 (n - 1) (by omega) (by omega) (by omega)
      have c2 := a4 (st (n - 1)) (by omega) h3
      have c3 := h.1 (n - 2) (n - 1) (by omega) (by omega) (by omega)
      rw [flow_seg h (by omega) (show 0 ≤ n - 2 by omega) (by omega) (Or.inr (by omega)) (Or.inl (by omega)), show st (n - 1) = st (n - 2 + 1) by rw [show n - 2 + 1 = n - 1 by omega], seg_hi st fl (by rw [show n - 2 + 1 = n - 1 by omega]; exact c3), show n - 2 + 1 = n - 1 by omega] at c2
      omega
    · omega
theorem mulB {a b M N : Int} (ha : -M ≤ a ∧ a ≤ M) (hb : -N ≤ b ∧ b ≤ N) : -(M * N) ≤ a * b ∧ a * b ≤ M * N := by
  have hM : 0 ≤ M := by omega
  have hN : 0 ≤ N := by omega
  rcases Int.le_total 0 a with h1 | h1 <;> rcases Int.le_total 0 b with h2 | h2
  · have c1 := Int.mul_le_mul ha.2 hb.2 h2 hM
    have c2 := Int.mul_nonneg h1 h2
    have c3 := Int.mul_nonneg hM hN
    omega
  · have c1 := Int.mul_le_mul ha.2 (show -b ≤ N by omega) (show 0 ≤ -b by omega) hM
    have c2 := Int.mul_nonneg h1 (show 0 ≤ -b by omega)
    rw [Int.mul_neg] at c1 c2
    have c3 := Int.mul_nonneg hM hN
    omega
  · have c1 := Int.mul_le_mul (show -a ≤ M by omega) hb.2 h2 hM
    have c2 := Int.mul_nonneg (show 0 ≤ -a by omega) h2
    rw [Int.neg_mul] at c1 c2
    have c3 := Int.mul_nonneg hM hN
    omega
  · have c1 := Int.mul_le_mul (show -a ≤ M by omega) (show -b ≤ N by omega) (show 0 ≤ -b by omega) hM
    have c2 := Int.mul_nonneg (show 0 ≤ -a by omega) (show 0 ≤ -b by omega)
    rw [Int.neg_mul_neg] at c1 c2
    have c3 := Int.mul_nonneg hM hN
    omega
/-- how many of the first u numbers, which rise, are less than v: at k stands the first that is not -/
def clP (f : Int → Int) (u v k : Int) : Prop := 0 ≤ k ∧ k ≤ u ∧ (∀ j : Int, 0 ≤ j → j < k → f j < v) ∧ (k < u → v ≤ f k)
theorem clP_one {f : Int → Int} {u v k j : Int} (a : clP f u v k) (b : clP f u v j) : k = j := by
  obtain ⟨a1, a2, a3, a4⟩ := a
  obtain ⟨b1, b2, b3, b4⟩ := b
  rcases Int.lt_trichotomy k j with h | h | h
  · have := b3 k a1 h
    have := a4 (by omega)
    omega
  · exact h
  · have := a3 j b1 h
    have := b4 (by omega)
    omega
theorem flow_cl {st fl : Int → Int} {n s k u : Int} (h : cvOk st fl n) (hn : 2 ≤ n) (hs : st 0 ≤ s) (hk : clP st n s k) (hu : u = min (max k 1) (n - 1)) : fl (u - 1) + Int.tdiv ((fl u - fl (u - 1)) * (s - st (u - 1))) (st u - st (u - 1)) = flowF st fl n s := by
  obtain ⟨k1, k2, k3, k4⟩ := hk
  rw [flow_seg h hs (k := u - 1) (by omega) (by omega) ?_ ?_]
  · unfold segF
    rw [show u - 1 + 1 = u by omega]
  · rcases Int.lt_or_le 1 u with h1 | h1
    · have := k3 (u - 1) (by omega) (by omega)
      exact Or.inr (by omega)
    · exact Or.inl (by omega)
  · rw [show u - 1 + 1 = u by omega]
    rcases Int.lt_or_le u (n - 1) with h1 | h1
    · rcases Int.lt_or_le 0 k with h2 | h2
      · have := k4 (by omega)
        rw [show u = k by omega]
        exact Or.inr this
      · have e1 := k4 (by omega)
        have e2 := h.1 0 1 (by omega) (by omega) (by omega)
        rw [show k = 0 by omega] at e1
        rw [show u = 1 by omega]
        exact Or.inr (by omega)
    · exact Or.inl (by omega)
theorem stage_cl {st fl : Int → Int} {n q k : Int} (h : cvOk st fl n) (hn : 2 ≤ n) (hk : clP fl n q k) :
    (n ≤ k → stageF st fl n q = -9999) ∧ (k = 0 → stageF st fl n q = st 0) ∧ (k ≠ 0 → k < n → stageF st fl n q = st (k - 1) + Int.tdiv ((q - fl (k - 1)) * (st k - st (k - 1)) + (fl k - fl (k - 1)) - 1) (fl k - fl (k - 1))) ∧ stP st fl n q (stageF st fl n q) := by
  obtain ⟨k1, k2, k3, k4⟩ := hk
  have ex : ∃ z, stP st fl n q z ∧ (n ≤ k → z = -9999) ∧ (k = 0 → z = st 0) ∧ (k ≠ 0 → k < n → z = st (k - 1) + Int.tdiv ((q - fl (k - 1)) * (st k - st (k - 1)) + (fl k - fl (k - 1)) - 1) (fl k - fl (k - 1))) := by
    rcases Int.lt_or_le k n with h1 | h1
    · have h2 := k4 h1
      rcases Int.lt_or_le 0 k with h3 | h3
      · have h4 := k3 (k - 1) (by omega) (by omega)
        refine ⟨_, stP_up h (show 1 ≤ k by omega) h1 h4 h2, fun z => by omega, fun z => by omega, fun _ _ => ?_⟩
        have a1 := h.1 (k - 1) k (by omega) (by omega) h1
        have a2 := h.2.1 (k - 1) k (by omega) (by omega) h1
        have a3 := Int.mul_nonneg (show 0 ≤ q - fl (k - 1) by omega) (show 0 ≤ st k - st (k - 1) by omega)
        rw [tdiv_pos (by omega)]
      · have h5 : k = 0 := by omega
        subst h5
        exact ⟨_, stP_0 h hn h2, fun z => by omega, fun _ => rfl, fun z => absurd rfl z⟩
    · have h2 := k3 (n - 1) (by omega) (by omega)
      exact ⟨-9999, Or.inl ⟨h2, rfl⟩, fun _ => rfl, fun z => by omega, fun _ z => by omega⟩
  obtain ⟨z, z1, z2, z3, z4⟩ := ex
  rw [← stageF_eq z1]
  exact ⟨z2, z3, z4, z1⟩
def insF (f : Int → Int) (u k v : Int) : Int → Int := fun j => if j < k then f j else if j = k then v else if j ≤ u then f (j - 1) else f j
def shF (f : Int → Int) (u i : Int) : Int → Int := fun j => if i < j ∧ j ≤ u then f (j - 1) else f j
theorem shF_0 (f : Int → Int) (u : Int) : shF f u u = f := by
  funext j
  unfold shF
  rw [if_neg (by omega)]
theorem shF_s (f : Int → Int) {u i : Int} (h : i ≤ u) : updI (shF f u i) i (shF f u i (i - 1)) = shF f u (i - 1) := by
  funext j
  unfold updI shF
  by_cases h1 : j = i
  · subst h1
    rw [if_pos rfl, if_neg (by omega), if_pos (by omega)]
  · rw [if_neg h1]
    by_cases h2 : i < j ∧ j ≤ u
    · rw [if_pos h2, if_pos (by omega)]
    · rw [if_neg h2, if_neg (by omega)]
theorem shF_e (f : Int → Int) {u k v : Int} (h : k ≤ u) : updI (shF f u k) k v = insF f u k v := by
  funext j
  unfold updI shF insF
  by_cases h1 : j = k
  · subst h1
    rw [if_pos rfl, if_neg (by omega), if_pos rfl]
  · rw [if_neg h1]
    by_cases h2 : j < k
    · rw [if_pos h2, if_neg (by omega)]
    · rw [if_neg h2, if_neg h1]
      by_cases h3 : j ≤ u
      · rw [if_pos h3, if_pos (by omega)]
      · rw [if_neg h3, if_neg (by omega)]
theorem insF_b {f : Int → Int} {lo hi u k v : Int} (h : ∀ j : Int, lo ≤ f j ∧ f j ≤ hi) (hv : lo ≤ v ∧ v ≤ hi) : ∀ j : Int, lo ≤ insF f u k v j ∧ insF f u k v j ≤ hi := by
  intro j
  unfold insF
  by_cases h1 : j < k
  · rw [if_pos h1]; exact h _
  · rw [if_neg h1]
    by_cases h2 : j = k
    · rw [if_pos h2]; exact hv
    · rw [if_neg h2]
      by_cases h3 : j ≤ u
      · rw [if_pos h3]; exact h _
      · rw [if_neg h3]; exact h _
/-- a row that rises stays so, where the new number fits -/
theorem insF_up {f : Int → Int} {u k v : Int} (h : ∀ i j : Int, 0 ≤ i → i < j → j < u → f i < f j) (hk : 0 ≤ k ∧ k ≤ u) (h1 : k = 0 ∨ f (k - 1) < v) (h2 : k = u ∨ v < f k) : ∀ i j : Int, 0 ≤ i → i < j → j < u + 1 → insF f u k v i < insF f u k v j := by
  have a1 : ∀ i : Int, 0 ≤ i → i < k → f i < v := by
    intro i hi hik
    rcases h1 with h1 | h1
    · omega
    · rcases Int.lt_or_le i (k - 1) with h3 | h3
      · have := h i (k - 1) hi h3 (by omega)
        omega
      · rw [show i = k - 1 by omega]
        exact h1
  have a2 : ∀ j : Int, k ≤ j → j < u → v < f j := by
    intro j hj hju
    rcases h2 with h2 | h2
    · omega
    · rcases Int.lt_or_le k j with h3 | h3
      · have := h k j hk.1 h3 hju
        omega
      · rw [show j = k by omega]
        exact h2
  intro i j hi hij hju
  unfold insF
  by_cases c1 : i < k
  · rw [if_pos c1]
    by_cases c2 : j < k
    · rw [if_pos c2]
      exact h i j hi hij (by omega)
    · rw [if_neg c2]
      by_cases c3 : j = k
      · rw [if_pos c3]
        exact a1 i hi c1
      · rw [if_neg c3, if_pos (by omega)]
        have := a1 i hi c1
        have := a2 (j - 1) (by omega) (by omega)
        omega
  · rw [if_neg c1, if_neg (show ¬ j < k by omega), if_neg (show ¬ j = k by omega), if_pos (show j ≤ u by omega)]
    by_cases c2 : i = k
    · rw [if_pos c2]
      exact a2 (j - 1) (by omega) (by omega)
    · rw [if_neg c2, if_pos (by omega)]
      exact h (i - 1) (j - 1) (by omega) (by omega) (by omega)
/-- a point fits a curve of n points at the place k -/
def canP (st fl : Int → Int) (n s q k : Int) : Prop := n < 12 ∧ (k = 0 ∨ fl (k - 1) < q) ∧ (k = n ∨ (s < st k ∧ q < fl k))
theorem cvOk_ins {st fl : Int → Int} {n s q k : Int} (h : cvOk st fl n) (hn : 0 ≤ n) (hs : -500 ≤ s ∧ s ≤ 2000) (hq : 0 ≤ q ∧ q ≤ 1000000) (hk : clP st n s k) (hc : canP st fl n s q k) : cvOk (insF st n k s) (insF fl n k q) (n + 1) := by
  obtain ⟨k1, k2, k3, k4⟩ := hk
  obtain ⟨c1, c2, c3⟩ := hc
  refine ⟨insF_up h.1 ⟨k1, k2⟩ ?_ (c3.imp id (fun z => z.1)), insF_up h.2.1 ⟨k1, k2⟩ c2 (c3.imp id (fun z => z.2)), insF_b h.2.2.1 hs, insF_b h.2.2.2 hq⟩
  rcases Int.lt_or_le 0 k with h1 | h1
  · exact Or.inr (k3 (k - 1) (by omega) (by omega))
  · exact Or.inl (by omega)
/-! shifts -/
theorem itp_bd {D x y : Int} (hx : 0 ≤ x ∧ x ≤ y) (hy : 0 < y) : min 0 D ≤ (D * x).tdiv y ∧ (D * x).tdiv y ≤ max 0 D := by
  rcases Int.le_total 0 D with h | h
  · have a1 := Int.mul_nonneg h hx.1
    have a2 : D * x ≤ D * y := Int.mul_le_mul_of_nonneg_left hx.2 h
    have a3 := Int.ediv_nonneg a1 (show 0 ≤ y by omega)
    have a4 : D * x / y ≤ D := Int.ediv_le_of_le_mul hy a2
    rw [tdiv_pos a1]
    omega
  · have a1 := Int.mul_nonneg (show 0 ≤ -D by omega) hx.1
    have a2 : -D * x ≤ -D * y := Int.mul_le_mul_of_nonneg_left hx.2 (by omega)
    have a3 := Int.ediv_nonneg a1 (show 0 ≤ y by omega)
    have a4 : -D * x / y ≤ -D := Int.ediv_le_of_le_mul hy a2
    have e : (D * x).tdiv y = -((-D * x) / y) := by
      rw [← tdiv_pos a1, Int.neg_mul, Int.neg_tdiv, Int.neg_neg]
    rw [e]
    omega
def shOk (td tv : Int → Int) (tn : Int) : Prop := (∀ i j : Int, 0 ≤ i → i < j → j < tn → td i < td j) ∧ (∀ j : Int, 0 ≤ td j ∧ td j ≤ 399) ∧ ∀ j : Int, -200 ≤ tv j ∧ tv j ≤ 200
/-- z is the shift of the day d -/
def sftP (td tv : Int → Int) (tn d z : Int) : Prop := (tn = 0 ∧ z = 0) ∨ (0 < tn ∧ ∃ k : Int, clP td tn d k ∧ ((k = tn ∧ z = tv (tn - 1)) ∨ (k = 0 ∧ k < tn ∧ z = tv 0) ∨ (0 < k ∧ k < tn ∧ z = tv (k - 1) + Int.tdiv ((tv k - tv (k - 1)) * (d - td (k - 1))) (td k - td (k - 1)))))
theorem sftP_one {td tv : Int → Int} {tn d z y : Int} (a : sftP td tv tn d z) (b : sftP td tv tn d y) : z = y := by
  rcases a with ⟨a1, rfl⟩ | ⟨a1, k, a2, a3⟩ <;> rcases b with ⟨b1, rfl⟩ | ⟨b1, j, b2, b3⟩
  · rfl
  · omega
  · omega
  · have e := clP_one a2 b2
    subst e
    rcases a3 with ⟨a4, rfl⟩ | ⟨a4, a5, rfl⟩ | ⟨a4, a5, rfl⟩ <;> rcases b3 with ⟨b4, rfl⟩ | ⟨b4, b5, rfl⟩ | ⟨b4, b5, rfl⟩ <;> first | rfl | omega
noncomputable def sftF (td tv : Int → Int) (tn d : Int) : Int := Classical.epsilon (sftP td tv tn d)
theorem sftF_eq {td tv : Int → Int} {tn d z : Int} (a : sftP td tv tn d z) : z = sftF td tv tn d := sftP_one a (Classical.epsilon_spec ⟨z, a⟩)
theorem sftP_bd {td tv : Int → Int} {tn d z : Int} (h : shOk td tv tn) (a : sftP td tv tn d z) : -200 ≤ z ∧ z ≤ 200 := by
  rcases a with ⟨a1, rfl⟩ | ⟨a1, k, ⟨a2, a3, a4, a5⟩, a6⟩
  · omega
  · rcases a6 with ⟨a7, rfl⟩ | ⟨a7, a8, rfl⟩ | ⟨a7, a8, rfl⟩
    · exact h.2.2 _
    · exact h.2.2 _
    · have b1 := h.1 (k - 1) k (by omega) (by omega) a8
      have b2 := a4 (k - 1) (by omega) (by omega)
      have b3 := a5 a8
      have b4 := itp_bd (D := tv k - tv (k - 1)) (x := d - td (k - 1)) (y := td k - td (k - 1)) (by omega) (by omega)
      have b5 := h.2.2 k
      have b6 := h.2.2 (k - 1)
      omega
theorem shOk_ins {td tv : Int → Int} {tn d v k : Int} (h : shOk td tv tn) (hd : 0 ≤ d ∧ d ≤ 399) (hv : -200 ≤ v ∧ v ≤ 200) (hk : clP td tn d k) (hne : ¬ (k < tn ∧ td k = d)) : shOk (insF td tn k d) (insF tv tn k v) (tn + 1) := by
  obtain ⟨k1, k2, k3, k4⟩ := hk
  refine ⟨insF_up h.1 ⟨k1, k2⟩ ?_ ?_, insF_b h.2.1 hd, insF_b h.2.2 hv⟩
  · rcases Int.lt_or_le 0 k with h1 | h1
    · exact Or.inr (k3 (k - 1) (by omega) (by omega))
    · exact Or.inl (by omega)
  · rcases Int.lt_or_le k tn with h1 | h1
    · have := k4 h1
      exact Or.inr (by omega)
    · exact Or.inl (by omega)
theorem upd_b {f : Int → Int} {lo hi k v : Int} (h : ∀ j : Int, lo ≤ f j ∧ f j ≤ hi) (hv : lo ≤ v ∧ v ≤ hi) : ∀ j : Int, lo ≤ updI f k v j ∧ updI f k v j ≤ hi := by
  intro j
  unfold updI
  by_cases h1 : j = k
  · rw [if_pos h1]; exact hv
  · rw [if_neg h1]; exact h _
/-! the table of flows -/
def gapP (S : Int → Int) (j a b : Int) : Prop := 0 ≤ a ∧ a < j ∧ j < b ∧ b < 400 ∧ S a ≠ 0 ∧ S b ≠ 0 ∧ ∀ i : Int, a < i → i < b → S i = 0
/-- flow and state of the day j behind the filling of gaps of at most lim days -/
def finP (F S : Int → Int) (lim j v t : Int) : Prop := (S j ≠ 0 ∧ v = F j ∧ t = S j) ∨ (S j = 0 ∧ ((∃ a b : Int, gapP S j a b ∧ b - a - 1 ≤ lim ∧ v = F a + Int.tdiv ((F b - F a) * (j - a)) (b - a) ∧ t = 3) ∨ ((∀ a b : Int, gapP S j a b → lim < b - a - 1) ∧ v = -1 ∧ t = 0)))
theorem gapP_one {S : Int → Int} {j a b c d : Int} (h : gapP S j a b) (g : gapP S j c d) : a = c ∧ b = d := by
  obtain ⟨h1, h2, h3, h4, h5, h6, h7⟩ := h
  obtain ⟨g1, g2, g3, g4, g5, g6, g7⟩ := g
  constructor
  · rcases Int.lt_trichotomy a c with e | e | e
    · exact absurd (h7 c e (by omega)) g5
    · exact e
    · exact absurd (g7 a e (by omega)) h5
  · rcases Int.lt_trichotomy b d with e | e | e
    · exact absurd (g7 b (by omega) e) h6
    · exact e
    · exact absurd (h7 d (by omega) e) g6
theorem finP_one {F S : Int → Int} {lim j v t x y : Int} (a : finP F S lim j v t) (b : finP F S lim j x y) : v = x ∧ t = y := by
  rcases a with ⟨a1, rfl, rfl⟩ | ⟨a1, ⟨p, q, a2, a3, rfl, rfl⟩ | ⟨a2, rfl, rfl⟩⟩ <;> rcases b with ⟨b1, rfl, rfl⟩ | ⟨b1, ⟨r, s, b2, b3, rfl, rfl⟩ | ⟨b2, rfl, rfl⟩⟩
  · exact ⟨rfl, rfl⟩
  · exact absurd b1 a1
  · exact absurd b1 a1
  · exact absurd a1 b1
  · obtain ⟨rfl, rfl⟩ := gapP_one a2 b2
    exact ⟨rfl, rfl⟩
  · have := b2 _ _ a2
    omega
  · exact absurd a1 b1
  · have := a2 _ _ b2
    omega
  · exact ⟨rfl, rfl⟩
noncomputable def finF (F S : Int → Int) (lim j : Int) : Int := (Classical.epsilon (fun q : Int × Int => finP F S lim j q.1 q.2)).1
noncomputable def finS (F S : Int → Int) (lim j : Int) : Int := (Classical.epsilon (fun q : Int × Int => finP F S lim j q.1 q.2)).2
theorem finP_sp {F S : Int → Int} {lim j v t : Int} (a : finP F S lim j v t) : v = finF F S lim j ∧ t = finS F S lim j := by
  have h := Classical.epsilon_spec (p := fun q : Int × Int => finP F S lim j q.1 q.2) ⟨(v, t), a⟩
  exact finP_one a h
/-- arrays that agree on their places are one cell -/
theorem eI_congr {cA : ClassId} {n : Nat} {f g : Int → Int} (h : ∀ j : Int, 0 ≤ j → j < n → f j = g j) : vp_cell cA (n, .inl (fun j : Nat => iI (f (j : Int)))) = vp_cell cA (n, .inl (fun j : Nat => iI (g (j : Int)))) := by
  rw [vp_cell_i, vp_cell_i]
  unfold arrV
  congr 2
  funext j
  show Value.int (iI (f ((j.val : Nat) : Int))) = Value.int (iI (g ((j.val : Nat) : Int)))
  rw [h ((j.val : Nat) : Int) (by omega) (by have := j.isLt; omega)]
theorem eJ_congr {cA : ClassId} {n : Nat} {f g : Int → Int} (h : ∀ j : Int, 0 ≤ j → j < n → f j = g j) : vp_cell cA (n, .inr (.inl (fun j : Nat => lI (f (j : Int))))) = vp_cell cA (n, .inr (.inl (fun j : Nat => lI (g (j : Int))))) := by
  rw [vp_cell_l, vp_cell_l]
  unfold arrV
  congr 2
  funext j
  show Value.long (lI (f ((j.val : Nat) : Int))) = Value.long (lI (g ((j.val : Nat) : Int)))
  rw [h ((j.val : Nat) : Int) (by omega) (by have := j.isLt; omega)]
theorem gP_eI {D : va_G} {cl : List vw_C} {ad : Nat → Nat} {w : Nat → Option va_E} {H : Heap} {r : Nat} {cA : ClassId} {n : Nat} {f g : Int → Int} (hP : gP D cl ad (up w r (eI cA n f)) H) (h : ∀ j : Int, 0 ≤ j → j < n → f j = g j) : gP D cl ad (up w r (eI cA n g)) H := by
  intro q x hx
  by_cases hq : q = r
  · subst hq
    rw [up_s] at hx
    cases hx
    have := hP q _ (up_s _ _ _)
    show H[ad q]? = some (vp_cell _ _)
    rw [← eI_congr h]
    exact this
  · exact hP q x (by unfold up at hx ⊢; rw [if_neg hq] at hx ⊢; exact hx)
theorem gP_eJ {D : va_G} {cl : List vw_C} {ad : Nat → Nat} {w : Nat → Option va_E} {H : Heap} {r : Nat} {cA : ClassId} {n : Nat} {f g : Int → Int} (hP : gP D cl ad (up w r (eJ cA n f)) H) (h : ∀ j : Int, 0 ≤ j → j < n → f j = g j) : gP D cl ad (up w r (eJ cA n g)) H := by
  intro q x hx
  by_cases hq : q = r
  · subst hq
    rw [up_s] at hx
    cases hx
    have := hP q _ (up_s _ _ _)
    show H[ad q]? = some (vp_cell _ _)
    rw [← eJ_congr h]
    exact this
  · exact hP q x (by unfold up at hx ⊢; rw [if_neg hq] at hx ⊢; exact hx)
theorem gD_re {A : Nat → Prop} {ad : Nat → Nat} {w : Nat → Option va_E} {r : Nat} {x y : va_E} (hD : gD A ad (up w r x)) : gD A ad (up w r y) := by
  have e : up w r y = up (up w r x) r y := (up_up _ _ _ _).symm
  rw [e]
  exact hD.set (up_s _ _ _)
/-- the days between a and b, up to m, filled -/
def flF (F : Int → Int) (a b m : Int) : Int → Int := fun j => if a < j ∧ j < m then F a + Int.tdiv ((F b - F a) * (j - a)) (b - a) else F j
def flS (S : Int → Int) (a m : Int) : Int → Int := fun j => if a < j ∧ j < m then 3 else S j
theorem flF_0 (F : Int → Int) (a b : Int) : flF F a b (a + 1) = F := by
  funext j
  unfold flF
  rw [if_neg (by omega)]
theorem flS_0 (S : Int → Int) (a : Int) : flS S a (a + 1) = S := by
  funext j
  unfold flS
  rw [if_neg (by omega)]
theorem flF_s (F : Int → Int) {a b m : Int} (h : a < m) : updI (flF F a b m) m (F a + Int.tdiv ((F b - F a) * (m - a)) (b - a)) = flF F a b (m + 1) := by
  funext j
  unfold updI flF
  by_cases h1 : j = m
  · subst h1
    rw [if_pos rfl, if_pos (by omega)]
  · rw [if_neg h1]
    by_cases h2 : a < j ∧ j < m
    · rw [if_pos h2, if_pos (by omega)]
    · rw [if_neg h2, if_neg (by omega)]
theorem flS_s (S : Int → Int) {a m : Int} (h : a < m) : updI (flS S a m) m 3 = flS S a (m + 1) := by
  funext j
  unfold updI flS
  by_cases h1 : j = m
  · subst h1
    rw [if_pos rfl, if_pos (by omega)]
  · rw [if_neg h1]
    by_cases h2 : a < j ∧ j < m
    · rw [if_pos h2, if_pos (by omega)]
    · rw [if_neg h2, if_neg (by omega)]
theorem flF_b {F : Int → Int} {a b m : Int} (h : ∀ j : Int, -1 ≤ F j ∧ F j ≤ 1000000000000) (hb : m ≤ b) : ∀ j : Int, -1 ≤ flF F a b m j ∧ flF F a b m j ≤ 1000000000000 := by
  intro j
  unfold flF
  by_cases h2 : a < j ∧ j < m
  · rw [if_pos h2]
    have b4 := itp_bd (D := F b - F a) (x := j - a) (y := b - a) (by omega) (by omega)
    have := h a
    have := h b
    omega
  · rw [if_neg h2]
    exact h j
theorem flS_b {S : Int → Int} {a m : Int} (h : ∀ j : Int, 0 ≤ S j ∧ S j ≤ 3) : ∀ j : Int, 0 ≤ flS S a m j ∧ flS S a m j ≤ 3 := by
  intro j
  unfold flS
  by_cases h2 : a < j ∧ j < m
  · rw [if_pos h2]
    omega
  · rw [if_neg h2]
    exact h j
def tbOk (F S : Int → Int) : Prop := (∀ j : Int, -1 ≤ F j ∧ F j ≤ 1000000000000) ∧ (∀ j : Int, 0 ≤ S j ∧ S j ≤ 3) ∧ (∀ j : Int, S j ≠ 0 → 0 ≤ F j) ∧ ∀ j : Int, S j = 0 → F j = -1
theorem fg_none {F S G T : Int → Int} {lim d : Int} (h : ∀ j : Int, 0 ≤ j → j < d → S j = 0) (hU : ∀ j : Int, S j = 0 → F j = -1) (hd : S d ≠ 0) (hd2 : d < 400) (iU : ∀ j : Int, 0 ≤ j → j < 400 → G j = F j ∧ T j = S j) : ∀ j : Int, 0 ≤ j → j ≤ d → finP F S lim j (G j) (T j) := by
  intro j h1 h2
  obtain ⟨e1, e2⟩ := iU j h1 (by omega)
  rcases Int.lt_or_le j d with h3 | h3
  · have h4 := h j h1 h3
    refine Or.inr ⟨h4, Or.inr ⟨fun a b g => ?_, by rw [e1, hU j h4], by rw [e2, h4]⟩⟩
    exact absurd (h a g.1 (by have := g.2.1; omega)) g.2.2.2.2.1
  · have h5 : j = d := by omega
    subst h5
    exact Or.inl ⟨hd, e1, e2⟩
theorem fg_long {F S G T : Int → Int} {lim d a : Int} (ha : 0 ≤ a ∧ a < d) (hSa : S a ≠ 0) (iN : ∀ j : Int, a < j → j < d → S j = 0) (hU : ∀ j : Int, S j = 0 → F j = -1) (hd : S d ≠ 0) (hd2 : d < 400) (hl : lim < d - a - 1) (iU : ∀ j : Int, a < j → j < 400 → G j = F j ∧ T j = S j) (iF : ∀ j : Int, 0 ≤ j → j ≤ a → finP F S lim j (G j) (T j)) : ∀ j : Int, 0 ≤ j → j ≤ d → finP F S lim j (G j) (T j) := by
  intro j h1 h2
  rcases Int.lt_or_le a j with h0 | h0
  · obtain ⟨e1, e2⟩ := iU j h0 (by omega)
    rcases Int.lt_or_le j d with h3 | h3
    · have h4 := iN j h0 h3
      refine Or.inr ⟨h4, Or.inr ⟨fun p q g => ?_, by rw [e1, hU j h4], by rw [e2, h4]⟩⟩
      obtain ⟨rfl, rfl⟩ := gapP_one g (⟨ha.1, h0, h3, hd2, hSa, hd, fun i h5 h6 => iN i h5 h6⟩ : gapP S j a d)
      exact hl
    · have h5 : j = d := by omega
      subst h5
      exact Or.inl ⟨hd, e1, e2⟩
  · exact iF j h1 h0
theorem fg_fill {F S G T : Int → Int} {lim d a : Int} (ha : 0 ≤ a ∧ a < d) (hSa : S a ≠ 0) (iN : ∀ j : Int, a < j → j < d → S j = 0) (hd : S d ≠ 0) (hd2 : d < 400) (hl : d - a - 1 ≤ lim) (iU : ∀ j : Int, a < j → j < 400 → G j = F j ∧ T j = S j) (iF : ∀ j : Int, 0 ≤ j → j ≤ a → finP F S lim j (G j) (T j)) : ∀ j : Int, 0 ≤ j → j ≤ d → finP F S lim j (flF G a d d j) (flS T a d j) := by
  intro j h1 h2
  have eGd := (iU d ha.2 hd2).1
  have eGa : G a = F a := by
    rcases iF a ha.1 (Int.le_refl _) with ⟨-, e, -⟩ | ⟨e, -⟩
    · exact e
    · exact absurd e hSa
  unfold flF flS
  rcases Int.lt_or_le a j with h0 | h0
  · rcases Int.lt_or_le j d with h3 | h3
    · rw [if_pos ⟨h0, h3⟩, if_pos ⟨h0, h3⟩, eGd, eGa]
      exact Or.inr ⟨iN j h0 h3, Or.inl ⟨a, d, ⟨ha.1, h0, h3, hd2, hSa, hd, fun i h5 h6 => iN i h5 h6⟩, hl, rfl, rfl⟩⟩
    · have h5 : j = d := by omega
      subst h5
      obtain ⟨e1, e2⟩ := iU j h0 hd2
      rw [if_neg (by omega), if_neg (by omega)]
      exact Or.inl ⟨hd, e1, e2⟩
  · rw [if_neg (by omega), if_neg (by omega)]
    exact iF j h1 h0
theorem fg_end {F S G T : Int → Int} {lim a : Int} (ha : a < 400) (iN : ∀ j : Int, a < j → 0 ≤ j → j < 400 → S j = 0) (hU : ∀ j : Int, S j = 0 → F j = -1) (iU : ∀ j : Int, a < j → 0 ≤ j → j < 400 → G j = F j ∧ T j = S j) (iF : ∀ j : Int, 0 ≤ j → j ≤ a → finP F S lim j (G j) (T j)) : ∀ j : Int, 0 ≤ j → j < 400 → finP F S lim j (G j) (T j) := by
  intro j h1 h2
  rcases Int.lt_or_le a j with h0 | h0
  · have h4 := iN j h0 h1 h2
    obtain ⟨e1, e2⟩ := iU j h0 h1 h2
    refine Or.inr ⟨h4, Or.inr ⟨fun p q g => ?_, by rw [e1, hU j h4], by rw [e2, h4]⟩⟩
    obtain ⟨g1, g2, g3, g4, g5, g6, g7⟩ := g
    exact absurd (iN q (by omega) (by omega) g4) g6
  · exact iF j h1 h0
theorem finP_ex (F S : Int → Int) (lim j : Int) : ∃ v t : Int, finP F S lim j v t := by
  by_cases h1 : S j = 0
  · by_cases h2 : ∃ a b : Int, gapP S j a b ∧ b - a - 1 ≤ lim
    · obtain ⟨a, b, h3, h4⟩ := h2
      exact ⟨_, _, Or.inr ⟨h1, Or.inl ⟨a, b, h3, h4, rfl, rfl⟩⟩⟩
    · exact ⟨_, _, Or.inr ⟨h1, Or.inr ⟨fun a b g => by
        rcases Int.lt_or_le lim (b - a - 1) with h5 | h5
        · exact h5
        · exact absurd ⟨a, b, g, h5⟩ h2, rfl, rfl⟩⟩⟩
  · exact ⟨_, _, Or.inl ⟨h1, rfl, rfl⟩⟩
theorem finP_is (F S : Int → Int) (lim j : Int) : finP F S lim j (finF F S lim j) (finS F S lim j) := by
  obtain ⟨v, t, h⟩ := finP_ex F S lim j
  have e := finP_sp h
  rw [← e.1, ← e.2]
  exact h
theorem tbOk_fin {F S : Int → Int} (lim : Int) (h : tbOk F S) : tbOk (finF F S lim) (finS F S lim) := by
  have key : ∀ j : Int, (-1 ≤ finF F S lim j ∧ finF F S lim j ≤ 1000000000000) ∧ (0 ≤ finS F S lim j ∧ finS F S lim j ≤ 3) ∧ (finS F S lim j ≠ 0 → 0 ≤ finF F S lim j) ∧ (finS F S lim j = 0 → finF F S lim j = -1) := by
    intro j
    have hj := finP_is F S lim j
    generalize finF F S lim j = v at hj ⊢
    generalize finS F S lim j = t at hj ⊢
    rcases hj with ⟨a1, rfl, rfl⟩ | ⟨a1, ⟨p, q, a2, a3, rfl, rfl⟩ | ⟨a2, rfl, rfl⟩⟩
    · exact ⟨h.1 j, h.2.1 j, h.2.2.1 j, h.2.2.2 j⟩
    · obtain ⟨g1, g2, g3, g4, g5, g6, g7⟩ := a2
      have b1 := itp_bd (D := F q - F p) (x := j - p) (y := q - p) (by omega) (by omega)
      have b2 := h.1 p
      have b3 := h.1 q
      have b4 := h.2.2.1 p g5
      have b5 := h.2.2.1 q g6
      refine ⟨by omega, by omega, fun _ => by omega, fun z => by omega⟩
    · exact ⟨by omega, by omega, fun z => by omega, fun _ => rfl⟩
  exact ⟨fun j => (key j).1, fun j => (key j).2.1, fun j => (key j).2.2.1, fun j => (key j).2.2.2⟩
theorem tb_canon {D : va_G} {cl : List vw_C} {A : Nat → Prop} {ad : Nat → Nat} {w : Nat → Option va_E} {H : Heap} {r1 r2 : Nat} {c1 c2 : ClassId} {F S G T : Int → Int} {lim : Int} (h12 : r1 ≠ r2) (hP : gP D cl ad (up (up w r1 (eJ c1 400 G)) r2 (eI c2 400 T)) H) (hD : gD A ad (up (up w r1 (eJ c1 400 G)) r2 (eI c2 400 T))) (h : ∀ j : Int, 0 ≤ j → j < 400 → finP F S lim j (G j) (T j)) :
    gP D cl ad (up (up w r1 (eJ c1 400 (finF F S lim))) r2 (eI c2 400 (finS F S lim))) H ∧ gD A ad (up (up w r1 (eJ c1 400 (finF F S lim))) r2 (eI c2 400 (finS F S lim))) := by
  have a1 := gP_eI hP (g := finS F S lim) (fun j h1 h2 => (finP_sp (h j h1 (by omega))).2)
  rw [up_co _ _ _ h12] at a1
  have a2 := gP_eJ a1 (g := finF F S lim) (fun j h1 h2 => (finP_sp (h j h1 (by omega))).1)
  rw [← up_co _ _ _ h12] at a2
  have b1 : gD A ad (up (up w r1 (eJ c1 400 G)) r2 (eI c2 400 (finS F S lim))) := gD_re hD
  rw [up_co _ _ _ h12] at b1
  have b2 : gD A ad (up (up w r2 (eI c2 400 (finS F S lim))) r1 (eJ c1 400 (finF F S lim))) := gD_re b1
  rw [← up_co _ _ _ h12] at b2
  exact ⟨a2, b2⟩
/-! what is told of some days -/
def cntT (S : Int → Int) (fr : Int) : Nat → Int
  | 0 => 0
  | k + 1 => cntT S fr k + (if S (fr + k) ≠ 0 then 1 else 0)
def sumT (F S : Int → Int) (fr : Int) : Nat → Int
  | 0 => 0
  | k + 1 => sumT F S fr k + (if S (fr + k) ≠ 0 then F (fr + k) else 0)
theorem cntT_s (S : Int → Int) {fr d : Int} (h : fr ≤ d) : cntT S fr (d + 1 - fr).toNat = cntT S fr (d - fr).toNat + (if S d ≠ 0 then 1 else 0) := by
  rw [show (d + 1 - fr).toNat = (d - fr).toNat + 1 by omega]
  unfold cntT
  rw [show fr + (((d - fr).toNat : Nat) : Int) = d by omega]
  cases (d - fr).toNat <;> rfl
theorem sumT_s (F S : Int → Int) {fr d : Int} (h : fr ≤ d) : sumT F S fr (d + 1 - fr).toNat = sumT F S fr (d - fr).toNat + (if S d ≠ 0 then F d else 0) := by
  rw [show (d + 1 - fr).toNat = (d - fr).toNat + 1 by omega]
  unfold sumT
  rw [show fr + (((d - fr).toNat : Nat) : Int) = d by omega]
  cases (d - fr).toNat <;> rfl
theorem cntT_b (S : Int → Int) (fr : Int) : ∀ k : Nat, 0 ≤ cntT S fr k ∧ cntT S fr k ≤ k
  | 0 => by simp [cntT]
  | k + 1 => by
    have := cntT_b S fr k
    unfold cntT
    by_cases h : S (fr + k) ≠ 0
    · rw [if_pos h]
      omega
    · rw [if_neg h]
      omega
/-- the first day with the greatest flow among the days fr to d - 1 -/
def gdP (F S : Int → Int) (fr d g : Int) : Prop := (g = -1 ∧ ∀ j : Int, fr ≤ j → j < d → S j = 0) ∨ (fr ≤ g ∧ g < d ∧ S g ≠ 0 ∧ ∀ j : Int, fr ≤ j → j < d → S j ≠ 0 → F j ≤ F g ∧ (j < g → F j < F g))
theorem gdP_one {F S : Int → Int} {fr d g k : Int} (hf : 0 ≤ fr) (a : gdP F S fr d g) (b : gdP F S fr d k) : g = k := by
  rcases a with ⟨rfl, a1⟩ | ⟨a1, a2, a3, a4⟩ <;> rcases b with ⟨rfl, b1⟩ | ⟨b1, b2, b3, b4⟩
  · rfl
  · exact absurd (a1 k b1 b2) b3
  · exact absurd (b1 g a1 a2) a3
  · have c1 := a4 k b1 b2 b3
    have c2 := b4 g a1 a2 a3
    rcases Int.lt_trichotomy g k with e | e | e
    · have := c2.2 e
      omega
    · exact e
    · have := c1.2 e
      omega
theorem gdP_no {F S : Int → Int} {fr d g : Int} (h : gdP F S fr d g) (hS : S d = 0) : gdP F S fr (d + 1) g := by
  rcases h with ⟨rfl, a1⟩ | ⟨a1, a2, a3, a4⟩
  · refine Or.inl ⟨rfl, fun j h1 h2 => ?_⟩
    rcases Int.lt_or_le j d with h3 | h3
    · exact a1 j h1 h3
    · rw [show j = d by omega]
      exact hS
  · refine Or.inr ⟨a1, by omega, a3, fun j h1 h2 h4 => ?_⟩
    rcases Int.lt_or_le j d with h3 | h3
    · exact a4 j h1 h3 h4
    · rw [show j = d by omega] at h4
      exact absurd hS h4
theorem gdP_le {F S : Int → Int} {fr d g : Int} (h : gdP F S fr d g) (hg : g ≠ -1) (hF : F d ≤ F g) : gdP F S fr (d + 1) g := by
  rcases h with ⟨rfl, a1⟩ | ⟨a1, a2, a3, a4⟩
  · exact absurd rfl hg
  · refine Or.inr ⟨a1, by omega, a3, fun j h1 h2 h4 => ?_⟩
    rcases Int.lt_or_le j d with h3 | h3
    · exact a4 j h1 h3 h4
    · rw [show j = d by omega]
      exact ⟨hF, fun z => by omega⟩
theorem gdP_gt {F S : Int → Int} {fr d g : Int} (hf : 0 ≤ fr) (hd : fr ≤ d) (h : gdP F S fr d g) (hS : S d ≠ 0) (hF : g = -1 ∨ F g < F d) : gdP F S fr (d + 1) d := by
  refine Or.inr ⟨hd, by omega, hS, fun j h1 h2 h4 => ?_⟩
  rcases Int.lt_or_le j d with h3 | h3
  · rcases h with ⟨rfl, a1⟩ | ⟨a1, a2, a3, a4⟩
    · exact absurd (a1 j h1 h3) h4
    · have := (a4 j h1 h3 h4).1
      rcases hF with hF | hF
      · have := a4 g a1 a2 a3
        omega
      · exact ⟨by omega, fun _ => by omega⟩
  · rw [show j = d by omega]
    exact ⟨Int.le_refl _, fun z => by omega⟩
/-- the least flow -/
def lfP (F S : Int → Int) (fr d v : Int) : Prop := (v = -1 ∧ ∀ j : Int, fr ≤ j → j < d → S j = 0) ∨ (∃ g : Int, fr ≤ g ∧ g < d ∧ S g ≠ 0 ∧ v = F g ∧ ∀ j : Int, fr ≤ j → j < d → S j ≠ 0 → v ≤ F j)
theorem lfP_one {F S : Int → Int} {fr d v u : Int} (a : lfP F S fr d v) (b : lfP F S fr d u) : v = u := by
  rcases a with ⟨rfl, a1⟩ | ⟨g, a1, a2, a3, rfl, a4⟩ <;> rcases b with ⟨rfl, b1⟩ | ⟨k, b1, b2, b3, rfl, b4⟩
  · rfl
  · exact absurd (a1 k b1 b2) b3
  · exact absurd (b1 g a1 a2) a3
  · have c1 := a4 k b1 b2 b3
    have c2 := b4 g a1 a2 a3
    omega
theorem lfP_no {F S : Int → Int} {fr d v : Int} (h : lfP F S fr d v) (hS : S d = 0) : lfP F S fr (d + 1) v := by
  rcases h with ⟨rfl, a1⟩ | ⟨g, a1, a2, a3, rfl, a4⟩
  · refine Or.inl ⟨rfl, fun j h1 h2 => ?_⟩
    rcases Int.lt_or_le j d with h3 | h3
    · exact a1 j h1 h3
    · rw [show j = d by omega]
      exact hS
  · refine Or.inr ⟨g, a1, by omega, a3, rfl, fun j h1 h2 h4 => ?_⟩
    rcases Int.lt_or_le j d with h3 | h3
    · exact a4 j h1 h3 h4
    · rw [show j = d by omega] at h4
      exact absurd hS h4
theorem lfP_ge {F S : Int → Int} {fr d v : Int} (h : lfP F S fr d v) (hv : v ≠ -1) (hF : v ≤ F d) : lfP F S fr (d + 1) v := by
  rcases h with ⟨rfl, a1⟩ | ⟨g, a1, a2, a3, rfl, a4⟩
  · exact absurd rfl hv
  · refine Or.inr ⟨g, a1, by omega, a3, rfl, fun j h1 h2 h4 => ?_⟩
    rcases Int.lt_or_le j d with h3 | h3
    · exact a4 j h1 h3 h4
    · rw [show j = d by omega]
      exact hF
theorem lfP_lt {F S : Int → Int} {fr d v : Int} (hd : fr ≤ d) (h : lfP F S fr d v) (hS : S d ≠ 0) (hF : v = -1 ∨ F d < v) (hp : ∀ j : Int, S j ≠ 0 → 0 ≤ F j) : lfP F S fr (d + 1) (F d) := by
  refine Or.inr ⟨d, hd, by omega, hS, rfl, fun j h1 h2 h4 => ?_⟩
  rcases Int.lt_or_le j d with h3 | h3
  · rcases h with ⟨rfl, a1⟩ | ⟨g, a1, a2, a3, rfl, a4⟩
    · exact absurd (a1 j h1 h3) h4
    · have := a4 j h1 h3 h4
      have := hp g a3
      omega
  · rw [show j = d by omega]
    exact Int.le_refl _
/-- the spell that ends ahead of the day k, and the longest so far -/
def runT (F S : Int → Int) (lm : Int) : Nat → Int
  | 0 => 0
  | k + 1 => if S k ≠ 0 ∧ F k < lm then runT F S lm k + 1 else 0
def lngT (F S : Int → Int) (lm : Int) : Nat → Int
  | 0 => 0
  | k + 1 => max (lngT F S lm k) (runT F S lm (k + 1))
theorem runT_s (F S : Int → Int) (lm : Int) {d : Int} (h : 0 ≤ d) : runT F S lm (d + 1).toNat = if S d ≠ 0 ∧ F d < lm then runT F S lm d.toNat + 1 else 0 := by
  rw [show (d + 1).toNat = d.toNat + 1 by omega]
  conv => lhs; unfold runT
  rw [show ((d.toNat : Nat) : Int) = d by omega]
theorem lngT_s (F S : Int → Int) (lm : Int) {d : Int} (h : 0 ≤ d) : lngT F S lm (d + 1).toNat = max (lngT F S lm d.toNat) (runT F S lm (d + 1).toNat) := by
  rw [show (d + 1).toNat = d.toNat + 1 by omega]
  conv => lhs; unfold lngT
theorem runT_b (F S : Int → Int) (lm : Int) : ∀ k : Nat, 0 ≤ runT F S lm k ∧ runT F S lm k ≤ k
  | 0 => by simp [runT]
  | k + 1 => by
    have := runT_b F S lm k
    unfold runT
    by_cases h : S k ≠ 0 ∧ F k < lm
    · rw [if_pos h]
      omega
    · rw [if_neg h]
      omega
theorem lngT_b (F S : Int → Int) (lm : Int) : ∀ k : Nat, 0 ≤ lngT F S lm k ∧ lngT F S lm k ≤ k
  | 0 => by simp [lngT]
  | k + 1 => by
    have := lngT_b F S lm k
    have := runT_b F S lm (k + 1)
    unfold lngT
    omega
/-! the curve of a day -/
def cnoF (cday : Int → Int) (d : Int) : Nat → Int
  | 0 => -1
  | k + 1 => if cday k ≤ d ∧ (cnoF cday d k = -1 ∨ cday (cnoF cday d k) < cday k) then (k : Int) else cnoF cday d k
theorem cnoF_b (cday : Int → Int) (d : Int) : ∀ k : Nat, -1 ≤ cnoF cday d k ∧ cnoF cday d k < k
  | 0 => by simp [cnoF]
  | k + 1 => by
    have := cnoF_b cday d k
    unfold cnoF
    by_cases h : cday k ≤ d ∧ (cnoF cday d k = -1 ∨ cday (cnoF cday d k) < cday k)
    · rw [if_pos h]
      omega
    · rw [if_neg h]
      omega
theorem cnoF_sp (cday : Int → Int) (d : Int) : ∀ k : Nat, (cnoF cday d k = -1 ∧ ∀ j : Int, 0 ≤ j → j < k → d < cday j) ∨ (cnoF cday d k ≠ -1 ∧ cday (cnoF cday d k) ≤ d ∧ ∀ j : Int, 0 ≤ j → j < k → cday j ≤ d → cday j ≤ cday (cnoF cday d k))
  | 0 => Or.inl ⟨rfl, fun j h1 h2 => by omega⟩
  | k + 1 => by
    have ih := cnoF_sp cday d k
    have hb := cnoF_b cday d k
    unfold cnoF
    by_cases h : cday k ≤ d ∧ (cnoF cday d k = -1 ∨ cday (cnoF cday d k) < cday k)
    · rw [if_pos h]
      refine Or.inr ⟨by omega, h.1, fun j h1 h2 h3 => ?_⟩
      rcases Int.lt_or_le j k with h4 | h4
      · rcases ih with ⟨a1, a2⟩ | ⟨a1, a2, a3⟩
        · have := a2 j h1 h4
          omega
        · have := a3 j h1 h4 h3
          omega
      · rw [show j = k by omega]
        exact Int.le_refl _
    · rw [if_neg h]
      rcases ih with ⟨a1, a2⟩ | ⟨a1, a2, a3⟩
      · refine Or.inl ⟨a1, fun j h1 h2 => ?_⟩
        rcases Int.lt_or_le j k with h4 | h4
        · exact a2 j h1 h4
        · rw [show j = k by omega]
          omega
      · refine Or.inr ⟨a1, a2, fun j h1 h2 h3 => ?_⟩
        rcases Int.lt_or_le j k with h4 | h4
        · exact a3 j h1 h4 h3
        · rw [show j = k by omega] at h3 ⊢
          omega
theorem cnoF_s (cday : Int → Int) (d : Int) {i : Int} (h : 0 ≤ i) : cnoF cday d (i + 1).toNat = if cday i ≤ d ∧ (cnoF cday d i.toNat = -1 ∨ cday (cnoF cday d i.toNat) < cday i) then i else cnoF cday d i.toNat := by
  rw [show (i + 1).toNat = i.toNat + 1 by omega]
  conv => lhs; unfold cnoF
  rw [show ((i.toNat : Nat) : Int) = i by omega]
theorem clP_ex (f : Int → Int) (v : Int) : ∀ u : Nat, ∃ k : Int, clP f u v k := by
  intro u
  induction u with
  | zero => exact ⟨0, by omega, by omega, fun j h1 h2 => by omega, fun z => by omega⟩
  | succ u ih =>
    obtain ⟨k, a1, a2, a3, a4⟩ := ih
    rcases Int.lt_or_le k u with h | h
    · exact ⟨k, a1, by omega, a3, fun _ => a4 h⟩
    · have e : k = u := by omega
      subst e
      rcases Int.lt_or_le (f u) v with h1 | h1
      · refine ⟨(u : Int) + 1, by omega, by omega, fun j g1 g2 => ?_, fun z => by omega⟩
        rcases Int.lt_or_le j u with g3 | g3
        · exact a3 j g1 g3
        · rw [show j = u by omega]
          exact h1
      · exact ⟨u, by omega, by omega, a3, fun _ => h1⟩
theorem sftP_ex (td tv : Int → Int) {tn : Int} (h : 0 ≤ tn) (d : Int) : ∃ z, sftP td tv tn d z := by
  obtain ⟨k, hk⟩ := clP_ex td d tn.toNat
  rw [show ((tn.toNat : Nat) : Int) = tn by omega] at hk
  rcases Int.lt_or_le 0 tn with h1 | h1
  · rcases Int.lt_or_le k tn with h2 | h2
    · rcases Int.lt_or_le 0 k with h3 | h3
      · exact ⟨_, Or.inr ⟨h1, k, hk, Or.inr (Or.inr ⟨h3, h2, rfl⟩)⟩⟩
      · have := hk.1
        exact ⟨_, Or.inr ⟨h1, k, hk, Or.inr (Or.inl ⟨by omega, h2, rfl⟩)⟩⟩
    · have := hk.2.1
      exact ⟨_, Or.inr ⟨h1, k, hk, Or.inl ⟨by omega, rfl⟩⟩⟩
  · exact ⟨0, Or.inl ⟨by omega, rfl⟩⟩
theorem sftF_bd {td tv : Int → Int} {tn : Int} (hn : 0 ≤ tn) (h : shOk td tv tn) (d : Int) : -200 ≤ sftF td tv tn d ∧ sftF td tv tn d ≤ 200 := by
  obtain ⟨z, hz⟩ := sftP_ex td tv hn d
  rw [← sftF_eq hz]
  exact sftP_bd h hz
/-! the book: numbers sc (0 curves, 1 shifts, 2 factor, 3 limit, 4 measurements) and rows fn (0, 1 days and values of shifts; 2 stages; 3 whether read; 4 ice; 5, 6, 7 measurements; 8, 9 curves' days and points; 20 + k, 30 + k a curve's stages and flows) -/
def bkInv (sc : Nat → Int) (fn : Nat → Int → Int) : Prop := ((0 ≤ sc 0 ∧ sc 0 ≤ 6) ∧ (0 ≤ sc 1 ∧ sc 1 ≤ 20) ∧ (0 ≤ sc 2 ∧ sc 2 ≤ 100) ∧ (0 ≤ sc 3 ∧ sc 3 ≤ 60) ∧ (0 ≤ sc 4 ∧ sc 4 ≤ 40)) ∧ shOk (fn 0) (fn 1) (sc 1) ∧ (∀ j : Int, -500 ≤ fn 2 j ∧ fn 2 j ≤ 2000) ∧ (∀ j : Int, 0 ≤ fn 3 j ∧ fn 3 j ≤ 1) ∧ (∀ j : Int, 0 ≤ fn 4 j ∧ fn 4 j ≤ 1) ∧ (∀ j : Int, 0 ≤ fn 5 j ∧ fn 5 j ≤ 399) ∧ (∀ j : Int, -500 ≤ fn 6 j ∧ fn 6 j ≤ 2000) ∧ (∀ j : Int, 0 ≤ fn 7 j ∧ fn 7 j ≤ 1000000) ∧ (∀ j : Int, 0 ≤ fn 8 j ∧ fn 8 j ≤ 399) ∧ (∀ j : Int, 0 ≤ fn 9 j ∧ fn 9 j ≤ 12) ∧ ∀ k : Nat, (k : Int) < sc 0 → cvOk (fn (20 + k)) (fn (30 + k)) (fn 9 k)
def cvno (sc : Nat → Int) (fn : Nat → Int → Int) (d : Int) : Int := cnoF (fn 8) d (sc 0).toNat
abbrev isTold (sc : Nat → Int) (fn : Nat → Int → Int) (d : Int) : Prop := fn 3 d ≠ 0 ∧ cvno sc fn d ≠ -1 ∧ 2 ≤ fn 9 (cvno sc fn d)
noncomputable def opF (sc : Nat → Int) (fn : Nat → Int → Int) (d : Int) : Int := flowF (fn (20 + (cvno sc fn d).toNat)) (fn (30 + (cvno sc fn d).toNat)) (fn 9 (cvno sc fn d)) (fn 2 d - sftF (fn 0) (fn 1) (sc 1) d)
noncomputable def tdF (sc : Nat → Int) (fn : Nat → Int → Int) (d : Int) : Int := if isTold sc fn d then (if fn 4 d ≠ 0 then Int.tdiv (opF sc fn d * sc 2) 100 else opF sc fn d) else -1
noncomputable def tdS (sc : Nat → Int) (fn : Nat → Int → Int) (d : Int) : Int := if isTold sc fn d then (if fn 4 d ≠ 0 then 2 else 1) else 0
theorem opF_bd {sc : Nat → Int} {fn : Nat → Int → Int} (h : bkInv sc fn) {d : Int} (hd : isTold sc fn d) : 0 ≤ opF sc fn d ∧ opF sc fn d ≤ 10000000000 := by
  obtain ⟨h1, h2, h3⟩ := hd
  have hb := cnoF_b (fn 8) d (sc 0).toNat
  have e : cnoF (fn 8) d (sc 0).toNat = cvno sc fn d := rfl
  rw [e] at hb
  have hs := sftF_bd h.1.2.1.1 h.2.1 d
  have hst := h.2.2.1 d
  have hc := h.2.2.2.2.2.2.2.2.2.2 (cvno sc fn d).toNat (by have := h.1.1; omega)
  rw [show (((cvno sc fn d).toNat : Nat) : Int) = cvno sc fn d by omega] at hc
  exact flow_bd hc h3 (by omega)
theorem tbOk_td {sc : Nat → Int} {fn : Nat → Int → Int} (h : bkInv sc fn) : tbOk (tdF sc fn) (tdS sc fn) := by
  have key : ∀ j : Int, (-1 ≤ tdF sc fn j ∧ tdF sc fn j ≤ 1000000000000) ∧ (0 ≤ tdS sc fn j ∧ tdS sc fn j ≤ 3) ∧ (tdS sc fn j ≠ 0 → 0 ≤ tdF sc fn j) ∧ (tdS sc fn j = 0 → tdF sc fn j = -1) := by
    intro j
    unfold tdF tdS
    by_cases h1 : isTold sc fn j
    · have hb := opF_bd h h1
      have h2 := h.1.2.2.1
      rw [if_pos h1, if_pos h1]
      by_cases h3 : fn 4 j ≠ 0
      · rw [if_pos h3, if_pos h3]
        have a1 := Int.mul_nonneg hb.1 h2.1
        have a2 : opF sc fn j * sc 2 ≤ 10000000000 * 100 := Int.mul_le_mul hb.2 h2.2 h2.1 (by omega)
        rw [tdiv_pos a1]
        omega
      · rw [if_neg h3, if_neg h3]
        omega
    · rw [if_neg h1, if_neg h1]
      omega
  exact ⟨fun j => (key j).1, fun j => (key j).2.1, fun j => (key j).2.2.1, fun j => (key j).2.2.2⟩
noncomputable def tbF (sc : Nat → Int) (fn : Nat → Int → Int) : Int → Int := finF (tdF sc fn) (tdS sc fn) (sc 3)
noncomputable def tbS (sc : Nat → Int) (fn : Nat → Int → Int) : Int → Int := finS (tdF sc fn) (tdS sc fn) (sc 3)
theorem tbOk_tb {sc : Nat → Int} {fn : Nat → Int → Int} (h : bkInv sc fn) : tbOk (tbF sc fn) (tbS sc fn) := tbOk_fin _ (tbOk_td h)
theorem cn_step {cday : Int → Int} {d i cn b e : Int} (hi : 0 ≤ i) (hin : i < cn) (iC : b = cnoF cday d (min i cn).toNat) (iE : (b = -1 ∧ e = -1) ∨ (0 ≤ b ∧ b < i ∧ b < cn ∧ e = cday b)) (hpos : 0 ≤ cday i) : (cday i ≤ d → e < cday i → i = cnoF cday d (min (i + 1) cn).toNat) ∧ (¬ (cday i ≤ d ∧ e < cday i) → b = cnoF cday d (min (i + 1) cn).toNat) := by
  rw [show min i cn = i by omega] at iC
  rw [show min (i + 1) cn = i + 1 by omega, cnoF_s cday d hi, ← iC]
  constructor
  · intro h1 h2
    rw [if_pos ⟨h1, by omega⟩]
  · intro h
    by_cases h1 : cday i ≤ d ∧ (b = -1 ∨ cday b < cday i)
    · exact absurd ⟨h1.1, by omega⟩ h
    · rw [if_neg h1]
