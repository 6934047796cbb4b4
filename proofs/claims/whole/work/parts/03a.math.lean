/-! the book's mathematics: curves -/
theorem tdiv_pos {a b : Int} (h : 0 ≤ a) : a.tdiv b = a / b := Int.tdiv_eq_ediv_of_nonneg h
/-- a piece of a curve -/
def segF (st fl : Int → Int) (k s : Int) : Int := fl k + Int.tdiv ((fl (k + 1) - fl k) * (s - st k)) (st (k + 1) - st k)
/-- a curve of n points: both rows rise, in their bounds -/
def cvOk (st fl : Int → Int) (n : Int) : Prop := (∀ i j : Int, 0 ≤ i → i < j → j < n → st i < st j) ∧ (∀ i j : Int, 0 ≤ i → i < j → j < n → fl i < fl j) ∧ (∀ j : Int, -500 ≤ st j ∧ st j ≤ 2000) ∧ ∀ j : Int, 0 ≤ fl j ∧ fl j ≤ 1000000
/-- z is the flow of a curve for the stage s -/
def flP (st fl : Int → Int) (n s z : Int) : Prop := (s < st 0 ∧ z = 0) ∨ (st 0 ≤ s ∧ ∃ k : Int, 0 ≤ k ∧ k + 2 ≤ n ∧ (k = 0 ∨ st k ≤ s) ∧ (k + 2 = n ∨ s ≤ st (k + 1)) ∧ z = segF st fl k s)
theorem seg_lo (st fl : Int → Int) (k : Int) : segF st fl k (st k) = fl k := by
  unfold segF
  rw [Int.sub_self, Int.mul_zero, Int.zero_tdiv, Int.add_zero]
theorem seg_hi (st fl : Int → Int) {k : Int} (h : st k < st (k + 1)) : segF st fl k (st (k + 1)) = fl (k + 1) := by
  unfold segF
  rw [Int.mul_tdiv_cancel _ (by omega)]
  omega
theorem flP_lt {st fl : Int → Int} {n s k j : Int} (h : cvOk st fl n) (hk : 0 ≤ k) (hj : j + 2 ≤ n) (hkj : k < j) (h1 : k + 2 = n ∨ s ≤ st (k + 1)) (h2 : j = 0 ∨ st j ≤ s) : segF st fl k s = segF st fl j s := by
  have a1 : s ≤ st (k + 1) := by
    rcases h1 with h1 | h1
    · omega
    · exact h1
  have a2 : st j ≤ s := by
    rcases h2 with h2 | h2
    · omega
    · exact h2
  have a3 : j = k + 1 := by
    rcases Int.lt_or_le (k + 1) j with h3 | h3
    · have := h.1 (k + 1) j (by omega) h3 (by omega)
      omega
    · omega
  subst a3
  have a4 : s = st (k + 1) := by omega
  subst a4
  rw [seg_hi st fl (h.1 k (k + 1) hk (by omega) (by omega)), seg_lo]
theorem flP_one {st fl : Int → Int} {n s z y : Int} (h : cvOk st fl n) (a : flP st fl n s z) (b : flP st fl n s y) : z = y := by
  rcases a with ⟨a1, rfl⟩ | ⟨a1, k, a2, a3, a4, a5, rfl⟩ <;> rcases b with ⟨b1, rfl⟩ | ⟨b1, j, b2, b3, b4, b5, rfl⟩
  · rfl
  · omega
  · omega
  · rcases Int.lt_trichotomy k j with h1 | h1 | h1
    · exact flP_lt h a2 b3 h1 a5 b4
    · rw [h1]
    · exact (flP_lt h b2 a3 h1 b5 a4).symm
noncomputable def flowF (st fl : Int → Int) (n s : Int) : Int := Classical.epsilon (flP st fl n s)
theorem flowF_eq {st fl : Int → Int} {n s z : Int} (h : cvOk st fl n) (a : flP st fl n s z) : z = flowF st fl n s := flP_one h a (Classical.epsilon_spec ⟨z, a⟩)
/-- the last place before m with a property that holds at 0 -/
theorem last_le (p : Int → Prop) (hp : ∀ j : Int, p j ∨ ¬ p j) : ∀ m : Nat, p 0 → ∃ k : Int, 0 ≤ k ∧ k ≤ m ∧ p k ∧ ∀ j : Int, k < j → j ≤ m → ¬ p j := by
  intro m
  induction m with
  | zero => exact fun h => ⟨0, by omega, by omega, h, fun j h1 h2 => by omega⟩
  | succ m ih =>
    intro h
    rcases hp ((m : Int) + 1) with h1 | h1
    · exact ⟨(m : Int) + 1, by omega, by omega, h1, fun j h2 h3 => by omega⟩
    · obtain ⟨k, k1, k2, k3, k4⟩ := ih h
      refine ⟨k, k1, by omega, k3, fun j h2 h3 => ?_⟩
      rcases Int.lt_or_le (m : Int) j with h4 | h4
      · rw [show j = (m : Int) + 1 by omega]
        exact h1
      · exact k4 j h2 h4
theorem flP_ex {st : Int → Int} (fl : Int → Int) {n s : Int} (hn : 2 ≤ n) (h0 : st 0 ≤ s) : ∃ k : Int, 0 ≤ k ∧ k + 2 ≤ n ∧ st k ≤ s ∧ (k + 2 = n ∨ s < st (k + 1)) := by
  obtain ⟨k, k1, k2, k3, k4⟩ := last_le (fun j => st j ≤ s) (fun j => Int.lt_or_le s (st j) |>.elim (fun h => Or.inr (by omega)) (fun h => Or.inl h)) (n - 2).toNat h0
  refine ⟨k, k1, by omega, k3, ?_⟩
  rcases Int.lt_or_le (k + 2) n with h1 | h1
  · have := k4 (k + 1) (by omega) (by omega)
    exact Or.inr (by omega)
  · exact Or.inl (by omega)
theorem flow_seg {st fl : Int → Int} {n s k : Int} (h : cvOk st fl n) (h0 : st 0 ≤ s) (k0 : 0 ≤ k) (k2 : k + 2 ≤ n) (k3 : k = 0 ∨ st k ≤ s) (k4 : k + 2 = n ∨ s ≤ st (k + 1)) : flowF st fl n s = segF st fl k s :=
  (flowF_eq h (Or.inr ⟨h0, k, k0, k2, k3, k4, rfl⟩)).symm
theorem flow_low {st fl : Int → Int} {n s : Int} (h : cvOk st fl n) (h0 : s < st 0) : flowF st fl n s = 0 := (flowF_eq h (Or.inl ⟨h0, rfl⟩)).symm
theorem seg_ge {st fl : Int → Int} {k s : Int} (h1 : st k < st (k + 1)) (h2 : fl k < fl (k + 1)) (h3 : st k ≤ s) : segF st fl k s = fl k + (fl (k + 1) - fl k) * (s - st k) / (st (k + 1) - st k) ∧ fl k ≤ segF st fl k s := by
  have e := tdiv_pos (b := st (k + 1) - st k) (Int.mul_nonneg (show 0 ≤ fl (k + 1) - fl k by omega) (show 0 ≤ s - st k by omega))
  have e2 := Int.ediv_nonneg (Int.mul_nonneg (show 0 ≤ fl (k + 1) - fl k by omega) (show 0 ≤ s - st k by omega)) (show 0 ≤ st (k + 1) - st k by omega)
  unfold segF
  rw [e]
  exact ⟨rfl, by omega⟩
theorem seg_le {st fl : Int → Int} {k s : Int} (h1 : st k < st (k + 1)) (h2 : fl k < fl (k + 1)) (h3 : st k ≤ s) (h4 : s ≤ st (k + 1)) : segF st fl k s ≤ fl (k + 1) := by
  rw [(seg_ge h1 h2 h3).1]
  have h5 : (fl (k + 1) - fl k) * (s - st k) / (st (k + 1) - st k) ≤ fl (k + 1) - fl k := by
    apply Int.ediv_le_of_le_mul (by omega)
    exact Int.mul_le_mul_of_nonneg_left (by omega) (by omega)
  omega
theorem flow_bd {st fl : Int → Int} {n s : Int} (h : cvOk st fl n) (hn : 2 ≤ n) (hs : s ≤ 5000) : 0 ≤ flowF st fl n s ∧ flowF st fl n s ≤ 10000000000 := by
  rcases Int.lt_or_le s (st 0) with h0 | h0
  · rw [flow_low h h0]
    omega
  · obtain ⟨k, k1, k2, k3, k4⟩ := flP_ex fl hn h0
    rw [flow_seg h h0 k1 k2 (Or.inr k3) (k4.imp id (fun z => by omega))]
    have a1 := h.1 k (k + 1) k1 (by omega) (by omega)
    have a2 := h.2.1 k (k + 1) k1 (by omega) (by omega)
    have a3 := h.2.2.1 k
    have a4 := h.2.2.2 k
    have a5 := h.2.2.2 (k + 1)
    obtain ⟨e, e2⟩ := seg_ge a1 a2 k3
    refine ⟨by omega, ?_⟩
    rw [e]
    have b1 : (fl (k + 1) - fl k) * (s - st k) ≤ 1000000 * 5500 := Int.mul_le_mul (by omega) (by omega) (by omega) (by omega)
    have b2 : (fl (k + 1) - fl k) * (s - st k) / (st (k + 1) - st k) ≤ (fl (k + 1) - fl k) * (s - st k) := Int.ediv_le_self _ (Int.mul_nonneg (by omega) (by omega))
    omega
/-- the first stage for a flow -/
def stP (st fl : Int → Int) (n q z : Int) : Prop := (fl (n - 1) < q ∧ z = -9999) ∨ (q ≤ fl (n - 1) ∧ st 0 ≤ z ∧ q ≤ flowF st fl n z ∧ ∀ x : Int, st 0 ≤ x → x < z → flowF st fl n x < q)
theorem stP_one {st fl : Int → Int} {n q z y : Int} (a : stP st fl n q z) (b : stP st fl n q y) : z = y := by
  rcases a with ⟨a1, rfl⟩ | ⟨a1, a2, a3, a4⟩ <;> rcases b with ⟨b1, rfl⟩ | ⟨b1, b2, b3, b4⟩
  · rfl
  · omega
  · omega
  · rcases Int.lt_trichotomy z y with h1 | h1 | h1
    · have := b4 z a2 h1
      omega
    · exact h1
    · have := a4 y b2 h1
      omega
noncomputable def stageF (st fl : Int → Int) (n q : Int) : Int := Classical.epsilon (stP st fl n q)
theorem stageF_eq {st fl : Int → Int} {n q z : Int} (a : stP st fl n q z) : z = stageF st fl n q := stP_one a (Classical.epsilon_spec ⟨z, a⟩)
theorem stageF_sp {st fl : Int → Int} {n q z : Int} (a : stP st fl n q z) : stP st fl n q (stageF st fl n q) := Classical.epsilon_spec ⟨z, a⟩
theorem flow_le {st fl : Int → Int} {n x j : Int} (h : cvOk st fl n) (h0 : st 0 ≤ x) (hj : 1 ≤ j) (hjn : j < n) (hx : x ≤ st j) : flowF st fl n x ≤ fl j := by
  obtain ⟨k, k1, k2, k3, k4⟩ := flP_ex fl (show 2 ≤ n by omega) h0
  rw [flow_seg h h0 k1 k2 (Or.inr k3) (k4.imp id (fun z => by omega))]
  have a1 := h.1 k (k + 1) k1 (by omega) (by omega)
  have a2 := h.2.1 k (k + 1) k1 (by omega) (by omega)
  rcases Int.lt_or_le j k with h1 | h1
  · have := h.1 j k (by omega) h1 (by omega)
    omega
  · rcases Int.lt_or_le k j with h2 | h2
    · have h3 : x ≤ st (k + 1) := by
        rcases Int.lt_or_le (k + 1) j with h4 | h4
        · rcases k4 with h5 | h5
          · omega
          · omega
        · rw [show k + 1 = j by omega]
          exact hx
      have h6 := seg_le a1 a2 k3 h3
      rcases Int.lt_or_le (k + 1) j with h4 | h4
      · have := h.2.1 (k + 1) j (by omega) h4 hjn
        omega
      · rw [show j = k + 1 by omega]
        exact h6
    · have h7 : j = k := by omega
      subst h7
      rw [show x = st j by omega, seg_lo]
      omega
/-- the class's way to the first stage: by a division that is rounded up -/
theorem stP_up {st fl : Int → Int} {n q k : Int} (h : cvOk st fl n) (hk : 1 ≤ k) (hkn : k < n) (h1 : fl (k - 1) < q) (h2 : q ≤ fl k) :
    stP st fl n q (st (k - 1) + ((q - fl (k - 1)) * (st k - st (k - 1)) + (fl k - fl (k - 1)) - 1) / (fl k - fl (k - 1))) := by
  have a1 := h.1 (k - 1) k (by omega) (by omega) hkn
  have a2 := h.2.1 (k - 1) k (by omega) (by omega) hkn
  have ek : k - 1 + 1 = k := by omega
  have hln : q ≤ fl (n - 1) := by
    rcases Int.lt_or_le k (n - 1) with h3 | h3
    · have := h.2.1 k (n - 1) (by omega) h3 (by omega)
      omega
    · rw [show n - 1 = k by omega]
      exact h2
  obtain ⟨F, hF⟩ : ∃ F, F = fl k - fl (k - 1) := ⟨_, rfl⟩
  obtain ⟨S, hS⟩ : ∃ S, S = st k - st (k - 1) := ⟨_, rfl⟩
  obtain ⟨a, ha⟩ : ∃ a, a = q - fl (k - 1) := ⟨_, rfl⟩
  rw [← hF, ← hS, ← ha]
  obtain ⟨m, hm⟩ : ∃ m, m = (a * S + F - 1) / F := ⟨_, rfl⟩
  rw [← hm]
  have hF0 : 0 < F := by omega
  have hS0 : 0 < S := by omega
  have ha0 : 0 < a := by omega
  have haF : a ≤ F := by omega
  have e1 := Int.mul_ediv_add_emod (a * S + F - 1) F
  have e2 := Int.emod_nonneg (a * S + F - 1) (show F ≠ 0 by omega)
  have e3 := Int.emod_lt_of_pos (a * S + F - 1) hF0
  rw [← hm] at e1
  -- F * m is at least a * S, and F * (m - 1) is less
  have m1 : a * S ≤ F * m := by omega
  have m2 : F * m < a * S + F := by omega
  have aS : 0 < a * S := Int.mul_pos ha0 hS0
  have m0 : 0 < m := by
    rcases Int.lt_or_le 0 m with h3 | h3
    · exact h3
    · have := Int.mul_nonpos_of_nonneg_of_nonpos (show 0 ≤ F by omega) h3
      omega
  have mS : m ≤ S := by
    rcases Int.lt_or_le S m with h3 | h3
    · have b1 : F * (S + 1) ≤ F * m := Int.mul_le_mul_of_nonneg_left (by omega) (by omega)
      have b2 : a * S ≤ F * S := Int.mul_le_mul_of_nonneg_right haF (by omega)
      rw [Int.mul_add, Int.mul_one] at b1
      omega
    · exact h3
  have hst0 : st 0 ≤ st (k - 1) := by
    rcases Int.lt_or_le 0 (k - 1) with h3 | h3
    · have := h.1 0 (k - 1) (by omega) h3 (by omega)
      omega
    · rw [show k - 1 = 0 by omega]
      exact Int.le_refl _
  have key : ∀ x : Int, st (k - 1) ≤ x → x ≤ st k → flowF st fl n x = fl (k - 1) + F * (x - st (k - 1)) / S := by
    intro x hx1 hx2
    rw [flow_seg h (by omega) (show 0 ≤ k - 1 by omega) (by omega) (Or.inr hx1) (Or.inr (by rw [ek]; exact hx2)), (seg_ge (by rw [ek]; exact a1) (by rw [ek]; exact a2) hx1).1, ek, ← hF, ← hS]
  refine Or.inr ⟨hln, by omega, ?_, fun x hx1 hx2 => ?_⟩
  · rw [key _ (by omega) (by omega), show st (k - 1) + m - st (k - 1) = m by omega]
    have : a ≤ F * m / S := (Int.le_ediv_iff_mul_le hS0).mpr m1
    omega
  · rcases Int.lt_or_le x (st (k - 1)) with h3 | h3
    · rcases Int.lt_or_le 0 (k - 1) with h4 | h4
      · have := flow_le h hx1 (show 1 ≤ k - 1 by omega) (by omega) (show x ≤ st (k - 1) by omega)
        omega
      · rw [show k - 1 = 0 by omega] at h3
        omega
    · rw [key x h3 (by omega)]
      have b1 : F * (x - st (k - 1)) ≤ F * (m - 1) := Int.mul_le_mul_of_nonneg_left (by omega) (by omega)
      rw [Int.mul_sub, Int.mul_one] at b1
      have : F * (x - st (k - 1)) / S < a := (Int.ediv_lt_iff_lt_mul hS0).mpr (by omega)
      omega
theorem stP_0 {st fl : Int → Int} {n q : Int} (h : cvOk st fl n) (hn : 2 ≤ n) (h2 : q ≤ fl 0) : stP st fl n q (st 0) := by
  have a2 := h.2.1 0 (n - 1) (by omega) (by omega) (by omega)
  refine Or.inr ⟨by omega, Int.le_refl _, ?_, fun x hx1 hx2 => by omega⟩
  have a1 := h.1 0 1 (by omega) (by omega) (by omega)
  rw [flow_seg h (Int.le_refl _) (Int.le_refl 0) (by omega) (Or.inl rfl) (Or.inr (by show st 0 ≤ st (0 + 1); rw [Int.zero_add]; omega)), seg_lo]
  exact h2
theorem stP_bd {st fl : Int → Int} {n q z : Int} (h : cvOk st fl n) (hn : 2 ≤ n) (a : stP st fl n q z) : z = -9999 ∨ (-500 ≤ z ∧ z ≤ 2000) := by
  rcases a with ⟨-, rfl⟩ | ⟨a1, a2, a3, a4⟩
  · exact Or.inl rfl
  · have b1 := h.2.2.1 0
    have b2 := h.2.2.1 (n - 1)
    refine Or.inr ⟨by omega, ?_⟩
    rcases Int.lt_or_le (st (n - 1)) z with h3 | h3
    · have c1 := h.1 0 (n - 1) (by omega) (by omega) (by omega)
      have c2 := a4 (st (n - 1)) (by omega) h3
      have c3 := h.1 (n - 2) (n - 1) (by omega) (by omega) (by omega)
      rw [flow_seg h (by omega) (show 0 ≤ n - 2 by omega) (by omega) (Or.inr (by omega)) (Or.inl (by omega)), show st (n - 1) = st (n - 2 + 1) by rw [show n - 2 + 1 = n - 1 by omega], seg_hi st fl (by rw [show n - 2 + 1 = n - 1 by omega]; exact c3), show n - 2 + 1 = n - 1 by omega] at c2
      omega
    · omega
theorem mulB {a b M N : Int} (ha : -M ≤ a ∧ a ≤ M) (hb : -N ≤ b ∧ b ≤ N) : -(M * N) ≤ a * b ∧ a * b ≤ M * N := by
  have hM : 0 ≤ M := by omega
  have hN : 0 ≤ N := by omega
  rcases Int.le_total 0 a with h1 | h1 <;> rcases Int.le_total 0 b with h2 | h2
  · have c1 := Int.mul_le_mul ha.2 hb.2 h2 hM
    have c2 := Int.mul_nonneg h1 h2
    have c3 := Int.mul_nonneg hM hN
    omega
  · have c1 := Int.mul_le_mul ha.2 (show -b ≤ N by omega) (show 0 ≤ -b by omega) hM
    have c2 := Int.mul_nonneg h1 (show 0 ≤ -b by omega)
    rw [Int.mul_neg] at c1 c2
    have c3 := Int.mul_nonneg hM hN
    omega
  · have c1 := Int.mul_le_mul (show -a ≤ M by omega) hb.2 h2 hM
    have c2 := Int.mul_nonneg (show 0 ≤ -a by omega) h2
    rw [Int.neg_mul] at c1 c2
    have c3 := Int.mul_nonneg hM hN
    omega
  · have c1 := Int.mul_le_mul (show -a ≤ M by omega) (show -b ≤ N by omega) (show 0 ≤ -b by omega) hM
    have c2 := Int.mul_nonneg (show 0 ≤ -a by omega) (show 0 ≤ -b by omega)
    rw [Int.neg_mul_neg] at c1 c2
    have c3 := Int.mul_nonneg hM hN
    omega
/-- how many of the first u numbers, which rise, are less than v: at k stands the first that is not -/
def clP (f : Int → Int) (u v k : Int) : Prop := 0 ≤ k ∧ k ≤ u ∧ (∀ j : Int, 0 ≤ j → j < k → f j < v) ∧ (k < u → v ≤ f k)
theorem clP_one {f : Int → Int} {u v k j : Int} (a : clP f u v k) (b : clP f u v j) : k = j := by
  obtain ⟨a1, a2, a3, a4⟩ := a
  obtain ⟨b1, b2, b3, b4⟩ := b
  rcases Int.lt_trichotomy k j with h | h | h
  · have := b3 k a1 h
    have := a4 (by omega)
    omega
  · exact h
  · have := a3 j b1 h
    have := b4 (by omega)
    omega
theorem flow_cl {st fl : Int → Int} {n s k u : Int} (h : cvOk st fl n) (hn : 2 ≤ n) (hs : st 0 ≤ s) (hk : clP st n s k) (hu : u = min (max k 1) (n - 1)) : fl (u - 1) + Int.tdiv ((fl u - fl (u - 1)) * (s - st (u - 1))) (st u - st (u - 1)) = flowF st fl n s := by
  obtain ⟨k1, k2, k3, k4⟩ := hk
  rw [flow_seg h hs (k := u - 1) (by omega) (by omega) ?_ ?_]
  · unfold segF
    rw [show u - 1 + 1 = u by omega]
  · rcases Int.lt_or_le 1 u with h1 | h1
    · have := k3 (u - 1) (by omega) (by omega)
      exact Or.inr (by omega)
    · exact Or.inl (by omega)
  · rw [show u - 1 + 1 = u by omega]
    rcases Int.lt_or_le u (n - 1) with h1 | h1
    · rcases Int.lt_or_le 0 k with h2 | h2
      · have := k4 (by omega)
        rw [show u = k by omega]
        exact Or.inr this
      · have e1 := k4 (by omega)
        have e2 := h.1 0 1 (by omega) (by omega) (by omega)
        rw [show k = 0 by omega] at e1
        rw [show u = 1 by omega]
        exact Or.inr (by omega)
    · exact Or.inl (by omega)
theorem stage_cl {st fl : Int → Int} {n q k : Int} (h : cvOk st fl n) (hn : 2 ≤ n) (hk : clP fl n q k) :
    (n ≤ k → stageF st fl n q = -9999) ∧ (k = 0 → stageF st fl n q = st 0) ∧ (k ≠ 0 → k < n → stageF st fl n q = st (k - 1) + Int.tdiv ((q - fl (k - 1)) * (st k - st (k - 1)) + (fl k - fl (k - 1)) - 1) (fl k - fl (k - 1))) ∧ stP st fl n q (stageF st fl n q) := by
  obtain ⟨k1, k2, k3, k4⟩ := hk
  have ex : ∃ z, stP st fl n q z ∧ (n ≤ k → z = -9999) ∧ (k = 0 → z = st 0) ∧ (k ≠ 0 → k < n → z = st (k - 1) + Int.tdiv ((q - fl (k - 1)) * (st k - st (k - 1)) + (fl k - fl (k - 1)) - 1) (fl k - fl (k - 1))) := by
    rcases Int.lt_or_le k n with h1 | h1
    · have h2 := k4 h1
      rcases Int.lt_or_le 0 k with h3 | h3
      · have h4 := k3 (k - 1) (by omega) (by omega)
        refine ⟨_, stP_up h (show 1 ≤ k by omega) h1 h4 h2, fun z => by omega, fun z => by omega, fun _ _ => ?_⟩
        have a1 := h.1 (k - 1) k (by omega) (by omega) h1
        have a2 := h.2.1 (k - 1) k (by omega) (by omega) h1
        have a3 := Int.mul_nonneg (show 0 ≤ q - fl (k - 1) by omega) (show 0 ≤ st k - st (k - 1) by omega)
        rw [tdiv_pos (by omega)]
      · have h5 : k = 0 := by omega
        subst h5
        exact ⟨_, stP_0 h hn h2, fun z => by omega, fun _ => rfl, fun z => absurd rfl z⟩
    · have h2 := k3 (n - 1) (by omega) (by omega)
      exact ⟨-9999, Or.inl ⟨h2, rfl⟩, fun _ => rfl, fun z => by omega, fun _ z => by omega⟩
  obtain ⟨z, z1, z2, z3, z4⟩ := ex
  rw [← stageF_eq z1]
  exact ⟨z2, z3, z4, z1⟩
def insF (f : Int → Int) (u k v : Int) : Int → Int := fun j => if j < k then f j else if j = k then v else if j ≤ u then f (j - 1) else f j
def shF (f : Int → Int) (u i : Int) : Int → Int := fun j => if i < j ∧ j ≤ u then f (j - 1) else f j
theorem shF_0 (f : Int → Int) (u : Int) : shF f u u = f := by
  funext j
  unfold shF
  rw [if_neg (by omega)]
theorem shF_s (f : Int → Int) {u i : Int} (h : i ≤ u) : updI (shF f u i) i (shF f u i (i - 1)) = shF f u (i - 1) := by
  funext j
  unfold updI shF
  by_cases h1 : j = i
  · subst h1
    rw [if_pos rfl, if_neg (by omega), if_pos (by omega)]
  · rw [if_neg h1]
    by_cases h2 : i < j ∧ j ≤ u
    · rw [if_pos h2, if_pos (by omega)]
    · rw [if_neg h2, if_neg (by omega)]
theorem shF_e (f : Int → Int) {u k v : Int} (h : k ≤ u) : updI (shF f u k) k v = insF f u k v := by
  funext j
  unfold updI shF insF
  by_cases h1 : j = k
  · subst h1
    rw [if_pos rfl, if_neg (by omega), if_pos rfl]
  · rw [if_neg h1]
    by_cases h2 : j < k
    · rw [if_pos h2, if_neg (by omega)]
    · rw [if_neg h2, if_neg h1]
      by_cases h3 : j ≤ u
      · rw [if_pos h3, if_pos (by omega)]
      · rw [if_neg h3, if_neg (by omega)]
theorem insF_b {f : Int → Int} {lo hi u k v : Int} (h : ∀ j : Int, lo ≤ f j ∧ f j ≤ hi) (hv : lo ≤ v ∧ v ≤ hi) : ∀ j : Int, lo ≤ insF f u k v j ∧ insF f u k v j ≤ hi := by
  intro j
  unfold insF
  by_cases h1 : j < k
  · rw [if_pos h1]; exact h _
  · rw [if_neg h1]
    by_cases h2 : j = k
    · rw [if_pos h2]; exact hv
    · rw [if_neg h2]
      by_cases h3 : j ≤ u
      · rw [if_pos h3]; exact h _
      · rw [if_neg h3]; exact h _
/-- a row that rises stays so, where the new number fits -/
theorem insF_up {f : Int → Int} {u k v : Int} (h : ∀ i j : Int, 0 ≤ i → i < j → j < u → f i < f j) (hk : 0 ≤ k ∧ k ≤ u) (h1 : k = 0 ∨ f (k - 1) < v) (h2 : k = u ∨ v < f k) : ∀ i j : Int, 0 ≤ i → i < j → j < u + 1 → insF f u k v i < insF f u k v j := by
  have a1 : ∀ i : Int, 0 ≤ i → i < k → f i < v := by
    intro i hi hik
    rcases h1 with h1 | h1
    · omega
    · rcases Int.lt_or_le i (k - 1) with h3 | h3
      · have := h i (k - 1) hi h3 (by omega)
        omega
      · rw [show i = k - 1 by omega]
        exact h1
  have a2 : ∀ j : Int, k ≤ j → j < u → v < f j := by
    intro j hj hju
    rcases h2 with h2 | h2
    · omega
    · rcases Int.lt_or_le k j with h3 | h3
      · have := h k j hk.1 h3 hju
        omega
      · rw [show j = k by omega]
        exact h2
  intro i j hi hij hju
  unfold insF
  by_cases c1 : i < k
  · rw [if_pos c1]
    by_cases c2 : j < k
    · rw [if_pos c2]
      exact h i j hi hij (by omega)
    · rw [if_neg c2]
      by_cases c3 : j = k
      · rw [if_pos c3]
        exact a1 i hi c1
      · rw [if_neg c3, if_pos (by omega)]
        have := a1 i hi c1
        have := a2 (j - 1) (by omega) (by omega)
        omega
  · rw [if_neg c1, if_neg (show ¬ j < k by omega), if_neg (show ¬ j = k by omega), if_pos (show j ≤ u by omega)]
    by_cases c2 : i = k
    · rw [if_pos c2]
      exact a2 (j - 1) (by omega) (by omega)
    · rw [if_neg c2, if_pos (by omega)]
      exact h (i - 1) (j - 1) (by omega) (by omega) (by omega)
/-- a point fits a curve of n points at the place k -/
def canP (st fl : Int → Int) (n s q k : Int) : Prop := n < 12 ∧ (k = 0 ∨ fl (k - 1) < q) ∧ (k = n ∨ (s < st k ∧ q < fl k))
theorem cvOk_ins {st fl : Int → Int} {n s q k : Int} (h : cvOk st fl n) (hn : 0 ≤ n) (hs : -500 ≤ s ∧ s ≤ 2000) (hq : 0 ≤ q ∧ q ≤ 1000000) (hk : clP st n s k) (hc : canP st fl n s q k) : cvOk (insF st n k s) (insF fl n k q) (n + 1) := by
  obtain ⟨k1, k2, k3, k4⟩ := hk
  obtain ⟨c1, c2, c3⟩ := hc
  refine ⟨insF_up h.1 ⟨k1, k2⟩ ?_ (c3.imp id (fun z => z.1)), insF_up h.2.1 ⟨k1, k2⟩ c2 (c3.imp id (fun z => z.2)), insF_b h.2.2.1 hs, insF_b h.2.2.2 hq⟩
  rcases Int.lt_or_le 0 k with h1 | h1
  · exact Or.inr (k3 (k - 1) (by omega) (by omega))
  · exact Or.inl (by omega)
