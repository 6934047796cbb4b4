theorem sumV_one {F S : Int → Int} {fr to_ wh v u : Int} (h0 : 0 ≤ fr) (h : sumV F S fr to_ wh v) (g : sumV F S fr to_ wh u) : v = u := by
  rcases h with ⟨e, h⟩ | ⟨e, h⟩ | ⟨e, h⟩ | ⟨e, h⟩ | ⟨e, h⟩ <;> rcases g with ⟨e2, g⟩ | ⟨e2, g⟩ | ⟨e2, g⟩ | ⟨e2, g⟩ | ⟨e2, g⟩ <;> first | (exfalso; omega) | skip
  · rw [h, g]
  · rw [h, g]
  · obtain ⟨a, a1, a2⟩ := h
    obtain ⟨b, b1, b2⟩ := g
    have c := gdP_one h0 a1 b1
    subst c
    rcases a2 with ⟨x1, x2⟩ | ⟨x1, x2⟩ <;> rcases b2 with ⟨y1, y2⟩ | ⟨y1, y2⟩ <;> omega
  · exact lfP_one h g
  · exact gdP_one h0 h g

def okM_addCurve (sc : Nat → Int) (fn : Nat → Int → Int) (d : Int) : (Nat → Int) → (Nat → Int → Int) → Option Value → Prop := fun sc2 fn2 v9 => ∃ c : Nat, sc 0 = (c : Int) ∧ sc2 = upS sc 0 (sc 0 + 1) ∧ fn2 = crF fn c d ∧ (0 ≤ d ∧ d < 400) ∧ sc 0 < 6 ∧ (∀ j : Int, 0 ≤ j → j < sc 0 → fn 8 j ≠ d) ∧ v9 = some (.int (iI (sc 0)))
def erM_addCurve (sc : Nat → Int) (fn : Nat → Int → Int) (d : Int) : Int → Prop := fun k9 => (k9 = 1 ∧ (¬ (0 ≤ d ∧ d < 400))) ∨ (k9 = 2 ∧ ((0 ≤ d ∧ d < 400) ∧ (¬ sc 0 < 6 ∨ ∃ j : Int, 0 ≤ j ∧ j < sc 0 ∧ fn 8 j = d)))
theorem dt_addCurve (sc : Nat → Int) (fn : Nat → Int → Int) (d : Int) {k k2 : Int} {a a2 : Nat → Int} {b b2 : Nat → Int → Int} {u u2 : Option Value} (g : rlP (okM_addCurve sc fn d) (erM_addCurve sc fn d) sc fn k a b u) (g2 : rlP (okM_addCurve sc fn d) (erM_addCurve sc fn d) sc fn k2 a2 b2 u2) : k = k2 ∧ a = a2 ∧ b = b2 ∧ (k = 0 → u = u2) := by
  refine rl_det ?_ ?_ ?_ ?_ g g2
  · intro a b u a2 b2 u2 h g
    obtain ⟨c, c1, c2, c3, -, -, -, c7⟩ := h
    obtain ⟨k, k1, k2, k3, -, -, -, k7⟩ := g
    have e : c = k := by omega
    subst e
    exact ⟨c2.trans k2.symm, c3.trans k3.symm, c7.trans k7.symm⟩
  · intro a b u k h g
    obtain ⟨c, c1, c2, c3, c4, c5, c6, c7⟩ := h
    rcases g with ⟨-, g⟩ | ⟨-, -, g⟩
    · exact g c4
    · rcases g with g | ⟨j, j1, j2, j3⟩
      · exact g c5
      · exact c6 j j1 j2 j3
  · intro k k2 h g
    rcases h with ⟨e, h⟩ | ⟨e, h, -⟩ <;> rcases g with ⟨x, g⟩ | ⟨x, g, -⟩ <;> first | exact e.trans x.symm | exact absurd g h | exact absurd h g
  · intro h
    rcases h with ⟨h0, -⟩ | ⟨h0, -⟩ <;> omega
theorem okv_addCurve {sc : Nat → Int} {fn : Nat → Int → Int} {d : Int} {a : Nat → Int} {b : Nat → Int → Int} {v : Option Value} (h : okM_addCurve sc fn d a b v) : ∃ z : Int, v = some (.int (iI z)) := by
  obtain ⟨-, -, -, -, -, -, -, h⟩ := h
  exact ⟨_, h⟩
theorem erk_addCurve {sc : Nat → Int} {fn : Nat → Int → Int} {d : Int} {k : Int} (h : erM_addCurve sc fn d k) : 1 ≤ k ∧ k ≤ 3 := by
  rcases h with ⟨h0, -⟩ | ⟨h0, -⟩ <;> omega
def okM_addPoint (sc : Nat → Int) (fn : Nat → Int → Int) (ci sg q : Int) : (Nat → Int) → (Nat → Int → Int) → Option Value → Prop := fun sc2 fn2 v9 => sc2 = sc ∧ ∃ (k : Nat) (p : Int), ci = (k : Int) ∧ (k : Int) < sc 0 ∧ fn2 = ptF fn k p sg q ∧ clP (fn (20 + k)) (fn 9 (k : Int)) sg p ∧ canP (fn (20 + k)) (fn (30 + k)) (fn 9 (k : Int)) sg q p ∧ ((-500 ≤ sg ∧ sg ≤ 2000) ∧ (0 ≤ q ∧ q ≤ 1000000)) ∧ v9 = some (.int (iI (fn 9 ci + 1)))
def erM_addPoint (sc : Nat → Int) (fn : Nat → Int → Int) (ci sg q : Int) : Int → Prop := fun k9 => (k9 = 1 ∧ (¬ (0 ≤ ci ∧ ci < sc 0))) ∨ (k9 = 2 ∧ ((0 ≤ ci ∧ ci < sc 0) ∧ ¬ ((-500 ≤ sg ∧ sg ≤ 2000) ∧ (0 ≤ q ∧ q ≤ 1000000)))) ∨ (k9 = 3 ∧ (((-500 ≤ sg ∧ sg ≤ 2000) ∧ (0 ≤ q ∧ q ≤ 1000000)) ∧ ∃ (k : Nat) (p : Int), ci = (k : Int) ∧ (k : Int) < sc 0 ∧ clP (fn (20 + k)) (fn 9 (k : Int)) sg p ∧ ¬ canP (fn (20 + k)) (fn (30 + k)) (fn 9 (k : Int)) sg q p))
theorem dt_addPoint (sc : Nat → Int) (fn : Nat → Int → Int) (ci sg q : Int) {k k2 : Int} {a a2 : Nat → Int} {b b2 : Nat → Int → Int} {u u2 : Option Value} (g : rlP (okM_addPoint sc fn ci sg q) (erM_addPoint sc fn ci sg q) sc fn k a b u) (g2 : rlP (okM_addPoint sc fn ci sg q) (erM_addPoint sc fn ci sg q) sc fn k2 a2 b2 u2) : k = k2 ∧ a = a2 ∧ b = b2 ∧ (k = 0 → u = u2) := by
  refine rl_det ?_ ?_ ?_ ?_ g g2
  · intro a b u a2 b2 u2 h g
    obtain ⟨h1, k, x, k1, k2, k3, k4, k5, k6, k7⟩ := h
    obtain ⟨g1, j, y, j1, j2, j3, j4, j5, j6, j7⟩ := g
    have e : k = j := by omega
    subst e
    have e2 := clP_one k4 j4
    subst e2
    exact ⟨h1.trans g1.symm, k3.trans j3.symm, k7.trans j7.symm⟩
  · intro a b u k9 h g
    obtain ⟨h1, k, x, k1, k2, k3, k4, k5, k6, k7⟩ := h
    rcases g with ⟨-, g⟩ | ⟨-, -, g⟩ | ⟨-, -, j, y, j1, j2, j4, j5⟩
    · omega
    · exact g k6
    · have e : k = j := by omega
      subst e
      have e2 := clP_one k4 j4
      subst e2
      exact j5 k5
  · intro k k2 h g
    rcases h with ⟨e, h⟩ | ⟨e, h, h2⟩ | ⟨e, h, j, y, j1, j2, -⟩ <;> rcases g with ⟨x, g⟩ | ⟨x, g, g2⟩ | ⟨x, g, i, z, i1, i2, -⟩ <;> first | exact e.trans x.symm | (exfalso; omega) | exact absurd g h2 | exact absurd h g2
  · intro h
    rcases h with ⟨h0, -⟩ | ⟨h0, -⟩ | ⟨h0, -⟩ <;> omega
theorem okv_addPoint {sc : Nat → Int} {fn : Nat → Int → Int} {ci sg q : Int} {a : Nat → Int} {b : Nat → Int → Int} {v : Option Value} (h : okM_addPoint sc fn ci sg q a b v) : ∃ z : Int, v = some (.int (iI z)) := by
  obtain ⟨-, -, -, -, -, -, -, -, -, h⟩ := h
  exact ⟨_, h⟩
theorem erk_addPoint {sc : Nat → Int} {fn : Nat → Int → Int} {ci sg q : Int} {k : Int} (h : erM_addPoint sc fn ci sg q k) : 1 ≤ k ∧ k ≤ 3 := by
  rcases h with ⟨h0, -⟩ | ⟨h0, -⟩ | ⟨h0, -⟩ <;> omega
def okM_flowBy (sc : Nat → Int) (fn : Nat → Int → Int) (ci sg : Int) : (Nat → Int) → (Nat → Int → Int) → Option Value → Prop := fun sc2 fn2 v9 => sc2 = sc ∧ fn2 = fn ∧ 0 ≤ ci ∧ ci < sc 0 ∧ -2000 ≤ sg ∧ sg ≤ 4000 ∧ 2 ≤ fn 9 ci ∧ v9 = some (.long (lI (flowF (fn (20 + ci.toNat)) (fn (30 + ci.toNat)) (fn 9 ci) sg)))
def erM_flowBy (sc : Nat → Int) (fn : Nat → Int → Int) (ci sg : Int) : Int → Prop := fun k9 => (k9 = 1 ∧ (¬ (0 ≤ ci ∧ ci < sc 0))) ∨ (k9 = 2 ∧ ((0 ≤ ci ∧ ci < sc 0) ∧ ¬ (-2000 ≤ sg ∧ sg ≤ 4000))) ∨ (k9 = 3 ∧ ((0 ≤ ci ∧ ci < sc 0) ∧ (-2000 ≤ sg ∧ sg ≤ 4000) ∧ ¬ 2 ≤ fn 9 ci))
theorem dt_flowBy (sc : Nat → Int) (fn : Nat → Int → Int) (ci sg : Int) {k k2 : Int} {a a2 : Nat → Int} {b b2 : Nat → Int → Int} {u u2 : Option Value} (g : rlP (okM_flowBy sc fn ci sg) (erM_flowBy sc fn ci sg) sc fn k a b u) (g2 : rlP (okM_flowBy sc fn ci sg) (erM_flowBy sc fn ci sg) sc fn k2 a2 b2 u2) : k = k2 ∧ a = a2 ∧ b = b2 ∧ (k = 0 → u = u2) := by
  refine rl_det ?_ ?_ ?_ ?_ g g2
  · intro a b u a2 b2 u2 h g
    obtain ⟨h1, h2, h3⟩ := h
    obtain ⟨g1, g2, g3⟩ := g
    have hL := h3.2.2.2.2.2
    have gL := g3.2.2.2.2.2
    exact ⟨h1.trans g1.symm, h2.trans g2.symm, hL.trans gL.symm⟩
  · intro a b u k9 h g
    obtain ⟨-, -, h3⟩ := h
    rcases g with ⟨g0, g1⟩ | ⟨g0, g1⟩ | ⟨g0, g1⟩ <;> omega
  · intro k k2 h g
    rcases h with ⟨h0, h1⟩ | ⟨h0, h1⟩ | ⟨h0, h1⟩ <;> rcases g with ⟨g0, g1⟩ | ⟨g0, g1⟩ | ⟨g0, g1⟩ <;> omega
  · intro h
    rcases h with ⟨h0, -⟩ | ⟨h0, -⟩ | ⟨h0, -⟩ <;> omega
theorem okv_flowBy {sc : Nat → Int} {fn : Nat → Int → Int} {ci sg : Int} {a : Nat → Int} {b : Nat → Int → Int} {v : Option Value} (h : okM_flowBy sc fn ci sg a b v) : ∃ z : Int, v = some (.long (lI z)) := by
  obtain ⟨-, -, -, -, -, -, -, h⟩ := h
  exact ⟨_, h⟩
theorem erk_flowBy {sc : Nat → Int} {fn : Nat → Int → Int} {ci sg : Int} {k : Int} (h : erM_flowBy sc fn ci sg k) : 1 ≤ k ∧ k ≤ 3 := by
  rcases h with ⟨h0, -⟩ | ⟨h0, -⟩ | ⟨h0, -⟩ <;> omega
def okM_stageBy (sc : Nat → Int) (fn : Nat → Int → Int) (ci q : Int) : (Nat → Int) → (Nat → Int → Int) → Option Value → Prop := fun sc2 fn2 v9 => sc2 = sc ∧ fn2 = fn ∧ 0 ≤ ci ∧ ci < sc 0 ∧ 0 ≤ q ∧ q ≤ 1000000 ∧ 2 ≤ fn 9 ci ∧ v9 = some (.int (iI (stageF (fn (20 + ci.toNat)) (fn (30 + ci.toNat)) (fn 9 ci) q)))
def erM_stageBy (sc : Nat → Int) (fn : Nat → Int → Int) (ci q : Int) : Int → Prop := fun k9 => (k9 = 1 ∧ (¬ (0 ≤ ci ∧ ci < sc 0))) ∨ (k9 = 2 ∧ ((0 ≤ ci ∧ ci < sc 0) ∧ ¬ (0 ≤ q ∧ q ≤ 1000000))) ∨ (k9 = 3 ∧ ((0 ≤ ci ∧ ci < sc 0) ∧ (0 ≤ q ∧ q ≤ 1000000) ∧ ¬ 2 ≤ fn 9 ci))
theorem dt_stageBy (sc : Nat → Int) (fn : Nat → Int → Int) (ci q : Int) {k k2 : Int} {a a2 : Nat → Int} {b b2 : Nat → Int → Int} {u u2 : Option Value} (g : rlP (okM_stageBy sc fn ci q) (erM_stageBy sc fn ci q) sc fn k a b u) (g2 : rlP (okM_stageBy sc fn ci q) (erM_stageBy sc fn ci q) sc fn k2 a2 b2 u2) : k = k2 ∧ a = a2 ∧ b = b2 ∧ (k = 0 → u = u2) := by
  refine rl_det ?_ ?_ ?_ ?_ g g2
  · intro a b u a2 b2 u2 h g
    obtain ⟨h1, h2, h3⟩ := h
    obtain ⟨g1, g2, g3⟩ := g
    have hL := h3.2.2.2.2.2
    have gL := g3.2.2.2.2.2
    exact ⟨h1.trans g1.symm, h2.trans g2.symm, hL.trans gL.symm⟩
  · intro a b u k9 h g
    obtain ⟨-, -, h3⟩ := h
    rcases g with ⟨g0, g1⟩ | ⟨g0, g1⟩ | ⟨g0, g1⟩ <;> omega
  · intro k k2 h g
    rcases h with ⟨h0, h1⟩ | ⟨h0, h1⟩ | ⟨h0, h1⟩ <;> rcases g with ⟨g0, g1⟩ | ⟨g0, g1⟩ | ⟨g0, g1⟩ <;> omega
  · intro h
    rcases h with ⟨h0, -⟩ | ⟨h0, -⟩ | ⟨h0, -⟩ <;> omega
theorem okv_stageBy {sc : Nat → Int} {fn : Nat → Int → Int} {ci q : Int} {a : Nat → Int} {b : Nat → Int → Int} {v : Option Value} (h : okM_stageBy sc fn ci q a b v) : ∃ z : Int, v = some (.int (iI z)) := by
  obtain ⟨-, -, -, -, -, -, -, h⟩ := h
  exact ⟨_, h⟩
theorem erk_stageBy {sc : Nat → Int} {fn : Nat → Int → Int} {ci q : Int} {k : Int} (h : erM_stageBy sc fn ci q k) : 1 ≤ k ∧ k ≤ 3 := by
  rcases h with ⟨h0, -⟩ | ⟨h0, -⟩ | ⟨h0, -⟩ <;> omega
def okM_curveOf (sc : Nat → Int) (fn : Nat → Int → Int) (d : Int) : (Nat → Int) → (Nat → Int → Int) → Option Value → Prop := fun sc2 fn2 v9 => sc2 = sc ∧ fn2 = fn ∧ 0 ≤ d ∧ d < 400 ∧ v9 = some (.int (iI (cvno sc fn d)))
def erM_curveOf (sc : Nat → Int) (fn : Nat → Int → Int) (d : Int) : Int → Prop := fun k9 => (k9 = 1 ∧ (¬ (0 ≤ d ∧ d < 400)))
theorem dt_curveOf (sc : Nat → Int) (fn : Nat → Int → Int) (d : Int) {k k2 : Int} {a a2 : Nat → Int} {b b2 : Nat → Int → Int} {u u2 : Option Value} (g : rlP (okM_curveOf sc fn d) (erM_curveOf sc fn d) sc fn k a b u) (g2 : rlP (okM_curveOf sc fn d) (erM_curveOf sc fn d) sc fn k2 a2 b2 u2) : k = k2 ∧ a = a2 ∧ b = b2 ∧ (k = 0 → u = u2) := by
  refine rl_det ?_ ?_ ?_ ?_ g g2
  · intro a b u a2 b2 u2 h g
    obtain ⟨h1, h2, h3⟩ := h
    obtain ⟨g1, g2, g3⟩ := g
    have hL := h3.2.2
    have gL := g3.2.2
    exact ⟨h1.trans g1.symm, h2.trans g2.symm, hL.trans gL.symm⟩
  · intro a b u k9 h g
    obtain ⟨-, -, h3⟩ := h
    rcases g with ⟨g0, g1⟩ <;> omega
  · intro k k2 h g
    rcases h with ⟨h0, h1⟩ <;> rcases g with ⟨g0, g1⟩ <;> omega
  · intro h
    rcases h with ⟨h0, -⟩ <;> omega
theorem okv_curveOf {sc : Nat → Int} {fn : Nat → Int → Int} {d : Int} {a : Nat → Int} {b : Nat → Int → Int} {v : Option Value} (h : okM_curveOf sc fn d a b v) : ∃ z : Int, v = some (.int (iI z)) := by
  obtain ⟨-, -, -, -, h⟩ := h
  exact ⟨_, h⟩
theorem erk_curveOf {sc : Nat → Int} {fn : Nat → Int → Int} {d : Int} {k : Int} (h : erM_curveOf sc fn d k) : 1 ≤ k ∧ k ≤ 3 := by
  rcases h with ⟨h0, -⟩ <;> omega
def okM_setShift (sc : Nat → Int) (fn : Nat → Int → Int) (d sv : Int) : (Nat → Int) → (Nat → Int → Int) → Option Value → Prop := fun sc2 fn2 v9 => ∃ k : Int, clP (fn 0) (sc 1) d k ∧ ((0 ≤ d ∧ d < 400) ∧ (-200 ≤ sv ∧ sv ≤ 200)) ∧ ((sc2 = sc ∧ fn2 = upF fn 1 (updI (fn 1) k sv) ∧ k < sc 1 ∧ fn 0 k = d) ∨ (sc2 = upS sc 1 (sc 1 + 1) ∧ fn2 = upF (upF fn 0 (insF (fn 0) (sc 1) k d)) 1 (insF (fn 1) (sc 1) k sv) ∧ ¬ (k < sc 1 ∧ fn 0 k = d) ∧ sc 1 < 20)) ∧ v9 = some (.int (iI (sftF (fn 0) (fn 1) (sc 1) d)))
def erM_setShift (sc : Nat → Int) (fn : Nat → Int → Int) (d sv : Int) : Int → Prop := fun k9 => (k9 = 1 ∧ (¬ ((0 ≤ d ∧ d < 400) ∧ (-200 ≤ sv ∧ sv ≤ 200)))) ∨ (k9 = 2 ∧ (((0 ≤ d ∧ d < 400) ∧ (-200 ≤ sv ∧ sv ≤ 200)) ∧ ∃ k : Int, clP (fn 0) (sc 1) d k ∧ ¬ (k < sc 1 ∧ fn 0 k = d) ∧ ¬ sc 1 < 20))
theorem dt_setShift (sc : Nat → Int) (fn : Nat → Int → Int) (d sv : Int) {k k2 : Int} {a a2 : Nat → Int} {b b2 : Nat → Int → Int} {u u2 : Option Value} (g : rlP (okM_setShift sc fn d sv) (erM_setShift sc fn d sv) sc fn k a b u) (g2 : rlP (okM_setShift sc fn d sv) (erM_setShift sc fn d sv) sc fn k2 a2 b2 u2) : k = k2 ∧ a = a2 ∧ b = b2 ∧ (k = 0 → u = u2) := by
  refine rl_det ?_ ?_ ?_ ?_ g g2
  · intro a b u a2 b2 u2 h g
    obtain ⟨k, k1, k2, k3, k4⟩ := h
    obtain ⟨j, j1, j2, j3, j4⟩ := g
    have e := clP_one k1 j1
    subst e
    rcases k3 with ⟨x1, x2, x3, x4⟩ | ⟨x1, x2, x3, x4⟩ <;> rcases j3 with ⟨y1, y2, y3, y4⟩ | ⟨y1, y2, y3, y4⟩
    · exact ⟨x1.trans y1.symm, x2.trans y2.symm, k4.trans j4.symm⟩
    · exact absurd ⟨x3, x4⟩ y3
    · exact absurd ⟨y3, y4⟩ x3
    · exact ⟨x1.trans y1.symm, x2.trans y2.symm, k4.trans j4.symm⟩
  · intro a b u k9 h g
    obtain ⟨k, k1, k2, k3, k4⟩ := h
    rcases g with ⟨-, g⟩ | ⟨-, -, j, j1, j2, j3⟩
    · exact g k2
    · have e := clP_one k1 j1
      subst e
      rcases k3 with ⟨x1, x2, x3, x4⟩ | ⟨x1, x2, x3, x4⟩
      · exact j2 ⟨x3, x4⟩
      · exact j3 x4
  · intro k k2 h g
    rcases h with ⟨e, h⟩ | ⟨e, h, -⟩ <;> rcases g with ⟨x, g⟩ | ⟨x, g, -⟩ <;> first | exact e.trans x.symm | exact absurd g h | exact absurd h g
  · intro h
    rcases h with ⟨h0, -⟩ | ⟨h0, -⟩ <;> omega
theorem okv_setShift {sc : Nat → Int} {fn : Nat → Int → Int} {d sv : Int} {a : Nat → Int} {b : Nat → Int → Int} {v : Option Value} (h : okM_setShift sc fn d sv a b v) : ∃ z : Int, v = some (.int (iI z)) := by
  obtain ⟨-, -, -, -, h⟩ := h
  exact ⟨_, h⟩
theorem erk_setShift {sc : Nat → Int} {fn : Nat → Int → Int} {d sv : Int} {k : Int} (h : erM_setShift sc fn d sv k) : 1 ≤ k ∧ k ≤ 3 := by
  rcases h with ⟨h0, -⟩ | ⟨h0, -⟩ <;> omega
def okM_shift (sc : Nat → Int) (fn : Nat → Int → Int) (d : Int) : (Nat → Int) → (Nat → Int → Int) → Option Value → Prop := fun sc2 fn2 v9 => sc2 = sc ∧ fn2 = fn ∧ 0 ≤ d ∧ d < 400 ∧ v9 = some (.int (iI (sftF (fn 0) (fn 1) (sc 1) d)))
def erM_shift (sc : Nat → Int) (fn : Nat → Int → Int) (d : Int) : Int → Prop := fun k9 => (k9 = 1 ∧ (¬ (0 ≤ d ∧ d < 400)))
theorem dt_shift (sc : Nat → Int) (fn : Nat → Int → Int) (d : Int) {k k2 : Int} {a a2 : Nat → Int} {b b2 : Nat → Int → Int} {u u2 : Option Value} (g : rlP (okM_shift sc fn d) (erM_shift sc fn d) sc fn k a b u) (g2 : rlP (okM_shift sc fn d) (erM_shift sc fn d) sc fn k2 a2 b2 u2) : k = k2 ∧ a = a2 ∧ b = b2 ∧ (k = 0 → u = u2) := by
  refine rl_det ?_ ?_ ?_ ?_ g g2
  · intro a b u a2 b2 u2 h g
    obtain ⟨h1, h2, h3⟩ := h
    obtain ⟨g1, g2, g3⟩ := g
    have hL := h3.2.2
    have gL := g3.2.2
    exact ⟨h1.trans g1.symm, h2.trans g2.symm, hL.trans gL.symm⟩
  · intro a b u k9 h g
    obtain ⟨-, -, h3⟩ := h
    rcases g with ⟨g0, g1⟩ <;> omega
  · intro k k2 h g
    rcases h with ⟨h0, h1⟩ <;> rcases g with ⟨g0, g1⟩ <;> omega
  · intro h
    rcases h with ⟨h0, -⟩ <;> omega
theorem okv_shift {sc : Nat → Int} {fn : Nat → Int → Int} {d : Int} {a : Nat → Int} {b : Nat → Int → Int} {v : Option Value} (h : okM_shift sc fn d a b v) : ∃ z : Int, v = some (.int (iI z)) := by
  obtain ⟨-, -, -, -, h⟩ := h
  exact ⟨_, h⟩
theorem erk_shift {sc : Nat → Int} {fn : Nat → Int → Int} {d : Int} {k : Int} (h : erM_shift sc fn d k) : 1 ≤ k ∧ k ≤ 3 := by
  rcases h with ⟨h0, -⟩ <;> omega
def okM_read (sc : Nat → Int) (fn : Nat → Int → Int) (d n sg ri : Int) : (Nat → Int) → (Nat → Int → Int) → Option Value → Prop := fun sc2 fn2 v9 => sc2 = sc ∧ fn2 = (upF (upF fn 2 (spanF (fn 2) d n (fun j => sg + ri * (j - d)))) 3 (spanF (fn 3) d n (fun _ => 1))) ∧ ((0 ≤ d ∧ d < 400 ∧ 1 ≤ n ∧ d + n ≤ 400) ∧ (-500 ≤ sg ∧ sg ≤ 2000) ∧ (-500 ≤ sg + ri * (n - 1) ∧ sg + ri * (n - 1) ≤ 2000)) ∧ v9 = some (.int (iI (cntT (fn 3) d n.toNat)))
def erM_read (sc : Nat → Int) (fn : Nat → Int → Int) (d n sg ri : Int) : Int → Prop := fun k9 => (k9 = 1 ∧ (¬ ((0 ≤ d ∧ d < 400 ∧ 1 ≤ n ∧ d + n ≤ 400) ∧ (-500 ≤ sg ∧ sg ≤ 2000) ∧ (-500 ≤ sg + ri * (n - 1) ∧ sg + ri * (n - 1) ≤ 2000))))
theorem dt_read (sc : Nat → Int) (fn : Nat → Int → Int) (d n sg ri : Int) {k k2 : Int} {a a2 : Nat → Int} {b b2 : Nat → Int → Int} {u u2 : Option Value} (g : rlP (okM_read sc fn d n sg ri) (erM_read sc fn d n sg ri) sc fn k a b u) (g2 : rlP (okM_read sc fn d n sg ri) (erM_read sc fn d n sg ri) sc fn k2 a2 b2 u2) : k = k2 ∧ a = a2 ∧ b = b2 ∧ (k = 0 → u = u2) := by
  refine rl_det ?_ ?_ ?_ ?_ g g2
  · intro a b u a2 b2 u2 h g
    obtain ⟨h1, h2, h3⟩ := h
    obtain ⟨g1, g2, g3⟩ := g
    have hL := h3.2
    have gL := g3.2
    exact ⟨h1.trans g1.symm, h2.trans g2.symm, hL.trans gL.symm⟩
  · intro a b u k9 h g
    obtain ⟨-, -, h3⟩ := h
    rcases g with ⟨g0, g1⟩ <;> omega
  · intro k k2 h g
    rcases h with ⟨h0, h1⟩ <;> rcases g with ⟨g0, g1⟩ <;> omega
  · intro h
    rcases h with ⟨h0, -⟩ <;> omega
theorem okv_read {sc : Nat → Int} {fn : Nat → Int → Int} {d n sg ri : Int} {a : Nat → Int} {b : Nat → Int → Int} {v : Option Value} (h : okM_read sc fn d n sg ri a b v) : ∃ z : Int, v = some (.int (iI z)) := by
  obtain ⟨-, -, -, h⟩ := h
  exact ⟨_, h⟩
theorem erk_read {sc : Nat → Int} {fn : Nat → Int → Int} {d n sg ri : Int} {k : Int} (h : erM_read sc fn d n sg ri k) : 1 ≤ k ∧ k ≤ 3 := by
  rcases h with ⟨h0, -⟩ <;> omega
def okM_erase (sc : Nat → Int) (fn : Nat → Int → Int) (d n : Int) : (Nat → Int) → (Nat → Int → Int) → Option Value → Prop := fun sc2 fn2 v9 => sc2 = sc ∧ fn2 = (upF fn 3 (spanF (fn 3) d n (fun _ => 0))) ∧ (0 ≤ d ∧ d < 400 ∧ 1 ≤ n ∧ d + n ≤ 400) ∧ v9 = some (.int (iI (cntT (fn 3) d n.toNat)))
def erM_erase (sc : Nat → Int) (fn : Nat → Int → Int) (d n : Int) : Int → Prop := fun k9 => (k9 = 1 ∧ (¬ (0 ≤ d ∧ d < 400 ∧ 1 ≤ n ∧ d + n ≤ 400)))
theorem dt_erase (sc : Nat → Int) (fn : Nat → Int → Int) (d n : Int) {k k2 : Int} {a a2 : Nat → Int} {b b2 : Nat → Int → Int} {u u2 : Option Value} (g : rlP (okM_erase sc fn d n) (erM_erase sc fn d n) sc fn k a b u) (g2 : rlP (okM_erase sc fn d n) (erM_erase sc fn d n) sc fn k2 a2 b2 u2) : k = k2 ∧ a = a2 ∧ b = b2 ∧ (k = 0 → u = u2) := by
  refine rl_det ?_ ?_ ?_ ?_ g g2
  · intro a b u a2 b2 u2 h g
    obtain ⟨h1, h2, h3⟩ := h
    obtain ⟨g1, g2, g3⟩ := g
    have hL := h3.2
    have gL := g3.2
    exact ⟨h1.trans g1.symm, h2.trans g2.symm, hL.trans gL.symm⟩
  · intro a b u k9 h g
    obtain ⟨-, -, h3⟩ := h
    rcases g with ⟨g0, g1⟩ <;> omega
  · intro k k2 h g
    rcases h with ⟨h0, h1⟩ <;> rcases g with ⟨g0, g1⟩ <;> omega
  · intro h
    rcases h with ⟨h0, -⟩ <;> omega
theorem okv_erase {sc : Nat → Int} {fn : Nat → Int → Int} {d n : Int} {a : Nat → Int} {b : Nat → Int → Int} {v : Option Value} (h : okM_erase sc fn d n a b v) : ∃ z : Int, v = some (.int (iI z)) := by
  obtain ⟨-, -, -, h⟩ := h
  exact ⟨_, h⟩
theorem erk_erase {sc : Nat → Int} {fn : Nat → Int → Int} {d n : Int} {k : Int} (h : erM_erase sc fn d n k) : 1 ≤ k ∧ k ≤ 3 := by
  rcases h with ⟨h0, -⟩ <;> omega
def okM_freeze (sc : Nat → Int) (fn : Nat → Int → Int) (d n ib : Int) : (Nat → Int) → (Nat → Int → Int) → Option Value → Prop := fun sc2 fn2 v9 => sc2 = sc ∧ fn2 = (upF fn 4 (spanF (fn 4) d n (fun _ => ib))) ∧ (0 ≤ d ∧ d < 400 ∧ 1 ≤ n ∧ d + n ≤ 400) ∧ v9 = some (.int (iI (if ib = 0 then cntT (fn 4) d n.toNat else n - cntT (fn 4) d n.toNat)))
def erM_freeze (sc : Nat → Int) (fn : Nat → Int → Int) (d n ib : Int) : Int → Prop := fun k9 => (k9 = 1 ∧ (¬ (0 ≤ d ∧ d < 400 ∧ 1 ≤ n ∧ d + n ≤ 400)))
theorem dt_freeze (sc : Nat → Int) (fn : Nat → Int → Int) (d n ib : Int) {k k2 : Int} {a a2 : Nat → Int} {b b2 : Nat → Int → Int} {u u2 : Option Value} (g : rlP (okM_freeze sc fn d n ib) (erM_freeze sc fn d n ib) sc fn k a b u) (g2 : rlP (okM_freeze sc fn d n ib) (erM_freeze sc fn d n ib) sc fn k2 a2 b2 u2) : k = k2 ∧ a = a2 ∧ b = b2 ∧ (k = 0 → u = u2) := by
  refine rl_det ?_ ?_ ?_ ?_ g g2
  · intro a b u a2 b2 u2 h g
    obtain ⟨h1, h2, h3⟩ := h
    obtain ⟨g1, g2, g3⟩ := g
    have hL := h3.2
    have gL := g3.2
    exact ⟨h1.trans g1.symm, h2.trans g2.symm, hL.trans gL.symm⟩
  · intro a b u k9 h g
    obtain ⟨-, -, h3⟩ := h
    rcases g with ⟨g0, g1⟩ <;> omega
  · intro k k2 h g
    rcases h with ⟨h0, h1⟩ <;> rcases g with ⟨g0, g1⟩ <;> omega
  · intro h
    rcases h with ⟨h0, -⟩ <;> omega
theorem okv_freeze {sc : Nat → Int} {fn : Nat → Int → Int} {d n ib : Int} {a : Nat → Int} {b : Nat → Int → Int} {v : Option Value} (h : okM_freeze sc fn d n ib a b v) : ∃ z : Int, v = some (.int (iI z)) := by
  obtain ⟨-, -, -, h⟩ := h
  exact ⟨_, h⟩
theorem erk_freeze {sc : Nat → Int} {fn : Nat → Int → Int} {d n ib : Int} {k : Int} (h : erM_freeze sc fn d n ib k) : 1 ≤ k ∧ k ≤ 3 := by
  rcases h with ⟨h0, -⟩ <;> omega
def okM_setRules (sc : Nat → Int) (fn : Nat → Int → Int) (fa li : Int) : (Nat → Int) → (Nat → Int → Int) → Option Value → Prop := fun sc2 fn2 v9 => sc2 = (upS (upS sc 2 fa) 3 li) ∧ fn2 = fn ∧ ((0 ≤ fa ∧ fa ≤ 100) ∧ (0 ≤ li ∧ li ≤ 60)) ∧ v9 = some (.int (iI (sc 2)))
def erM_setRules (sc : Nat → Int) (fn : Nat → Int → Int) (fa li : Int) : Int → Prop := fun k9 => (k9 = 1 ∧ (¬ ((0 ≤ fa ∧ fa ≤ 100) ∧ (0 ≤ li ∧ li ≤ 60))))
theorem dt_setRules (sc : Nat → Int) (fn : Nat → Int → Int) (fa li : Int) {k k2 : Int} {a a2 : Nat → Int} {b b2 : Nat → Int → Int} {u u2 : Option Value} (g : rlP (okM_setRules sc fn fa li) (erM_setRules sc fn fa li) sc fn k a b u) (g2 : rlP (okM_setRules sc fn fa li) (erM_setRules sc fn fa li) sc fn k2 a2 b2 u2) : k = k2 ∧ a = a2 ∧ b = b2 ∧ (k = 0 → u = u2) := by
  refine rl_det ?_ ?_ ?_ ?_ g g2
  · intro a b u a2 b2 u2 h g
    obtain ⟨h1, h2, h3⟩ := h
    obtain ⟨g1, g2, g3⟩ := g
    have hL := h3.2
    have gL := g3.2
    exact ⟨h1.trans g1.symm, h2.trans g2.symm, hL.trans gL.symm⟩
  · intro a b u k9 h g
    obtain ⟨-, -, h3⟩ := h
    rcases g with ⟨g0, g1⟩ <;> omega
  · intro k k2 h g
    rcases h with ⟨h0, h1⟩ <;> rcases g with ⟨g0, g1⟩ <;> omega
  · intro h
    rcases h with ⟨h0, -⟩ <;> omega
theorem okv_setRules {sc : Nat → Int} {fn : Nat → Int → Int} {fa li : Int} {a : Nat → Int} {b : Nat → Int → Int} {v : Option Value} (h : okM_setRules sc fn fa li a b v) : ∃ z : Int, v = some (.int (iI z)) := by
  obtain ⟨-, -, -, h⟩ := h
  exact ⟨_, h⟩
theorem erk_setRules {sc : Nat → Int} {fn : Nat → Int → Int} {fa li : Int} {k : Int} (h : erM_setRules sc fn fa li k) : 1 ≤ k ∧ k ≤ 3 := by
  rcases h with ⟨h0, -⟩ <;> omega
def okM_state (sc : Nat → Int) (fn : Nat → Int → Int) (d : Int) : (Nat → Int) → (Nat → Int → Int) → Option Value → Prop := fun sc2 fn2 v9 => sc2 = sc ∧ fn2 = fn ∧ 0 ≤ d ∧ d < 400 ∧ v9 = some (.int (iI (tbS sc fn d)))
def erM_state (sc : Nat → Int) (fn : Nat → Int → Int) (d : Int) : Int → Prop := fun k9 => (k9 = 1 ∧ (¬ (0 ≤ d ∧ d < 400)))
theorem dt_state (sc : Nat → Int) (fn : Nat → Int → Int) (d : Int) {k k2 : Int} {a a2 : Nat → Int} {b b2 : Nat → Int → Int} {u u2 : Option Value} (g : rlP (okM_state sc fn d) (erM_state sc fn d) sc fn k a b u) (g2 : rlP (okM_state sc fn d) (erM_state sc fn d) sc fn k2 a2 b2 u2) : k = k2 ∧ a = a2 ∧ b = b2 ∧ (k = 0 → u = u2) := by
  refine rl_det ?_ ?_ ?_ ?_ g g2
  · intro a b u a2 b2 u2 h g
    obtain ⟨h1, h2, h3⟩ := h
    obtain ⟨g1, g2, g3⟩ := g
    have hL := h3.2.2
    have gL := g3.2.2
    exact ⟨h1.trans g1.symm, h2.trans g2.symm, hL.trans gL.symm⟩
  · intro a b u k9 h g
    obtain ⟨-, -, h3⟩ := h
    rcases g with ⟨g0, g1⟩ <;> omega
  · intro k k2 h g
    rcases h with ⟨h0, h1⟩ <;> rcases g with ⟨g0, g1⟩ <;> omega
  · intro h
    rcases h with ⟨h0, -⟩ <;> omega
theorem okv_state {sc : Nat → Int} {fn : Nat → Int → Int} {d : Int} {a : Nat → Int} {b : Nat → Int → Int} {v : Option Value} (h : okM_state sc fn d a b v) : ∃ z : Int, v = some (.int (iI z)) := by
  obtain ⟨-, -, -, -, h⟩ := h
  exact ⟨_, h⟩
theorem erk_state {sc : Nat → Int} {fn : Nat → Int → Int} {d : Int} {k : Int} (h : erM_state sc fn d k) : 1 ≤ k ∧ k ≤ 3 := by
  rcases h with ⟨h0, -⟩ <;> omega
def okM_flow (sc : Nat → Int) (fn : Nat → Int → Int) (d : Int) : (Nat → Int) → (Nat → Int → Int) → Option Value → Prop := fun sc2 fn2 v9 => sc2 = sc ∧ fn2 = fn ∧ 0 ≤ d ∧ d < 400 ∧ v9 = some (.long (lI (tbF sc fn d)))
def erM_flow (sc : Nat → Int) (fn : Nat → Int → Int) (d : Int) : Int → Prop := fun k9 => (k9 = 1 ∧ (¬ (0 ≤ d ∧ d < 400)))
theorem dt_flow (sc : Nat → Int) (fn : Nat → Int → Int) (d : Int) {k k2 : Int} {a a2 : Nat → Int} {b b2 : Nat → Int → Int} {u u2 : Option Value} (g : rlP (okM_flow sc fn d) (erM_flow sc fn d) sc fn k a b u) (g2 : rlP (okM_flow sc fn d) (erM_flow sc fn d) sc fn k2 a2 b2 u2) : k = k2 ∧ a = a2 ∧ b = b2 ∧ (k = 0 → u = u2) := by
  refine rl_det ?_ ?_ ?_ ?_ g g2
  · intro a b u a2 b2 u2 h g
    obtain ⟨h1, h2, h3⟩ := h
    obtain ⟨g1, g2, g3⟩ := g
    have hL := h3.2.2
    have gL := g3.2.2
    exact ⟨h1.trans g1.symm, h2.trans g2.symm, hL.trans gL.symm⟩
  · intro a b u k9 h g
    obtain ⟨-, -, h3⟩ := h
    rcases g with ⟨g0, g1⟩ <;> omega
  · intro k k2 h g
    rcases h with ⟨h0, h1⟩ <;> rcases g with ⟨g0, g1⟩ <;> omega
  · intro h
    rcases h with ⟨h0, -⟩ <;> omega
theorem okv_flow {sc : Nat → Int} {fn : Nat → Int → Int} {d : Int} {a : Nat → Int} {b : Nat → Int → Int} {v : Option Value} (h : okM_flow sc fn d a b v) : ∃ z : Int, v = some (.long (lI z)) := by
  obtain ⟨-, -, -, -, h⟩ := h
  exact ⟨_, h⟩
theorem erk_flow {sc : Nat → Int} {fn : Nat → Int → Int} {d : Int} {k : Int} (h : erM_flow sc fn d k) : 1 ≤ k ∧ k ≤ 3 := by
  rcases h with ⟨h0, -⟩ <;> omega
def okM_sum (sc : Nat → Int) (fn : Nat → Int → Int) (fr to_ wh : Int) : (Nat → Int) → (Nat → Int → Int) → Option Value → Prop := fun sc2 fn2 v9 => sc2 = sc ∧ fn2 = fn ∧ 0 ≤ wh ∧ wh ≤ 4 ∧ 0 ≤ fr ∧ fr ≤ to_ ∧ to_ < 400 ∧ ∃ z : Int, v9 = some (.long (lI z)) ∧ sumV (tbF sc fn) (tbS sc fn) fr to_ wh z
def erM_sum (sc : Nat → Int) (fn : Nat → Int → Int) (fr to_ wh : Int) : Int → Prop := fun k9 => (k9 = 1 ∧ (¬ (0 ≤ wh ∧ wh ≤ 4))) ∨ (k9 = 2 ∧ ((0 ≤ wh ∧ wh ≤ 4) ∧ ¬ (0 ≤ fr ∧ fr ≤ to_ ∧ to_ < 400)))
theorem dt_sum (sc : Nat → Int) (fn : Nat → Int → Int) (fr to_ wh : Int) {k k2 : Int} {a a2 : Nat → Int} {b b2 : Nat → Int → Int} {u u2 : Option Value} (g : rlP (okM_sum sc fn fr to_ wh) (erM_sum sc fn fr to_ wh) sc fn k a b u) (g2 : rlP (okM_sum sc fn fr to_ wh) (erM_sum sc fn fr to_ wh) sc fn k2 a2 b2 u2) : k = k2 ∧ a = a2 ∧ b = b2 ∧ (k = 0 → u = u2) := by
  refine rl_det ?_ ?_ ?_ ?_ g g2
  · intro a b u a2 b2 u2 h g
    obtain ⟨h1, h2, h3⟩ := h
    obtain ⟨g1, g2, g3⟩ := g
    have hL := h3.2.2.2.2.2
    have gL := g3.2.2.2.2.2
    exact ⟨h1.trans g1.symm, h2.trans g2.symm, (by obtain ⟨z, z1, z2⟩ := hL; obtain ⟨y, y1, y2⟩ := gL; rw [z1, y1, sumV_one h3.2.2.1 z2 y2])⟩
  · intro a b u k9 h g
    obtain ⟨-, -, h3⟩ := h
    rcases g with ⟨g0, g1⟩ | ⟨g0, g1⟩ <;> omega
  · intro k k2 h g
    rcases h with ⟨h0, h1⟩ | ⟨h0, h1⟩ <;> rcases g with ⟨g0, g1⟩ | ⟨g0, g1⟩ <;> omega
  · intro h
    rcases h with ⟨h0, -⟩ | ⟨h0, -⟩ <;> omega
theorem okv_sum {sc : Nat → Int} {fn : Nat → Int → Int} {fr to_ wh : Int} {a : Nat → Int} {b : Nat → Int → Int} {v : Option Value} (h : okM_sum sc fn fr to_ wh a b v) : ∃ z : Int, v = some (.long (lI z)) := by
  obtain ⟨-, -, -, -, -, -, -, z, h, -⟩ := h
  exact ⟨_, h⟩
theorem erk_sum {sc : Nat → Int} {fn : Nat → Int → Int} {fr to_ wh : Int} {k : Int} (h : erM_sum sc fn fr to_ wh k) : 1 ≤ k ∧ k ≤ 3 := by
  rcases h with ⟨h0, -⟩ | ⟨h0, -⟩ <;> omega
def okM_mean (sc : Nat → Int) (fn : Nat → Int → Int) (fr to_ : Int) : (Nat → Int) → (Nat → Int → Int) → Option Value → Prop := fun sc2 fn2 v9 => sc2 = sc ∧ fn2 = fn ∧ 0 ≤ fr ∧ fr ≤ to_ ∧ to_ < 400 ∧ v9 = some (.double (mnV (tbF sc fn) (tbS sc fn) fr to_))
def erM_mean (sc : Nat → Int) (fn : Nat → Int → Int) (fr to_ : Int) : Int → Prop := fun k9 => (k9 = 1 ∧ (¬ (0 ≤ fr ∧ fr ≤ to_ ∧ to_ < 400)))
theorem dt_mean (sc : Nat → Int) (fn : Nat → Int → Int) (fr to_ : Int) {k k2 : Int} {a a2 : Nat → Int} {b b2 : Nat → Int → Int} {u u2 : Option Value} (g : rlP (okM_mean sc fn fr to_) (erM_mean sc fn fr to_) sc fn k a b u) (g2 : rlP (okM_mean sc fn fr to_) (erM_mean sc fn fr to_) sc fn k2 a2 b2 u2) : k = k2 ∧ a = a2 ∧ b = b2 ∧ (k = 0 → u = u2) := by
  refine rl_det ?_ ?_ ?_ ?_ g g2
  · intro a b u a2 b2 u2 h g
    obtain ⟨h1, h2, h3⟩ := h
    obtain ⟨g1, g2, g3⟩ := g
    have hL := h3.2.2.2
    have gL := g3.2.2.2
    exact ⟨h1.trans g1.symm, h2.trans g2.symm, hL.trans gL.symm⟩
  · intro a b u k9 h g
    obtain ⟨-, -, h3⟩ := h
    rcases g with ⟨g0, g1⟩ <;> omega
  · intro k k2 h g
    rcases h with ⟨h0, h1⟩ <;> rcases g with ⟨g0, g1⟩ <;> omega
  · intro h
    rcases h with ⟨h0, -⟩ <;> omega
theorem okv_mean {sc : Nat → Int} {fn : Nat → Int → Int} {fr to_ : Int} {a : Nat → Int} {b : Nat → Int → Int} {v : Option Value} (h : okM_mean sc fn fr to_ a b v) : ∃ z : UInt64, v = some (.double z) := by
  obtain ⟨-, -, -, -, -, h⟩ := h
  exact ⟨_, h⟩
theorem erk_mean {sc : Nat → Int} {fn : Nat → Int → Int} {fr to_ : Int} {k : Int} (h : erM_mean sc fn fr to_ k) : 1 ≤ k ∧ k ≤ 3 := by
  rcases h with ⟨h0, -⟩ <;> omega
def okM_reached (sc : Nat → Int) (fn : Nat → Int → Int) (pt : Int) : (Nat → Int) → (Nat → Int → Int) → Option Value → Prop := fun sc2 fn2 v9 => sc2 = sc ∧ fn2 = fn ∧ 1 ≤ pt ∧ pt ≤ 100 ∧ ∃ v : Int, v9 = some (.long (lI v)) ∧ rcP (tbF sc fn) (tbS sc fn) (max 1 (Int.tdiv (cntT (tbS sc fn) 0 400 * pt) 100)) v
def erM_reached (sc : Nat → Int) (fn : Nat → Int → Int) (pt : Int) : Int → Prop := fun k9 => (k9 = 1 ∧ (¬ (1 ≤ pt ∧ pt ≤ 100)))
theorem dt_reached (sc : Nat → Int) (fn : Nat → Int → Int) (pt : Int) {k k2 : Int} {a a2 : Nat → Int} {b b2 : Nat → Int → Int} {u u2 : Option Value} (g : rlP (okM_reached sc fn pt) (erM_reached sc fn pt) sc fn k a b u) (g2 : rlP (okM_reached sc fn pt) (erM_reached sc fn pt) sc fn k2 a2 b2 u2) : k = k2 ∧ a = a2 ∧ b = b2 ∧ (k = 0 → u = u2) := by
  refine rl_det ?_ ?_ ?_ ?_ g g2
  · intro a b u a2 b2 u2 h g
    obtain ⟨h1, h2, h3⟩ := h
    obtain ⟨g1, g2, g3⟩ := g
    have hL := h3.2.2
    have gL := g3.2.2
    exact ⟨h1.trans g1.symm, h2.trans g2.symm, (by obtain ⟨z, z1, z2⟩ := hL; obtain ⟨y, y1, y2⟩ := gL; rw [z1, y1, rcP_det z2 y2])⟩
  · intro a b u k9 h g
    obtain ⟨-, -, h3⟩ := h
    rcases g with ⟨g0, g1⟩ <;> omega
  · intro k k2 h g
    rcases h with ⟨h0, h1⟩ <;> rcases g with ⟨g0, g1⟩ <;> omega
  · intro h
    rcases h with ⟨h0, -⟩ <;> omega
theorem okv_reached {sc : Nat → Int} {fn : Nat → Int → Int} {pt : Int} {a : Nat → Int} {b : Nat → Int → Int} {v : Option Value} (h : okM_reached sc fn pt a b v) : ∃ z : Int, v = some (.long (lI z)) := by
  obtain ⟨-, -, -, -, z, h, -⟩ := h
  exact ⟨_, h⟩
theorem erk_reached {sc : Nat → Int} {fn : Nat → Int → Int} {pt : Int} {k : Int} (h : erM_reached sc fn pt k) : 1 ≤ k ∧ k ≤ 3 := by
  rcases h with ⟨h0, -⟩ <;> omega
def okM_peaks (sc : Nat → Int) (fn : Nat → Int → Int) (lm ap : Int) : (Nat → Int) → (Nat → Int → Int) → Option Value → Prop := fun sc2 fn2 v9 => sc2 = sc ∧ fn2 = fn ∧ 0 ≤ lm ∧ 1 ≤ ap ∧ ap ≤ 100 ∧ ∃ v : Int, v9 = some (.int (iI v)) ∧ pkE (tbF sc fn) (tbS sc fn) lm ap (fun _ => False) 0 v
def erM_peaks (sc : Nat → Int) (fn : Nat → Int → Int) (lm ap : Int) : Int → Prop := fun k9 => (k9 = 1 ∧ (¬ (0 ≤ lm ∧ 1 ≤ ap ∧ ap ≤ 100)))
theorem dt_peaks (sc : Nat → Int) (fn : Nat → Int → Int) (lm ap : Int) {k k2 : Int} {a a2 : Nat → Int} {b b2 : Nat → Int → Int} {u u2 : Option Value} (g : rlP (okM_peaks sc fn lm ap) (erM_peaks sc fn lm ap) sc fn k a b u) (g2 : rlP (okM_peaks sc fn lm ap) (erM_peaks sc fn lm ap) sc fn k2 a2 b2 u2) : k = k2 ∧ a = a2 ∧ b = b2 ∧ (k = 0 → u = u2) := by
  refine rl_det ?_ ?_ ?_ ?_ g g2
  · intro a b u a2 b2 u2 h g
    obtain ⟨h1, h2, h3⟩ := h
    obtain ⟨g1, g2, g3⟩ := g
    have hL := h3.2.2.2
    have gL := g3.2.2.2
    exact ⟨h1.trans g1.symm, h2.trans g2.symm, (by obtain ⟨z, z1, z2⟩ := hL; obtain ⟨y, y1, y2⟩ := gL; rw [z1, y1, pkE_det z2 y2])⟩
  · intro a b u k9 h g
    obtain ⟨-, -, h3⟩ := h
    rcases g with ⟨g0, g1⟩ <;> omega
  · intro k k2 h g
    rcases h with ⟨h0, h1⟩ <;> rcases g with ⟨g0, g1⟩ <;> omega
  · intro h
    rcases h with ⟨h0, -⟩ <;> omega
theorem okv_peaks {sc : Nat → Int} {fn : Nat → Int → Int} {lm ap : Int} {a : Nat → Int} {b : Nat → Int → Int} {v : Option Value} (h : okM_peaks sc fn lm ap a b v) : ∃ z : Int, v = some (.int (iI z)) := by
  obtain ⟨-, -, -, -, -, z, h, -⟩ := h
  exact ⟨_, h⟩
theorem erk_peaks {sc : Nat → Int} {fn : Nat → Int → Int} {lm ap : Int} {k : Int} (h : erM_peaks sc fn lm ap k) : 1 ≤ k ∧ k ≤ 3 := by
  rcases h with ⟨h0, -⟩ <;> omega
def okM_spell (sc : Nat → Int) (fn : Nat → Int → Int) (lm : Int) : (Nat → Int) → (Nat → Int → Int) → Option Value → Prop := fun sc2 fn2 v9 => sc2 = sc ∧ fn2 = fn ∧ 0 ≤ lm ∧ v9 = some (.int (iI (lngT (tbF sc fn) (tbS sc fn) lm 400)))
def erM_spell (sc : Nat → Int) (fn : Nat → Int → Int) (lm : Int) : Int → Prop := fun k9 => (k9 = 1 ∧ (¬ (0 ≤ lm)))
theorem dt_spell (sc : Nat → Int) (fn : Nat → Int → Int) (lm : Int) {k k2 : Int} {a a2 : Nat → Int} {b b2 : Nat → Int → Int} {u u2 : Option Value} (g : rlP (okM_spell sc fn lm) (erM_spell sc fn lm) sc fn k a b u) (g2 : rlP (okM_spell sc fn lm) (erM_spell sc fn lm) sc fn k2 a2 b2 u2) : k = k2 ∧ a = a2 ∧ b = b2 ∧ (k = 0 → u = u2) := by
  refine rl_det ?_ ?_ ?_ ?_ g g2
  · intro a b u a2 b2 u2 h g
    obtain ⟨h1, h2, h3⟩ := h
    obtain ⟨g1, g2, g3⟩ := g
    have hL := h3.2
    have gL := g3.2
    exact ⟨h1.trans g1.symm, h2.trans g2.symm, hL.trans gL.symm⟩
  · intro a b u k9 h g
    obtain ⟨-, -, h3⟩ := h
    rcases g with ⟨g0, g1⟩ <;> omega
  · intro k k2 h g
    rcases h with ⟨h0, h1⟩ <;> rcases g with ⟨g0, g1⟩ <;> omega
  · intro h
    rcases h with ⟨h0, -⟩ <;> omega
theorem okv_spell {sc : Nat → Int} {fn : Nat → Int → Int} {lm : Int} {a : Nat → Int} {b : Nat → Int → Int} {v : Option Value} (h : okM_spell sc fn lm a b v) : ∃ z : Int, v = some (.int (iI z)) := by
  obtain ⟨-, -, -, h⟩ := h
  exact ⟨_, h⟩
theorem erk_spell {sc : Nat → Int} {fn : Nat → Int → Int} {lm : Int} {k : Int} (h : erM_spell sc fn lm k) : 1 ≤ k ∧ k ≤ 3 := by
  rcases h with ⟨h0, -⟩ <;> omega
def okM_measure (sc : Nat → Int) (fn : Nat → Int → Int) (d sg q : Int) : (Nat → Int) → (Nat → Int → Int) → Option Value → Prop := fun sc2 fn2 v9 => sc2 = upS sc 4 (sc 4 + 1) ∧ fn2 = msF fn (sc 4) d sg q ∧ ((0 ≤ d ∧ d < 400) ∧ (-500 ≤ sg ∧ sg ≤ 2000) ∧ (0 ≤ q ∧ q ≤ 1000000)) ∧ sc 4 < 40 ∧ v9 = some (.int (iI (sc 4 + 1)))
def erM_measure (sc : Nat → Int) (fn : Nat → Int → Int) (d sg q : Int) : Int → Prop := fun k9 => (k9 = 1 ∧ (¬ ((0 ≤ d ∧ d < 400) ∧ (-500 ≤ sg ∧ sg ≤ 2000) ∧ (0 ≤ q ∧ q ≤ 1000000)))) ∨ (k9 = 2 ∧ (((0 ≤ d ∧ d < 400) ∧ (-500 ≤ sg ∧ sg ≤ 2000) ∧ (0 ≤ q ∧ q ≤ 1000000)) ∧ ¬ sc 4 < 40))
theorem dt_measure (sc : Nat → Int) (fn : Nat → Int → Int) (d sg q : Int) {k k2 : Int} {a a2 : Nat → Int} {b b2 : Nat → Int → Int} {u u2 : Option Value} (g : rlP (okM_measure sc fn d sg q) (erM_measure sc fn d sg q) sc fn k a b u) (g2 : rlP (okM_measure sc fn d sg q) (erM_measure sc fn d sg q) sc fn k2 a2 b2 u2) : k = k2 ∧ a = a2 ∧ b = b2 ∧ (k = 0 → u = u2) := by
  refine rl_det ?_ ?_ ?_ ?_ g g2
  · intro a b u a2 b2 u2 h g
    obtain ⟨h1, h2, h3⟩ := h
    obtain ⟨g1, g2, g3⟩ := g
    have hL := h3.2.2
    have gL := g3.2.2
    exact ⟨h1.trans g1.symm, h2.trans g2.symm, hL.trans gL.symm⟩
  · intro a b u k9 h g
    obtain ⟨-, -, h3⟩ := h
    rcases g with ⟨g0, g1⟩ | ⟨g0, g1⟩ <;> omega
  · intro k k2 h g
    rcases h with ⟨h0, h1⟩ | ⟨h0, h1⟩ <;> rcases g with ⟨g0, g1⟩ | ⟨g0, g1⟩ <;> omega
  · intro h
    rcases h with ⟨h0, -⟩ | ⟨h0, -⟩ <;> omega
theorem okv_measure {sc : Nat → Int} {fn : Nat → Int → Int} {d sg q : Int} {a : Nat → Int} {b : Nat → Int → Int} {v : Option Value} (h : okM_measure sc fn d sg q a b v) : ∃ z : Int, v = some (.int (iI z)) := by
  obtain ⟨-, -, -, -, h⟩ := h
  exact ⟨_, h⟩
theorem erk_measure {sc : Nat → Int} {fn : Nat → Int → Int} {d sg q : Int} {k : Int} (h : erM_measure sc fn d sg q k) : 1 ≤ k ∧ k ≤ 3 := by
  rcases h with ⟨h0, -⟩ | ⟨h0, -⟩ <;> omega
def okM_deviation (sc : Nat → Int) (fn : Nat → Int → Int) (mi : Int) : (Nat → Int) → (Nat → Int → Int) → Option Value → Prop := fun sc2 fn2 v9 => sc2 = sc ∧ fn2 = fn ∧ 0 ≤ mi ∧ mi < sc 4 ∧ (cvno sc fn (fn 5 mi) ≠ -1 ∧ 2 ≤ fn 9 (cvno sc fn (fn 5 mi))) ∧ v9 = some (.long (lI (fn 7 mi - flowF (fn (20 + (cvno sc fn (fn 5 mi)).toNat)) (fn (30 + (cvno sc fn (fn 5 mi)).toNat)) (fn 9 (cvno sc fn (fn 5 mi))) (fn 6 mi - sftF (fn 0) (fn 1) (sc 1) (fn 5 mi)))))
def erM_deviation (sc : Nat → Int) (fn : Nat → Int → Int) (mi : Int) : Int → Prop := fun k9 => (k9 = 1 ∧ (¬ (0 ≤ mi ∧ mi < sc 4))) ∨ (k9 = 2 ∧ ((0 ≤ mi ∧ mi < sc 4) ∧ ¬ (cvno sc fn (fn 5 mi) ≠ -1 ∧ 2 ≤ fn 9 (cvno sc fn (fn 5 mi)))))
theorem dt_deviation (sc : Nat → Int) (fn : Nat → Int → Int) (mi : Int) {k k2 : Int} {a a2 : Nat → Int} {b b2 : Nat → Int → Int} {u u2 : Option Value} (g : rlP (okM_deviation sc fn mi) (erM_deviation sc fn mi) sc fn k a b u) (g2 : rlP (okM_deviation sc fn mi) (erM_deviation sc fn mi) sc fn k2 a2 b2 u2) : k = k2 ∧ a = a2 ∧ b = b2 ∧ (k = 0 → u = u2) := by
  refine rl_det ?_ ?_ ?_ ?_ g g2
  · intro a b u a2 b2 u2 h g
    obtain ⟨h1, h2, h3⟩ := h
    obtain ⟨g1, g2, g3⟩ := g
    have hL := h3.2.2.2
    have gL := g3.2.2.2
    exact ⟨h1.trans g1.symm, h2.trans g2.symm, hL.trans gL.symm⟩
  · intro a b u k9 h g
    obtain ⟨-, -, h3⟩ := h
    rcases g with ⟨g0, g1⟩ | ⟨g0, g1⟩ <;> omega
  · intro k k2 h g
    rcases h with ⟨h0, h1⟩ | ⟨h0, h1⟩ <;> rcases g with ⟨g0, g1⟩ | ⟨g0, g1⟩ <;> omega
  · intro h
    rcases h with ⟨h0, -⟩ | ⟨h0, -⟩ <;> omega
theorem okv_deviation {sc : Nat → Int} {fn : Nat → Int → Int} {mi : Int} {a : Nat → Int} {b : Nat → Int → Int} {v : Option Value} (h : okM_deviation sc fn mi a b v) : ∃ z : Int, v = some (.long (lI z)) := by
  obtain ⟨-, -, -, -, -, h⟩ := h
  exact ⟨_, h⟩
theorem erk_deviation {sc : Nat → Int} {fn : Nat → Int → Int} {mi : Int} {k : Int} (h : erM_deviation sc fn mi k) : 1 ≤ k ∧ k ≤ 3 := by
  rcases h with ⟨h0, -⟩ | ⟨h0, -⟩ <;> omega
def okM_wouldShift (sc : Nat → Int) (fn : Nat → Int → Int) (mi : Int) : (Nat → Int) → (Nat → Int → Int) → Option Value → Prop := fun sc2 fn2 v9 => sc2 = sc ∧ fn2 = fn ∧ 0 ≤ mi ∧ mi < sc 4 ∧ (cvno sc fn (fn 5 mi) ≠ -1 ∧ 2 ≤ fn 9 (cvno sc fn (fn 5 mi))) ∧ stageF (fn (20 + (cvno sc fn (fn 5 mi)).toNat)) (fn (30 + (cvno sc fn (fn 5 mi)).toNat)) (fn 9 (cvno sc fn (fn 5 mi))) (fn 7 mi) ≠ -9999 ∧ v9 = some (.int (iI (fn 6 mi - stageF (fn (20 + (cvno sc fn (fn 5 mi)).toNat)) (fn (30 + (cvno sc fn (fn 5 mi)).toNat)) (fn 9 (cvno sc fn (fn 5 mi))) (fn 7 mi))))
def erM_wouldShift (sc : Nat → Int) (fn : Nat → Int → Int) (mi : Int) : Int → Prop := fun k9 => (k9 = 1 ∧ (¬ (0 ≤ mi ∧ mi < sc 4))) ∨ (k9 = 2 ∧ ((0 ≤ mi ∧ mi < sc 4) ∧ ¬ ((cvno sc fn (fn 5 mi) ≠ -1 ∧ 2 ≤ fn 9 (cvno sc fn (fn 5 mi))) ∧ stageF (fn (20 + (cvno sc fn (fn 5 mi)).toNat)) (fn (30 + (cvno sc fn (fn 5 mi)).toNat)) (fn 9 (cvno sc fn (fn 5 mi))) (fn 7 mi) ≠ -9999)))
theorem dt_wouldShift (sc : Nat → Int) (fn : Nat → Int → Int) (mi : Int) {k k2 : Int} {a a2 : Nat → Int} {b b2 : Nat → Int → Int} {u u2 : Option Value} (g : rlP (okM_wouldShift sc fn mi) (erM_wouldShift sc fn mi) sc fn k a b u) (g2 : rlP (okM_wouldShift sc fn mi) (erM_wouldShift sc fn mi) sc fn k2 a2 b2 u2) : k = k2 ∧ a = a2 ∧ b = b2 ∧ (k = 0 → u = u2) := by
  refine rl_det ?_ ?_ ?_ ?_ g g2
  · intro a b u a2 b2 u2 h g
    obtain ⟨h1, h2, h3⟩ := h
    obtain ⟨g1, g2, g3⟩ := g
    have hL := h3.2.2.2.2
    have gL := g3.2.2.2.2
    exact ⟨h1.trans g1.symm, h2.trans g2.symm, hL.trans gL.symm⟩
  · intro a b u k9 h g
    obtain ⟨-, -, h3⟩ := h
    rcases g with ⟨g0, g1⟩ | ⟨g0, g1⟩ <;> omega
  · intro k k2 h g
    rcases h with ⟨h0, h1⟩ | ⟨h0, h1⟩ <;> rcases g with ⟨g0, g1⟩ | ⟨g0, g1⟩ <;> omega
  · intro h
    rcases h with ⟨h0, -⟩ | ⟨h0, -⟩ <;> omega
theorem okv_wouldShift {sc : Nat → Int} {fn : Nat → Int → Int} {mi : Int} {a : Nat → Int} {b : Nat → Int → Int} {v : Option Value} (h : okM_wouldShift sc fn mi a b v) : ∃ z : Int, v = some (.int (iI z)) := by
  obtain ⟨-, -, -, -, -, -, h⟩ := h
  exact ⟨_, h⟩
theorem erk_wouldShift {sc : Nat → Int} {fn : Nat → Int → Int} {mi : Int} {k : Int} (h : erM_wouldShift sc fn mi k) : 1 ≤ k ∧ k ≤ 3 := by
  rcases h with ⟨h0, -⟩ | ⟨h0, -⟩ <;> omega
def okM_count (sc : Nat → Int) (fn : Nat → Int → Int) (wh : Int) : (Nat → Int) → (Nat → Int → Int) → Option Value → Prop := fun sc2 fn2 v9 => sc2 = sc ∧ fn2 = fn ∧ 0 ≤ wh ∧ wh ≤ 4 ∧ v9 = some (.int (iI (cntV sc fn wh)))
def erM_count (sc : Nat → Int) (fn : Nat → Int → Int) (wh : Int) : Int → Prop := fun k9 => (k9 = 1 ∧ (¬ (0 ≤ wh ∧ wh ≤ 4)))
theorem dt_count (sc : Nat → Int) (fn : Nat → Int → Int) (wh : Int) {k k2 : Int} {a a2 : Nat → Int} {b b2 : Nat → Int → Int} {u u2 : Option Value} (g : rlP (okM_count sc fn wh) (erM_count sc fn wh) sc fn k a b u) (g2 : rlP (okM_count sc fn wh) (erM_count sc fn wh) sc fn k2 a2 b2 u2) : k = k2 ∧ a = a2 ∧ b = b2 ∧ (k = 0 → u = u2) := by
  refine rl_det ?_ ?_ ?_ ?_ g g2
  · intro a b u a2 b2 u2 h g
    obtain ⟨h1, h2, h3⟩ := h
    obtain ⟨g1, g2, g3⟩ := g
    have hL := h3.2.2
    have gL := g3.2.2
    exact ⟨h1.trans g1.symm, h2.trans g2.symm, hL.trans gL.symm⟩
  · intro a b u k9 h g
    obtain ⟨-, -, h3⟩ := h
    rcases g with ⟨g0, g1⟩ <;> omega
  · intro k k2 h g
    rcases h with ⟨h0, h1⟩ <;> rcases g with ⟨g0, g1⟩ <;> omega
  · intro h
    rcases h with ⟨h0, -⟩ <;> omega
theorem okv_count {sc : Nat → Int} {fn : Nat → Int → Int} {wh : Int} {a : Nat → Int} {b : Nat → Int → Int} {v : Option Value} (h : okM_count sc fn wh a b v) : ∃ z : Int, v = some (.int (iI z)) := by
  obtain ⟨-, -, -, -, h⟩ := h
  exact ⟨_, h⟩
theorem erk_count {sc : Nat → Int} {fn : Nat → Int → Int} {wh : Int} {k : Int} (h : erM_count sc fn wh k) : 1 ≤ k ∧ k ≤ 3 := by
  rcases h with ⟨h0, -⟩ <;> omega