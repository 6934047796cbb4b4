/-! rows of this proof: machine numbers as whole numbers (iI, lI), worlds by roles (gP, gD), one row an instruction over them -/
def iI (z : Int) : Int32 := Int32.ofInt z
def lI (z : Int) : Int64 := Int64.ofInt z
abbrev rI (z : Int) : Prop := -2147483648 ≤ z ∧ z < 2147483648
abbrev rL (z : Int) : Prop := -9223372036854775808 ≤ z ∧ z < 9223372036854775808
theorem bm32 {z : Int} (h : rI z) : z.bmod (2 ^ 32) = z := by
  rw [Int.bmod_eq_of_le (by omega) (by omega)]
theorem bm64 {z : Int} (h : rL z) : z.bmod (2 ^ 64) = z := by
  rw [Int.bmod_eq_of_le (by omega) (by omega)]
theorem iI_toInt {z : Int} (h : rI z) : (iI z).toInt = z := by
  unfold iI
  rw [Int32.toInt_ofInt, bm32 h]
theorem lI_toInt {z : Int} (h : rL z) : (lI z).toInt = z := by
  unfold lI
  rw [Int64.toInt_ofInt, bm64 h]
theorem iI_of (x : Int32) : iI x.toInt = x := Int32.ofInt_toInt x
theorem lI_of (x : Int64) : lI x.toInt = x := Int64.ofInt_toInt x
theorem iI_rng (x : Int32) : rI x.toInt := by
  have h1 := Int32.le_toInt x
  have h2 := Int32.toInt_lt x
  constructor <;> omega
theorem lI_rng (x : Int64) : rL x.toInt := by
  have h1 := Int64.le_toInt x
  have h2 := Int64.toInt_lt x
  constructor <;> omega
theorem iI_ex (x : Int32) : ∃ z : Int, rI z ∧ x = iI z := ⟨x.toInt, iI_rng x, (iI_of x).symm⟩
theorem iI_eq {a b : Int} (ha : rI a) (hb : rI b) : iI a = iI b ↔ a = b := by
  rw [← Int32.toInt_inj, iI_toInt ha, iI_toInt hb]
theorem iI_lt {a b : Int} (ha : rI a) (hb : rI b) : iI a < iI b ↔ a < b := by
  rw [Int32.lt_iff_toInt_lt, iI_toInt ha, iI_toInt hb]
theorem iI_le {a b : Int} (ha : rI a) (hb : rI b) : iI a ≤ iI b ↔ a ≤ b := by
  rw [Int32.le_iff_toInt_le, iI_toInt ha, iI_toInt hb]
theorem lI_eq {a b : Int} (ha : rL a) (hb : rL b) : lI a = lI b ↔ a = b := by
  rw [← Int64.toInt_inj, lI_toInt ha, lI_toInt hb]
theorem lI_lt {a b : Int} (ha : rL a) (hb : rL b) : lI a < lI b ↔ a < b := by
  rw [Int64.lt_iff_toInt_lt, lI_toInt ha, lI_toInt hb]
theorem lI_le {a b : Int} (ha : rL a) (hb : rL b) : lI a ≤ lI b ↔ a ≤ b := by
  rw [Int64.le_iff_toInt_le, lI_toInt ha, lI_toInt hb]
theorem iI_0 : (0 : Int32) = iI 0 := by decide +kernel
theorem lI_0 : (0 : Int64) = lI 0 := by decide +kernel
theorem iI_1 : (1 : Int32) = iI 1 := by decide +kernel
theorem iI_add (a b : Int) : iI a + iI b = iI (a + b) := (Int32.ofInt_add a b).symm
theorem iI_sub (a b : Int) : iI a - iI b = iI (a - b) := (Int32.ofInt_sub a b).symm
theorem iI_mul (a b : Int) : iI a * iI b = iI (a * b) := (Int32.ofInt_mul a b).symm
theorem iI_neg (a : Int) : -iI a = iI (-a) := (Int32.ofInt_neg a).symm
theorem lI_add (a b : Int) : lI a + lI b = lI (a + b) := (Int64.ofInt_add a b).symm
theorem lI_sub (a b : Int) : lI a - lI b = lI (a - b) := (Int64.ofInt_sub a b).symm
theorem lI_mul (a b : Int) : lI a * lI b = lI (a * b) := (Int64.ofInt_mul a b).symm
theorem iI_div {a b : Int} (ha : rI a) (hb : rI b) (h0 : 0 < b) : iI a / iI b = iI (a.tdiv b) := by
  apply Int32.toInt_inj.mp
  have h1 : -2147483648 ≤ a.tdiv b ∧ a.tdiv b < 2147483648 := by
    have h2 := Int.natAbs_tdiv_le_natAbs a b
    have h3 : a.tdiv b ≠ 2147483648 := by
      intro h
      have h4 : 0 ≤ a ∨ a < 0 := by omega
      rcases h4 with h4 | h4
      · omega
      · have h5 : a.tdiv b ≤ 0 := by
          have h6 : 0 ≤ (-a).tdiv b := Int.tdiv_nonneg (by omega) (by omega)
          rw [Int.neg_tdiv] at h6
          omega
        omega
    omega
  rw [Int32.toInt_div, iI_toInt ha, iI_toInt hb, iI_toInt h1, Int.bmod_eq_of_le (by omega) (by omega)]
theorem lI_div {a b : Int} (ha : rL a) (hb : rL b) (h0 : 0 < b) : lI a / lI b = lI (a.tdiv b) := by
  apply Int64.toInt_inj.mp
  have h1 : -9223372036854775808 ≤ a.tdiv b ∧ a.tdiv b < 9223372036854775808 := by
    have h2 := Int.natAbs_tdiv_le_natAbs a b
    have h3 : a.tdiv b ≠ 9223372036854775808 := by
      intro h
      have h4 : 0 ≤ a ∨ a < 0 := by omega
      rcases h4 with h4 | h4
      · omega
      · have h5 : a.tdiv b ≤ 0 := by
          have h6 : 0 ≤ (-a).tdiv b := Int.tdiv_nonneg (by omega) (by omega)
          rw [Int.neg_tdiv] at h6
          omega
        omega
    omega
  rw [Int64.toInt_div, lI_toInt ha, lI_toInt hb, lI_toInt h1, Int.bmod_eq_of_le (by omega) (by omega)]
theorem iI_l {a : Int} (ha : rI a) : (iI a).toInt64 = lI a := by
  apply Int64.toInt_inj.mp
  rw [Int32.toInt_toInt64, iI_toInt ha, lI_toInt (by constructor <;> omega)]
theorem lI_i (a : Int) : (lI a).toInt32 = iI a := Int64.toInt32_ofInt
theorem iI_clamp {a : Int} (h0 : 0 ≤ a) (h : a < 2147483648) : (iI a).toNatClampNeg = a.toNat := by
  show (iI a).toInt.toNat = _
  rw [iI_toInt (by constructor <;> omega)]
theorem iI_in {i : Int} {n : Nat} (h0 : 0 ≤ i) (h : i < n) (hn : (n : Int) < 2147483648) : vp_in (iI i) n := by
  rw [vp_in_iff, iI_toInt (by constructor <;> omega)]
  omega
theorem iI_nat (n : Nat) : Int32.ofNat n = iI (n : Int) := (Int32.ofInt_eq_ofNat (n := n)).symm
/-! worlds: a role has an address (ad) and, where it lives, what stands there (w) -/
def updI (f : Int → Int) (k x : Int) : Int → Int := fun j => if j = k then x else f j
theorem updI_s (f : Int → Int) (k x : Int) : updI f k x k = x := by simp [updI]
theorem updI_n (f : Int → Int) {k j : Int} (x : Int) (h : j ≠ k) : updI f k x j = f j := by simp [updI, h]
def up (w : Nat → Option va_E) (r : Nat) (x : va_E) : Nat → Option va_E := fun q => if q = r then some x else w q
theorem up_s (w : Nat → Option va_E) (r : Nat) (x : va_E) : up w r x r = some x := by simp [up]
theorem up_n {w : Nat → Option va_E} {r q : Nat} {x : va_E} {y : Option va_E} (h : q ≠ r) (k : w q = y) : up w r x q = y := by simp [up, h, k]
theorem up_self {w : Nat → Option va_E} {r : Nat} {x : va_E} (h : w r = some x) : up w r x = w := by
  funext q
  unfold up
  by_cases h1 : q = r
  · rw [if_pos h1, h1, h]
  · rw [if_neg h1]
theorem up_up (w : Nat → Option va_E) (r : Nat) (x y : va_E) : up (up w r x) r y = up w r y := by
  funext q
  unfold up
  by_cases h1 : q = r <;> simp [h1]
theorem up_co (w : Nat → Option va_E) {r r2 : Nat} (x y : va_E) (h : r ≠ r2) : up (up w r x) r2 y = up (up w r2 y) r x := by
  funext q
  unfold up
  by_cases h1 : q = r
  · subst h1
    simp [h]
  · simp [h1]
def gP (D : va_G) (cl : List vw_C) (ad : Nat → Nat) (w : Nat → Option va_E) (H : Heap) : Prop := ∀ (r : Nat) (x : va_E), w r = some x → va_at D cl (ad r, x) H
def gD (A : Nat → Prop) (ad : Nat → Nat) (w : Nat → Option va_E) : Prop := (∀ r r2 : Nat, w r ≠ none → w r2 ≠ none → ad r = ad r2 → r = r2) ∧ ∀ r : Nat, w r ≠ none → A (ad r)
def gA (ad : Nat → Nat) (w : Nat → Option va_E) (sz : Nat) : Nat → Prop := fun q => (∃ r : Nat, w r ≠ none ∧ ad r = q) ∨ sz ≤ q
theorem gP.lt {D : va_G} {cl : List vw_C} {ad : Nat → Nat} {w : Nat → Option va_E} {H : Heap} (h : gP D cl ad w H) {r : Nat} (hr : w r ≠ none) : ad r < H.size := by
  cases hx : w r with
  | none => exact absurd hx hr
  | some x => exact (h r x hx).lt
theorem gP.set {D : va_G} {cl : List vw_C} {A : Nat → Prop} {ad : Nat → Nat} {w : Nat → Option va_E} {H H1 : Heap} {r : Nat} {x0 x : va_E} (h : gP D cl ad w H) (hD : gD A ad w) (hr : w r = some x0) (hx : va_at D cl (ad r, x) H1) (oq : ∀ q : Nat, q ≠ ad r → H1[q]? = H[q]?) : gP D cl ad (up w r x) H1 := by
  intro q y hy
  unfold up at hy
  by_cases h1 : q = r
  · rw [if_pos h1] at hy
    cases hy
    rw [h1]
    exact hx
  · rw [if_neg h1] at hy
    exact (h q y hy).kept (oq _ (fun z => h1 (hD.1 q r (by rw [hy]; simp) (by rw [hr]; simp) z)))
theorem up_dom {w : Nat → Option va_E} {r : Nat} {x0 x : va_E} (hr : w r = some x0) (q : Nat) : up w r x q ≠ none ↔ w q ≠ none := by
  unfold up
  by_cases h1 : q = r
  · subst h1
    simp [hr]
  · simp [h1]
theorem gD.set {A : Nat → Prop} {ad : Nat → Nat} {w : Nat → Option va_E} {r : Nat} {x0 x : va_E} (hD : gD A ad w) (hr : w r = some x0) : gD A ad (up w r x) :=
  ⟨fun a b ha hb => hD.1 a b ((up_dom hr a).mp ha) ((up_dom hr b).mp hb), fun a ha => hD.2 a ((up_dom hr a).mp ha)⟩
theorem gA_set {ad : Nat → Nat} {w : Nat → Option va_E} {r : Nat} {x0 x : va_E} {sz : Nat} (hr : w r = some x0) : gA ad (up w r x) sz = gA ad w sz := by
  funext q
  unfold gA
  apply propext
  constructor
  · rintro (⟨a, ha, hb⟩ | h)
    · exact Or.inl ⟨a, (up_dom hr a).mp ha, hb⟩
    · exact Or.inr h
  · rintro (⟨a, ha, hb⟩ | h)
    · exact Or.inl ⟨a, (up_dom hr a).mpr ha, hb⟩
    · exact Or.inr h
theorem gD.self {A : Nat → Prop} {ad : Nat → Nat} {w : Nat → Option va_E} {sz : Nat} (h : gD A ad w) : gD (gA ad w sz) ad w := ⟨h.1, fun r hr => Or.inl ⟨r, hr, rfl⟩⟩
theorem gD.weaken {A B : Nat → Prop} {ad : Nat → Nat} {w : Nat → Option va_E} (h : gD A ad w) (hAB : ∀ q : Nat, A q → B q) : gD B ad w := ⟨h.1, fun r hr => hAB _ (h.2 r hr)⟩
theorem gA_sub {A : Nat → Prop} {ad : Nat → Nat} {w : Nat → Option va_E} {H0 H : Heap} {locs : List Loc} (hD : gD A ad w) (hS : va_S A H0 H locs) (hA : ∀ q : Nat, H0.size ≤ q → A q) : ∀ q : Nat, gA ad w H.size q → A q := by
  rintro q (⟨r, hr, rfl⟩ | h)
  · exact hD.2 r hr
  · exact hA q (Nat.le_trans hS.1 h)
/-- an address for a role that didn't live -/
def adN (ad : Nat → Nat) (r q : Nat) : Nat → Nat := fun j => if j = r then q else ad j
theorem adN_s (ad : Nat → Nat) (r q : Nat) : adN ad r q r = q := by simp [adN]
theorem adN_n (ad : Nat → Nat) {r j : Nat} (q : Nat) (h : j ≠ r) : adN ad r q j = ad j := by simp [adN, h]
theorem gP.new {D : va_G} {cl : List vw_C} {ad : Nat → Nat} {w : Nat → Option va_E} {H H1 : Heap} {r : Nat} {x : va_E} (h : gP D cl ad w H) (hx : va_at D cl (H.size, x) H1) (oq : ∀ q : Nat, q < H.size → H1[q]? = H[q]?) : gP D cl (adN ad r H.size) (up w r x) H1 := by
  intro q y hy
  unfold up at hy
  by_cases h1 : q = r
  · rw [if_pos h1] at hy
    cases hy
    rw [h1, adN_s]
    exact hx
  · rw [if_neg h1] at hy
    rw [adN_n _ _ h1]
    exact (h q y hy).kept (oq _ (h q y hy).lt)
theorem gD.new {D : va_G} {cl : List vw_C} {A : Nat → Prop} {ad : Nat → Nat} {w : Nat → Option va_E} {H : Heap} {r : Nat} {x : va_E} (hP : gP D cl ad w H) (hD : gD A ad w) (hA : A H.size) : gD A (adN ad r H.size) (up w r x) := by
  have key : ∀ q : Nat, up w r x q ≠ none → (q = r ∧ adN ad r H.size q = H.size) ∨ (q ≠ r ∧ w q ≠ none ∧ adN ad r H.size q = ad q ∧ ad q < H.size) := by
    intro q hq
    by_cases h1 : q = r
    · exact Or.inl ⟨h1, by rw [h1, adN_s]⟩
    · have h2 : w q ≠ none := by
        unfold up at hq
        rw [if_neg h1] at hq
        exact hq
      exact Or.inr ⟨h1, h2, adN_n _ _ h1, hP.lt h2⟩
  refine ⟨fun a b ha hb hab => ?_, fun a ha => ?_⟩
  · rcases key a ha with ⟨h1, h2⟩ | ⟨h1, h2, h3, h4⟩ <;> rcases key b hb with ⟨g1, g2⟩ | ⟨g1, g2, g3, g4⟩
    · rw [h1, g1]
    · rw [h2, g3] at hab
      omega
    · rw [h3, g2] at hab
      omega
    · rw [h3, g3] at hab
      exact hD.1 a b h2 g2 hab
  · rcases key a ha with ⟨h1, h2⟩ | ⟨h1, h2, h3, h4⟩
    · rw [h2]
      exact hA
    · rw [h3]
      exact hD.2 a h2
/-- an array of ints (also of booleans), of longs, of references -/
abbrev eI (cA : ClassId) (n : Nat) (f : Int → Int) : va_E := .inl (cA, n, .inl (fun j => iI (f (j : Int))))
abbrev eJ (cA : ClassId) (n : Nat) (f : Int → Int) : va_E := .inl (cA, n, .inr (.inl (fun j => lI (f (j : Int)))))
abbrev eQ (cA : ClassId) (n : Nat) (f : Nat → Option Nat) : va_E := .inl (cA, n, .inr (.inr (.inr (.inr f))))
abbrev oB (ci : Nat) (fs : List Value) : va_E := .inr (ci, fs)

section KR
variable {p : Program} {l : Launch} {e : Env} {R : Room} {s : State} {m : MethodId} {args : Array Value} {below : List Frame} {meth : Method} {c : Code} {H : Heap} {locs : List Loc} {cells slots : Nat} {Q : State → Prop}
variable {cc : ByteArray} {pc : Nat} {ls : Array Slot} {rest : List Value}
theorem k_iconst (hx : p.tables.exec = Jvm.exec) (hb : c.code = cc) {n : Int} (d : decode cc pc = .ok (.iconst n, 1)) (k : W p l e R s m args below meth c H locs cells slots Q (F0 m (pc + 1) ls (.int (iI n) :: rest))) : W p l e R s m args below meth c H locs cells slots Q (F0 m pc ls rest) := lv_iconst hx hb d rfl k
theorem k_bipush (hx : p.tables.exec = Jvm.exec) (hb : c.code = cc) {n : Int} (d : decode cc pc = .ok (.bipush n, 2)) (h : (Int8.ofInt n).toInt32 = iI n) (k : W p l e R s m args below meth c H locs cells slots Q (F0 m (pc + 2) ls (.int (iI n) :: rest))) : W p l e R s m args below meth c H locs cells slots Q (F0 m pc ls rest) := lv_bipush hx hb d h k
theorem k_sipush (hx : p.tables.exec = Jvm.exec) (hb : c.code = cc) {n : Int} (d : decode cc pc = .ok (.sipush n, 3)) (h : (Int16.ofInt n).toInt32 = iI n) (k : W p l e R s m args below meth c H locs cells slots Q (F0 m (pc + 3) ls (.int (iI n) :: rest))) : W p l e R s m args below meth c H locs cells slots Q (F0 m pc ls rest) := lv_sipush hx hb d h k
theorem k_ldc (hx : p.tables.exec = Jvm.exec) (hb : c.code = cc) {own : String} {index : Nat} {v : Int32} {z : Int} (hown : s.vm.findClass own = some m.cls) (hc : (Jvm.Cond.constant own index v).before args s = true) (hz : v = iI z) (d : decode cc pc = .ok (.ldc index, 2)) (k : W p l e R s m args below meth c H locs cells slots Q (F0 m (pc + 2) ls (.int (iI z) :: rest))) : W p l e R s m args below meth c H locs cells slots Q (F0 m pc ls rest) := lv_ldc hx hb hown hc d (hz ▸ k)
theorem k_ldc2 (hx : p.tables.exec = Jvm.exec) (hb : c.code = cc) {own : String} {index : Nat} {v : Int64} {z : Int} (hown : s.vm.findClass own = some m.cls) (hc : (Jvm.Cond.constantLong own index v).before args s = true) (hz : v = lI z) (d : decode cc pc = .ok (.ldc2_w index, 3)) (k : W p l e R s m args below meth c H locs cells slots Q (F0 m (pc + 3) ls (.long (lI z) :: rest))) : W p l e R s m args below meth c H locs cells slots Q (F0 m pc ls rest) := lv_ldc2 hx hb hown hc d (hz ▸ k)
theorem k_lconst0 (hx : p.tables.exec = Jvm.exec) (hb : c.code = cc) (d : decode cc pc = .ok (.lconst 0, 1)) (k : W p l e R s m args below meth c H locs cells slots Q (F0 m (pc + 1) ls (.long (lI 0) :: rest))) : W p l e R s m args below meth c H locs cells slots Q (F0 m pc ls rest) := lv_lconst hx hb d (by decide +kernel) k
theorem k_lconst1 (hx : p.tables.exec = Jvm.exec) (hb : c.code = cc) (d : decode cc pc = .ok (.lconst 1, 1)) (k : W p l e R s m args below meth c H locs cells slots Q (F0 m (pc + 1) ls (.long (lI 1) :: rest))) : W p l e R s m args below meth c H locs cells slots Q (F0 m pc ls rest) := lv_lconst hx hb d (by decide +kernel) k
theorem k_iadd (hx : p.tables.exec = Jvm.exec) (hb : c.code = cc) {a b : Int} (d : decode cc pc = .ok (.iadd, 1)) (k : W p l e R s m args below meth c H locs cells slots Q (F0 m (pc + 1) ls (.int (iI (a + b)) :: rest))) : W p l e R s m args below meth c H locs cells slots Q (F0 m pc ls (.int (iI b) :: .int (iI a) :: rest)) := lv_iadd hx hb d (by rw [iI_add]; exact k)
theorem k_ladd (hx : p.tables.exec = Jvm.exec) (hb : c.code = cc) {a b : Int} (d : decode cc pc = .ok (.ladd, 1)) (k : W p l e R s m args below meth c H locs cells slots Q (F0 m (pc + 1) ls (.long (lI (a + b)) :: rest))) : W p l e R s m args below meth c H locs cells slots Q (F0 m pc ls (.long (lI b) :: .long (lI a) :: rest)) := lv_ladd hx hb d (by rw [lI_add]; exact k)
theorem k_isub (hx : p.tables.exec = Jvm.exec) (hb : c.code = cc) {a b : Int} (d : decode cc pc = .ok (.isub, 1)) (k : W p l e R s m args below meth c H locs cells slots Q (F0 m (pc + 1) ls (.int (iI (a - b)) :: rest))) : W p l e R s m args below meth c H locs cells slots Q (F0 m pc ls (.int (iI b) :: .int (iI a) :: rest)) := lv_isub hx hb d (by rw [iI_sub]; exact k)
theorem k_lsub (hx : p.tables.exec = Jvm.exec) (hb : c.code = cc) {a b : Int} (d : decode cc pc = .ok (.lsub, 1)) (k : W p l e R s m args below meth c H locs cells slots Q (F0 m (pc + 1) ls (.long (lI (a - b)) :: rest))) : W p l e R s m args below meth c H locs cells slots Q (F0 m pc ls (.long (lI b) :: .long (lI a) :: rest)) := lv_lsub hx hb d (by rw [lI_sub]; exact k)
theorem k_imul (hx : p.tables.exec = Jvm.exec) (hb : c.code = cc) {a b : Int} (d : decode cc pc = .ok (.imul, 1)) (k : W p l e R s m args below meth c H locs cells slots Q (F0 m (pc + 1) ls (.int (iI (a * b)) :: rest))) : W p l e R s m args below meth c H locs cells slots Q (F0 m pc ls (.int (iI b) :: .int (iI a) :: rest)) := lv_imul hx hb d (by rw [iI_mul]; exact k)
theorem k_lmul (hx : p.tables.exec = Jvm.exec) (hb : c.code = cc) {a b : Int} (d : decode cc pc = .ok (.lmul, 1)) (k : W p l e R s m args below meth c H locs cells slots Q (F0 m (pc + 1) ls (.long (lI (a * b)) :: rest))) : W p l e R s m args below meth c H locs cells slots Q (F0 m pc ls (.long (lI b) :: .long (lI a) :: rest)) := lv_lmul hx hb d (by rw [lI_mul]; exact k)
theorem k_ineg (hx : p.tables.exec = Jvm.exec) (hb : c.code = cc) {a : Int} (d : decode cc pc = .ok (.ineg, 1)) (k : W p l e R s m args below meth c H locs cells slots Q (F0 m (pc + 1) ls (.int (iI (-a)) :: rest))) : W p l e R s m args below meth c H locs cells slots Q (F0 m pc ls (.int (iI a) :: rest)) := lv_ineg hx hb d (by rw [iI_neg]; exact k)
theorem k_idiv (hx : p.tables.exec = Jvm.exec) (hb : c.code = cc) {a b : Int} (ha : rI a) (hb2 : rI b) (h0 : 0 < b) (d : decode cc pc = .ok (.idiv, 1)) (k : W p l e R s m args below meth c H locs cells slots Q (F0 m (pc + 1) ls (.int (iI (a.tdiv b)) :: rest))) : W p l e R s m args below meth c H locs cells slots Q (F0 m pc ls (.int (iI b) :: .int (iI a) :: rest)) := lv_idiv hx hb d (by rw [iI_0, iI_eq hb2 (by decide)]; omega) (by rw [iI_div ha hb2 h0]; exact k)
theorem k_ldiv (hx : p.tables.exec = Jvm.exec) (hb : c.code = cc) {a b : Int} (ha : rL a) (hb2 : rL b) (h0 : 0 < b) (d : decode cc pc = .ok (.ldiv, 1)) (k : W p l e R s m args below meth c H locs cells slots Q (F0 m (pc + 1) ls (.long (lI (a.tdiv b)) :: rest))) : W p l e R s m args below meth c H locs cells slots Q (F0 m pc ls (.long (lI b) :: .long (lI a) :: rest)) := lv_ldiv hx hb d (by rw [lI_0, lI_eq hb2 (by decide)]; omega) (by rw [lI_div ha hb2 h0]; exact k)
theorem k_i2l (hx : p.tables.exec = Jvm.exec) (hb : c.code = cc) {a : Int} (ha : rI a) (d : decode cc pc = .ok (.i2l, 1)) (k : W p l e R s m args below meth c H locs cells slots Q (F0 m (pc + 1) ls (.long (lI a) :: rest))) : W p l e R s m args below meth c H locs cells slots Q (F0 m pc ls (.int (iI a) :: rest)) := lv_i2l hx hb d (iI_l ha) k
theorem k_l2i (hx : p.tables.exec = Jvm.exec) (hb : c.code = cc) {a : Int} (d : decode cc pc = .ok (.l2i, 1)) (k : W p l e R s m args below meth c H locs cells slots Q (F0 m (pc + 1) ls (.int (iI a) :: rest))) : W p l e R s m args below meth c H locs cells slots Q (F0 m pc ls (.long (lI a) :: rest)) := lv_l2i hx hb d (lI_i a) k
theorem k_icmp_eq (hx : p.tables.exec = Jvm.exec) (hb : c.code = cc) {a b : Int} {off : Int} {tgt : Nat} (ha : rI a) (hb2 : rI b) (d : decode cc pc = .ok (.if_icmp .eq off, 3)) (ht : (pc : Int) + off = (tgt : Int)) (kt : a = b → W p l e R s m args below meth c H locs cells slots Q (F0 m tgt ls rest)) (kf : ¬ a = b → W p l e R s m args below meth c H locs cells slots Q (F0 m (pc + 3) ls rest)) : W p l e R s m args below meth c H locs cells slots Q (F0 m pc ls (.int (iI b) :: .int (iI a) :: rest)) := lv_icmp_eq hx hb d ht (fun h => kt ((iI_eq ha hb2).mp h)) (fun h => kf (fun z => h ((iI_eq ha hb2).mpr z)))
theorem k_if_eq (hx : p.tables.exec = Jvm.exec) (hb : c.code = cc) {a : Int} {off : Int} {tgt : Nat} (ha : rI a) (d : decode cc pc = .ok (.ifCond .eq off, 3)) (ht : (pc : Int) + off = (tgt : Int)) (kt : a = 0 → W p l e R s m args below meth c H locs cells slots Q (F0 m tgt ls rest)) (kf : ¬ a = 0 → W p l e R s m args below meth c H locs cells slots Q (F0 m (pc + 3) ls rest)) : W p l e R s m args below meth c H locs cells slots Q (F0 m pc ls (.int (iI a) :: rest)) := lv_if_eq hx hb d ht (fun h => kt ((iI_eq ha (by decide)).mp (by rw [← iI_0]; exact h))) (fun h => kf (fun z => h (by rw [iI_0]; exact (iI_eq ha (by decide)).mpr z)))
theorem k_lcmp_eq (hx : p.tables.exec = Jvm.exec) (hb : c.code = cc) {a b : Int} {off : Int} {tgt : Nat} (ha : rL a) (hb2 : rL b) (d0 : decode cc pc = .ok (.lcmp, 1)) (d : decode cc (pc + 1) = .ok (.ifCond .eq off, 3)) (ht : ((pc + 1 : Nat) : Int) + off = (tgt : Int)) (kt : a = b → W p l e R s m args below meth c H locs cells slots Q (F0 m tgt ls rest)) (kf : ¬ a = b → W p l e R s m args below meth c H locs cells slots Q (F0 m (pc + 4) ls rest)) : W p l e R s m args below meth c H locs cells slots Q (F0 m pc ls (.long (lI b) :: .long (lI a) :: rest)) := W.lcmp hx hb d0 (lv_if_eq hx hb d ht (fun h => kt ((lI_eq ha hb2).mp ((lg_cmp_eq _ _).mp h))) (fun h => kf (fun z => h ((lg_cmp_eq _ _).mpr ((lI_eq ha hb2).mpr z)))))
theorem k_icmp_ne (hx : p.tables.exec = Jvm.exec) (hb : c.code = cc) {a b : Int} {off : Int} {tgt : Nat} (ha : rI a) (hb2 : rI b) (d : decode cc pc = .ok (.if_icmp .ne off, 3)) (ht : (pc : Int) + off = (tgt : Int)) (kt : ¬ a = b → W p l e R s m args below meth c H locs cells slots Q (F0 m tgt ls rest)) (kf : a = b → W p l e R s m args below meth c H locs cells slots Q (F0 m (pc + 3) ls rest)) : W p l e R s m args below meth c H locs cells slots Q (F0 m pc ls (.int (iI b) :: .int (iI a) :: rest)) := lv_icmp_ne hx hb d ht (fun h => kt (fun z => h ((iI_eq ha hb2).mpr z))) (fun h => kf ((iI_eq ha hb2).mp h))
theorem k_if_ne (hx : p.tables.exec = Jvm.exec) (hb : c.code = cc) {a : Int} {off : Int} {tgt : Nat} (ha : rI a) (d : decode cc pc = .ok (.ifCond .ne off, 3)) (ht : (pc : Int) + off = (tgt : Int)) (kt : ¬ a = 0 → W p l e R s m args below meth c H locs cells slots Q (F0 m tgt ls rest)) (kf : a = 0 → W p l e R s m args below meth c H locs cells slots Q (F0 m (pc + 3) ls rest)) : W p l e R s m args below meth c H locs cells slots Q (F0 m pc ls (.int (iI a) :: rest)) := lv_if_ne hx hb d ht (fun h => kt (fun z => h (by rw [iI_0]; exact (iI_eq ha (by decide)).mpr z))) (fun h => kf ((iI_eq ha (by decide)).mp (by rw [← iI_0]; exact h)))
theorem k_lcmp_ne (hx : p.tables.exec = Jvm.exec) (hb : c.code = cc) {a b : Int} {off : Int} {tgt : Nat} (ha : rL a) (hb2 : rL b) (d0 : decode cc pc = .ok (.lcmp, 1)) (d : decode cc (pc + 1) = .ok (.ifCond .ne off, 3)) (ht : ((pc + 1 : Nat) : Int) + off = (tgt : Int)) (kt : ¬ a = b → W p l e R s m args below meth c H locs cells slots Q (F0 m tgt ls rest)) (kf : a = b → W p l e R s m args below meth c H locs cells slots Q (F0 m (pc + 4) ls rest)) : W p l e R s m args below meth c H locs cells slots Q (F0 m pc ls (.long (lI b) :: .long (lI a) :: rest)) := W.lcmp hx hb d0 (lv_if_ne hx hb d ht (fun h => kt (fun z => h ((lg_cmp_eq _ _).mpr ((lI_eq ha hb2).mpr z)))) (fun h => kf ((lI_eq ha hb2).mp ((lg_cmp_eq _ _).mp h))))
theorem k_icmp_lt (hx : p.tables.exec = Jvm.exec) (hb : c.code = cc) {a b : Int} {off : Int} {tgt : Nat} (ha : rI a) (hb2 : rI b) (d : decode cc pc = .ok (.if_icmp .lt off, 3)) (ht : (pc : Int) + off = (tgt : Int)) (kt : a < b → W p l e R s m args below meth c H locs cells slots Q (F0 m tgt ls rest)) (kf : ¬ a < b → W p l e R s m args below meth c H locs cells slots Q (F0 m (pc + 3) ls rest)) : W p l e R s m args below meth c H locs cells slots Q (F0 m pc ls (.int (iI b) :: .int (iI a) :: rest)) := lv_icmp_lt hx hb d ht (fun h => kt ((iI_lt ha hb2).mp h)) (fun h => kf (fun z => h ((iI_lt ha hb2).mpr z)))
theorem k_if_lt (hx : p.tables.exec = Jvm.exec) (hb : c.code = cc) {a : Int} {off : Int} {tgt : Nat} (ha : rI a) (d : decode cc pc = .ok (.ifCond .lt off, 3)) (ht : (pc : Int) + off = (tgt : Int)) (kt : a < 0 → W p l e R s m args below meth c H locs cells slots Q (F0 m tgt ls rest)) (kf : ¬ a < 0 → W p l e R s m args below meth c H locs cells slots Q (F0 m (pc + 3) ls rest)) : W p l e R s m args below meth c H locs cells slots Q (F0 m pc ls (.int (iI a) :: rest)) := lv_if_lt hx hb d ht (fun h => kt ((iI_lt ha (by decide)).mp (by rw [← iI_0]; exact h))) (fun h => kf (fun z => h (by rw [iI_0]; exact (iI_lt ha (by decide)).mpr z)))
theorem k_lcmp_lt (hx : p.tables.exec = Jvm.exec) (hb : c.code = cc) {a b : Int} {off : Int} {tgt : Nat} (ha : rL a) (hb2 : rL b) (d0 : decode cc pc = .ok (.lcmp, 1)) (d : decode cc (pc + 1) = .ok (.ifCond .lt off, 3)) (ht : ((pc + 1 : Nat) : Int) + off = (tgt : Int)) (kt : a < b → W p l e R s m args below meth c H locs cells slots Q (F0 m tgt ls rest)) (kf : ¬ a < b → W p l e R s m args below meth c H locs cells slots Q (F0 m (pc + 4) ls rest)) : W p l e R s m args below meth c H locs cells slots Q (F0 m pc ls (.long (lI b) :: .long (lI a) :: rest)) := W.lcmp hx hb d0 (lv_if_lt hx hb d ht (fun h => kt ((lI_lt ha hb2).mp ((lg_cmp_lt _ _).mp h))) (fun h => kf (fun z => h ((lg_cmp_lt _ _).mpr ((lI_lt ha hb2).mpr z)))))
theorem k_icmp_ge (hx : p.tables.exec = Jvm.exec) (hb : c.code = cc) {a b : Int} {off : Int} {tgt : Nat} (ha : rI a) (hb2 : rI b) (d : decode cc pc = .ok (.if_icmp .ge off, 3)) (ht : (pc : Int) + off = (tgt : Int)) (kt : b ≤ a → W p l e R s m args below meth c H locs cells slots Q (F0 m tgt ls rest)) (kf : ¬ b ≤ a → W p l e R s m args below meth c H locs cells slots Q (F0 m (pc + 3) ls rest)) : W p l e R s m args below meth c H locs cells slots Q (F0 m pc ls (.int (iI b) :: .int (iI a) :: rest)) := lv_icmp_ge hx hb d ht (fun h => kt ((iI_le hb2 ha).mp h)) (fun h => kf (fun z => h ((iI_le hb2 ha).mpr z)))
theorem k_if_ge (hx : p.tables.exec = Jvm.exec) (hb : c.code = cc) {a : Int} {off : Int} {tgt : Nat} (ha : rI a) (d : decode cc pc = .ok (.ifCond .ge off, 3)) (ht : (pc : Int) + off = (tgt : Int)) (kt : 0 ≤ a → W p l e R s m args below meth c H locs cells slots Q (F0 m tgt ls rest)) (kf : ¬ 0 ≤ a → W p l e R s m args below meth c H locs cells slots Q (F0 m (pc + 3) ls rest)) : W p l e R s m args below meth c H locs cells slots Q (F0 m pc ls (.int (iI a) :: rest)) := lv_if_ge hx hb d ht (fun h => kt ((iI_le (by decide) ha).mp (by rw [← iI_0]; exact h))) (fun h => kf (fun z => h (by rw [iI_0]; exact (iI_le (by decide) ha).mpr z)))
theorem k_lcmp_ge (hx : p.tables.exec = Jvm.exec) (hb : c.code = cc) {a b : Int} {off : Int} {tgt : Nat} (ha : rL a) (hb2 : rL b) (d0 : decode cc pc = .ok (.lcmp, 1)) (d : decode cc (pc + 1) = .ok (.ifCond .ge off, 3)) (ht : ((pc + 1 : Nat) : Int) + off = (tgt : Int)) (kt : b ≤ a → W p l e R s m args below meth c H locs cells slots Q (F0 m tgt ls rest)) (kf : ¬ b ≤ a → W p l e R s m args below meth c H locs cells slots Q (F0 m (pc + 4) ls rest)) : W p l e R s m args below meth c H locs cells slots Q (F0 m pc ls (.long (lI b) :: .long (lI a) :: rest)) := W.lcmp hx hb d0 (lv_if_ge hx hb d ht (fun h => kt ((lI_le hb2 ha).mp ((lg_cmp_ge _ _).mp h))) (fun h => kf (fun z => h ((lg_cmp_ge _ _).mpr ((lI_le hb2 ha).mpr z)))))
theorem k_icmp_gt (hx : p.tables.exec = Jvm.exec) (hb : c.code = cc) {a b : Int} {off : Int} {tgt : Nat} (ha : rI a) (hb2 : rI b) (d : decode cc pc = .ok (.if_icmp .gt off, 3)) (ht : (pc : Int) + off = (tgt : Int)) (kt : b < a → W p l e R s m args below meth c H locs cells slots Q (F0 m tgt ls rest)) (kf : ¬ b < a → W p l e R s m args below meth c H locs cells slots Q (F0 m (pc + 3) ls rest)) : W p l e R s m args below meth c H locs cells slots Q (F0 m pc ls (.int (iI b) :: .int (iI a) :: rest)) := lv_icmp_gt hx hb d ht (fun h => kt ((iI_lt hb2 ha).mp h)) (fun h => kf (fun z => h ((iI_lt hb2 ha).mpr z)))
theorem k_if_gt (hx : p.tables.exec = Jvm.exec) (hb : c.code = cc) {a : Int} {off : Int} {tgt : Nat} (ha : rI a) (d : decode cc pc = .ok (.ifCond .gt off, 3)) (ht : (pc : Int) + off = (tgt : Int)) (kt : 0 < a → W p l e R s m args below meth c H locs cells slots Q (F0 m tgt ls rest)) (kf : ¬ 0 < a → W p l e R s m args below meth c H locs cells slots Q (F0 m (pc + 3) ls rest)) : W p l e R s m args below meth c H locs cells slots Q (F0 m pc ls (.int (iI a) :: rest)) := lv_if_gt hx hb d ht (fun h => kt ((iI_lt (by decide) ha).mp (by rw [← iI_0]; exact h))) (fun h => kf (fun z => h (by rw [iI_0]; exact (iI_lt (by decide) ha).mpr z)))
theorem k_lcmp_gt (hx : p.tables.exec = Jvm.exec) (hb : c.code = cc) {a b : Int} {off : Int} {tgt : Nat} (ha : rL a) (hb2 : rL b) (d0 : decode cc pc = .ok (.lcmp, 1)) (d : decode cc (pc + 1) = .ok (.ifCond .gt off, 3)) (ht : ((pc + 1 : Nat) : Int) + off = (tgt : Int)) (kt : b < a → W p l e R s m args below meth c H locs cells slots Q (F0 m tgt ls rest)) (kf : ¬ b < a → W p l e R s m args below meth c H locs cells slots Q (F0 m (pc + 4) ls rest)) : W p l e R s m args below meth c H locs cells slots Q (F0 m pc ls (.long (lI b) :: .long (lI a) :: rest)) := W.lcmp hx hb d0 (lv_if_gt hx hb d ht (fun h => kt ((lI_lt hb2 ha).mp ((lg_cmp_gt _ _).mp h))) (fun h => kf (fun z => h ((lg_cmp_gt _ _).mpr ((lI_lt hb2 ha).mpr z)))))
theorem k_icmp_le (hx : p.tables.exec = Jvm.exec) (hb : c.code = cc) {a b : Int} {off : Int} {tgt : Nat} (ha : rI a) (hb2 : rI b) (d : decode cc pc = .ok (.if_icmp .le off, 3)) (ht : (pc : Int) + off = (tgt : Int)) (kt : a ≤ b → W p l e R s m args below meth c H locs cells slots Q (F0 m tgt ls rest)) (kf : ¬ a ≤ b → W p l e R s m args below meth c H locs cells slots Q (F0 m (pc + 3) ls rest)) : W p l e R s m args below meth c H locs cells slots Q (F0 m pc ls (.int (iI b) :: .int (iI a) :: rest)) := lv_icmp_le hx hb d ht (fun h => kt ((iI_le ha hb2).mp h)) (fun h => kf (fun z => h ((iI_le ha hb2).mpr z)))
theorem k_if_le (hx : p.tables.exec = Jvm.exec) (hb : c.code = cc) {a : Int} {off : Int} {tgt : Nat} (ha : rI a) (d : decode cc pc = .ok (.ifCond .le off, 3)) (ht : (pc : Int) + off = (tgt : Int)) (kt : a ≤ 0 → W p l e R s m args below meth c H locs cells slots Q (F0 m tgt ls rest)) (kf : ¬ a ≤ 0 → W p l e R s m args below meth c H locs cells slots Q (F0 m (pc + 3) ls rest)) : W p l e R s m args below meth c H locs cells slots Q (F0 m pc ls (.int (iI a) :: rest)) := lv_if_le hx hb d ht (fun h => kt ((iI_le ha (by decide)).mp (by rw [← iI_0]; exact h))) (fun h => kf (fun z => h (by rw [iI_0]; exact (iI_le ha (by decide)).mpr z)))
theorem k_lcmp_le (hx : p.tables.exec = Jvm.exec) (hb : c.code = cc) {a b : Int} {off : Int} {tgt : Nat} (ha : rL a) (hb2 : rL b) (d0 : decode cc pc = .ok (.lcmp, 1)) (d : decode cc (pc + 1) = .ok (.ifCond .le off, 3)) (ht : ((pc + 1 : Nat) : Int) + off = (tgt : Int)) (kt : a ≤ b → W p l e R s m args below meth c H locs cells slots Q (F0 m tgt ls rest)) (kf : ¬ a ≤ b → W p l e R s m args below meth c H locs cells slots Q (F0 m (pc + 4) ls rest)) : W p l e R s m args below meth c H locs cells slots Q (F0 m pc ls (.long (lI b) :: .long (lI a) :: rest)) := W.lcmp hx hb d0 (lv_if_le hx hb d ht (fun h => kt ((lI_le ha hb2).mp ((lg_cmp_le _ _).mp h))) (fun h => kf (fun z => h ((lg_cmp_le _ _).mpr ((lI_le ha hb2).mpr z)))))
end KR
section KH
variable {p : Program} {l : Launch} {e : Env} {R : Room} {s : State} {m : MethodId} {args : Array Value} {below : List Frame} {meth : Method} {c : Code} {H : Heap} {locs : List Loc} {cells slots : Nat} {Q : State → Prop}
variable {cc : ByteArray} {pc : Nat} {ls : Array Slot} {rest : List Value} {D : va_G} {cl : List vw_C} {A : Nat → Prop} {tys : List (ClassId × FieldType)} {ad : Nat → Nat} {w : Nat → Option va_E} {H0 : Heap}
theorem gP.one (hP : gP D cl ad w H) {r : Nat} {x : va_E} (hr : w r = some x) : va_P D cl [(ad r, x)] H := by
  intro k q hk
  have hz : k < 1 := (List.getElem?_eq_some_iff.mp hk).1
  rw [show k = 0 by omega] at hk
  cases hk
  exact hP r x hr
theorem k_get (hx : p.tables.exec = Jvm.exec) (hb : c.code = cc) {own ref C : String} {T : u_T} {N ci index : Nat} {Ts : List Cond} (hts : ∀ w ∈ Ts, w.before args s = true) (hin : ∀ w ∈ u_ws C T N, w ∈ Ts) (hown : s.vm.findClass own = some m.cls) (hK : va_K D cl tys s) (hP : gP D cl ad w H) (r : Nat) {fs : List Value} (he : w r = some (.inr (ci, fs))) (hc : cl[ci]? = some (C, T, N)) (k : Nat) (hk : k < N) (hlink : (Cond.fieldLink own index ref (T k).2.1 (T k).2.2.1).before args s = true) (hsame : ∀ x, s.fieldFound? (T k).1 (T k).2.1 (T k).2.2.1 = some x → s.fieldFound? ref (T k).2.1 (T k).2.2.1 = some x) {v : Value} (hv : fs[k]? = some v) (d : decode cc pc = .ok (.getfield index, 3)) (kk : W p l e R s m args below meth c H locs cells slots Q (F0 m (pc + 3) ls (v :: rest))) : W p l e R s m args below meth c H locs cells slots Q (F0 m pc ls (.ref (ad r) :: rest)) := va_get (ws := [(ad r, .inr (ci, fs))]) hx hb hts hin hown hK (hP.one he) 0 rfl hc k hk hlink hsame hv d kk
theorem k_getN (hx : p.tables.exec = Jvm.exec) (hb : c.code = cc) {own ref C : String} {T : u_T} {N ci index : Nat} {Ts : List Cond} (hts : ∀ w ∈ Ts, w.before args s = true) (hin : ∀ w ∈ u_ws C T N, w ∈ Ts) {host : String} (hown : s.vm.findClass own = some m.cls) (hK : va_K D cl tys s) (hP : gP D cl ad w H) (r : Nat) {fs : List Value} (he : w r = some (.inr (ci, fs))) (hc : cl[ci]? = some (C, T, N)) (k : Nat) (hk : k < N) (hlink : (Cond.fieldLinkNest own index ref (T k).2.1 (T k).2.2.1 host).before args s = true) (hsame : ∀ x, s.fieldFound? (T k).1 (T k).2.1 (T k).2.2.1 = some x → s.fieldFound? ref (T k).2.1 (T k).2.2.1 = some x) {v : Value} (hv : fs[k]? = some v) (d : decode cc pc = .ok (.getfield index, 3)) (kk : W p l e R s m args below meth c H locs cells slots Q (F0 m (pc + 3) ls (v :: rest))) : W p l e R s m args below meth c H locs cells slots Q (F0 m pc ls (.ref (ad r) :: rest)) := va_getN (ws := [(ad r, .inr (ci, fs))]) hx hb hts hin hown hK (hP.one he) 0 rfl hc k hk hlink hsame hv d kk
theorem k_put (hx : p.tables.exec = Jvm.exec) (hb : c.code = cc) {own ref C : String} {T : u_T} {N ci index : Nat} {Ts : List Cond} (hts : ∀ w ∈ Ts, w.before args s = true) (hin : ∀ w ∈ u_ws C T N, w ∈ Ts) (ty0 : Nat → FieldType) (hty : ∀ k, k < N → parseFieldDescriptor (T k).2.2.1 = some (ty0 k)) (hnm : ∀ a, a < N → ∀ b, b < N → a ≠ b → (T a).2.1 ≠ (T b).2.1) (hown : s.vm.findClass own = some m.cls) (hK : va_K D cl tys s) (hP : gP D cl ad w H) (hD : gD A ad w) (hS0 : va_S A H0 H locs) (r : Nat) {fs : List Value} (he : w r = some (.inr (ci, fs))) (hc : cl[ci]? = some (C, T, N)) (k : Nat) (hk : k < N) (hlink : (Cond.fieldLink own index ref (T k).2.1 (T k).2.2.1).before args s = true) (hsame : ∀ x, s.fieldFound? (T k).1 (T k).2.1 (T k).2.2.1 = some x → s.fieldFound? ref (T k).2.1 (T k).2.2.1 = some x) (hfin : (T k).2.2.2 = false) {ty : FieldType} {v : Value} (hd : parseFieldDescriptor (T k).2.2.1 = some ty) (hn : narrow ty v = v) (hfit : fits ty v = true) (hl : k < fs.length) {w1 : Nat → Option va_E} (hw : up w r (.inr (ci, fs.set k v)) = w1) (d : decode cc pc = .ok (.putfield index, 3)) (kk : ∀ (H1 : Heap) (locs1 : List Loc), gP D cl ad w1 H1 → gD A ad w1 → va_S A H0 H1 locs1 → W p l e R s m args below meth c H1 locs1 cells slots Q (F0 m (pc + 3) ls rest)) : W p l e R s m args below meth c H locs cells slots Q (F0 m pc ls (v :: .ref (ad r) :: rest)) := by
  subst hw
  have hap := va_apart (own := own) hts hin ty0 hty hnm hK hc
  obtain ⟨r9, h1, cell, q1, q2, q3, q4⟩ := hP r _ he
  have hr : r9 = (C, T, N) := Option.some.inj (h1.symm.trans hc)
  subst hr
  obtain ⟨hS, hfc, kC, hkC, hkind⟩ := hK.1 ci _ hc
  obtain ⟨cf, kf, fi, f, hi, hsl⟩ := hS k hk
  have hlay := hts _ (hin _ (u_in_lay hk))
  unfold u_lay at hlay
  rw [if_neg (by rw [hfin]; decide)] at hlay
  have hst := (u_facts hfc hkC (u_lays hts hin hk) hi).1
  have h6 := u_store hfc hkC hkind hlay hi hd hn hfit
  refine W.putK hx hb (f := f) ⟨hown, hlink, ⟨_, _, _, hsame _ hi⟩, hst⟩ (by rw [q2]; exact h6) q1 q3 (by rw [hsl]; exact k2_hasslot (q4 k hk)) rfl rfl d fun H' e1 e2 e3 => ?_
  rw [hsl] at e1 ⊢
  exact kk H' _ (hP.set hD he ⟨_, hc, t_OB.to (V := updV (vp_V fs) k v) ⟨_, e1, q2, q3, t_set q4 hap hk v⟩ (fun j _ => vp_updV_set hl v j)⟩ e3) (hD.set he) (hS0.put e2 e3 (hD.2 r (by rw [he]; simp)))
theorem k_putF (hx : p.tables.exec = Jvm.exec) (hb : c.code = cc) {own ref C : String} {T : u_T} {N ci index : Nat} {Ts : List Cond} (hts : ∀ w ∈ Ts, w.before args s = true) (hin : ∀ w ∈ u_ws C T N, w ∈ Ts) (ty0 : Nat → FieldType) (hty : ∀ k, k < N → parseFieldDescriptor (T k).2.2.1 = some (ty0 k)) (hnm : ∀ a, a < N → ∀ b, b < N → a ≠ b → (T a).2.1 ≠ (T b).2.1) (hown : s.vm.findClass own = some m.cls) (hK : va_K D cl tys s) (hP : gP D cl ad w H) (hD : gD A ad w) (hS0 : va_S A H0 H locs) (r : Nat) {fs : List Value} (he : w r = some (.inr (ci, fs))) (hc : cl[ci]? = some (C, T, N)) (k : Nat) (hk : k < N) (hlink : (Cond.fieldLink own index ref (T k).2.1 (T k).2.2.1).before args s = true) (hsame : ∀ x, s.fieldFound? (T k).1 (T k).2.1 (T k).2.2.1 = some x → s.fieldFound? ref (T k).2.1 (T k).2.2.1 = some x) (hfin : (T k).2.2.2 = true) (hin2 : meth.name = "<init>") (hdecl : (T k).1 = own) {ty : FieldType} {v : Value} (hd : parseFieldDescriptor (T k).2.2.1 = some ty) (hn : narrow ty v = v) (hfit : fits ty v = true) (hl : k < fs.length) {w1 : Nat → Option va_E} (hw : up w r (.inr (ci, fs.set k v)) = w1) (d : decode cc pc = .ok (.putfield index, 3)) (kk : ∀ (H1 : Heap) (locs1 : List Loc), gP D cl ad w1 H1 → gD A ad w1 → va_S A H0 H1 locs1 → W p l e R s m args below meth c H1 locs1 cells slots Q (F0 m (pc + 3) ls rest)) : W p l e R s m args below meth c H locs cells slots Q (F0 m pc ls (v :: .ref (ad r) :: rest)) := by
  subst hw
  have hap := va_apart (own := own) hts hin ty0 hty hnm hK hc
  obtain ⟨r9, h1, cell, q1, q2, q3, q4⟩ := hP r _ he
  have hr : r9 = (C, T, N) := Option.some.inj (h1.symm.trans hc)
  subst hr
  obtain ⟨hS, hfc, kC, hkC, hkind⟩ := hK.1 ci _ hc
  obtain ⟨cf, kf, fi, f, hi, hsl⟩ := hS k hk
  have hlay := hts _ (hin _ (u_in_lay hk))
  unfold u_lay at hlay
  rw [if_pos hfin] at hlay
  have hst := (u_facts hfc hkC (u_lays hts hin hk) hi).1
  have hcf : m.cls = cf := by
    obtain ⟨_, _, c', _, _, _, -, -, hf', -, -, -, hown2, -⟩ := Cond.laysFinal_spec hlay
    have e1 : c' = cf := by have := hi.symm.trans hf'; simp at this; exact this.1.symm
    rw [hdecl] at hown2
    rw [← e1]; exact Option.some.inj (hown.symm.trans hown2)
  have h6 := u_fits hfc hkC hkind (Or.inr hlay) hi hd hn hfit
  refine W.putFinK hx hb hown hlink (hsame _ hi) hst hcf hin2 (by rw [q2]; exact h6) q1 q3 (by rw [hsl]; exact k2_hasslot (q4 k hk)) rfl rfl d fun H' e1 e2 e3 => ?_
  rw [hsl] at e1 ⊢
  exact kk H' _ (hP.set hD he ⟨_, hc, t_OB.to (V := updV (vp_V fs) k v) ⟨_, e1, q2, q3, t_set q4 hap hk v⟩ (fun j _ => vp_updV_set hl v j)⟩ e3) (hD.set he) (hS0.put e2 e3 (hD.2 r (by rw [he]; simp)))
theorem k_putN (hx : p.tables.exec = Jvm.exec) (hb : c.code = cc) {own ref C : String} {T : u_T} {N ci index : Nat} {Ts : List Cond} (hts : ∀ w ∈ Ts, w.before args s = true) (hin : ∀ w ∈ u_ws C T N, w ∈ Ts) {host : String} (ty0 : Nat → FieldType) (hty : ∀ k, k < N → parseFieldDescriptor (T k).2.2.1 = some (ty0 k)) (hnm : ∀ a, a < N → ∀ b, b < N → a ≠ b → (T a).2.1 ≠ (T b).2.1) (hown : s.vm.findClass own = some m.cls) (hK : va_K D cl tys s) (hP : gP D cl ad w H) (hD : gD A ad w) (hS0 : va_S A H0 H locs) (r : Nat) {fs : List Value} (he : w r = some (.inr (ci, fs))) (hc : cl[ci]? = some (C, T, N)) (k : Nat) (hk : k < N) (hlink : (Cond.fieldLinkNest own index ref (T k).2.1 (T k).2.2.1 host).before args s = true) (hsame : ∀ x, s.fieldFound? (T k).1 (T k).2.1 (T k).2.2.1 = some x → s.fieldFound? ref (T k).2.1 (T k).2.2.1 = some x) (hfin : (T k).2.2.2 = false) {ty : FieldType} {v : Value} (hd : parseFieldDescriptor (T k).2.2.1 = some ty) (hn : narrow ty v = v) (hfit : fits ty v = true) (hl : k < fs.length) {w1 : Nat → Option va_E} (hw : up w r (.inr (ci, fs.set k v)) = w1) (d : decode cc pc = .ok (.putfield index, 3)) (kk : ∀ (H1 : Heap) (locs1 : List Loc), gP D cl ad w1 H1 → gD A ad w1 → va_S A H0 H1 locs1 → W p l e R s m args below meth c H1 locs1 cells slots Q (F0 m (pc + 3) ls rest)) : W p l e R s m args below meth c H locs cells slots Q (F0 m pc ls (v :: .ref (ad r) :: rest)) := by
  subst hw
  have hap := va_apart (own := own) hts hin ty0 hty hnm hK hc
  obtain ⟨r9, h1, cell, q1, q2, q3, q4⟩ := hP r _ he
  have hr : r9 = (C, T, N) := Option.some.inj (h1.symm.trans hc)
  subst hr
  obtain ⟨hS, hfc, kC, hkC, hkind⟩ := hK.1 ci _ hc
  obtain ⟨cf, kf, fi, f, hi, hsl⟩ := hS k hk
  have hlay := hts _ (hin _ (u_in_lay hk))
  unfold u_lay at hlay
  rw [if_neg (by rw [hfin]; decide)] at hlay
  have hst := (u_facts hfc hkC (u_lays hts hin hk) hi).1
  have h6 := u_store hfc hkC hkind hlay hi hd hn hfit
  refine va_WputK hx hb (f := f) hown hlink (hsame _ hi) hst (by rw [q2]; exact h6) q1 q3 (by rw [hsl]; exact k2_hasslot (q4 k hk)) rfl rfl d fun H' e1 e2 e3 => ?_
  rw [hsl] at e1 ⊢
  exact kk H' _ (hP.set hD he ⟨_, hc, t_OB.to (V := updV (vp_V fs) k v) ⟨_, e1, q2, q3, t_set q4 hap hk v⟩ (fun j _ => vp_updV_set hl v j)⟩ e3) (hD.set he) (hS0.put e2 e3 (hD.2 r (by rw [he]; simp)))
theorem k_iald (hx : p.tables.exec = Jvm.exec) (hb : c.code = cc) (hK : va_K D cl tys s) (hP : gP D cl ad w H) (r t0 : Nat) {cA : ClassId} {n : Nat} {f : Int → Int} (ha : w r = some (eI cA n f)) (ht : tys[t0]? = some (cA, .int)) {i : Int} (h0 : 0 ≤ i) (h1 : i < n) (hn : (n : Int) < 2147483648) (d : decode cc pc = .ok (.iaload, 1)) (kk : W p l e R s m args below meth c H locs cells slots Q (F0 m (pc + 1) ls (.int (iI (f i)) :: rest))) : W p l e R s m args below meth c H locs cells slots Q (F0 m pc ls (.int (iI i) :: .ref (ad r) :: rest)) := by
  refine va_iald (ws := [(ad r, eI cA n f)]) hx hb hK (hP.one ha) 0 t0 rfl ht (iI_in h0 h1 hn) d ?_
  rw [iI_clamp h0 (by omega), Int.toNat_of_nonneg h0]
  exact kk
theorem k_zald (hx : p.tables.exec = Jvm.exec) (hb : c.code = cc) (hK : va_K D cl tys s) (hP : gP D cl ad w H) (r t0 : Nat) {cA : ClassId} {n : Nat} {f : Int → Int} (ha : w r = some (eI cA n f)) (ht : tys[t0]? = some (cA, .boolean)) {i : Int} (h0 : 0 ≤ i) (h1 : i < n) (hn : (n : Int) < 2147483648) (d : decode cc pc = .ok (.baload, 1)) (kk : W p l e R s m args below meth c H locs cells slots Q (F0 m (pc + 1) ls (.int (iI (f i)) :: rest))) : W p l e R s m args below meth c H locs cells slots Q (F0 m pc ls (.int (iI i) :: .ref (ad r) :: rest)) := by
  refine va_zald (ws := [(ad r, eI cA n f)]) hx hb hK (hP.one ha) 0 t0 rfl ht (iI_in h0 h1 hn) d ?_
  rw [iI_clamp h0 (by omega), Int.toNat_of_nonneg h0]
  exact kk
theorem k_lald (hx : p.tables.exec = Jvm.exec) (hb : c.code = cc) (hK : va_K D cl tys s) (hP : gP D cl ad w H) (r t0 : Nat) {cA : ClassId} {n : Nat} {f : Int → Int} (ha : w r = some (eJ cA n f)) (ht : tys[t0]? = some (cA, .long)) {i : Int} (h0 : 0 ≤ i) (h1 : i < n) (hn : (n : Int) < 2147483648) (d : decode cc pc = .ok (.laload, 1)) (kk : W p l e R s m args below meth c H locs cells slots Q (F0 m (pc + 1) ls (.long (lI (f i)) :: rest))) : W p l e R s m args below meth c H locs cells slots Q (F0 m pc ls (.int (iI i) :: .ref (ad r) :: rest)) := by
  refine va_lald (ws := [(ad r, eJ cA n f)]) hx hb hK (hP.one ha) 0 t0 rfl ht (iI_in h0 h1 hn) d ?_
  rw [iI_clamp h0 (by omega), Int.toNat_of_nonneg h0]
  exact kk
theorem k_aald (hx : p.tables.exec = Jvm.exec) (hb : c.code = cc) (hK : va_K D cl tys s) (hP : gP D cl ad w H) (r t0 : Nat) {cA : ClassId} {C : String} {n : Nat} {f : Nat → Option Nat} (ha : w r = some (eQ cA n f)) (ht : tys[t0]? = some (cA, .object C)) {i : Int} (h0 : 0 ≤ i) (h1 : i < n) (hn : (n : Int) < 2147483648) {o : Option Nat} (ho : f i.toNat = o) (d : decode cc pc = .ok (.aaload, 1)) (kk : W p l e R s m args below meth c H locs cells slots Q (F0 m (pc + 1) ls (va_rf o :: rest))) : W p l e R s m args below meth c H locs cells slots Q (F0 m pc ls (.int (iI i) :: .ref (ad r) :: rest)) := by
  refine va_aldq (ws := [(ad r, eQ cA n f)]) hx hb hK (hP.one ha) 0 t0 rfl ht (iI_in h0 h1 hn) d ?_
  rw [iI_clamp h0 (by omega), ho]
  exact kk
theorem k_alen (hx : p.tables.exec = Jvm.exec) (hb : c.code = cc) (hK : va_K D cl tys s) (hP : gP D cl ad w H) (r t0 : Nat) {cA : ClassId} {x : vp_A} (ha : w r = some (.inl (cA, x))) {ty : FieldType} (ht : tys[t0]? = some (cA, ty)) {z : Int} (hz : (x.1 : Int) = z) (d : decode cc pc = .ok (.arraylength, 1)) (kk : W p l e R s m args below meth c H locs cells slots Q (F0 m (pc + 1) ls (.int (iI z) :: rest))) : W p l e R s m args below meth c H locs cells slots Q (F0 m pc ls (.ref (ad r) :: rest)) := va_alen (ws := [(ad r, .inl (cA, x))]) hx hb hK (hP.one ha) 0 t0 rfl ht (by rw [iI_nat, hz]) d kk
theorem k_iast (hx : p.tables.exec = Jvm.exec) (hb : c.code = cc) (hK : va_K D cl tys s) (hP : gP D cl ad w H) (hD : gD A ad w) (hS : va_S A H0 H locs) (r t0 : Nat) {cA : ClassId} {n : Nat} {f : Int → Int} (ha : w r = some (eI cA n f)) (ht : tys[t0]? = some (cA, .int)) {i x : Int} (h0 : 0 ≤ i) (h1 : i < n) (hn : (n : Int) < 2147483648) {w1 : Nat → Option va_E} (hw : up w r (eI cA n (updI f i x)) = w1) (d : decode cc pc = .ok (.iastore, 1)) (kk : ∀ (H1 : Heap) (locs1 : List Loc), gP D cl ad w1 H1 → gD A ad w1 → va_S A H0 H1 locs1 → W p l e R s m args below meth c H1 locs1 cells slots Q (F0 m (pc + 1) ls rest)) : W p l e R s m args below meth c H locs cells slots Q (F0 m pc ls (.int (iI x) :: .int (iI i) :: .ref (ad r) :: rest)) := by
  subst hw
  have hin := iI_in h0 h1 hn
  refine W.iast hx hb (hP r _ ha) ((hK.2 t0 _ ht).1 n (fun j => .int (iI (f (j : Int))))) (fun q => by cases q) (by show ¬ (iI i < 0 ∨ (arrV _ _ _).slots.size ≤ _); rw [arrV_size]; exact hin) rfl rfl d fun H1 e1 z1 oq => ?_
  refine kk H1 _ (hP.set hD ha ?_ oq) (hD.set ha) (hS.put z1 oq (hD.2 r (by rw [ha]; simp)))
  show H1[ad r]? = some (vp_cell _ _)
  rw [e1, vp_cell_i, vp_cell_i, arrV_store, iI_clamp h0 (by omega)]
  congr 2
  funext q
  by_cases hq : q = i.toNat
  · subst hq
    have h9 : ((i.toNat : Nat) : Int) = i := Int.toNat_of_nonneg h0
    simp [updV, updI, h9]
  · have h9 : ¬ (q : Int) = i := by omega
    simp [updV, updI, hq, h9]
theorem k_zast (hx : p.tables.exec = Jvm.exec) (hb : c.code = cc) (hK : va_K D cl tys s) (hP : gP D cl ad w H) (hD : gD A ad w) (hS : va_S A H0 H locs) (r t0 : Nat) {cA : ClassId} {n : Nat} {f : Int → Int} (ha : w r = some (eI cA n f)) (ht : tys[t0]? = some (cA, .boolean)) {i x : Int} (h0 : 0 ≤ i) (h1 : i < n) (hn : (n : Int) < 2147483648) (hz : x = 0 ∨ x = 1) {w1 : Nat → Option va_E} (hw : up w r (eI cA n (updI f i x)) = w1) (d : decode cc pc = .ok (.bastore, 1)) (kk : ∀ (H1 : Heap) (locs1 : List Loc), gP D cl ad w1 H1 → gD A ad w1 → va_S A H0 H1 locs1 → W p l e R s m args below meth c H1 locs1 cells slots Q (F0 m (pc + 1) ls rest)) : W p l e R s m args below meth c H locs cells slots Q (F0 m pc ls (.int (iI x) :: .int (iI i) :: .ref (ad r) :: rest)) := by
  subst hw
  have hin := iI_in h0 h1 hn
  refine W.zast hx hb (hP r _ ha) ((hK.2 t0 _ ht).1 n (fun j => .int (iI (f (j : Int))))) (fun q => by cases q) (by show ¬ (iI i < 0 ∨ (arrV _ _ _).slots.size ≤ _); rw [arrV_size]; exact hin) rfl rfl d fun H1 e1 z1 oq => ?_
  refine kk H1 _ (hP.set hD ha ?_ oq) (hD.set ha) (hS.put z1 oq (hD.2 r (by rw [ha]; simp)))
  show H1[ad r]? = some (vp_cell _ _)
  rw [e1, vp_cell_i, vp_cell_i, arrV_store, iI_clamp h0 (by omega)]
  congr 2
  funext q
  by_cases hq : q = i.toNat
  · subst hq
    have h9 : ((i.toNat : Nat) : Int) = i := Int.toNat_of_nonneg h0
    rcases hz with rfl | rfl
    · simp [updV, updI, h9]
      decide +kernel
    · simp [updV, updI, h9]
      decide +kernel
  · have h9 : ¬ (q : Int) = i := by omega
    simp [updV, updI, hq, h9]
theorem k_last (hx : p.tables.exec = Jvm.exec) (hb : c.code = cc) (hK : va_K D cl tys s) (hP : gP D cl ad w H) (hD : gD A ad w) (hS : va_S A H0 H locs) (r t0 : Nat) {cA : ClassId} {n : Nat} {f : Int → Int} (ha : w r = some (eJ cA n f)) (ht : tys[t0]? = some (cA, .long)) {i x : Int} (h0 : 0 ≤ i) (h1 : i < n) (hn : (n : Int) < 2147483648) {w1 : Nat → Option va_E} (hw : up w r (eJ cA n (updI f i x)) = w1) (d : decode cc pc = .ok (.lastore, 1)) (kk : ∀ (H1 : Heap) (locs1 : List Loc), gP D cl ad w1 H1 → gD A ad w1 → va_S A H0 H1 locs1 → W p l e R s m args below meth c H1 locs1 cells slots Q (F0 m (pc + 1) ls rest)) : W p l e R s m args below meth c H locs cells slots Q (F0 m pc ls (.long (lI x) :: .int (iI i) :: .ref (ad r) :: rest)) := by
  subst hw
  have hin := iI_in h0 h1 hn
  refine W.last hx hb (hP r _ ha) ((hK.2 t0 _ ht).1 n (fun j => .long (lI (f (j : Int))))) (fun q => by cases q) (by show ¬ (iI i < 0 ∨ (arrV _ _ _).slots.size ≤ _); rw [arrV_size]; exact hin) rfl rfl d fun H1 e1 z1 oq => ?_
  refine kk H1 _ (hP.set hD ha ?_ oq) (hD.set ha) (hS.put z1 oq (hD.2 r (by rw [ha]; simp)))
  show H1[ad r]? = some (vp_cell _ _)
  rw [e1, vp_cell_l, vp_cell_l, arrV_store, iI_clamp h0 (by omega)]
  congr 2
  funext q
  by_cases hq : q = i.toNat
  · subst hq
    have h9 : ((i.toNat : Nat) : Int) = i := Int.toNat_of_nonneg h0
    simp [updV, updI, h9]
  · have h9 : ¬ (q : Int) = i := by omega
    simp [updV, updI, hq, h9]
end KH
