/-! rows for the law: masks, shifts, remainders, rows of rows, greatest and least of longs, the script -/
def iAnd (a b : Int) : Int := (iI a &&& iI b).toInt
def iShr (a b : Int) : Int := (iI a >>> (iI b &&& 31)).toInt
def wI (a : Int) : Int := (iI a).toInt
theorem iAnd_r (a b : Int) : rI (iAnd a b) := iI_rng _
theorem iShr_r (a b : Int) : rI (iShr a b) := iI_rng _
theorem wI_r (a : Int) : rI (wI a) := iI_rng _
theorem iAnd_m (a : Int) : 0 ≤ iAnd a 2147483647 ∧ iAnd a 2147483647 < 2147483648 := by
  refine ⟨?_, (iAnd_r _ _).2⟩
  unfold iAnd
  have h1 : (iI a &&& iI 2147483647).toUInt32.toNat ≤ 2147483647 := by
    have h2 : (iI a &&& iI 2147483647).toUInt32.toNat = (iI a).toUInt32.toNat &&& (iI 2147483647).toUInt32.toNat := by
      show ((iI a).toBitVec &&& (iI 2147483647).toBitVec).toNat = _
      rw [BitVec.toNat_and]
      rfl
    rw [h2]
    exact Nat.le_trans Nat.and_le_right (by decide +kernel)
  have h3 : (iI a &&& iI 2147483647).toInt = (iI a &&& iI 2147483647).toBitVec.toInt := rfl
  have h4 : (iI a &&& iI 2147483647).toBitVec.toNat ≤ 2147483647 := h1
  rw [h3, BitVec.toInt_eq_toNat_of_lt (by omega)]
  omega
theorem below_b {a n : Int} (ha : 0 ≤ a) (hn : 1 ≤ n) : 0 ≤ a - Int.tdiv a n * n ∧ a - Int.tdiv a n * n < n := by
  rw [Int.tdiv_eq_ediv_of_nonneg ha]
  have h1 := Int.mul_ediv_add_emod a n
  have h2 := Int.emod_nonneg a (show n ≠ 0 by omega)
  have h3 := Int.emod_lt_of_pos a (show 0 < n by omega)
  rw [Int.mul_comm] at h1
  omega
theorem rem_p {a n : Int} (ha : 0 ≤ a) : a - Int.tdiv a n * n = a - a / n * n := by
  rw [Int.tdiv_eq_ediv_of_nonneg ha]
section KLR
variable {p : Program} {l : Launch} {e : Env} {R : Room} {s : State} {m : MethodId} {args : Array Value} {below : List Frame} {meth : Method} {c : Code} {H : Heap} {locs : List Loc} {cells slots : Nat} {Q : State → Prop}
variable {pc : Nat} {ls : Array Slot} {rest : List Value} {cc : ByteArray} {D : va_G} {cl : List vw_C} {tys : List (ClassId × FieldType)} {ad : Nat → Nat} {w : Nat → Option va_E} {A : Nat → Prop} {H0 : Heap}
theorem k_iand (hx : p.tables.exec = Jvm.exec) (hb : c.code = cc) {a b : Int} (d : decode cc pc = .ok (.iand, 1)) (k : W p l e R s m args below meth c H locs cells slots Q (F0 m (pc + 1) ls (.int (iI (iAnd a b)) :: rest))) : W p l e R s m args below meth c H locs cells slots Q (F0 m pc ls (.int (iI b) :: .int (iI a) :: rest)) := lv_iand hx hb d (by rw [show iI a &&& iI b = iI (iAnd a b) from (iI_of _).symm]; exact k)
theorem k_ishr (hx : p.tables.exec = Jvm.exec) (hb : c.code = cc) {a b : Int} (d : decode cc pc = .ok (.ishr, 1)) (k : W p l e R s m args below meth c H locs cells slots Q (F0 m (pc + 1) ls (.int (iI (iShr a b)) :: rest))) : W p l e R s m args below meth c H locs cells slots Q (F0 m pc ls (.int (iI b) :: .int (iI a) :: rest)) := lv_ishr hx hb d (by rw [show iI a >>> (iI b &&& 31) = iI (iShr a b) from (iI_of _).symm]; exact k)
theorem k_irem (hx : p.tables.exec = Jvm.exec) (hb : c.code = cc) {a b : Int} (ha : rI a) (hb2 : rI b) (h0 : 0 < b) (d : decode cc pc = .ok (.irem, 1)) (k : W p l e R s m args below meth c H locs cells slots Q (F0 m (pc + 1) ls (.int (iI (a - Int.tdiv a b * b)) :: rest))) : W p l e R s m args below meth c H locs cells slots Q (F0 m pc ls (.int (iI b) :: .int (iI a) :: rest)) :=
  lv_irem hx hb d (by rw [iI_0, iI_eq hb2 (by decide)]; omega) (by rw [iI_div ha hb2 h0, iI_mul, iI_sub]; exact k)
theorem k_lmax (hx : p.tables.exec = Jvm.exec) (hb : c.code = cc) (hml : c.maxLocals = ls.size) {own : String} {index : Nat} (hown : s.vm.findClass own = some m.cls) (hlink : (Cond.methodLink own index Lib.MathLoose.max_long.x).before args s = true) (hstat : (Cond.static Lib.MathLoose.max_long.x).before args s = true) (hini : (Cond.initialized "java/lang/Math").before args s = true) (hcode : (Cond.code Lib.MathLoose.max_long.x Lib.MathLoose.max_long.code 4 (some .long)).before args s = true)
    (hframes : 1 ≤ R.frames) (hlocals : (rest.map fun v => v.category).sum + 15 ≤ R.locals) (hc : cells ≤ R.cells) (hs : slots ≤ R.slots) {a b : Int} (ha : rL a) (hb2 : rL b) (d : decode cc pc = .ok (.invokestatic index, 3)) (kk : W p l e R s m args below meth c H locs cells slots Q (F0 m (pc + 3) ls (.long (lI (max a b)) :: rest))) : W p l e R s m args below meth c H locs cells slots Q (F0 m pc ls (.long (lI b) :: .long (lI a) :: rest)) := by
  refine va_mmax_long hx hb hml hown hlink hstat hini hcode hframes hlocals hc hs d ?_
  have h9 : (if lI b < lI a then lI a else lI b) = lI (max a b) := by
    by_cases h : b < a
    · rw [if_pos ((lI_lt hb2 ha).mpr h), show max a b = a by omega]
    · rw [if_neg (fun z => h ((lI_lt hb2 ha).mp z)), show max a b = b by omega]
  rw [h9]
  exact kk
theorem k_lmin (hx : p.tables.exec = Jvm.exec) (hb : c.code = cc) (hml : c.maxLocals = ls.size) {own : String} {index : Nat} (hown : s.vm.findClass own = some m.cls) (hlink : (Cond.methodLink own index Lib.MathLoose.min_long.x).before args s = true) (hstat : (Cond.static Lib.MathLoose.min_long.x).before args s = true) (hini : (Cond.initialized "java/lang/Math").before args s = true) (hcode : (Cond.code Lib.MathLoose.min_long.x Lib.MathLoose.min_long.code 4 (some .long)).before args s = true)
    (hframes : 1 ≤ R.frames) (hlocals : (rest.map fun v => v.category).sum + 15 ≤ R.locals) (hc : cells ≤ R.cells) (hs : slots ≤ R.slots) {a b : Int} (ha : rL a) (hb2 : rL b) (d : decode cc pc = .ok (.invokestatic index, 3)) (kk : W p l e R s m args below meth c H locs cells slots Q (F0 m (pc + 3) ls (.long (lI (min a b)) :: rest))) : W p l e R s m args below meth c H locs cells slots Q (F0 m pc ls (.long (lI b) :: .long (lI a) :: rest)) := by
  refine va_mmin_long hx hb hml hown hlink hstat hini hcode hframes hlocals hc hs d ?_
  have h9 : (if lI b < lI a then lI b else lI a) = lI (min a b) := by
    by_cases h : b < a
    · rw [if_pos ((lI_lt hb2 ha).mpr h), show min a b = b by omega]
    · rw [if_neg (fun z => h ((lI_lt hb2 ha).mp z)), show min a b = a by omega]
  rw [h9]
  exact kk
/-- a row out of a row of rows -/
theorem k_aaldA (hx : p.tables.exec = Jvm.exec) (hb : c.code = cc) (hK : va_K D cl tys s) (hP : gP D cl ad w H) (r t0 : Nat) {cA : ClassId} {t : FieldType} {n : Nat} {f : Nat → Option Nat} (ha : w r = some (eQ cA n f)) (ht : tys[t0]? = some (cA, .array t)) {i : Int} (h0 : 0 ≤ i) (h1 : i < n) (hn : (n : Int) < 2147483648) {o : Option Nat} (ho : f i.toNat = o) (d : decode cc pc = .ok (.aaload, 1)) (kk : W p l e R s m args below meth c H locs cells slots Q (F0 m (pc + 1) ls (va_rf o :: rest))) : W p l e R s m args below meth c H locs cells slots Q (F0 m pc ls (.int (iI i) :: .ref (ad r) :: rest)) := by
  have hin := iI_in h0 h1 hn
  have hlt : (iI i).toNatClampNeg < n := Nat.not_le.mp fun q => hin (Or.inr q)
  have kk2 : W p l e R s m args below meth c H locs cells slots Q (F0 m (pc + 1) ls (va_rf (f (iI i).toNatClampNeg) :: rest)) := by
    rw [iI_clamp h0 (by omega), ho]
    exact kk
  exact W.aald (v := va_rf (f (iI i).toNatClampNeg)) (ty := .array t) hx hb (hP r _ ha) ((hK.2 t0 _ ht).1 n (fun j => va_rf (f j))) rfl (fun q => by cases q) (by show ¬ (iI i < 0 ∨ (arrV _ _ _).slots.size ≤ _); rw [arrV_size]; exact hin) (by show (arrV _ _ _).slots[_]? = _; rw [arrV_read _ _ hlt]) rfl rfl d kk2
def adM (ad : Nat → Nat) (r N q : Nat) : Nat → Nat := fun j => if r ≤ j ∧ j ≤ r + N then q + (j - r) else ad j
def upM (w : Nat → Option va_E) (r N : Nat) (x y : va_E) : Nat → Option va_E := fun j => if j = r then some x else if r < j ∧ j ≤ r + N then some y else w j
theorem k_mna (hx : p.tables.exec = Jvm.exec) (hb : c.code = cc) {own : String} {index : Nat} (hown : s.vm.findClass own = some m.cls) (hclink : (Cond.classLink own index "[[I").before args s = true) (hover : va_AOA .int s) (harr : (Cond.arrayClass .int).before args s = true) (hK : va_K D cl tys s) (hP : gP D cl ad w H) (hD : gD A ad w) (hS : va_S A H0 H locs) (hA : ∀ q, H0.size ≤ q → A q) (r t0 t6 : Nat) {c0 c6 : ClassId} (ht : tys[t0]? = some (c0, .int)) (ht6 : tys[t6]? = some (c6, .array .int)) {n k : Int} (N K : Nat) (hn : n = (N : Int)) (hk : k = (K : Int)) (hN : N ≤ 1000) (hK2 : K ≤ 1000) (hcells : cells + (1 + N) ≤ R.cells) (hslots : slots + (N + N * K) ≤ R.slots) (d : decode cc pc = .ok (.multianewarray index 2, 4))
    (kk : ∀ (q : Nat) (H1 : Heap), gP D cl (adM ad r N q) (upM w r N (eQ c6 N (fun j => if j < N then some (q + 1 + j) else none)) (eI c0 K (fun _ => 0))) H1 → gD A (adM ad r N q) (upM w r N (eQ c6 N (fun j => if j < N then some (q + 1 + j) else none)) (eI c0 K (fun _ => 0))) → va_S A H0 H1 locs → W p l e R s m args below meth c H1 locs (cells + 1 + N) (slots + N + N * K) Q (F0 m (pc + 4) ls (.ref q :: rest))) : W p l e R s m args below meth c H locs cells slots Q (F0 m pc ls (.int (iI k) :: .int (iI n) :: rest)) := by
  subst hn
  subst hk
  have hcn : (iI (N : Int)).toNatClampNeg = N := by rw [iI_clamp (by omega) (by omega)]; omega
  have hck : (iI (K : Int)).toNatClampNeg = K := by rw [iI_clamp (by omega) (by omega)]; omega
  have nn : ∀ z : Nat, z ≤ 1000 → ¬ iI (z : Int) < 0 := fun z a => by rw [iI_0]; exact fun q => absurd ((iI_lt (by constructor <;> omega) (by decide)).mp q) (by omega)
  intro T hT Xs
  obtain ⟨vm₁, cA, comp, -, fA, fC, hO, -, X', step⟩ := Xs.multianewarray2F (ty := .int) hx hown (by rw [show "[" ++ (FieldType.array .int).toString = "[[I" by decide +kernel]; exact hclink) (va_AOA.use hover) harr (g := F0 m pc ls (.int (iI (K : Int)) :: .int (iI (N : Int)) :: rest)) rfl (by rw [hb]; exact d) rfl (nn N hN) (nn K hK2) (by rw [hcn]; omega) (by rw [hck]; exact Nat.le_trans (Nat.mul_le_mul_right _ hK2) (by decide)) (by rw [hck]; omega) rfl rfl (by rw [hcn]; exact hcells) (by rw [hcn, hck]; exact hslots)
  have ec : comp = c0 := Option.some.inj (fC.symm.trans (show s.vm.findClass _ = some c0 from (hK.2 t0 _ ht).2))
  have e6 : cA = c6 := Option.some.inj (fA.symm.trans (show s.vm.findClass _ = some c6 from (hK.2 t6 _ ht6).2))
  subst ec
  subst e6
  rw [hcn, hck] at X' step
  generalize hF : Jvm.Free.Multi.fill (T.setVm vm₁) cA comp N K (defaultValue .int) N = F at X' step
  have hTh : (T.setVm vm₁).heap = H := hT
  obtain ⟨f1, f2, -, -⟩ := Jvm.Free.Multi.fill_facts (T.setVm vm₁) cA comp N K (defaultValue .int) N
  rw [hF, hTh] at f1 f2
  have hold : ∀ x : Nat, x < H.size → F.heap[x]? = H[x]? := fun x hx => by
    have := Jvm.Free.Multi.fill_old (T.setVm vm₁) cA comp N K (defaultValue .int) (a := x) (by rw [hTh]; exact hx) N
    rw [hF, hTh] at this
    exact this
  have hz : Jvm.Free.Multi.innerC comp K (defaultValue .int) = vp_cell comp (K, .inl (fun j : Nat => iI ((fun _ : Int => (0 : Int)) (j : Int)))) := by
    rw [vp_cell_i]
    show ({ cls := comp, slots := Array.replicate K (defaultValue .int), vm := .none } : Cell) = _
    rw [arrV_new]
    rfl
  have hrow : ∀ j : Nat, j < N → F.heap[H.size + 1 + j]? = some (vp_cell comp (K, .inl (fun j : Nat => iI ((fun _ : Int => (0 : Int)) (j : Int))))) := fun j hj => by
    have := Jvm.Free.Multi.fill_inner (T.setVm vm₁) cA comp N K (defaultValue .int) N j hj
    rw [hF, hTh, hz] at this
    exact this
  have hout : Jvm.Free.Multi.outerC cA N H.size N = vp_cell cA (N, .inr (.inr (.inr (.inr (fun i => if i < N then some (H.size + 1 + i) else none))))) := by
    rw [vp_cell_q]
    exact vr_outer cA N H.size N
  rw [hout] at f2
  have key : ∀ j : Nat, upM w r N (eQ cA N (fun j => if j < N then some (H.size + 1 + j) else none)) (eI comp K (fun _ => 0)) j ≠ none → (r ≤ j ∧ j ≤ r + N ∧ adM ad r N H.size j = H.size + (j - r)) ∨ (¬ (r ≤ j ∧ j ≤ r + N) ∧ w j ≠ none ∧ adM ad r N H.size j = ad j ∧ ad j < H.size) := fun j hj => by
    by_cases h : r ≤ j ∧ j ≤ r + N
    · exact Or.inl ⟨h.1, h.2, if_pos h⟩
    · have h2 : w j ≠ none := by
        unfold upM at hj
        rw [if_neg (by omega), if_neg (by omega)] at hj
        exact hj
      exact Or.inr ⟨h, h2, if_neg h, hP.lt h2⟩
  obtain ⟨t, a1, b1⟩ := kk H.size F.heap (fun j x hx => by
      unfold upM at hx
      by_cases h1 : j = r
      · rw [if_pos h1] at hx
        cases hx
        have : adM ad r N H.size j = H.size := by unfold adM; rw [if_pos (by omega)]; omega
        rw [this]
        exact f2
      · rw [if_neg h1] at hx
        by_cases h2 : r < j ∧ j ≤ r + N
        · rw [if_pos h2] at hx
          cases hx
          have : adM ad r N H.size j = H.size + 1 + (j - r - 1) := by unfold adM; rw [if_pos (by omega)]; omega
          rw [this]
          exact hrow (j - r - 1) (by omega)
        · rw [if_neg h2] at hx
          have : adM ad r N H.size j = ad j := by unfold adM; rw [if_neg (by omega)]
          rw [this]
          exact (hP j x hx).kept (hold _ (hP j x hx).lt))
    ⟨fun a b ha hb hab => by
      rcases key a ha with ⟨a1, a2, a3⟩ | ⟨a1, a2, a3, a4⟩ <;> rcases key b hb with ⟨b1, b2, b3⟩ | ⟨b1, b2, b3, b4⟩
      · omega
      · omega
      · omega
      · exact hD.1 a b a2 b2 (by omega),
     fun a ha => by
      rcases key a ha with ⟨a1, a2, a3⟩ | ⟨a1, a2, a3, a4⟩
      · rw [a3]
        exact hA _ (by have := hS.1; omega)
      · rw [a3]
        exact hD.2 a a2⟩
    ⟨by rw [f1]; have := hS.1; omega, fun x h1 h2 => (hold x (Nat.lt_of_lt_of_le h1 hS.1)).trans (hS.2.1 x h1 h2), hS.2.2⟩ F rfl X'
  refine ⟨t, step t ?_, b1⟩
  have e : T.heap.size = H.size := by rw [hT]
  rw [e]
  exact a1
/-- an int of the script -/
theorem k_sld (hx : p.tables.exec = Jvm.exec) (hb : c.code = cc) {b L : Nat} {xs : Nat → Int32} (hX : va_X b L xs s H0) (hbl : b < H0.size) (hbA : ¬ A b) (hS : va_S A H0 H locs) {i : Int} (h0 : 0 ≤ i) (h1 : i < L) (hL : L ≤ 2560) (d : decode cc pc = .ok (.iaload, 1))
    (kk : W p l e R s m args below meth c H locs cells slots Q (F0 m (pc + 1) ls (.int (iI (xs i.toNat).toInt) :: rest))) : W p l e R s m args below meth c H locs cells slots Q (F0 m pc ls (.int (iI i) :: .ref b :: rest)) := by
  refine va_sld hx hb hX hbl hbA hS (iI_in h0 h1 (by omega)) d ?_
  rw [iI_clamp h0 (by omega), ← iI_of (xs i.toNat)]
  exact kk
theorem k_slen (hx : p.tables.exec = Jvm.exec) (hb : c.code = cc) {b L : Nat} {xs : Nat → Int32} (hX : va_X b L xs s H0) (hbl : b < H0.size) (hbA : ¬ A b) (hS : va_S A H0 H locs) (d : decode cc pc = .ok (.arraylength, 1))
    (kk : W p l e R s m args below meth c H locs cells slots Q (F0 m (pc + 1) ls (.int (iI (L : Int)) :: rest))) : W p l e R s m args below meth c H locs cells slots Q (F0 m pc ls (.ref b :: rest)) := by
  refine va_slen hx hb hX hbl hbA hS d ?_
  rw [iI_nat]
  exact kk
end KLR
/-- a start of a method that reads the script; of one that reads it and writes beside it -/
def gS (b L : Nat) (xs : Nat → Int32) (av : List Value) : Array Value → State → Prop := va_Pc av (fun U => va_X b L xs U U.heap ∧ b < U.heap.size)
theorem gS_blind {b L : Nat} {xs : Nat → Int32} {av : List Value} : FrameBlind (gS b L xs av) := fun a U g mk q => by
  obtain ⟨q0, qX, qb⟩ := q
  exact ⟨q0, va_X.moved (u := U) (U := U.calling g mk a) (Vm.Alike.refl U.vm) qX, qb⟩
theorem gS_S {s : State} {H : Heap} {As : List Value} {A : Nat → Prop} {locs : List Loc} {b L : Nat} {xs : Nat → Int32} (hX : va_X b L xs s s.heap) (hbl : b < s.heap.size) (hbA : ¬ A b) (hS : va_S A s.heap H locs) : PreS s H (gS b L xs As) As :=
  ⟨gS_blind, fun U hU hW => ⟨rfl, by rw [hU]; exact (hX.kept (hS.2.1 b hbl hbA)).moved hW.alike, by rw [hU]; exact Nat.lt_of_lt_of_le hbl hS.1⟩⟩
def gVs (D : va_G) (cA : Nat → ClassId) (ad : Nat → Nat) (w : Nat → Option va_E) (sz : Nat) (b L : Nat) (xs : Nat → Int32) (av : List Value) : Array Value → State → Prop := va_Pc av (fun U => (U.heap.size = sz ∧ gP D vwCl ad w U.heap ∧ gD (fun _ => True) ad w ∧ va_K D vwCl (gT cA) U ∧ gB U ∧ gZ (gA ad w sz) U U.heap) ∧ va_X b L xs U U.heap ∧ b < U.heap.size ∧ ¬ gA ad w sz b)
theorem gVs_blind {D : va_G} {cA : Nat → ClassId} {ad : Nat → Nat} {w : Nat → Option va_E} {sz b L : Nat} {xs : Nat → Int32} {av : List Value} : FrameBlind (gVs D cA ad w sz b L xs av) := fun a U g mk q => by
  obtain ⟨q0, ⟨q1, qP, qD, qK, qB, qZ⟩, qX, qb, qA⟩ := q
  exact ⟨q0, ⟨q1, qP, qD, va_K.moved (u := U) (U := U.calling g mk a) (Vm.Alike.refl U.vm) qK, gB.same (u := U) (U := U.calling g mk a) rfl qB, gZ.moved (u := U) (U := U.calling g mk a) (Vm.Alike.refl U.vm) qZ⟩, va_X.moved (u := U) (U := U.calling g mk a) (Vm.Alike.refl U.vm) qX, qb, qA⟩
theorem gVs_S {s : State} {H : Heap} {D : va_G} {cA : Nat → ClassId} {ad : Nat → Nat} {w : Nat → Option va_E} {As : List Value} {A : Nat → Prop} {locs : List Loc} {b L : Nat} {xs : Nat → Int32} (hP : gP D vwCl ad w H) (hD : gD A ad w) (hK : va_K D vwCl (gT cA) s) (hB : gB s) (hS : va_S A s.heap H locs) (hA : ∀ q, s.heap.size ≤ q → A q) (hZ : gZ A s s.heap) (hX : va_X b L xs s s.heap) (hbl : b < s.heap.size) (hbA : ¬ A b) : PreS s H (gVs D cA ad w H.size b L xs As) As :=
  ⟨gVs_blind, fun U hU hW => ⟨rfl, ⟨by rw [hU], by rw [hU]; exact hP, hD.weaken (fun _ _ => trivial), va_K.moved hW.alike hK, gB.warm hW hB, by rw [hU]; exact ((hZ.kept hS.2.1).narrow (gA_sub hD hS hA)).moved hW.alike⟩, by rw [hU]; exact (hX.kept (hS.2.1 b hbl hbA)).moved hW.alike, by rw [hU]; exact Nat.lt_of_lt_of_le hbl hS.1, fun h => hbA (gA_sub hD hS hA b h)⟩⟩
