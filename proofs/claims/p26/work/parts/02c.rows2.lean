/-! more rows: Math, new objects and arrays, stores of references, arraycopy -/
section KM
variable {p : Program} {l : Launch} {e : Env} {R : Room} {s : State} {m : MethodId} {args : Array Value} {below : List Frame} {meth : Method} {c : Code} {H : Heap} {locs : List Loc} {cells slots : Nat} {Q : State → Prop}
variable {cc : ByteArray} {pc : Nat} {ls : Array Slot} {rest : List Value}
theorem k_mmax (hx : p.tables.exec = Jvm.exec) (hb : c.code = cc) (hml : c.maxLocals = ls.size) {own : String} {index : Nat} (hown : s.vm.findClass own = some m.cls) (hlink : (Cond.methodLink own index Lib.Math.max.name).before args s = true) (hstat : (Cond.static Lib.Math.max.name).before args s = true) (hini : (Cond.initialized "java/lang/Math").before args s = true) (hcode : (Cond.code Lib.Math.max.name Lib.Math.max.code 2 (some .int)).before args s = true)
    (hframes : 1 ≤ R.frames) (hlocals : (rest.map fun v => v.category).sum + 13 ≤ R.locals) (hc : cells ≤ R.cells) (hs : slots ≤ R.slots) {a b : Int} (ha : rI a) (hb2 : rI b) (d : decode cc pc = .ok (.invokestatic index, 3)) (kk : W p l e R s m args below meth c H locs cells slots Q (F0 m (pc + 3) ls (.int (iI (max a b)) :: rest))) : W p l e R s m args below meth c H locs cells slots Q (F0 m pc ls (.int (iI b) :: .int (iI a) :: rest)) := by
  refine va_mmax hx hb hml hown hlink hstat hini hcode hframes hlocals hc hs d ?_
  have h9 : (if iI a < iI b then iI b else iI a) = iI (max a b) := by
    by_cases h : a < b
    · rw [if_pos ((iI_lt ha hb2).mpr h), show max a b = b by omega]
    · rw [if_neg (fun z => h ((iI_lt ha hb2).mp z)), show max a b = a by omega]
  rw [h9]
  exact kk
theorem k_mmin (hx : p.tables.exec = Jvm.exec) (hb : c.code = cc) (hml : c.maxLocals = ls.size) {own : String} {index : Nat} (hown : s.vm.findClass own = some m.cls) (hlink : (Cond.methodLink own index Lib.Math.min.name).before args s = true) (hstat : (Cond.static Lib.Math.min.name).before args s = true) (hini : (Cond.initialized "java/lang/Math").before args s = true) (hcode : (Cond.code Lib.Math.min.name Lib.Math.min.code 2 (some .int)).before args s = true)
    (hframes : 1 ≤ R.frames) (hlocals : (rest.map fun v => v.category).sum + 13 ≤ R.locals) (hc : cells ≤ R.cells) (hs : slots ≤ R.slots) {a b : Int} (ha : rI a) (hb2 : rI b) (d : decode cc pc = .ok (.invokestatic index, 3)) (kk : W p l e R s m args below meth c H locs cells slots Q (F0 m (pc + 3) ls (.int (iI (min a b)) :: rest))) : W p l e R s m args below meth c H locs cells slots Q (F0 m pc ls (.int (iI b) :: .int (iI a) :: rest)) := by
  refine va_mmin hx hb hml hown hlink hstat hini hcode hframes hlocals hc hs d ?_
  have h9 : (if iI b < iI a then iI b else iI a) = iI (min a b) := by
    by_cases h : b < a
    · rw [if_pos ((iI_lt hb2 ha).mpr h), show min a b = b by omega]
    · rw [if_neg (fun z => h ((iI_lt hb2 ha).mp z)), show min a b = a by omega]
  rw [h9]
  exact kk
theorem k_mabs (hx : p.tables.exec = Jvm.exec) (hb : c.code = cc) (hml : c.maxLocals = ls.size) {own : String} {index : Nat} (hown : s.vm.findClass own = some m.cls) (hlink : (Cond.methodLink own index Lib.Math.abs.name).before args s = true) (hstat : (Cond.static Lib.Math.abs.name).before args s = true) (hini : (Cond.initialized "java/lang/Math").before args s = true) (hcode : (Cond.code Lib.Math.abs.name Lib.Math.abs.code 1 (some .int)).before args s = true)
    (hframes : 1 ≤ R.frames) (hlocals : (rest.map fun v => v.category).sum + 13 ≤ R.locals) (hc : cells ≤ R.cells) (hs : slots ≤ R.slots) {a : Int} (ha : rI a) (d : decode cc pc = .ok (.invokestatic index, 3)) (kk : W p l e R s m args below meth c H locs cells slots Q (F0 m (pc + 3) ls (.int (iI (a.natAbs : Int)) :: rest))) : W p l e R s m args below meth c H locs cells slots Q (F0 m pc ls (.int (iI a) :: rest)) := by
  refine va_mabs hx hb hml hown hlink hstat hini hcode hframes hlocals hc hs d ?_
  have h9 : (if (0 : Int32) ≤ iI a then iI a else 0 - iI a) = iI (a.natAbs : Int) := by
    rw [iI_0]
    by_cases h : 0 ≤ a
    · rw [if_pos ((iI_le (by decide) ha).mpr h), show ((a.natAbs : Nat) : Int) = a by omega]
    · rw [if_neg (fun z => h ((iI_le (by decide) ha).mp z)), iI_sub, show ((a.natAbs : Nat) : Int) = 0 - a by omega]
  rw [h9]
  exact kk
theorem k_ldcw (hx : p.tables.exec = Jvm.exec) (hb : c.code = cc) {own : String} {index : Nat} {v : Int32} {z : Int} (hown : s.vm.findClass own = some m.cls) (hc : (Jvm.Cond.constant own index v).before args s = true) (hz : v = iI z) (d : decode cc pc = .ok (.ldc_w index, 3)) (k : W p l e R s m args below meth c H locs cells slots Q (F0 m (pc + 3) ls (.int (iI z) :: rest))) : W p l e R s m args below meth c H locs cells slots Q (F0 m pc ls rest) := lv_ldcw hx hb hown hc d (hz ▸ k)
theorem k_tab (hx : p.tables.exec = Jvm.exec) (hb : c.code = cc) {dflt lo hi : Int} {offs : Array Int} {len : Nat} {z v off : Int} {tgt : Nat} (hz : z = v) (hv : rI v) (h1 : ¬ v < lo) (h2 : ¬ hi < v) (ho : offs[(v - lo).toNat]? = some off) (d : decode cc pc = .ok (.tableswitch dflt lo hi offs, len)) (ht : (pc : Int) + off = (tgt : Int)) (k : W p l e R s m args below meth c H locs cells slots Q (F0 m tgt ls rest)) : W p l e R s m args below meth c H locs cells slots Q (F0 m pc ls (.int (iI z) :: rest)) := by
  subst hz
  exact lv_tableIn hx hb d (by rw [iI_toInt hv]; exact h1) (by rw [iI_toInt hv]; exact h2) (by rw [iI_toInt hv]; exact ho) ht k
theorem k_tabOut (hx : p.tables.exec = Jvm.exec) (hb : c.code = cc) {dflt lo hi : Int} {offs : Array Int} {len : Nat} {z : Int} {tgt : Nat} (hv : rI z) (h : z < lo ∨ hi < z) (d : decode cc pc = .ok (.tableswitch dflt lo hi offs, len)) (ht : (pc : Int) + dflt = (tgt : Int)) (k : W p l e R s m args below meth c H locs cells slots Q (F0 m tgt ls rest)) : W p l e R s m args below meth c H locs cells slots Q (F0 m pc ls (.int (iI z) :: rest)) :=
  lv_tableOut hx hb d (by rw [iI_toInt hv]; exact h) ht k
end KM
section KN
variable {p : Program} {l : Launch} {e : Env} {R : Room} {s : State} {m : MethodId} {args : Array Value} {below : List Frame} {meth : Method} {c : Code} {H : Heap} {locs : List Loc} {cells slots : Nat} {Q : State → Prop}
variable {cc : ByteArray} {pc : Nat} {ls : Array Slot} {rest : List Value} {D : va_G} {cl : List vw_C} {A : Nat → Prop} {tys : List (ClassId × FieldType)} {ad : Nat → Nat} {w : Nat → Option va_E} {H0 : Heap}
theorem k_new (hx : p.tables.exec = Jvm.exec) (hb : c.code = cc) {own C : String} {T : u_T} {N ci index : Nat} {Ts : List Cond} (hts : ∀ w ∈ Ts, w.before args s = true) (hin : ∀ w ∈ u_ws C T N, w ∈ Ts) (ty : Nat → FieldType) (hty : ∀ k, k < N → parseFieldDescriptor (T k).2.2.1 = some (ty k)) (hown : s.vm.findClass own = some m.cls) (hcl : (Cond.classLink own index C).before args s = true) (hinst : (Cond.instantiable C N).before args s = true) (hini : (Cond.initialized C).before args s = true)
    (hK : va_K D cl tys s) (hP : gP D cl ad w H) (hD : gD A ad w) (hS : va_S A H0 H locs) (hA : ∀ q, H0.size ≤ q → A q) (hc : cl[ci]? = some (C, T, N)) (r : Nat) {fs : List Value} (hfs : ∀ j, j < N → defaultValue (ty j) = vp_V fs j) (hcells : cells + 1 ≤ R.cells) (hslots : slots + N ≤ R.slots) (d : decode cc pc = .ok (.new index, 3))
    (kk : ∀ (q : Nat) (H1 : Heap), gP D cl (adN ad r q) (up w r (.inr (ci, fs))) H1 → gD A (adN ad r q) (up w r (.inr (ci, fs))) → va_S A H0 H1 locs → W p l e R s m args below meth c H1 locs (cells + 1) (slots + N) Q (F0 m (pc + 3) ls (.ref q :: rest))) : W p l e R s m args below meth c H locs cells slots Q (F0 m pc ls rest) := by
  have hKn := hK.1 ci _ hc
  refine W.newcK hx hb hown hcl hinst hini rfl d hcells hslots hKn.2.1 rfl fun H1 kC hkC e1 z1 o1 => ?_
  exact kk H.size H1 (hP.new ⟨_, hc, (u_born ty hts hin hKn hkC e1 hty).to hfs⟩ o1) (gD.new hP hD (hA _ hS.1)) ⟨Nat.le_trans hS.1 (by omega), fun x h1 h2 => (o1 x (Nat.lt_of_lt_of_le h1 hS.1)).trans (hS.2.1 x h1 h2), hS.2.2⟩
theorem k_newI (hx : p.tables.exec = Jvm.exec) (hb : c.code = cc) (harr : (Cond.arrayClass .int).before args s = true) (hK : va_K D cl tys s) (hP : gP D cl ad w H) (hD : gD A ad w) (hS : va_S A H0 H locs) (hA : ∀ q, H0.size ≤ q → A q) (r t0 : Nat) {cA : ClassId} (ht : tys[t0]? = some (cA, .int)) {z : Int} (N : Nat) (hz : z = (N : Int)) (hN : N ≤ 60000000) (hcells : cells + 1 ≤ R.cells) (hslots : slots + N ≤ R.slots) (d : decode cc pc = .ok (.newarray .int, 2))
    (kk : ∀ (q : Nat) (H1 : Heap), gP D cl (adN ad r q) (up w r (eI cA N (fun _ => 0))) H1 → gD A (adN ad r q) (up w r (eI cA N (fun _ => 0))) → va_S A H0 H1 locs → W p l e R s m args below meth c H1 locs (cells + 1) (slots + N) Q (F0 m (pc + 2) ls (.ref q :: rest))) : W p l e R s m args below meth c H locs cells slots Q (F0 m pc ls (.int (iI z) :: rest)) := by
  subst hz
  refine va_newaK (atype := .int) hx hb harr rfl d rfl (h := H.size) (N := N) (by rw [iI_0]; exact fun q => absurd ((iI_lt (by constructor <;> omega) (by decide)).mp q) (by omega)) (by rw [iI_clamp (by omega) (by omega)]; omega) (Nat.le_trans (Nat.mul_le_mul_right _ hN) (by decide)) hcells hslots rfl fun H1 cB e1 z1 o1 hAr hNm => ?_
  have hcc : cB = cA := Option.some.inj (hNm.symm.trans (show s.vm.findClass _ = some cA from (hK.2 t0 _ ht).2))
  subst hcc
  refine kk H.size H1 (hP.new ?_ o1) (gD.new hP hD (hA _ hS.1)) ⟨Nat.le_trans hS.1 (by omega), fun x h1 h2 => (o1 x (Nat.lt_of_lt_of_le h1 hS.1)).trans (hS.2.1 x h1 h2), hS.2.2⟩
  show H1[H.size]? = some (vp_cell _ _)
  rw [vp_cell_i]
  exact e1
theorem k_newZ (hx : p.tables.exec = Jvm.exec) (hb : c.code = cc) (harr : (Cond.arrayClass .boolean).before args s = true) (hK : va_K D cl tys s) (hP : gP D cl ad w H) (hD : gD A ad w) (hS : va_S A H0 H locs) (hA : ∀ q, H0.size ≤ q → A q) (r t0 : Nat) {cA : ClassId} (ht : tys[t0]? = some (cA, .boolean)) {z : Int} (N : Nat) (hz : z = (N : Int)) (hN : N ≤ 60000000) (hcells : cells + 1 ≤ R.cells) (hslots : slots + N ≤ R.slots) (d : decode cc pc = .ok (.newarray .boolean, 2))
    (kk : ∀ (q : Nat) (H1 : Heap), gP D cl (adN ad r q) (up w r (eI cA N (fun _ => 0))) H1 → gD A (adN ad r q) (up w r (eI cA N (fun _ => 0))) → va_S A H0 H1 locs → W p l e R s m args below meth c H1 locs (cells + 1) (slots + N) Q (F0 m (pc + 2) ls (.ref q :: rest))) : W p l e R s m args below meth c H locs cells slots Q (F0 m pc ls (.int (iI z) :: rest)) := by
  subst hz
  refine va_newaK (atype := .boolean) hx hb harr rfl d rfl (h := H.size) (N := N) (by rw [iI_0]; exact fun q => absurd ((iI_lt (by constructor <;> omega) (by decide)).mp q) (by omega)) (by rw [iI_clamp (by omega) (by omega)]; omega) (Nat.le_trans (Nat.mul_le_mul_right _ hN) (by decide)) hcells hslots rfl fun H1 cB e1 z1 o1 hAr hNm => ?_
  have hcc : cB = cA := Option.some.inj (hNm.symm.trans (show s.vm.findClass _ = some cA from (hK.2 t0 _ ht).2))
  subst hcc
  refine kk H.size H1 (hP.new ?_ o1) (gD.new hP hD (hA _ hS.1)) ⟨Nat.le_trans hS.1 (by omega), fun x h1 h2 => (o1 x (Nat.lt_of_lt_of_le h1 hS.1)).trans (hS.2.1 x h1 h2), hS.2.2⟩
  show H1[H.size]? = some (vp_cell _ _)
  rw [vp_cell_i]
  exact e1
theorem k_newJ (hx : p.tables.exec = Jvm.exec) (hb : c.code = cc) (harr : (Cond.arrayClass .long).before args s = true) (hK : va_K D cl tys s) (hP : gP D cl ad w H) (hD : gD A ad w) (hS : va_S A H0 H locs) (hA : ∀ q, H0.size ≤ q → A q) (r t0 : Nat) {cA : ClassId} (ht : tys[t0]? = some (cA, .long)) {z : Int} (N : Nat) (hz : z = (N : Int)) (hN : N ≤ 60000000) (hcells : cells + 1 ≤ R.cells) (hslots : slots + N ≤ R.slots) (d : decode cc pc = .ok (.newarray .long, 2))
    (kk : ∀ (q : Nat) (H1 : Heap), gP D cl (adN ad r q) (up w r (eJ cA N (fun _ => 0))) H1 → gD A (adN ad r q) (up w r (eJ cA N (fun _ => 0))) → va_S A H0 H1 locs → W p l e R s m args below meth c H1 locs (cells + 1) (slots + N) Q (F0 m (pc + 2) ls (.ref q :: rest))) : W p l e R s m args below meth c H locs cells slots Q (F0 m pc ls (.int (iI z) :: rest)) := by
  subst hz
  refine va_newaK (atype := .long) hx hb harr rfl d rfl (h := H.size) (N := N) (by rw [iI_0]; exact fun q => absurd ((iI_lt (by constructor <;> omega) (by decide)).mp q) (by omega)) (by rw [iI_clamp (by omega) (by omega)]; omega) (Nat.le_trans (Nat.mul_le_mul_right _ hN) (by decide)) hcells hslots rfl fun H1 cB e1 z1 o1 hAr hNm => ?_
  have hcc : cB = cA := Option.some.inj (hNm.symm.trans (show s.vm.findClass _ = some cA from (hK.2 t0 _ ht).2))
  subst hcc
  refine kk H.size H1 (hP.new ?_ o1) (gD.new hP hD (hA _ hS.1)) ⟨Nat.le_trans hS.1 (by omega), fun x h1 h2 => (o1 x (Nat.lt_of_lt_of_le h1 hS.1)).trans (hS.2.1 x h1 h2), hS.2.2⟩
  show H1[H.size]? = some (vp_cell _ _)
  rw [vp_cell_l]
  exact e1
theorem k_anew (hx : p.tables.exec = Jvm.exec) (hb : c.code = cc) {own C : String} {index : Nat} (hown : s.vm.findClass own = some m.cls) (hclink : (Cond.classLink own index C).before args s = true) (hover : va_AO C s) (hK : va_K D cl tys s) (hP : gP D cl ad w H) (hD : gD A ad w) (hS : va_S A H0 H locs) (hA : ∀ q, H0.size ≤ q → A q) (r t0 : Nat) {cA : ClassId} (ht : tys[t0]? = some (cA, .object C))
    {z : Int} (N : Nat) (hz : z = (N : Int)) (hN : N ≤ 60000000) (hcells : cells + 1 ≤ R.cells) (hslots : slots + N ≤ R.slots) (d : decode cc pc = .ok (.anewarray index, 3))
    (kk : ∀ (q : Nat) (H1 : Heap), gP D cl (adN ad r q) (up w r (eQ cA N (fun _ => none))) H1 → gD A (adN ad r q) (up w r (eQ cA N (fun _ => none))) → va_S A H0 H1 locs → W p l e R s m args below meth c H1 locs (cells + 1) (slots + N) Q (F0 m (pc + 3) ls (.ref q :: rest))) : W p l e R s m args below meth c H locs cells slots Q (F0 m pc ls (.int (iI z) :: rest)) := by
  subst hz
  have hcl2 : (iI (N : Int)).toNatClampNeg = N := by rw [iI_clamp (by omega) (by omega)]; omega
  refine W.anew hx hb hown hclink (va_AO.use hover) rfl d rfl (by rw [iI_0]; exact fun q => absurd ((iI_lt (by constructor <;> omega) (by decide)).mp q) (by omega)) (by rw [hcl2]; omega) hcells (by rw [hcl2]; exact hslots) fun cB kA comp f1 f2 f3 f4 => ?_
  rw [hcl2]
  obtain ⟨kA2, comp2, g1, g2, g3, g4⟩ := (hK.2 t0 _ ht).2
  have hcc : cB = cA := Option.some.inj (f1.symm.trans g4)
  subst hcc
  generalize hH1 : H.push ({ cls := cB, slots := Array.replicate N .null, vm := .none } : Cell) = H1
  have z1 : H1.size = H.size + 1 := by rw [← hH1, Array.size_push]
  have e1 : H1[H.size]? = some (arrV cB N (fun _ => .null)) := by rw [← hH1, Array.getElem?_push_size, ← arrV_new]
  have o1 : ∀ q : Nat, q < H.size → H1[q]? = H[q]? := fun q hq => by rw [← hH1, Array.getElem?_push, if_neg (Nat.ne_of_lt hq)]
  refine kk H.size H1 (hP.new ?_ o1) (gD.new hP hD (hA _ hS.1)) ⟨Nat.le_trans hS.1 (by omega), fun x h1 h2 => (o1 x (Nat.lt_of_lt_of_le h1 hS.1)).trans (hS.2.1 x h1 h2), hS.2.2⟩
  show H1[H.size]? = some (vp_cell _ _)
  rw [vp_cell_q]
  exact e1
theorem k_aast (hx : p.tables.exec = Jvm.exec) (hb : c.code = cc) (hK : va_K D cl tys s) (hP : gP D cl ad w H) (hD : gD A ad w) (hS : va_S A H0 H locs) (r t0 rk ci : Nat) {cA : ClassId} {q : vw_C} {n : Nat} {vs : List Value} {f : Nat → Option Nat} (ha : w r = some (eQ cA n f)) (ht : tys[t0]? = some (cA, .object q.1)) (hv : w rk = some (.inr (ci, vs))) (hc : cl[ci]? = some q) {i : Int} (h0 : 0 ≤ i) (h1 : i < n) (hn : (n : Int) < 2147483648) {w1 : Nat → Option va_E} (hw : up w r (eQ cA n (va_up f i.toNat (some (ad rk)))) = w1) (d : decode cc pc = .ok (.aastore, 1))
    (kk : ∀ (H1 : Heap) (locs1 : List Loc), gP D cl ad w1 H1 → gD A ad w1 → va_S A H0 H1 locs1 → W p l e R s m args below meth c H1 locs1 cells slots Q (F0 m (pc + 1) ls rest)) : W p l e R s m args below meth c H locs cells slots Q (F0 m pc ls (.ref (ad rk) :: .int (iI i) :: .ref (ad r) :: rest)) := by
  subst hw
  have hin := iI_in h0 h1 hn
  have hlt : (iI i).toNatClampNeg < n := Nat.not_le.mp fun q => hin (Or.inr q)
  have hi0 : ¬ iI i < 0 := fun q => hin (Or.inl q)
  obtain ⟨r9, hr9, cellV, g1, g2, g3, -⟩ := hP rk _ hv
  have hcls := (hK.1 ci q hc).2
  obtain ⟨kA, comp, k1, k2, k3, -⟩ := (hK.2 t0 _ ht).2
  have hcomp : comp = D.1 ci := Option.some.inj (k3.symm.trans hcls.1)
  subst hcomp
  obtain ⟨kC, hkC, -⟩ := hcls.2
  refine W.aast hx hb (hP r _ ha) (fun q h => by cases h) (fun h => by cases h) k1 k2 rfl hkC ⟨hi0, by show _ < (arrV _ _ _).slots.size; rw [arrV_size]; exact hlt⟩ g1 (fun q h => by rw [g3] at h; cases h) (by rw [g2]; exact hkC) (by rw [g2]; exact va_assign hcls) rfl rfl d fun H1 e1 z1 oq => ?_
  refine kk H1 _ (hP.set hD ha ?_ oq) (hD.set ha) (hS.put z1 oq (hD.2 r (by rw [ha]; simp)))
  show H1[ad r]? = some (vp_cell _ _)
  rw [e1]
  rw [vp_cell_q, vp_cell_q, arrV_store, iI_clamp h0 (by omega)]
  congr 2
  funext j
  by_cases hj : j = i.toNat
  · subst hj
    simp [updV, va_up, va_rf]
  · simp [updV, va_up, hj]
theorem k_copy {own : String} {index : Nat} (hx : p.tables.exec = Jvm.exec) (hb : c.code = cc) (hml : c.maxLocals = ls.size) (hown : s.vm.findClass own = some m.cls) (hlink : (Cond.methodLink own index arraycopyName).before args s = true) (hnat : (Cond.native arraycopyName).before args s = true) (hstat : (Cond.static arraycopyName).before args s = true) (hini : (Cond.initialized "java/lang/System").before args s = true)
    (hK : va_K D cl tys s) (hP : gP D cl ad w H) (hD : gD A ad w) (hS : va_S A H0 H locs) (r0 r t0 t1 : Nat) {c0 c1 : ClassId} {n0 n1 : Nat} {f g : Int → Int} (ha0 : w r0 = some (eI c0 n0 f)) (ha1 : w r = some (eI c1 n1 g)) (ht0 : tys[t0]? = some (c0, .int)) (ht1 : tys[t1]? = some (c1, .int))
    {sp dp n : Int} (h1 : 0 ≤ sp) (h2 : 0 ≤ dp) (h3 : 0 ≤ n) (h4 : sp + n ≤ n0) (h5 : dp + n ≤ n1) (hn0 : (n0 : Int) < 2147483648) (hn1 : (n1 : Int) < 2147483648)
    (hframes : 1 ≤ R.frames) (hlocals : (rest.map fun v => v.category).sum + (nativeFrameWords "java/lang/System" "arraycopy" 5 + 11) ≤ R.locals) {w1 : Nat → Option va_E} (hw : up w r (eI c1 n1 (fun j => if dp ≤ j ∧ j < dp + n then f (sp + (j - dp)) else g j)) = w1) (d : decode cc pc = .ok (.invokestatic index, 3))
    (kk : ∀ (H1 : Heap) (locs1 : List Loc), gP D cl ad w1 H1 → gD A ad w1 → va_S A H0 H1 locs1 → W p l e R s m args below meth c H1 locs1 cells slots Q (F0 m (pc + 3) ls rest)) : W p l e R s m args below meth c H locs cells slots Q (F0 m pc ls (.int (iI n) :: .int (iI dp) :: .ref (ad r) :: .int (iI sp) :: .ref (ad r0) :: rest)) := by
  subst hw
  have nn : ∀ z : Int, 0 ≤ z → z < 2147483648 → ¬ iI z < 0 := fun z a b => by rw [iI_0]; exact fun q => absurd ((iI_lt (by constructor <;> omega) (by decide)).mp q) (by omega)
  have tz : ∀ z : Int, 0 ≤ z → z < 2147483648 → (iI z).toInt = z := fun z a b => iI_toInt (by constructor <;> omega)
  have cz : ∀ z : Int, 0 ≤ z → z < 2147483648 → (iI z).toNatClampNeg = z.toNat := fun z a b => iI_clamp a b
  intro T hT X
  have hc0 : H[ad r0]? = some (vp_cell c0 (n0, .inl fun j => iI (f j))) := hP r0 _ ha0
  have hc1 : H[ad r]? = some (vp_cell c1 (n1, .inl fun j => iI (g j))) := hP r _ ha1
  obtain ⟨-, k0, hk0, cm0, hkk0⟩ := (hK.2 t0 _ ht0).1 n0 (fun j => .int (iI (f j)))
  obtain ⟨-, k1, hk1, cm1, hkk1⟩ := (hK.2 t1 _ ht1).1 n1 (fun j => .int (iI (g j)))
  obtain ⟨vm', X', step⟩ := X.arraycopy hx hown hlink hnat hstat hini (src := ad r0) (dst := ad r) (cs := vp_cell c0 (n0, .inl fun j => iI (f j))) (cd := vp_cell c1 (n1, .inl fun j => iI (g j))) (srcPos := iI sp) (destPos := iI dp) (n := iI n) (by rw [hT]; exact hc0) (by rw [hT]; exact hc1)
    (fun _ h => by cases h) (fun _ h => by cases h) (fun h => by cases h) (fun h => by cases h) hk0 hk1 hkk0 hkk1 (by simp [refKind]) (nn _ h1 (by omega)) (nn _ h2 (by omega)) (nn _ h3 (by omega))
    (by rw [tz sp h1 (by omega), tz n h3 (by omega)]; show ¬ _ > ((arrV c0 n0 (fun j => .int (iI (f j)))).slots.size : Int); rw [arrV_size]; omega)
    (by rw [tz dp h2 (by omega), tz n h3 (by omega)]; show ¬ _ > ((arrV c1 n1 (fun j => .int (iI (g j)))).slots.size : Int); rw [arrV_size]; omega)
    (fun vm₁ _ i hi => by
      rw [cz n h3 (by omega)] at hi
      have e : (vp_cell c0 (n0, .inl fun j => iI (f j))).slots.getD ((iI sp).toNatClampNeg + i) .null = .int (iI (f ((((iI sp).toNatClampNeg + i : Nat)) : Int))) := by
        show (arrV c0 n0 (fun j => .int (iI (f j)))).slots.getD _ _ = _
        rw [Array.getD_eq_getD_getElem?, arrV_read _ _ (by rw [cz sp h1 (by omega)]; omega)]
        rfl
      refine ⟨?_, ?_⟩
      · rw [e]
        rfl
      · rw [e]
        exact trivial)
    (g := F0 m pc ls (.int (iI n) :: .int (iI dp) :: .ref (ad r) :: .int (iI sp) :: .ref (ad r0) :: rest)) rfl (by rw [hml]) (rest := rest) rfl (by rw [hb]; exact d) hframes (by show 2 * 0 + _ + _ ≤ _; omega)
  have h49 : (iI sp).toNatClampNeg + (iI n).toNatClampNeg ≤ n0 := by
    rw [cz sp h1 (by omega), cz n h3 (by omega)]
    omega
  have e1 : copied (vp_cell c0 (n0, .inl fun j => iI (f j))) (vp_cell c1 (n1, .inl fun j => iI (g j))) (iI sp) (iI dp) (iI n) = vp_cell c1 (n1, .inl (va_cpy (fun j : Nat => iI (f j)) (fun j : Nat => iI (g j)) (iI sp).toNatClampNeg (iI dp).toNatClampNeg (iI n).toNatClampNeg)) := va_copied (fun z => Value.int z) c0 c1 (fun j : Nat => iI (f (j : Int))) (fun j : Nat => iI (g (j : Int))) h49
  have e2 : (va_cpy (fun j : Nat => iI (f j)) (fun j : Nat => iI (g j)) (iI sp).toNatClampNeg (iI dp).toNatClampNeg (iI n).toNatClampNeg) = fun j : Nat => iI ((fun j : Int => if dp ≤ j ∧ j < dp + n then f (sp + (j - dp)) else g j) (j : Int)) := by
    rw [cz sp h1 (by omega), cz dp h2 (by omega), cz n h3 (by omega)]
    funext j
    unfold va_cpy
    by_cases h : dp ≤ (j : Int) ∧ (j : Int) < dp + n
    · rw [if_pos (by omega)]
      show iI (f ((sp.toNat + (j - dp.toNat) : Nat) : Int)) = iI (if dp ≤ (j : Int) ∧ (j : Int) < dp + n then f (sp + ((j : Int) - dp)) else g (j : Int))
      rw [if_pos h, show ((sp.toNat + (j - dp.toNat) : Nat) : Int) = sp + ((j : Int) - dp) by omega]
    · rw [if_neg (by omega)]
      show _ = iI (if dp ≤ (j : Int) ∧ (j : Int) < dp + n then f (sp + ((j : Int) - dp)) else g (j : Int))
      rw [if_neg h]
  rw [e2] at e1
  rw [e1] at X' step
  generalize hce : vp_cell c1 (n1, .inl fun j : Nat => iI ((fun j : Int => if dp ≤ j ∧ j < dp + n then f (sp + (j - dp)) else g j) (j : Int))) = ce at X' step
  have hl : ad r < H.size := (Array.getElem?_eq_some_iff.mp hc1).1
  have hheap : ((T.setVm vm').setCell (ad r) ce).heap = H.setIfInBounds (ad r) ce := by rw [← hT]; rfl
  have oq : ∀ q : Nat, q ≠ ad r → (H.setIfInBounds (ad r) ce)[q]? = H[q]? := fun q hq => by simp [Array.getElem?_setIfInBounds, Ne.symm hq]
  have hset : (H.setIfInBounds (ad r) ce)[ad r]? = some ce := by simp [Array.getElem?_setIfInBounds, hl]
  obtain ⟨t, a1, b1⟩ := kk _ _ (hP.set hD ha1 (show (H.setIfInBounds (ad r) ce)[ad r]? = some _ by rw [hset, ← hce]) oq) (hD.set ha1) ⟨by simp; exact hS.1, fun q g1 g2 => by
      rw [oq q (fun e => g2 (by rw [e]; exact hD.2 r (by rw [ha1]; simp)))]
      exact hS.2.1 q g1 g2, fun q hq => by
      rcases List.mem_append.mp hq with h | h
      · exact hS.2.2 q h
      · obtain ⟨i, -, rfl⟩ := List.mem_map.mp h
        exact hD.2 r (by rw [ha1]; simp)⟩ _ hheap X'
  exact ⟨t, step t a1, b1⟩
end KN
