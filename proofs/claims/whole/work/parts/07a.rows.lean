/-! rows for the law: a row of doubles, shifts and masks, the script, handlers; the two states in a larger world -/
abbrev eD (cA : ClassId) (n : Nat) (f : Int → UInt64) : va_E := .inl (cA, n, .inr (.inr (.inr (.inl (fun j => f (j : Int))))))
def updD (f : Int → UInt64) (k : Int) (x : UInt64) : Int → UInt64 := fun j => if j = k then x else f j
def lShl (a b : Int) : Int := (lI a <<< ((iI b).toInt64 &&& 63)).toInt
def lAnd (a b : Int) : Int := (lI a &&& lI b).toInt
def lOr (a b : Int) : Int := (lI a ||| lI b).toInt
def iAnd (a b : Int) : Int := (iI a &&& iI b).toInt
def wI (a : Int) : Int := (iI a).toInt
def dcI (x y : UInt64) : Int := (Op.cmpValue (FP.dcmp x y) .l).toInt
theorem lOr_r (a b : Int) : rL (lOr a b) := lI_rng _
theorem lShl_r (a b : Int) : rL (lShl a b) := lI_rng _
theorem lAnd_r (a b : Int) : rL (lAnd a b) := lI_rng _
theorem iAnd_r (a b : Int) : rI (iAnd a b) := iI_rng _
theorem wI_r (a : Int) : rI (wI a) := iI_rng _
theorem dcI_r (x y : UInt64) : rI (dcI x y) := iI_rng _
section KL
variable {p : Program} {l : Launch} {e : Env} {R : Room} {s : State} {m : MethodId} {args : Array Value} {below : List Frame} {meth : Method} {c : Code} {H : Heap} {locs : List Loc} {cells slots : Nat} {Q : State → Prop}
variable {pc : Nat} {ls : Array Slot} {rest : List Value} {cc : ByteArray} {D : va_G} {cl : List vw_C} {tys : List (ClassId × FieldType)} {ad : Nat → Nat} {w : Nat → Option va_E} {A : Nat → Prop} {H0 : Heap}
theorem k_i2lw (hx : p.tables.exec = Jvm.exec) (hb : c.code = cc) {a : Int} (d : decode cc pc = .ok (.i2l, 1)) (k : W p l e R s m args below meth c H locs cells slots Q (F0 m (pc + 1) ls (.long (lI (wI a)) :: rest))) : W p l e R s m args below meth c H locs cells slots Q (F0 m pc ls (.int (iI a) :: rest)) :=
  lv_i2l hx hb d (by have h := iI_l (wI_r a); rw [show iI (wI a) = iI a from iI_of _] at h; exact h) k
theorem k_lshl (hx : p.tables.exec = Jvm.exec) (hb : c.code = cc) {a b : Int} (d : decode cc pc = .ok (.lshl, 1)) (k : W p l e R s m args below meth c H locs cells slots Q (F0 m (pc + 1) ls (.long (lI (lShl a b)) :: rest))) : W p l e R s m args below meth c H locs cells slots Q (F0 m pc ls (.int (iI b) :: .long (lI a) :: rest)) := lv_lshl hx hb d (lI_of _).symm k
theorem k_land (hx : p.tables.exec = Jvm.exec) (hb : c.code = cc) {a b : Int} (d : decode cc pc = .ok (.land, 1)) (k : W p l e R s m args below meth c H locs cells slots Q (F0 m (pc + 1) ls (.long (lI (lAnd a b)) :: rest))) : W p l e R s m args below meth c H locs cells slots Q (F0 m pc ls (.long (lI b) :: .long (lI a) :: rest)) := lv_land hx hb d (by rw [show lI a &&& lI b = lI (lAnd a b) from (lI_of _).symm]; exact k)
theorem k_lor (hx : p.tables.exec = Jvm.exec) (hb : c.code = cc) {a b : Int} (d : decode cc pc = .ok (.lor, 1)) (k : W p l e R s m args below meth c H locs cells slots Q (F0 m (pc + 1) ls (.long (lI (lOr a b)) :: rest))) : W p l e R s m args below meth c H locs cells slots Q (F0 m pc ls (.long (lI b) :: .long (lI a) :: rest)) := lv_lor hx hb d (by rw [show lI a ||| lI b = lI (lOr a b) from (lI_of _).symm]; exact k)
theorem k_iand (hx : p.tables.exec = Jvm.exec) (hb : c.code = cc) {a b : Int} (d : decode cc pc = .ok (.iand, 1)) (k : W p l e R s m args below meth c H locs cells slots Q (F0 m (pc + 1) ls (.int (iI (iAnd a b)) :: rest))) : W p l e R s m args below meth c H locs cells slots Q (F0 m pc ls (.int (iI b) :: .int (iI a) :: rest)) := lv_iand hx hb d (by rw [show iI a &&& iI b = iI (iAnd a b) from (iI_of _).symm]; exact k)
theorem k_dcmpl (hx : p.tables.exec = Jvm.exec) (hb : c.code = cc) {x y : UInt64} (d : decode cc pc = .ok (.dcmp .l, 1)) (k : W p l e R s m args below meth c H locs cells slots Q (F0 m (pc + 1) ls (.int (iI (dcI x y)) :: rest))) : W p l e R s m args below meth c H locs cells slots Q (F0 m pc ls (.double y :: .double x :: rest)) := lv_dcmp hx hb d (by rw [show Op.cmpValue (FP.dcmp x y) .l = iI (dcI x y) from (iI_of _).symm]; exact k)
theorem k_dald (hx : p.tables.exec = Jvm.exec) (hb : c.code = cc) (hK : va_K D cl tys s) (hP : gP D cl ad w H) (r t0 : Nat) {cA : ClassId} {n : Nat} {f : Int → UInt64} (ha : w r = some (eD cA n f)) (ht : tys[t0]? = some (cA, .double)) {i : Int} (h0 : 0 ≤ i) (h1 : i < n) (hn : (n : Int) < 2147483648) (d : decode cc pc = .ok (.daload, 1)) (kk : W p l e R s m args below meth c H locs cells slots Q (F0 m (pc + 1) ls (.double (f i) :: rest))) : W p l e R s m args below meth c H locs cells slots Q (F0 m pc ls (.int (iI i) :: .ref (ad r) :: rest)) := by
  refine va_dald (ws := [(ad r, eD cA n f)]) hx hb hK (hP.one ha) 0 t0 rfl ht (iI_in h0 h1 hn) d ?_
  rw [iI_clamp h0 (by omega), Int.toNat_of_nonneg h0]
  exact kk
theorem k_dast (hx : p.tables.exec = Jvm.exec) (hb : c.code = cc) (hK : va_K D cl tys s) (hP : gP D cl ad w H) (hD : gD A ad w) (hS : va_S A H0 H locs) (r t0 : Nat) {cA : ClassId} {n : Nat} {f : Int → UInt64} (ha : w r = some (eD cA n f)) (ht : tys[t0]? = some (cA, .double)) {i : Int} {x : UInt64} (h0 : 0 ≤ i) (h1 : i < n) (hn : (n : Int) < 2147483648) {w1 : Nat → Option va_E} (hw : up w r (eD cA n (updD f i x)) = w1) (d : decode cc pc = .ok (.dastore, 1)) (kk : ∀ (H1 : Heap) (locs1 : List Loc), gP D cl ad w1 H1 → gD A ad w1 → va_S A H0 H1 locs1 → W p l e R s m args below meth c H1 locs1 cells slots Q (F0 m (pc + 1) ls rest)) : W p l e R s m args below meth c H locs cells slots Q (F0 m pc ls (.double x :: .int (iI i) :: .ref (ad r) :: rest)) := by
  subst hw
  have hin := iI_in h0 h1 hn
  refine W.dast hx hb (hP r _ ha) ((hK.2 t0 _ ht).1 n (fun j => .double (f (j : Int)))) (fun q => by cases q) (by show ¬ (iI i < 0 ∨ (arrV _ _ _).slots.size ≤ _); rw [arrV_size]; exact hin) rfl rfl d fun H1 e1 z1 oq => ?_
  refine kk H1 _ (hP.set hD ha ?_ oq) (hD.set ha) (hS.put z1 oq (hD.2 r (by rw [ha]; simp)))
  show H1[ad r]? = some (vp_cell _ _)
  rw [e1, vp_cell_d, vp_cell_d, arrV_store, iI_clamp h0 (by omega)]
  congr 2
  funext q
  by_cases hq : q = i.toNat
  · subst hq
    have h9 : ((i.toNat : Nat) : Int) = i := Int.toNat_of_nonneg h0
    simp [updV, updD, h9]
  · have h9 : ¬ (q : Int) = i := by omega
    simp [updV, updD, hq, h9]
theorem k_newD (hx : p.tables.exec = Jvm.exec) (hb : c.code = cc) (harr : (Cond.arrayClass .double).before args s = true) (hK : va_K D cl tys s) (hP : gP D cl ad w H) (hD : gD A ad w) (hS : va_S A H0 H locs) (hA : ∀ q, H0.size ≤ q → A q) (r t0 : Nat) {cA : ClassId} (ht : tys[t0]? = some (cA, .double)) {z : Int} (N : Nat) (hz : z = (N : Int)) (hN : N ≤ 60000000) (hcells : cells + 1 ≤ R.cells) (hslots : slots + N ≤ R.slots) (d : decode cc pc = .ok (.newarray .double, 2))
    (kk : ∀ (q : Nat) (H1 : Heap), (∃ f : Int → UInt64, gP D cl (adN ad r q) (up w r (eD cA N f)) H1 ∧ gD A (adN ad r q) (up w r (eD cA N f))) → va_S A H0 H1 locs → W p l e R s m args below meth c H1 locs (cells + 1) (slots + N) Q (F0 m (pc + 2) ls (.ref q :: rest))) : W p l e R s m args below meth c H locs cells slots Q (F0 m pc ls (.int (iI z) :: rest)) := by
  subst hz
  refine va_newaK (atype := .double) hx hb harr rfl d rfl (h := H.size) (N := N) (by rw [iI_0]; exact fun q => absurd ((iI_lt (by constructor <;> omega) (by decide)).mp q) (by omega)) (by rw [iI_clamp (by omega) (by omega)]; omega) (Nat.le_trans (Nat.mul_le_mul_right _ hN) (by decide)) hcells hslots rfl fun H1 cB e1 z1 o1 hAr hNm => ?_
  have hcc : cB = cA := Option.some.inj (hNm.symm.trans (show s.vm.findClass _ = some cA from (hK.2 t0 _ ht).2))
  subst hcc
  refine kk H.size H1 ⟨fun _ => 0, hP.new ?_ o1, gD.new hP hD (hA _ hS.1)⟩ ⟨Nat.le_trans hS.1 (by omega), fun x h1 h2 => (o1 x (Nat.lt_of_lt_of_le h1 hS.1)).trans (hS.2.1 x h1 h2), hS.2.2⟩
  show H1[H.size]? = some (vp_cell _ _)
  rw [vp_cell_d]
  exact e1
/-- an int of the script -/
theorem k_sld (hx : p.tables.exec = Jvm.exec) (hb : c.code = cc) {b L : Nat} {xs : Nat → Int32} (hX : va_X b L xs s H0) (hbl : b < H0.size) (hbA : ¬ A b) (hS : va_S A H0 H locs) {i : Int} (h0 : 0 ≤ i) (h1 : i < L) (hL : L ≤ 2560) (d : decode cc pc = .ok (.iaload, 1))
    (kk : W p l e R s m args below meth c H locs cells slots Q (F0 m (pc + 1) ls (.int (iI (xs i.toNat).toInt) :: rest))) : W p l e R s m args below meth c H locs cells slots Q (F0 m pc ls (.int (iI i) :: .ref b :: rest)) := by
  refine va_sld hx hb hX hbl hbA hS (iI_in h0 h1 (by omega)) d ?_
  rw [iI_clamp h0 (by omega), ← iI_of (xs i.toNat)]
  exact kk
theorem k_slen (hx : p.tables.exec = Jvm.exec) (hb : c.code = cc) {b L : Nat} {xs : Nat → Int32} (hX : va_X b L xs s H0) (hbl : b < H0.size) (hbA : ¬ A b) (hS : va_S A H0 H locs) (d : decode cc pc = .ok (.arraylength, 1))
    (kk : W p l e R s m args below meth c H locs cells slots Q (F0 m (pc + 1) ls (.int (iI (L : Int)) :: rest))) : W p l e R s m args below meth c H locs cells slots Q (F0 m pc ls (.ref b :: rest)) := by
  refine va_slen hx hb hX hbl hbA hS d ?_
  rw [iI_nat]
  exact kk
end KL
/-- a body with handlers that throws nothing itself -/
theorem g_ofH {l : Launch} {y : MethodName} {ws ws' : List Cond} {rm : Room} {Pc : Array Value → State → Prop} {Qc : Array Value → State → Outcome → State → Prop} {mc ms : Nat} {free : Addr → Prop} {cc : ByteArray} {maxL : Nat} {ret : Option FieldType} {hh : List (Nat × Nat × Nat × Nat)}
    (hy : plainName y.cls = true) (hw : ws = Cond.codeWith y cc maxL ret hh :: ws')
    (body : ∀ p e s m args below meth c s₁, BodyLoose p l y (headSpec ws rm) cc maxL ret e s m args below meth c s₁ → c.maxLocals = maxL → Pc args s →
      W p l e (headSpec ws rm).room s m args below meth c s.heap [] 0 0 (MQ below Qc args s mc ms free) (entryFrame m args maxL)) : Met l y ws rm Pc Qc mc ms free := by
  refine MetFree.of_bodyS (code := cc) (maxLocals := maxL) (ret := ret) hy ?_ ?_
  · intro args s m h hn
    obtain ⟨m9, meth, c, hn9, h1, h2, h3, h4, -, h5, h6, -⟩ := Cond.codeWith_spec (atoms_spec (ws := ws) h _ (by rw [hw]; exact List.mem_cons_self))
    cases hn.symm.trans hn9
    exact ⟨meth, c, h1, h2, h3, h4, h5, h6⟩
  · intro p e s m args below meth c s₁ B hml hP _
    have hh0 : s₁.heap = s.heap := by rw [B.state]; rfl
    obtain ⟨t, a1, o, b1, b2, b3⟩ := body p e s m args below meth c s₁ B hml hP s₁ hh0 (Stand.of_body B)
    exact ⟨t, o, a1, b1, b2, ⟨b3.1, b3.2⟩⟩
theorem nc_0 {s : State} (hB : gB s) : va_Nc xIA xIS s := hB.2.2.2.1 (xIA, xIS) (List.mem_of_getElem? (i := 0) rfl)
theorem nc_1 {s : State} (hB : gB s) : va_Nc xIA xIX s := hB.2.2.2.1 (xIA, xIX) (List.mem_of_getElem? (i := 1) rfl)
theorem nc_2 {s : State} (hB : gB s) : va_Nc xIS xIA s := hB.2.2.2.1 (xIS, xIA) (List.mem_of_getElem? (i := 2) rfl)
theorem nc_3 {s : State} (hB : gB s) : va_Nc xIS xIX s := hB.2.2.2.1 (xIS, xIX) (List.mem_of_getElem? (i := 3) rfl)
theorem nc_4 {s : State} (hB : gB s) : va_Nc xIX xIA s := hB.2.2.2.1 (xIX, xIA) (List.mem_of_getElem? (i := 4) rfl)
theorem nc_5 {s : State} (hB : gB s) : va_Nc xIX xIS s := hB.2.2.2.1 (xIX, xIS) (List.mem_of_getElem? (i := 5) rfl)
theorem ca_0 {s : State} (hB : gB s) (a : Array Value) : (Cond.castable xIA xIA).before a s = true := va_Nw.use rfl (hB.2.2.1 (xIA, xIA) (List.mem_of_getElem? (i := 0) rfl))
theorem ca_1 {s : State} (hB : gB s) (a : Array Value) : (Cond.castable xIS xIS).before a s = true := va_Nw.use rfl (hB.2.2.1 (xIS, xIS) (List.mem_of_getElem? (i := 1) rfl))
theorem ca_2 {s : State} (hB : gB s) (a : Array Value) : (Cond.castable xIX xIX).before a s = true := va_Nw.use rfl (hB.2.2.1 (xIX, xIX) (List.mem_of_getElem? (i := 2) rfl))

theorem bookS_of {cA : Nat → ClassId} {ad ad1 : Nat → Nat} {w w1 : Nat → Option va_E} {sc : Nat → Int} {fn : Nat → Int → Int} (hI : bkInv sc fn) (h : ∀ r : Nat, r < 200 → w1 r = w r ∧ ad1 r = ad r) (hbk : bookS cA ad w sc fn) : bookS cA ad1 w1 sc fn := by
  obtain ⟨rk, F, S, rn, rd, rm_, rz, ⟨h0, h1, h2, h3, h4, h5, h6, h7, h8, h9, h10, h11, h12, h13, h14, h15, hcv, hms⟩, hrk, hF, hS9⟩ := hbk
  exact ⟨rk, F, S, rn, rd, rm_, rz, ⟨(by rw [(h 0 (by omega)).1, (h 1 (by omega)).2, (h 2 (by omega)).2, (h 5 (by omega)).2, (h 6 (by omega)).2, (h 7 (by omega)).2, (h 8 (by omega)).2, (h 9 (by omega)).2, (h 12 (by omega)).2]; exact h0), (by rw [(h 1 (by omega)).1, h1]; congr 2; funext j; by_cases e9 : (j : Int) < sc 0; have i9_ := hI.1; rw [if_pos e9, if_pos e9, (h (30 + 3 * j) (by omega)).2]; rw [if_neg e9, if_neg e9]), (by rw [(h 2 (by omega)).1, (h 3 (by omega)).2, (h 4 (by omega)).2]; exact h2), (by rw [(h 3 (by omega)).1]; exact h3), (by rw [(h 4 (by omega)).1]; exact h4), (by rw [(h 5 (by omega)).1]; exact h5), (by rw [(h 6 (by omega)).1]; exact h6), (by rw [(h 7 (by omega)).1]; exact h7), (by rw [(h 8 (by omega)).1, h8]; congr 2; funext j; by_cases e9 : (j : Int) < sc 4; have i9_ := hI.1; rw [if_pos e9, if_pos e9, (h (60 + j) (by omega)).2]; rw [if_neg e9, if_neg e9]), (by rw [(h 9 (by omega)).1, (h 10 (by omega)).2, (h 11 (by omega)).2]; exact h9), (by rw [(h 10 (by omega)).1]; exact h10), (by rw [(h 11 (by omega)).1]; exact h11), (by rw [(h 12 (by omega)).1, (h 13 (by omega)).2, (h 14 (by omega)).2, (h 15 (by omega)).2]; exact h12), (by rw [(h 13 (by omega)).1]; exact h13), (by rw [(h 14 (by omega)).1]; exact h14), (by rw [(h 15 (by omega)).1]; exact h15), (fun k hk => by have i9_ := hI.1; have h9_ := hcv k hk; rw [(h (30 + 3 * k) (by omega)).1, (h (31 + 3 * k) (by omega)).1, (h (32 + 3 * k) (by omega)).1, (h (31 + 3 * k) (by omega)).2, (h (32 + 3 * k) (by omega)).2]; exact h9_), (fun k hk => by have i9_ := hI.1; rw [(h (60 + k) (by omega)).1]; exact hms k hk)⟩, hrk, hF, hS9⟩
theorem bookS_0 {cA : Nat → ClassId} {ad : Nat → Nat} {w : Nat → Option va_E} {sc : Nat → Int} {fn : Nat → Int → Int} (hbk : bookS cA ad w sc fn) : ∃ fs : List Value, w 0 = some (oB 5 fs) := by
  obtain ⟨rk, F, S, rn, rd, rm_, rz, ⟨h0, h1, h2, h3, h4, h5, h6, h7, h8, h9, h10, h11, h12, h13, h14, h15, hcv, hms⟩, hrk, hF, hS9⟩ := hbk
  exact ⟨_, h0⟩

theorem mdS_of {cA : Nat → ClassId} {ad ad1 : Nat → Nat} {w w1 : Nat → Option va_E} {th : Int} {sc : Nat → Int} {fn : Nat → Int → Int} (h : ∀ r : Nat, 200 ≤ r → r < 230 → w1 r = w r ∧ ad1 r = ad r) (hmd : mdS cA ad w th sc fn) : mdS cA ad1 w1 th sc fn := by
  have h : ∀ r : Nat, 200 ≤ r ∧ r < 230 → w1 r = w r ∧ ad1 r = ad r := fun r x => h r x.1 x.2
  obtain ⟨fr, G1, G2, us, ut, ub, S, F, ⟨k0, k1, k2, k3, k4, k5, k6, k7, k8, k9, k10, k11, k12⟩, hG1, hG2, hus, hut, hub, hS9, hF, hmc, hmu, hmt, hrk⟩ := hmd
  exact ⟨fr, G1, G2, us, ut, ub, S, F, ⟨(by rw [(h 200 (by omega)).1, (h 201 (by omega)).2, (h 202 (by omega)).2, (h 203 (by omega)).2, (h 204 (by omega)).2, (h 205 (by omega)).2, (h 206 (by omega)).2, (h 207 (by omega)).2, (h 208 (by omega)).2, (h 209 (by omega)).2, (h 210 (by omega)).2, (h 211 (by omega)).2, (h 212 (by omega)).2]; exact k0), (by rw [(h 201 (by omega)).1]; exact k1), (by rw [(h 202 (by omega)).1]; exact k2), (by rw [(h 203 (by omega)).1]; exact k3), (by rw [(h 204 (by omega)).1]; exact k4), (by rw [(h 205 (by omega)).1]; exact k5), (by rw [(h 206 (by omega)).1]; exact k6), (by rw [(h 207 (by omega)).1]; exact k7), (by rw [(h 208 (by omega)).1]; exact k8), (by rw [(h 209 (by omega)).1]; exact k9), (by rw [(h 210 (by omega)).1]; exact k10), (by rw [(h 211 (by omega)).1]; exact k11), (by rw [(h 212 (by omega)).1]; exact k12)⟩, hG1, hG2, hus, hut, hub, hS9, hF, hmc, hmu, hmt, hrk⟩
theorem mdS_0 {cA : Nat → ClassId} {ad : Nat → Nat} {w : Nat → Option va_E} {th : Int} {sc : Nat → Int} {fn : Nat → Int → Int} (hmd : mdS cA ad w th sc fn) : ∃ fs : List Value, w 200 = some (oB 6 fs) := by
  obtain ⟨fr, G1, G2, us, ut, ub, S, F, ⟨k0, k1, k2, k3, k4, k5, k6, k7, k8, k9, k10, k11, k12⟩, hG1, hG2, hus, hut, hub, hS9, hF, hmc, hmu, hmt, hrk⟩ := hmd
  exact ⟨_, k0⟩
/-- the answer's number -/
def rC (v : Option Value) (x : Int) : Prop := ∀ z : Int, (v = some (.int (iI z)) → x = wI z) ∧ (v = some (.long (lI z)) → lI x = lI z)
def rD (v : Option Value) (x : UInt64) : Prop := ∀ z : UInt64, v = some (.double z) → x = z
/-- what a call comes to: k = 0 and its answer, or k and its failing -/
def rlP (ok : (Nat → Int) → (Nat → Int → Int) → Option Value → Prop) (er : Int → Prop) (sc : Nat → Int) (fn : Nat → Int → Int) (k : Int) (sc2 : Nat → Int) (fn2 : Nat → Int → Int) (v : Option Value) : Prop := (k = 0 ∧ ok sc2 fn2 v) ∨ (sc2 = sc ∧ fn2 = fn ∧ er k)
theorem rl_det {ok : (Nat → Int) → (Nat → Int → Int) → Option Value → Prop} {er : Int → Prop} {sc : Nat → Int} {fn : Nat → Int → Int} (h1 : ∀ a b u a2 b2 u2, ok a b u → ok a2 b2 u2 → a = a2 ∧ b = b2 ∧ u = u2) (h2 : ∀ a b u k, ok a b u → er k → False) (h3 : ∀ k k2, er k → er k2 → k = k2) (h4 : ¬ er 0) {k k2 : Int} {a a2 : Nat → Int} {b b2 : Nat → Int → Int} {u u2 : Option Value} (g : rlP ok er sc fn k a b u) (g2 : rlP ok er sc fn k2 a2 b2 u2) : k = k2 ∧ a = a2 ∧ b = b2 ∧ (k = 0 → u = u2) := by
  rcases g with ⟨e1, e2⟩ | ⟨e1, e2, e3⟩ <;> rcases g2 with ⟨f1, f2⟩ | ⟨f1, f2, f3⟩
  · have := h1 _ _ _ _ _ _ e2 f2
    exact ⟨by omega, this.1, this.2.1, fun _ => this.2.2⟩
  · exact (h2 _ _ _ _ e2 f3).elim
  · exact (h2 _ _ _ _ f2 e3).elim
  · refine ⟨h3 _ _ e3 f3, by rw [e1, f1], by rw [e2, f2], fun z => ?_⟩
    rw [z] at e3
    exact absurd e3 h4
/-- the world but for the answer's row -/
def keepL (r0 : Nat) (ad ad1 : Nat → Nat) (w w1 : Nat → Option va_E) : Prop := ad1 0 = ad 0 ∧ ∀ r : Nat, 200 ≤ r → ad1 r = ad r ∧ (r ≠ r0 → w1 r = w r)
