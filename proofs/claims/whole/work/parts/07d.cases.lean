/-- an int of the script -/
def sV (xs : Nat → Int32) (j : Int) : Int := (xs j.toNat).toInt
theorem sV_r (xs : Nat → Int32) (j : Int) : rI (sV xs j) := iI_rng _
theorem k_lcmpS {p : Program} {l : Launch} {e : Env} {R : Room} {s : State} {m : MethodId} {args : Array Value} {below : List Frame} {meth : Method} {c : Code} {H : Heap} {locs : List Loc} {cells slots : Nat} {Q : State → Prop} {pc : Nat} {ls : Array Slot} {rest : List Value} {cc : ByteArray} (hx : p.tables.exec = Jvm.exec) (hb : c.code = cc) {a : Int64} {off : Int} {tgt : Nat} (d0 : decode cc pc = .ok (.lcmp, 1)) (d : decode cc (pc + 1) = .ok (.ifCond .eq off, 3)) (ht : ((pc + 1 : Nat) : Int) + off = (tgt : Int)) (kt : W p l e R s m args below meth c H locs cells slots Q (F0 m tgt ls rest)) : W p l e R s m args below meth c H locs cells slots Q (F0 m pc ls (.long a :: .long a :: rest)) := W.lcmp hx hb d0 (lv_if_eq hx hb d ht (fun _ => kt) (fun h => absurd ((lg_cmp_eq _ _).mpr rfl) h))
theorem mdS_k {cA : Nat → ClassId} {ad : Nat → Nat} {w : Nat → Option va_E} {th : Int} {sc : Nat → Int} {fn : Nat → Int → Int} (hmd : mdS cA ad w th sc fn) : ∃ fr : Int, w 200 = some (oB 6 [.int (iI th), .int (iI (sc 0)), .ref (ad 201), .ref (ad 202), .ref (ad 203), .ref (ad 204), .int (iI (sc 1)), .ref (ad 205), .ref (ad 206), .ref (ad 207), .ref (ad 208), .ref (ad 209), .int (iI (sc 2)), .int (iI (sc 3)), .int (iI (sc 4)), .ref (ad 210), .int (iI fr), .ref (ad 211), .ref (ad 212)]) := by
  obtain ⟨fr, G1, G2, us, ut, ub, S, F, ⟨k0, k1, k2, k3, k4, k5, k6, k7, k8, k9, k10, k11, k12⟩, hG1, hG2, hus, hut, hub, hS9, hF, hmc, hmu, hmt, hrk⟩ := hmd
  exact ⟨fr, k0⟩
/-- the law's world: the class's book, the model's, the two rows of answers -/
def lwS (cA : Nat → ClassId) (ad : Nat → Nat) (w : Nat → Option va_E) (sc : Nat → Int) (fn : Nat → Int → Int) : Prop := bookS cA ad w sc fn ∧ bkInv sc fn ∧ (∃ th : Int, mdS cA ad w th sc fn) ∧ (∃ o : Int → Int, w 301 = some (eJ (cA 2) 1 o)) ∧ ∃ g : Int → UInt64, w 302 = some (eD (cA 3) 1 g)
/-- what stays all through the law -/
def lwC (p : Program) (l : Launch) (s : State) (m : MethodId) (c : Code) (D : va_G) (cA : Nat → ClassId) (A : Nat → Prop) (b L : Nat) (xs : Nat → Int32) : Prop := l.stackTraces = false ∧ p.tables.exec = Jvm.exec ∧ c.code = cL_law ∧ c.maxLocals = 9 ∧ s.vm.findClass RL = some m.cls ∧ (∀ w ∈ wsL_law, w.before #[Value.ref b] s = true) ∧ va_K D vwCl (gT cA) s ∧ gB s ∧ gZ A s s.heap ∧ (∀ q, s.heap.size ≤ q → A q) ∧ va_X b L xs s s.heap ∧ b < s.heap.size ∧ ¬ A b ∧ L ≤ 2560

theorem md_addCurve {sc sc2 : Nat → Int} {fn fn2 : Nat → Int → Int} {d th2 : Int} {v9 : Option Value} (h : (th2 = 0 ∧ (∃ c : Nat, sc 0 = (c : Int) ∧ sc2 = upS sc 0 (sc 0 + 1) ∧ fn2 = crF fn c d ∧ (0 ≤ d ∧ d < 400) ∧ sc 0 < 6 ∧ (∀ j : Int, 0 ≤ j → j < sc 0 → fn 8 j ≠ d) ∧ v9 = some (.int (iI (sc 0))))) ∨ (th2 = 1 ∧ v9 = some (.int (iI 0)) ∧ sc2 = sc ∧ fn2 = fn ∧ (¬ (0 ≤ d ∧ d < 400))) ∨ (th2 = 2 ∧ v9 = some (.int (iI 0)) ∧ sc2 = sc ∧ fn2 = fn ∧ ((0 ≤ d ∧ d < 400) ∧ (¬ sc 0 < 6 ∨ ∃ j : Int, 0 ≤ j ∧ j < sc 0 ∧ fn 8 j = d)))) : rlP (okM_addCurve sc fn d) (erM_addCurve sc fn d) sc fn th2 sc2 fn2 v9 ∧ ∃ z : Int, v9 = some (.int (iI z)) := by
  rcases h with ⟨e, h⟩ | ⟨e, hv, h1, h2, h3⟩ | ⟨e, hv, h1, h2, h3⟩
  · exact ⟨Or.inl ⟨e, h⟩, okv_addCurve h⟩
  · exact ⟨Or.inr ⟨h1, h2, Or.inl (⟨e, h3⟩)⟩, _, hv⟩
  · exact ⟨Or.inr ⟨h1, h2, Or.inr (⟨e, h3⟩)⟩, _, hv⟩
theorem md_addPoint {sc sc2 : Nat → Int} {fn fn2 : Nat → Int → Int} {cu sg q th2 : Int} {v9 : Option Value} (h : (th2 = 0 ∧ (sc2 = sc ∧ ∃ (k : Nat) (p : Int), cu = (k : Int) ∧ (k : Int) < sc 0 ∧ fn2 = ptF fn k p sg q ∧ clP (fn (20 + k)) (fn 9 (k : Int)) sg p ∧ canP (fn (20 + k)) (fn (30 + k)) (fn 9 (k : Int)) sg q p ∧ ((-500 ≤ sg ∧ sg ≤ 2000) ∧ (0 ≤ q ∧ q ≤ 1000000)) ∧ v9 = some (.int (iI (fn 9 cu + 1))))) ∨ (th2 = 1 ∧ v9 = some (.int (iI 0)) ∧ sc2 = sc ∧ fn2 = fn ∧ (¬ (0 ≤ cu ∧ cu < sc 0))) ∨ (th2 = 2 ∧ v9 = some (.int (iI 0)) ∧ sc2 = sc ∧ fn2 = fn ∧ ((0 ≤ cu ∧ cu < sc 0) ∧ ¬ ((-500 ≤ sg ∧ sg ≤ 2000) ∧ (0 ≤ q ∧ q ≤ 1000000)))) ∨ (th2 = 3 ∧ v9 = some (.int (iI 0)) ∧ sc2 = sc ∧ fn2 = fn ∧ (((-500 ≤ sg ∧ sg ≤ 2000) ∧ (0 ≤ q ∧ q ≤ 1000000)) ∧ ∃ (k : Nat) (p : Int), cu = (k : Int) ∧ (k : Int) < sc 0 ∧ clP (fn (20 + k)) (fn 9 (k : Int)) sg p ∧ ¬ canP (fn (20 + k)) (fn (30 + k)) (fn 9 (k : Int)) sg q p))) : rlP (okM_addPoint sc fn cu sg q) (erM_addPoint sc fn cu sg q) sc fn th2 sc2 fn2 v9 ∧ ∃ z : Int, v9 = some (.int (iI z)) := by
  rcases h with ⟨e, h⟩ | ⟨e, hv, h1, h2, h3⟩ | ⟨e, hv, h1, h2, h3⟩ | ⟨e, hv, h1, h2, h3⟩
  · exact ⟨Or.inl ⟨e, h⟩, okv_addPoint h⟩
  · exact ⟨Or.inr ⟨h1, h2, Or.inl (⟨e, h3⟩)⟩, _, hv⟩
  · exact ⟨Or.inr ⟨h1, h2, Or.inr (Or.inl (⟨e, h3⟩))⟩, _, hv⟩
  · exact ⟨Or.inr ⟨h1, h2, Or.inr (Or.inr (⟨e, h3⟩))⟩, _, hv⟩
theorem md_flowBy {sc sc2 : Nat → Int} {fn fn2 : Nat → Int → Int} {ci sg th2 : Int} {v9 : Option Value} (h : (th2 = 0 ∧ (sc2 = sc ∧ fn2 = fn ∧ 0 ≤ ci ∧ ci < sc 0 ∧ -2000 ≤ sg ∧ sg ≤ 4000 ∧ 2 ≤ fn 9 ci ∧ v9 = some (.long (lI (flowF (fn (20 + ci.toNat)) (fn (30 + ci.toNat)) (fn 9 ci) sg))))) ∨ (th2 = 1 ∧ v9 = some (.long (lI 0)) ∧ sc2 = sc ∧ fn2 = fn ∧ (¬ (0 ≤ ci ∧ ci < sc 0))) ∨ (th2 = 2 ∧ v9 = some (.long (lI 0)) ∧ sc2 = sc ∧ fn2 = fn ∧ ((0 ≤ ci ∧ ci < sc 0) ∧ ¬ (-2000 ≤ sg ∧ sg ≤ 4000))) ∨ (th2 = 3 ∧ v9 = some (.long (lI 0)) ∧ sc2 = sc ∧ fn2 = fn ∧ ((0 ≤ ci ∧ ci < sc 0) ∧ (-2000 ≤ sg ∧ sg ≤ 4000) ∧ ¬ 2 ≤ fn 9 ci))) : rlP (okM_flowBy sc fn ci sg) (erM_flowBy sc fn ci sg) sc fn th2 sc2 fn2 v9 ∧ ∃ z : Int, v9 = some (.long (lI z)) := by
  rcases h with ⟨e, h⟩ | ⟨e, hv, h1, h2, h3⟩ | ⟨e, hv, h1, h2, h3⟩ | ⟨e, hv, h1, h2, h3⟩
  · exact ⟨Or.inl ⟨e, h⟩, okv_flowBy h⟩
  · exact ⟨Or.inr ⟨h1, h2, Or.inl (⟨e, h3⟩)⟩, _, hv⟩
  · exact ⟨Or.inr ⟨h1, h2, Or.inr (Or.inl (⟨e, h3⟩))⟩, _, hv⟩
  · exact ⟨Or.inr ⟨h1, h2, Or.inr (Or.inr (⟨e, h3⟩))⟩, _, hv⟩
theorem md_stageBy {sc sc2 : Nat → Int} {fn fn2 : Nat → Int → Int} {ci q th2 : Int} {v9 : Option Value} (h : (th2 = 0 ∧ (sc2 = sc ∧ fn2 = fn ∧ 0 ≤ ci ∧ ci < sc 0 ∧ 0 ≤ q ∧ q ≤ 1000000 ∧ 2 ≤ fn 9 ci ∧ v9 = some (.int (iI (stageF (fn (20 + ci.toNat)) (fn (30 + ci.toNat)) (fn 9 ci) q))))) ∨ (th2 = 1 ∧ v9 = some (.int (iI 0)) ∧ sc2 = sc ∧ fn2 = fn ∧ (¬ (0 ≤ ci ∧ ci < sc 0))) ∨ (th2 = 2 ∧ v9 = some (.int (iI 0)) ∧ sc2 = sc ∧ fn2 = fn ∧ ((0 ≤ ci ∧ ci < sc 0) ∧ ¬ (0 ≤ q ∧ q ≤ 1000000))) ∨ (th2 = 3 ∧ v9 = some (.int (iI 0)) ∧ sc2 = sc ∧ fn2 = fn ∧ ((0 ≤ ci ∧ ci < sc 0) ∧ (0 ≤ q ∧ q ≤ 1000000) ∧ ¬ 2 ≤ fn 9 ci))) : rlP (okM_stageBy sc fn ci q) (erM_stageBy sc fn ci q) sc fn th2 sc2 fn2 v9 ∧ ∃ z : Int, v9 = some (.int (iI z)) := by
  rcases h with ⟨e, h⟩ | ⟨e, hv, h1, h2, h3⟩ | ⟨e, hv, h1, h2, h3⟩ | ⟨e, hv, h1, h2, h3⟩
  · exact ⟨Or.inl ⟨e, h⟩, okv_stageBy h⟩
  · exact ⟨Or.inr ⟨h1, h2, Or.inl (⟨e, h3⟩)⟩, _, hv⟩
  · exact ⟨Or.inr ⟨h1, h2, Or.inr (Or.inl (⟨e, h3⟩))⟩, _, hv⟩
  · exact ⟨Or.inr ⟨h1, h2, Or.inr (Or.inr (⟨e, h3⟩))⟩, _, hv⟩
theorem md_curveOf {sc sc2 : Nat → Int} {fn fn2 : Nat → Int → Int} {d th2 : Int} {v9 : Option Value} (h : (th2 = 0 ∧ (sc2 = sc ∧ fn2 = fn ∧ 0 ≤ d ∧ d < 400 ∧ v9 = some (.int (iI (cvno sc fn d))))) ∨ (th2 = 1 ∧ v9 = some (.int (iI 0)) ∧ sc2 = sc ∧ fn2 = fn ∧ (¬ (0 ≤ d ∧ d < 400)))) : rlP (okM_curveOf sc fn d) (erM_curveOf sc fn d) sc fn th2 sc2 fn2 v9 ∧ ∃ z : Int, v9 = some (.int (iI z)) := by
  rcases h with ⟨e, h⟩ | ⟨e, hv, h1, h2, h3⟩
  · exact ⟨Or.inl ⟨e, h⟩, okv_curveOf h⟩
  · exact ⟨Or.inr ⟨h1, h2, ⟨e, h3⟩⟩, _, hv⟩
theorem md_setShift {sc sc2 : Nat → Int} {fn fn2 : Nat → Int → Int} {d sv th2 : Int} {v9 : Option Value} (h : (th2 = 0 ∧ (∃ k : Int, clP (fn 0) (sc 1) d k ∧ ((0 ≤ d ∧ d < 400) ∧ (-200 ≤ sv ∧ sv ≤ 200)) ∧ ((sc2 = sc ∧ fn2 = upF fn 1 (updI (fn 1) k sv) ∧ k < sc 1 ∧ fn 0 k = d) ∨ (sc2 = upS sc 1 (sc 1 + 1) ∧ fn2 = upF (upF fn 0 (insF (fn 0) (sc 1) k d)) 1 (insF (fn 1) (sc 1) k sv) ∧ ¬ (k < sc 1 ∧ fn 0 k = d) ∧ sc 1 < 20)) ∧ v9 = some (.int (iI (sftF (fn 0) (fn 1) (sc 1) d))))) ∨ (th2 = 1 ∧ v9 = some (.int (iI 0)) ∧ sc2 = sc ∧ fn2 = fn ∧ (¬ ((0 ≤ d ∧ d < 400) ∧ (-200 ≤ sv ∧ sv ≤ 200)))) ∨ (th2 = 2 ∧ v9 = some (.int (iI 0)) ∧ sc2 = sc ∧ fn2 = fn ∧ (((0 ≤ d ∧ d < 400) ∧ (-200 ≤ sv ∧ sv ≤ 200)) ∧ ∃ k : Int, clP (fn 0) (sc 1) d k ∧ ¬ (k < sc 1 ∧ fn 0 k = d) ∧ ¬ sc 1 < 20))) : rlP (okM_setShift sc fn d sv) (erM_setShift sc fn d sv) sc fn th2 sc2 fn2 v9 ∧ ∃ z : Int, v9 = some (.int (iI z)) := by
  rcases h with ⟨e, h⟩ | ⟨e, hv, h1, h2, h3⟩ | ⟨e, hv, h1, h2, h3⟩
  · exact ⟨Or.inl ⟨e, h⟩, okv_setShift h⟩
  · exact ⟨Or.inr ⟨h1, h2, Or.inl (⟨e, h3⟩)⟩, _, hv⟩
  · exact ⟨Or.inr ⟨h1, h2, Or.inr (⟨e, h3⟩)⟩, _, hv⟩
theorem md_shift {sc sc2 : Nat → Int} {fn fn2 : Nat → Int → Int} {d th2 : Int} {v9 : Option Value} (h : (th2 = 0 ∧ (sc2 = sc ∧ fn2 = fn ∧ 0 ≤ d ∧ d < 400 ∧ v9 = some (.int (iI (sftF (fn 0) (fn 1) (sc 1) d))))) ∨ (th2 = 1 ∧ v9 = some (.int (iI 0)) ∧ sc2 = sc ∧ fn2 = fn ∧ (¬ (0 ≤ d ∧ d < 400)))) : rlP (okM_shift sc fn d) (erM_shift sc fn d) sc fn th2 sc2 fn2 v9 ∧ ∃ z : Int, v9 = some (.int (iI z)) := by
  rcases h with ⟨e, h⟩ | ⟨e, hv, h1, h2, h3⟩
  · exact ⟨Or.inl ⟨e, h⟩, okv_shift h⟩
  · exact ⟨Or.inr ⟨h1, h2, ⟨e, h3⟩⟩, _, hv⟩
theorem md_read {sc sc2 : Nat → Int} {fn fn2 : Nat → Int → Int} {d n sg ri th2 : Int} {v9 : Option Value} (h : (th2 = 0 ∧ (sc2 = sc ∧ fn2 = (upF (upF fn 2 (spanF (fn 2) d n (fun j => sg + ri * (j - d)))) 3 (spanF (fn 3) d n (fun _ => 1))) ∧ ((0 ≤ d ∧ d < 400 ∧ 1 ≤ n ∧ d + n ≤ 400) ∧ (-500 ≤ sg ∧ sg ≤ 2000) ∧ (-500 ≤ sg + ri * (n - 1) ∧ sg + ri * (n - 1) ≤ 2000)) ∧ v9 = some (.int (iI (cntT (fn 3) d n.toNat))))) ∨ (th2 = 1 ∧ v9 = some (.int (iI 0)) ∧ sc2 = sc ∧ fn2 = fn ∧ (¬ ((0 ≤ d ∧ d < 400 ∧ 1 ≤ n ∧ d + n ≤ 400) ∧ (-500 ≤ sg ∧ sg ≤ 2000) ∧ (-500 ≤ sg + ri * (n - 1) ∧ sg + ri * (n - 1) ≤ 2000))))) : rlP (okM_read sc fn d n sg ri) (erM_read sc fn d n sg ri) sc fn th2 sc2 fn2 v9 ∧ ∃ z : Int, v9 = some (.int (iI z)) := by
  rcases h with ⟨e, h⟩ | ⟨e, hv, h1, h2, h3⟩
  · exact ⟨Or.inl ⟨e, h⟩, okv_read h⟩
  · exact ⟨Or.inr ⟨h1, h2, ⟨e, h3⟩⟩, _, hv⟩
theorem md_erase {sc sc2 : Nat → Int} {fn fn2 : Nat → Int → Int} {d n th2 : Int} {v9 : Option Value} (h : (th2 = 0 ∧ (sc2 = sc ∧ fn2 = (upF fn 3 (spanF (fn 3) d n (fun _ => 0))) ∧ (0 ≤ d ∧ d < 400 ∧ 1 ≤ n ∧ d + n ≤ 400) ∧ v9 = some (.int (iI (cntT (fn 3) d n.toNat))))) ∨ (th2 = 1 ∧ v9 = some (.int (iI 0)) ∧ sc2 = sc ∧ fn2 = fn ∧ (¬ (0 ≤ d ∧ d < 400 ∧ 1 ≤ n ∧ d + n ≤ 400)))) : rlP (okM_erase sc fn d n) (erM_erase sc fn d n) sc fn th2 sc2 fn2 v9 ∧ ∃ z : Int, v9 = some (.int (iI z)) := by
  rcases h with ⟨e, h⟩ | ⟨e, hv, h1, h2, h3⟩
  · exact ⟨Or.inl ⟨e, h⟩, okv_erase h⟩
  · exact ⟨Or.inr ⟨h1, h2, ⟨e, h3⟩⟩, _, hv⟩
theorem md_freeze {sc sc2 : Nat → Int} {fn fn2 : Nat → Int → Int} {d n ib th2 : Int} {v9 : Option Value} (h : (th2 = 0 ∧ (sc2 = sc ∧ fn2 = (upF fn 4 (spanF (fn 4) d n (fun _ => ib))) ∧ (0 ≤ d ∧ d < 400 ∧ 1 ≤ n ∧ d + n ≤ 400) ∧ v9 = some (.int (iI (if ib = 0 then cntT (fn 4) d n.toNat else n - cntT (fn 4) d n.toNat))))) ∨ (th2 = 1 ∧ v9 = some (.int (iI 0)) ∧ sc2 = sc ∧ fn2 = fn ∧ (¬ (0 ≤ d ∧ d < 400 ∧ 1 ≤ n ∧ d + n ≤ 400)))) : rlP (okM_freeze sc fn d n ib) (erM_freeze sc fn d n ib) sc fn th2 sc2 fn2 v9 ∧ ∃ z : Int, v9 = some (.int (iI z)) := by
  rcases h with ⟨e, h⟩ | ⟨e, hv, h1, h2, h3⟩
  · exact ⟨Or.inl ⟨e, h⟩, okv_freeze h⟩
  · exact ⟨Or.inr ⟨h1, h2, ⟨e, h3⟩⟩, _, hv⟩
theorem md_setRules {sc sc2 : Nat → Int} {fn fn2 : Nat → Int → Int} {fa li th2 : Int} {v9 : Option Value} (h : (th2 = 0 ∧ (sc2 = (upS (upS sc 2 fa) 3 li) ∧ fn2 = fn ∧ ((0 ≤ fa ∧ fa ≤ 100) ∧ (0 ≤ li ∧ li ≤ 60)) ∧ v9 = some (.int (iI (sc 2))))) ∨ (th2 = 1 ∧ v9 = some (.int (iI 0)) ∧ sc2 = sc ∧ fn2 = fn ∧ (¬ ((0 ≤ fa ∧ fa ≤ 100) ∧ (0 ≤ li ∧ li ≤ 60))))) : rlP (okM_setRules sc fn fa li) (erM_setRules sc fn fa li) sc fn th2 sc2 fn2 v9 ∧ ∃ z : Int, v9 = some (.int (iI z)) := by
  rcases h with ⟨e, h⟩ | ⟨e, hv, h1, h2, h3⟩
  · exact ⟨Or.inl ⟨e, h⟩, okv_setRules h⟩
  · exact ⟨Or.inr ⟨h1, h2, ⟨e, h3⟩⟩, _, hv⟩
theorem md_state {sc sc2 : Nat → Int} {fn fn2 : Nat → Int → Int} {d th2 : Int} {v9 : Option Value} (h : (th2 = 0 ∧ (sc2 = sc ∧ fn2 = fn ∧ 0 ≤ d ∧ d < 400 ∧ v9 = some (.int (iI (tbS sc fn d))))) ∨ (th2 = 1 ∧ v9 = some (.int (iI 0)) ∧ sc2 = sc ∧ fn2 = fn ∧ (¬ (0 ≤ d ∧ d < 400)))) : rlP (okM_state sc fn d) (erM_state sc fn d) sc fn th2 sc2 fn2 v9 ∧ ∃ z : Int, v9 = some (.int (iI z)) := by
  rcases h with ⟨e, h⟩ | ⟨e, hv, h1, h2, h3⟩
  · exact ⟨Or.inl ⟨e, h⟩, okv_state h⟩
  · exact ⟨Or.inr ⟨h1, h2, ⟨e, h3⟩⟩, _, hv⟩
theorem md_flow {sc sc2 : Nat → Int} {fn fn2 : Nat → Int → Int} {d th2 : Int} {v9 : Option Value} (h : (th2 = 0 ∧ (sc2 = sc ∧ fn2 = fn ∧ 0 ≤ d ∧ d < 400 ∧ v9 = some (.long (lI (tbF sc fn d))))) ∨ (th2 = 1 ∧ v9 = some (.long (lI 0)) ∧ sc2 = sc ∧ fn2 = fn ∧ (¬ (0 ≤ d ∧ d < 400)))) : rlP (okM_flow sc fn d) (erM_flow sc fn d) sc fn th2 sc2 fn2 v9 ∧ ∃ z : Int, v9 = some (.long (lI z)) := by
  rcases h with ⟨e, h⟩ | ⟨e, hv, h1, h2, h3⟩
  · exact ⟨Or.inl ⟨e, h⟩, okv_flow h⟩
  · exact ⟨Or.inr ⟨h1, h2, ⟨e, h3⟩⟩, _, hv⟩
theorem md_sum {sc sc2 : Nat → Int} {fn fn2 : Nat → Int → Int} {fa to_ wh th2 : Int} {v9 : Option Value} (h : (th2 = 0 ∧ (sc2 = sc ∧ fn2 = fn ∧ 0 ≤ wh ∧ wh ≤ 4 ∧ 0 ≤ fa ∧ fa ≤ to_ ∧ to_ < 400 ∧ ∃ z : Int, v9 = some (.long (lI z)) ∧ sumV (tbF sc fn) (tbS sc fn) fa to_ wh z)) ∨ (th2 = 1 ∧ v9 = some (.long (lI 0)) ∧ sc2 = sc ∧ fn2 = fn ∧ (¬ (0 ≤ wh ∧ wh ≤ 4))) ∨ (th2 = 2 ∧ v9 = some (.long (lI 0)) ∧ sc2 = sc ∧ fn2 = fn ∧ ((0 ≤ wh ∧ wh ≤ 4) ∧ ¬ (0 ≤ fa ∧ fa ≤ to_ ∧ to_ < 400)))) : rlP (okM_sum sc fn fa to_ wh) (erM_sum sc fn fa to_ wh) sc fn th2 sc2 fn2 v9 ∧ ∃ z : Int, v9 = some (.long (lI z)) := by
  rcases h with ⟨e, h⟩ | ⟨e, hv, h1, h2, h3⟩ | ⟨e, hv, h1, h2, h3⟩
  · exact ⟨Or.inl ⟨e, h⟩, okv_sum h⟩
  · exact ⟨Or.inr ⟨h1, h2, Or.inl (⟨e, h3⟩)⟩, _, hv⟩
  · exact ⟨Or.inr ⟨h1, h2, Or.inr (⟨e, h3⟩)⟩, _, hv⟩
theorem md_mean {sc sc2 : Nat → Int} {fn fn2 : Nat → Int → Int} {fa to_ th2 : Int} {v9 : Option Value} (h : (th2 = 0 ∧ (sc2 = sc ∧ fn2 = fn ∧ 0 ≤ fa ∧ fa ≤ to_ ∧ to_ < 400 ∧ v9 = some (.double (mnV (tbF sc fn) (tbS sc fn) fa to_)))) ∨ (th2 = 1 ∧ v9 = some (.double FP.dconst0) ∧ sc2 = sc ∧ fn2 = fn ∧ (¬ (0 ≤ fa ∧ fa ≤ to_ ∧ to_ < 400)))) : rlP (okM_mean sc fn fa to_) (erM_mean sc fn fa to_) sc fn th2 sc2 fn2 v9 ∧ ∃ z : UInt64, v9 = some (.double z) := by
  rcases h with ⟨e, h⟩ | ⟨e, hv, h1, h2, h3⟩
  · exact ⟨Or.inl ⟨e, h⟩, okv_mean h⟩
  · exact ⟨Or.inr ⟨h1, h2, ⟨e, h3⟩⟩, _, hv⟩
theorem md_reached {sc sc2 : Nat → Int} {fn fn2 : Nat → Int → Int} {pt th2 : Int} {v9 : Option Value} (h : (th2 = 0 ∧ (sc2 = sc ∧ fn2 = fn ∧ 1 ≤ pt ∧ pt ≤ 100 ∧ ∃ v : Int, v9 = some (.long (lI v)) ∧ rcP (tbF sc fn) (tbS sc fn) (max 1 (Int.tdiv (cntT (tbS sc fn) 0 400 * pt) 100)) v)) ∨ (th2 = 1 ∧ v9 = some (.long (lI 0)) ∧ sc2 = sc ∧ fn2 = fn ∧ (¬ (1 ≤ pt ∧ pt ≤ 100)))) : rlP (okM_reached sc fn pt) (erM_reached sc fn pt) sc fn th2 sc2 fn2 v9 ∧ ∃ z : Int, v9 = some (.long (lI z)) := by
  rcases h with ⟨e, h⟩ | ⟨e, hv, h1, h2, h3⟩
  · exact ⟨Or.inl ⟨e, h⟩, okv_reached h⟩
  · exact ⟨Or.inr ⟨h1, h2, ⟨e, h3⟩⟩, _, hv⟩
theorem md_peaks {sc sc2 : Nat → Int} {fn fn2 : Nat → Int → Int} {lm ap th2 : Int} {v9 : Option Value} (h : (th2 = 0 ∧ (sc2 = sc ∧ fn2 = fn ∧ 0 ≤ lm ∧ 1 ≤ ap ∧ ap ≤ 100 ∧ ∃ v : Int, v9 = some (.int (iI v)) ∧ pkE (tbF sc fn) (tbS sc fn) lm ap (fun _ => False) 0 v)) ∨ (th2 = 1 ∧ v9 = some (.int (iI 0)) ∧ sc2 = sc ∧ fn2 = fn ∧ (¬ (0 ≤ lm ∧ 1 ≤ ap ∧ ap ≤ 100)))) : rlP (okM_peaks sc fn lm ap) (erM_peaks sc fn lm ap) sc fn th2 sc2 fn2 v9 ∧ ∃ z : Int, v9 = some (.int (iI z)) := by
  rcases h with ⟨e, h⟩ | ⟨e, hv, h1, h2, h3⟩
  · exact ⟨Or.inl ⟨e, h⟩, okv_peaks h⟩
  · exact ⟨Or.inr ⟨h1, h2, ⟨e, h3⟩⟩, _, hv⟩
theorem md_spell {sc sc2 : Nat → Int} {fn fn2 : Nat → Int → Int} {lm th2 : Int} {v9 : Option Value} (h : (th2 = 0 ∧ (sc2 = sc ∧ fn2 = fn ∧ 0 ≤ lm ∧ v9 = some (.int (iI (lngT (tbF sc fn) (tbS sc fn) lm 400))))) ∨ (th2 = 1 ∧ v9 = some (.int (iI 0)) ∧ sc2 = sc ∧ fn2 = fn ∧ (¬ (0 ≤ lm)))) : rlP (okM_spell sc fn lm) (erM_spell sc fn lm) sc fn th2 sc2 fn2 v9 ∧ ∃ z : Int, v9 = some (.int (iI z)) := by
  rcases h with ⟨e, h⟩ | ⟨e, hv, h1, h2, h3⟩
  · exact ⟨Or.inl ⟨e, h⟩, okv_spell h⟩
  · exact ⟨Or.inr ⟨h1, h2, ⟨e, h3⟩⟩, _, hv⟩
theorem md_measure {sc sc2 : Nat → Int} {fn fn2 : Nat → Int → Int} {d sg q th2 : Int} {v9 : Option Value} (h : (th2 = 0 ∧ (sc2 = upS sc 4 (sc 4 + 1) ∧ fn2 = msF fn (sc 4) d sg q ∧ ((0 ≤ d ∧ d < 400) ∧ (-500 ≤ sg ∧ sg ≤ 2000) ∧ (0 ≤ q ∧ q ≤ 1000000)) ∧ sc 4 < 40 ∧ v9 = some (.int (iI (sc 4 + 1))))) ∨ (th2 = 1 ∧ v9 = some (.int (iI 0)) ∧ sc2 = sc ∧ fn2 = fn ∧ (¬ ((0 ≤ d ∧ d < 400) ∧ (-500 ≤ sg ∧ sg ≤ 2000) ∧ (0 ≤ q ∧ q ≤ 1000000)))) ∨ (th2 = 2 ∧ v9 = some (.int (iI 0)) ∧ sc2 = sc ∧ fn2 = fn ∧ (((0 ≤ d ∧ d < 400) ∧ (-500 ≤ sg ∧ sg ≤ 2000) ∧ (0 ≤ q ∧ q ≤ 1000000)) ∧ ¬ sc 4 < 40))) : rlP (okM_measure sc fn d sg q) (erM_measure sc fn d sg q) sc fn th2 sc2 fn2 v9 ∧ ∃ z : Int, v9 = some (.int (iI z)) := by
  rcases h with ⟨e, h⟩ | ⟨e, hv, h1, h2, h3⟩ | ⟨e, hv, h1, h2, h3⟩
  · exact ⟨Or.inl ⟨e, h⟩, okv_measure h⟩
  · exact ⟨Or.inr ⟨h1, h2, Or.inl (⟨e, h3⟩)⟩, _, hv⟩
  · exact ⟨Or.inr ⟨h1, h2, Or.inr (⟨e, h3⟩)⟩, _, hv⟩
theorem md_deviation {sc sc2 : Nat → Int} {fn fn2 : Nat → Int → Int} {mi th2 : Int} {v9 : Option Value} (h : (th2 = 0 ∧ (sc2 = sc ∧ fn2 = fn ∧ 0 ≤ mi ∧ mi < sc 4 ∧ (cvno sc fn (fn 5 mi) ≠ -1 ∧ 2 ≤ fn 9 (cvno sc fn (fn 5 mi))) ∧ v9 = some (.long (lI (fn 7 mi - flowF (fn (20 + (cvno sc fn (fn 5 mi)).toNat)) (fn (30 + (cvno sc fn (fn 5 mi)).toNat)) (fn 9 (cvno sc fn (fn 5 mi))) (fn 6 mi - sftF (fn 0) (fn 1) (sc 1) (fn 5 mi))))))) ∨ (th2 = 1 ∧ v9 = some (.long (lI 0)) ∧ sc2 = sc ∧ fn2 = fn ∧ (¬ (0 ≤ mi ∧ mi < sc 4))) ∨ (th2 = 2 ∧ v9 = some (.long (lI 0)) ∧ sc2 = sc ∧ fn2 = fn ∧ ((0 ≤ mi ∧ mi < sc 4) ∧ ¬ (cvno sc fn (fn 5 mi) ≠ -1 ∧ 2 ≤ fn 9 (cvno sc fn (fn 5 mi)))))) : rlP (okM_deviation sc fn mi) (erM_deviation sc fn mi) sc fn th2 sc2 fn2 v9 ∧ ∃ z : Int, v9 = some (.long (lI z)) := by
  rcases h with ⟨e, h⟩ | ⟨e, hv, h1, h2, h3⟩ | ⟨e, hv, h1, h2, h3⟩
  · exact ⟨Or.inl ⟨e, h⟩, okv_deviation h⟩
  · exact ⟨Or.inr ⟨h1, h2, Or.inl (⟨e, h3⟩)⟩, _, hv⟩
  · exact ⟨Or.inr ⟨h1, h2, Or.inr (⟨e, h3⟩)⟩, _, hv⟩
theorem md_wouldShift {sc sc2 : Nat → Int} {fn fn2 : Nat → Int → Int} {mi th2 : Int} {v9 : Option Value} (h : (th2 = 0 ∧ (sc2 = sc ∧ fn2 = fn ∧ 0 ≤ mi ∧ mi < sc 4 ∧ (cvno sc fn (fn 5 mi) ≠ -1 ∧ 2 ≤ fn 9 (cvno sc fn (fn 5 mi))) ∧ stageF (fn (20 + (cvno sc fn (fn 5 mi)).toNat)) (fn (30 + (cvno sc fn (fn 5 mi)).toNat)) (fn 9 (cvno sc fn (fn 5 mi))) (fn 7 mi) ≠ -9999 ∧ v9 = some (.int (iI (fn 6 mi - stageF (fn (20 + (cvno sc fn (fn 5 mi)).toNat)) (fn (30 + (cvno sc fn (fn 5 mi)).toNat)) (fn 9 (cvno sc fn (fn 5 mi))) (fn 7 mi)))))) ∨ (th2 = 1 ∧ v9 = some (.int (iI 0)) ∧ sc2 = sc ∧ fn2 = fn ∧ (¬ (0 ≤ mi ∧ mi < sc 4))) ∨ (th2 = 2 ∧ v9 = some (.int (iI 0)) ∧ sc2 = sc ∧ fn2 = fn ∧ ((0 ≤ mi ∧ mi < sc 4) ∧ ¬ ((cvno sc fn (fn 5 mi) ≠ -1 ∧ 2 ≤ fn 9 (cvno sc fn (fn 5 mi))) ∧ stageF (fn (20 + (cvno sc fn (fn 5 mi)).toNat)) (fn (30 + (cvno sc fn (fn 5 mi)).toNat)) (fn 9 (cvno sc fn (fn 5 mi))) (fn 7 mi) ≠ -9999)))) : rlP (okM_wouldShift sc fn mi) (erM_wouldShift sc fn mi) sc fn th2 sc2 fn2 v9 ∧ ∃ z : Int, v9 = some (.int (iI z)) := by
  rcases h with ⟨e, h⟩ | ⟨e, hv, h1, h2, h3⟩ | ⟨e, hv, h1, h2, h3⟩
  · exact ⟨Or.inl ⟨e, h⟩, okv_wouldShift h⟩
  · exact ⟨Or.inr ⟨h1, h2, Or.inl (⟨e, h3⟩)⟩, _, hv⟩
  · exact ⟨Or.inr ⟨h1, h2, Or.inr (⟨e, h3⟩)⟩, _, hv⟩
theorem md_count {sc sc2 : Nat → Int} {fn fn2 : Nat → Int → Int} {wh th2 : Int} {v9 : Option Value} (h : (th2 = 0 ∧ (sc2 = sc ∧ fn2 = fn ∧ 0 ≤ wh ∧ wh ≤ 4 ∧ v9 = some (.int (iI (cntV sc fn wh))))) ∨ (th2 = 1 ∧ v9 = some (.int (iI 0)) ∧ sc2 = sc ∧ fn2 = fn ∧ (¬ (0 ≤ wh ∧ wh ≤ 4)))) : rlP (okM_count sc fn wh) (erM_count sc fn wh) sc fn th2 sc2 fn2 v9 ∧ ∃ z : Int, v9 = some (.int (iI z)) := by
  rcases h with ⟨e, h⟩ | ⟨e, hv, h1, h2, h3⟩
  · exact ⟨Or.inl ⟨e, h⟩, okv_count h⟩
  · exact ⟨Or.inr ⟨h1, h2, ⟨e, h3⟩⟩, _, hv⟩
set_option maxHeartbeats 4000000 in
set_option maxRecDepth 100000 in
theorem lc_addCurve {p : Program} {e : Env} {s : State} {m : MethodId} {below : List Frame} {meth : Method} {c : Code} {l : Launch} {D : va_G} {cA : Nat → ClassId} {A : Nat → Prop} {b L : Nat} {xs : Nat → Int32} (C : lwC p l s m c D cA A b L xs) (Q9 : State → Prop) (i : Int) (hi : 0 ≤ i ∧ i + 5 ≤ L) (nc ns : Nat) (hnc : nc + 10 ≤ room_1.cells ∧ ns + 500 ≤ room_1.slots)
  (kk : ∀ (ad : Nat → Nat) (w : Nat → Option va_E) (sc : Nat → Int) (fn : Nat → Int → Int) (H : Heap) (locs : List Loc) (ls : Array Slot), lwS cA ad w sc fn → gP D vwCl ad w H → gD A ad w → va_S A s.heap H locs → lv_has ls 9 [(0, .ref b), (1, .ref (ad 0)), (2, .ref (ad 200)), (3, .ref (ad 301)), (4, .ref (ad 302)), (5, .int (iI i))] → W p l e room_1 s m #[Value.ref b] below meth c H locs (nc + 10) (ns + 500) Q9 (F0 m 1710 ls []))
  (ad : Nat → Nat) (w : Nat → Option va_E) (sc : Nat → Int) (fn : Nat → Int → Int) (H : Heap) (locs : List Loc) (ls : Array Slot) (hW : lwS cA ad w sc fn) (hP : gP D vwCl ad w H) (hD : gD A ad w) (hS : va_S A s.heap H locs) (hl : lv_has ls 9 [(0, .ref b), (1, .ref (ad 0)), (2, .ref (ad 200)), (3, .ref (ad 301)), (4, .ref (ad 302)), (5, .int (iI i))]) : W p l e room_1 s m #[Value.ref b] below meth c H locs nc ns Q9 (F0 m 152 ls []) := by
  obtain ⟨hl0, hx, hb, hml, hown, hts, hK, hB, hZ, hA, hX, hbl, hbA, hL⟩ := C
  obtain ⟨hbk, hI, ⟨th, hmd⟩, ⟨o, ho⟩, ⟨g, hg⟩⟩ := hW
  obtain ⟨fs0, hq0⟩ := bookS_0 hbk
  refine lv_aload_n (pc := 152) hx hb dL_law_152 rfl (lv_at hl 1 rfl) ?_
  refine lv_aload_n (pc := 153) hx hb dL_law_153 rfl (lv_at hl 0 rfl) ?_
  refine lv_iload (pc := 154) hx hb dL_law_154 (lv_at hl 5 rfl) ?_
  refine k_iconst (pc := 156) hx hb dL_law_156 ?_
  refine k_iadd (pc := 157) hx hb dL_law_157 ?_
  refine k_sld (pc := 158) hx hb hX hbl hbA hS (i := (i + 1)) (by omega) (by omega) hL dL_law_158 ?_
  refine W.eq (g2 := F0 m 159 ls [.int (iI (sV xs (i + 1))), .ref (ad 0)]) rfl ?_
  refine lv_aload_n (pc := 159) hx hb dL_law_159 rfl (lv_at hl 3 rfl) ?_
  refine k_call1 (pc := 160) (vx_runSW (As := [.ref (ad 0), .int (iI (sV xs (i + 1))), .ref (ad 301)]) (rest := []) ⟨hx, hb, hml, hown, hts⟩ (c_L_addCurve l hl0 D cA ad w H.size sc fn hI hbk (sV xs (i + 1)) (sV_r _ _) o ho) (vx_cwSW 3 hts gL_law_L_addCurve rfl rfl rfl (by decide +kernel) ⟨Nat.le_of_ble_eq_true rfl, Nat.le_of_ble_eq_true rfl⟩) (gV_S hP hD hK hB hS hA hZ) rfl rfl hl.1 rfl (lv_room (Nat.le_of_ble_eq_true rfl)) dL_law_160 ⟨Nat.le_trans (show nc + 4 ≤ nc + 10 by omega) hnc.1, Nat.le_trans (show ns + 34 ≤ ns + 500 by omega) hnc.2⟩) hS (gA_sub hD hS hA) (fun v_160 ad_160 w_160 H locs hv_160 hP hD hS => ?_)
  obtain ⟨k1, sc1, fn1, vA, oA, hvk, hbA9, hIA, hkA, hoA, hrA, hrcA, hkrA⟩ := hv_160
  subst hvk
  have hmA : mdS cA ad_160 w_160 th sc fn := mdS_of (fun r h1 h2 => ⟨(hkA.2 r h1).2 (by omega), (hkA.2 r h1).1⟩) hmd
  have hgA : w_160 302 = some (eD (cA 3) 1 g) := ((hkA.2 302 (by omega)).2 (by omega)).trans hg
  rw [← hkA.1, ← (hkA.2 200 (by omega)).1, ← (hkA.2 301 (by omega)).1, ← (hkA.2 302 (by omega)).1] at hl
  obtain ⟨fs2, hq2⟩ := mdS_0 hmA
  refine W.eq (g2 := F0 m 163 ls [.int (iI k1)]) rfl ?_
  refine W.cs (cells' := (nc + 4)) (slots' := (ns + 34)) rfl rfl ?_
  refine lv_istore (pc := 163) (lv' := [(6, .int (iI k1)), (0, .ref b), (1, .ref (ad_160 0)), (2, .ref (ad_160 200)), (3, .ref (ad_160 301)), (4, .ref (ad_160 302)), (5, .int (iI i))]) hx hb dL_law_163 hl (by decide) rfl (fun ls hl => ?_)
  refine lv_aload_n (pc := 165) hx hb dL_law_165 rfl (lv_at hl 3 rfl) ?_
  refine lv_aload_n (pc := 166) hx hb dL_law_166 rfl (lv_at hl 1 rfl) ?_
  refine lv_iload (pc := 167) hx hb dL_law_167 (lv_at hl 6 rfl) ?_
  refine k_iconst (pc := 169) hx hb dL_law_169 ?_
  refine k_iadd (pc := 170) hx hb dL_law_170 ?_
  refine k_sld (pc := 171) hx hb hX hbl hbA hS (i := (i + 1)) (by omega) (by omega) hL dL_law_171 ?_
  refine W.eq (g2 := F0 m 172 ls [.int (iI (sV xs (i + 1))), .ref (ad_160 200)]) rfl ?_
  refine k_call1 (pc := 172) (va_runV (As := [.int (iI (sV xs (i + 1)))]) (rest := []) ⟨hx, hb, hml, hown, hts⟩ (c_X6_addCurve l D cA ad_160 w_160 H.size th sc fn hI hmA (sV xs (i + 1)) (sV_r _ _)) (cwV 1 hts gL_law_X6_addCurve rfl rfl rfl (by decide +kernel) ⟨Nat.le_of_ble_eq_true rfl, Nat.le_of_ble_eq_true rfl⟩) (gV_V hP hD hK hB hS hA hZ 200 (ci := 6) rfl hq2) rfl rfl hl.1 rfl (lv_room (Nat.le_of_ble_eq_true rfl)) dL_law_172 ⟨Nat.le_trans (show (nc + 4) + 0 ≤ nc + 10 by omega) hnc.1, Nat.le_trans (show (ns + 34) + 0 ≤ ns + 500 by omega) hnc.2⟩) hS (gA_sub hD hS hA) (fun v_172 ad_172 w_172 H locs hv_172 hP hD hS => ?_)
  obtain ⟨th2, sc2, fn2, hmB, hIB, hkB, hokB⟩ := hv_172
  obtain ⟨hrB, zB, hzB⟩ := md_addCurve hokB
  subst hzB
  obtain ⟨e1, e2, e3, e4⟩ := dt_addCurve sc fn _ hrA hrB
  have hbB : bookS cA ad_172 w_172 sc2 fn2 := bookS_of hIB (fun r h => ⟨(hkB.2 r (Or.inl h)).1, (hkB.2 r (Or.inl h)).2⟩) (by rw [← e2, ← e3]; exact hbA9)
  rw [← hkB.1, ← (hkB.2 0 (by omega)).2, ← (hkB.2 301 (by omega)).2, ← (hkB.2 302 (by omega)).2] at hl
  have hoX := (hkB.2 301 (by omega)).1.trans hoA
  have hgB := (hkB.2 302 (by omega)).1.trans hgA
  obtain ⟨frB, hk0B⟩ := mdS_k hmB
  refine W.eq (g2 := F0 m 175 ls [.int (iI zB)]) rfl ?_
  refine W.cs (cells' := (nc + 4)) (slots' := (ns + 34)) rfl rfl ?_
  refine lv_istore (pc := 175) (lv' := [(7, .int (iI zB)), (6, .int (iI k1)), (0, .ref b), (1, .ref (ad_172 0)), (2, .ref (ad_172 200)), (3, .ref (ad_172 301)), (4, .ref (ad_172 302)), (5, .int (iI i))]) hx hb dL_law_175 hl (by decide) rfl (fun ls hl => ?_)
  refine lv_aload_n (pc := 177) hx hb dL_law_177 rfl (lv_at hl 4 rfl) ?_
  refine k_call0 (pc := 178) (va_runV (As := []) (rest := []) ⟨hx, hb, hml, hown, hts⟩ (c_X6_thrown l D cA ad_172 w_172 sc2 fn2 th2 frB hk0B) (cwV 0 hts gL_law_X6_thrown rfl rfl rfl (by decide +kernel) ⟨Nat.le_of_ble_eq_true rfl, Nat.le_of_ble_eq_true rfl⟩) (gR_V hP hK hB 200 (ci := 6) rfl hk0B) rfl rfl hl.1 rfl (lv_room (Nat.le_of_ble_eq_true rfl)) dL_law_178 ⟨Nat.le_trans (show (nc + 4) + 0 ≤ nc + 10 by omega) hnc.1, Nat.le_trans (show (ns + 34) + 0 ≤ ns + 500 by omega) hnc.2⟩) (fun v_178 hv_178 => ?_)
  obtain ⟨z_178, rfl, hz_178⟩ := hv_178
  refine W.eq (g2 := F0 m 181 ls [.int (iI z_178)]) rfl ?_
  refine lv_iload (pc := 181) hx hb dL_law_181 (lv_at hl 1 rfl) ?_
  refine k_icmp_eq (pc := 183) (tgt := 188) hx hb ⟨by omega, by omega⟩ ⟨by omega, by omega⟩ dL_law_183 (by decide) (fun hc_183 => ?_) (fun hc_183 => ?_)
  · skip
    refine lv_iload (pc := 188) hx hb dL_law_188 (lv_at hl 1 rfl) ?_
    refine k_if_ne (pc := 190) (tgt := 205) hx hb ⟨by omega, by omega⟩ dL_law_190 (by decide) (fun hc_190 => ?_) (fun hc_190 => ?_)
    · skip
      refine lv_goto (pc := 205) (tgt := 1710) hx hb dL_law_205 (by decide) ?_
      refine W.widen (k := nc + 10) (n := ns + 500) (by omega) (by omega) ?_
      exact kk ad_172 w_172 sc2 fn2 H locs ls ⟨hbB, hIB, ⟨th2, hmB⟩, ⟨_, hoX⟩, ⟨_, hgB⟩⟩ hP hD hS (lv_sub hl [2, 3, 4, 5, 6, 7] rfl)
    · skip
      refine lv_aload_n (pc := 193) hx hb dL_law_193 rfl (lv_at hl 5 rfl) ?_
      refine k_iconst (pc := 194) hx hb dL_law_194 ?_
      refine k_lald (pc := 195) hx hb hK hP 301 2 hoX rfl (by omega) (by omega) (by omega) dL_law_195 ?_
      refine lv_iload (pc := 196) hx hb dL_law_196 (lv_at hl 0 rfl) ?_
      refine k_i2lw (pc := 198) hx hb dL_law_198 ?_
      have e5 := e4 hc_190
      have e6 := (hrcA hc_190 zB).1 e5
      rw [e6]
      refine k_lcmpS (pc := 199) (tgt := 205) hx hb dL_law_199 dL_law_200 (by decide) ?_
      refine lv_goto (pc := 205) (tgt := 1710) hx hb dL_law_205 (by decide) ?_
      refine W.widen (k := nc + 10) (n := ns + 500) (by omega) (by omega) ?_
      exact kk ad_172 w_172 sc2 fn2 H locs ls ⟨hbB, hIB, ⟨th2, hmB⟩, ⟨_, hoX⟩, ⟨_, hgB⟩⟩ hP hD hS (lv_sub hl [2, 3, 4, 5, 6, 7] rfl)
  · skip
    exfalso
    omega

set_option maxHeartbeats 4000000 in
set_option maxRecDepth 100000 in
theorem lc_addPoint {p : Program} {e : Env} {s : State} {m : MethodId} {below : List Frame} {meth : Method} {c : Code} {l : Launch} {D : va_G} {cA : Nat → ClassId} {A : Nat → Prop} {b L : Nat} {xs : Nat → Int32} (C : lwC p l s m c D cA A b L xs) (Q9 : State → Prop) (i : Int) (hi : 0 ≤ i ∧ i + 5 ≤ L) (nc ns : Nat) (hnc : nc + 10 ≤ room_1.cells ∧ ns + 500 ≤ room_1.slots)
  (kk : ∀ (ad : Nat → Nat) (w : Nat → Option va_E) (sc : Nat → Int) (fn : Nat → Int → Int) (H : Heap) (locs : List Loc) (ls : Array Slot), lwS cA ad w sc fn → gP D vwCl ad w H → gD A ad w → va_S A s.heap H locs → lv_has ls 9 [(0, .ref b), (1, .ref (ad 0)), (2, .ref (ad 200)), (3, .ref (ad 301)), (4, .ref (ad 302)), (5, .int (iI i))] → W p l e room_1 s m #[Value.ref b] below meth c H locs (nc + 10) (ns + 500) Q9 (F0 m 1710 ls []))
  (ad : Nat → Nat) (w : Nat → Option va_E) (sc : Nat → Int) (fn : Nat → Int → Int) (H : Heap) (locs : List Loc) (ls : Array Slot) (hW : lwS cA ad w sc fn) (hP : gP D vwCl ad w H) (hD : gD A ad w) (hS : va_S A s.heap H locs) (hl : lv_has ls 9 [(0, .ref b), (1, .ref (ad 0)), (2, .ref (ad 200)), (3, .ref (ad 301)), (4, .ref (ad 302)), (5, .int (iI i))]) : W p l e room_1 s m #[Value.ref b] below meth c H locs nc ns Q9 (F0 m 208 ls []) := by
  obtain ⟨hl0, hx, hb, hml, hown, hts, hK, hB, hZ, hA, hX, hbl, hbA, hL⟩ := C
  obtain ⟨hbk, hI, ⟨th, hmd⟩, ⟨o, ho⟩, ⟨g, hg⟩⟩ := hW
  obtain ⟨fs0, hq0⟩ := bookS_0 hbk
  refine lv_aload_n (pc := 208) hx hb dL_law_208 rfl (lv_at hl 1 rfl) ?_
  refine lv_aload_n (pc := 209) hx hb dL_law_209 rfl (lv_at hl 0 rfl) ?_
  refine lv_iload (pc := 210) hx hb dL_law_210 (lv_at hl 5 rfl) ?_
  refine k_iconst (pc := 212) hx hb dL_law_212 ?_
  refine k_iadd (pc := 213) hx hb dL_law_213 ?_
  refine k_sld (pc := 214) hx hb hX hbl hbA hS (i := (i + 1)) (by omega) (by omega) hL dL_law_214 ?_
  refine W.eq (g2 := F0 m 215 ls [.int (iI (sV xs (i + 1))), .ref (ad 0)]) rfl ?_
  refine lv_aload_n (pc := 215) hx hb dL_law_215 rfl (lv_at hl 0 rfl) ?_
  refine lv_iload (pc := 216) hx hb dL_law_216 (lv_at hl 5 rfl) ?_
  refine k_iconst (pc := 218) hx hb dL_law_218 ?_
  refine k_iadd (pc := 219) hx hb dL_law_219 ?_
  refine k_sld (pc := 220) hx hb hX hbl hbA hS (i := (i + 2)) (by omega) (by omega) hL dL_law_220 ?_
  refine W.eq (g2 := F0 m 221 ls [.int (iI (sV xs (i + 2))), .int (iI (sV xs (i + 1))), .ref (ad 0)]) rfl ?_
  refine lv_aload_n (pc := 221) hx hb dL_law_221 rfl (lv_at hl 0 rfl) ?_
  refine lv_iload (pc := 222) hx hb dL_law_222 (lv_at hl 5 rfl) ?_
  refine k_iconst (pc := 224) hx hb dL_law_224 ?_
  refine k_iadd (pc := 225) hx hb dL_law_225 ?_
  refine k_sld (pc := 226) hx hb hX hbl hbA hS (i := (i + 3)) (by omega) (by omega) hL dL_law_226 ?_
  refine W.eq (g2 := F0 m 227 ls [.int (iI (sV xs (i + 3))), .int (iI (sV xs (i + 2))), .int (iI (sV xs (i + 1))), .ref (ad 0)]) rfl ?_
  refine lv_aload_n (pc := 227) hx hb dL_law_227 rfl (lv_at hl 3 rfl) ?_
  refine k_call1 (pc := 228) (vx_runSW (As := [.ref (ad 0), .int (iI (sV xs (i + 1))), .int (iI (sV xs (i + 2))), .int (iI (sV xs (i + 3))), .ref (ad 301)]) (rest := []) ⟨hx, hb, hml, hown, hts⟩ (c_L_addPoint l hl0 D cA ad w H.size sc fn hI hbk (sV xs (i + 1)) (sV xs (i + 2)) (sV xs (i + 3)) (sV_r _ _) (sV_r _ _) (sV_r _ _) o ho) (vx_cwSW 5 hts gL_law_L_addPoint rfl rfl rfl (by decide +kernel) ⟨Nat.le_of_ble_eq_true rfl, Nat.le_of_ble_eq_true rfl⟩) (gV_S hP hD hK hB hS hA hZ) rfl rfl hl.1 rfl (lv_room (Nat.le_of_ble_eq_true rfl)) dL_law_228 ⟨Nat.le_trans (show nc + 3 ≤ nc + 10 by omega) hnc.1, Nat.le_trans (show ns + 18 ≤ ns + 500 by omega) hnc.2⟩) hS (gA_sub hD hS hA) (fun v_228 ad_228 w_228 H locs hv_228 hP hD hS => ?_)
  obtain ⟨k1, sc1, fn1, vA, oA, hvk, hbA9, hIA, hkA, hoA, hrA, hrcA, hkrA⟩ := hv_228
  subst hvk
  have hmA : mdS cA ad_228 w_228 th sc fn := mdS_of (fun r h1 h2 => ⟨(hkA.2 r h1).2 (by omega), (hkA.2 r h1).1⟩) hmd
  have hgA : w_228 302 = some (eD (cA 3) 1 g) := ((hkA.2 302 (by omega)).2 (by omega)).trans hg
  rw [← hkA.1, ← (hkA.2 200 (by omega)).1, ← (hkA.2 301 (by omega)).1, ← (hkA.2 302 (by omega)).1] at hl
  obtain ⟨fs2, hq2⟩ := mdS_0 hmA
  refine W.eq (g2 := F0 m 231 ls [.int (iI k1)]) rfl ?_
  refine W.cs (cells' := (nc + 3)) (slots' := (ns + 18)) rfl rfl ?_
  refine lv_istore (pc := 231) (lv' := [(6, .int (iI k1)), (0, .ref b), (1, .ref (ad_228 0)), (2, .ref (ad_228 200)), (3, .ref (ad_228 301)), (4, .ref (ad_228 302)), (5, .int (iI i))]) hx hb dL_law_231 hl (by decide) rfl (fun ls hl => ?_)
  refine lv_aload_n (pc := 233) hx hb dL_law_233 rfl (lv_at hl 3 rfl) ?_
  refine lv_aload_n (pc := 234) hx hb dL_law_234 rfl (lv_at hl 1 rfl) ?_
  refine lv_iload (pc := 235) hx hb dL_law_235 (lv_at hl 6 rfl) ?_
  refine k_iconst (pc := 237) hx hb dL_law_237 ?_
  refine k_iadd (pc := 238) hx hb dL_law_238 ?_
  refine k_sld (pc := 239) hx hb hX hbl hbA hS (i := (i + 1)) (by omega) (by omega) hL dL_law_239 ?_
  refine W.eq (g2 := F0 m 240 ls [.int (iI (sV xs (i + 1))), .ref (ad_228 200)]) rfl ?_
  refine lv_aload_n (pc := 240) hx hb dL_law_240 rfl (lv_at hl 1 rfl) ?_
  refine lv_iload (pc := 241) hx hb dL_law_241 (lv_at hl 6 rfl) ?_
  refine k_iconst (pc := 243) hx hb dL_law_243 ?_
  refine k_iadd (pc := 244) hx hb dL_law_244 ?_
  refine k_sld (pc := 245) hx hb hX hbl hbA hS (i := (i + 2)) (by omega) (by omega) hL dL_law_245 ?_
  refine W.eq (g2 := F0 m 246 ls [.int (iI (sV xs (i + 2))), .int (iI (sV xs (i + 1))), .ref (ad_228 200)]) rfl ?_
  refine lv_aload_n (pc := 246) hx hb dL_law_246 rfl (lv_at hl 1 rfl) ?_
  refine lv_iload (pc := 247) hx hb dL_law_247 (lv_at hl 6 rfl) ?_
  refine k_iconst (pc := 249) hx hb dL_law_249 ?_
  refine k_iadd (pc := 250) hx hb dL_law_250 ?_
  refine k_sld (pc := 251) hx hb hX hbl hbA hS (i := (i + 3)) (by omega) (by omega) hL dL_law_251 ?_
  refine W.eq (g2 := F0 m 252 ls [.int (iI (sV xs (i + 3))), .int (iI (sV xs (i + 2))), .int (iI (sV xs (i + 1))), .ref (ad_228 200)]) rfl ?_
  refine k_call1 (pc := 252) (va_runV (As := [.int (iI (sV xs (i + 1))), .int (iI (sV xs (i + 2))), .int (iI (sV xs (i + 3)))]) (rest := []) ⟨hx, hb, hml, hown, hts⟩ (c_X6_addPoint l D cA ad_228 w_228 H.size th sc fn hI hmA (sV xs (i + 1)) (sV xs (i + 2)) (sV xs (i + 3)) (sV_r _ _) (sV_r _ _) (sV_r _ _)) (cwV 3 hts gL_law_X6_addPoint rfl rfl rfl (by decide +kernel) ⟨Nat.le_of_ble_eq_true rfl, Nat.le_of_ble_eq_true rfl⟩) (gV_V hP hD hK hB hS hA hZ 200 (ci := 6) rfl hq2) rfl rfl hl.1 rfl (lv_room (Nat.le_of_ble_eq_true rfl)) dL_law_252 ⟨Nat.le_trans (show (nc + 3) + 0 ≤ nc + 10 by omega) hnc.1, Nat.le_trans (show (ns + 18) + 0 ≤ ns + 500 by omega) hnc.2⟩) hS (gA_sub hD hS hA) (fun v_252 ad_252 w_252 H locs hv_252 hP hD hS => ?_)
  obtain ⟨th2, sc2, fn2, hmB, hIB, hkB, hokB⟩ := hv_252
  obtain ⟨hrB, zB, hzB⟩ := md_addPoint hokB
  subst hzB
  obtain ⟨e1, e2, e3, e4⟩ := dt_addPoint sc fn _ _ _ hrA hrB
  have hbB : bookS cA ad_252 w_252 sc2 fn2 := bookS_of hIB (fun r h => ⟨(hkB.2 r (Or.inl h)).1, (hkB.2 r (Or.inl h)).2⟩) (by rw [← e2, ← e3]; exact hbA9)
  rw [← hkB.1, ← (hkB.2 0 (by omega)).2, ← (hkB.2 301 (by omega)).2, ← (hkB.2 302 (by omega)).2] at hl
  have hoX := (hkB.2 301 (by omega)).1.trans hoA
  have hgB := (hkB.2 302 (by omega)).1.trans hgA
  obtain ⟨frB, hk0B⟩ := mdS_k hmB
  refine W.eq (g2 := F0 m 255 ls [.int (iI zB)]) rfl ?_
  refine W.cs (cells' := (nc + 3)) (slots' := (ns + 18)) rfl rfl ?_
  refine lv_istore (pc := 255) (lv' := [(7, .int (iI zB)), (6, .int (iI k1)), (0, .ref b), (1, .ref (ad_252 0)), (2, .ref (ad_252 200)), (3, .ref (ad_252 301)), (4, .ref (ad_252 302)), (5, .int (iI i))]) hx hb dL_law_255 hl (by decide) rfl (fun ls hl => ?_)
  refine lv_aload_n (pc := 257) hx hb dL_law_257 rfl (lv_at hl 4 rfl) ?_
  refine k_call0 (pc := 258) (va_runV (As := []) (rest := []) ⟨hx, hb, hml, hown, hts⟩ (c_X6_thrown l D cA ad_252 w_252 sc2 fn2 th2 frB hk0B) (cwV 0 hts gL_law_X6_thrown rfl rfl rfl (by decide +kernel) ⟨Nat.le_of_ble_eq_true rfl, Nat.le_of_ble_eq_true rfl⟩) (gR_V hP hK hB 200 (ci := 6) rfl hk0B) rfl rfl hl.1 rfl (lv_room (Nat.le_of_ble_eq_true rfl)) dL_law_258 ⟨Nat.le_trans (show (nc + 3) + 0 ≤ nc + 10 by omega) hnc.1, Nat.le_trans (show (ns + 18) + 0 ≤ ns + 500 by omega) hnc.2⟩) (fun v_258 hv_258 => ?_)
  obtain ⟨z_258, rfl, hz_258⟩ := hv_258
  refine W.eq (g2 := F0 m 261 ls [.int (iI z_258)]) rfl ?_
  refine lv_iload (pc := 261) hx hb dL_law_261 (lv_at hl 1 rfl) ?_
  refine k_icmp_eq (pc := 263) (tgt := 268) hx hb ⟨by omega, by omega⟩ ⟨by omega, by omega⟩ dL_law_263 (by decide) (fun hc_263 => ?_) (fun hc_263 => ?_)
  · skip
    refine lv_iload (pc := 268) hx hb dL_law_268 (lv_at hl 1 rfl) ?_
    refine k_if_ne (pc := 270) (tgt := 285) hx hb ⟨by omega, by omega⟩ dL_law_270 (by decide) (fun hc_270 => ?_) (fun hc_270 => ?_)
    · skip
      refine lv_goto (pc := 285) (tgt := 1710) hx hb dL_law_285 (by decide) ?_
      refine W.widen (k := nc + 10) (n := ns + 500) (by omega) (by omega) ?_
      exact kk ad_252 w_252 sc2 fn2 H locs ls ⟨hbB, hIB, ⟨th2, hmB⟩, ⟨_, hoX⟩, ⟨_, hgB⟩⟩ hP hD hS (lv_sub hl [2, 3, 4, 5, 6, 7] rfl)
    · skip
      refine lv_aload_n (pc := 273) hx hb dL_law_273 rfl (lv_at hl 5 rfl) ?_
      refine k_iconst (pc := 274) hx hb dL_law_274 ?_
      refine k_lald (pc := 275) hx hb hK hP 301 2 hoX rfl (by omega) (by omega) (by omega) dL_law_275 ?_
      refine lv_iload (pc := 276) hx hb dL_law_276 (lv_at hl 0 rfl) ?_
      refine k_i2lw (pc := 278) hx hb dL_law_278 ?_
      have e5 := e4 hc_270
      have e6 := (hrcA hc_270 zB).1 e5
      rw [e6]
      refine k_lcmpS (pc := 279) (tgt := 285) hx hb dL_law_279 dL_law_280 (by decide) ?_
      refine lv_goto (pc := 285) (tgt := 1710) hx hb dL_law_285 (by decide) ?_
      refine W.widen (k := nc + 10) (n := ns + 500) (by omega) (by omega) ?_
      exact kk ad_252 w_252 sc2 fn2 H locs ls ⟨hbB, hIB, ⟨th2, hmB⟩, ⟨_, hoX⟩, ⟨_, hgB⟩⟩ hP hD hS (lv_sub hl [2, 3, 4, 5, 6, 7] rfl)
  · skip
    exfalso
    omega

set_option maxHeartbeats 4000000 in
set_option maxRecDepth 100000 in
theorem lc_flowBy {p : Program} {e : Env} {s : State} {m : MethodId} {below : List Frame} {meth : Method} {c : Code} {l : Launch} {D : va_G} {cA : Nat → ClassId} {A : Nat → Prop} {b L : Nat} {xs : Nat → Int32} (C : lwC p l s m c D cA A b L xs) (Q9 : State → Prop) (i : Int) (hi : 0 ≤ i ∧ i + 5 ≤ L) (nc ns : Nat) (hnc : nc + 10 ≤ room_1.cells ∧ ns + 500 ≤ room_1.slots)
  (kk : ∀ (ad : Nat → Nat) (w : Nat → Option va_E) (sc : Nat → Int) (fn : Nat → Int → Int) (H : Heap) (locs : List Loc) (ls : Array Slot), lwS cA ad w sc fn → gP D vwCl ad w H → gD A ad w → va_S A s.heap H locs → lv_has ls 9 [(0, .ref b), (1, .ref (ad 0)), (2, .ref (ad 200)), (3, .ref (ad 301)), (4, .ref (ad 302)), (5, .int (iI i))] → W p l e room_1 s m #[Value.ref b] below meth c H locs (nc + 10) (ns + 500) Q9 (F0 m 1710 ls []))
  (ad : Nat → Nat) (w : Nat → Option va_E) (sc : Nat → Int) (fn : Nat → Int → Int) (H : Heap) (locs : List Loc) (ls : Array Slot) (hW : lwS cA ad w sc fn) (hP : gP D vwCl ad w H) (hD : gD A ad w) (hS : va_S A s.heap H locs) (hl : lv_has ls 9 [(0, .ref b), (1, .ref (ad 0)), (2, .ref (ad 200)), (3, .ref (ad 301)), (4, .ref (ad 302)), (5, .int (iI i))]) : W p l e room_1 s m #[Value.ref b] below meth c H locs nc ns Q9 (F0 m 288 ls []) := by
  obtain ⟨hl0, hx, hb, hml, hown, hts, hK, hB, hZ, hA, hX, hbl, hbA, hL⟩ := C
  obtain ⟨hbk, hI, ⟨th, hmd⟩, ⟨o, ho⟩, ⟨g, hg⟩⟩ := hW
  obtain ⟨fs0, hq0⟩ := bookS_0 hbk
  refine lv_aload_n (pc := 288) hx hb dL_law_288 rfl (lv_at hl 1 rfl) ?_
  refine lv_aload_n (pc := 289) hx hb dL_law_289 rfl (lv_at hl 0 rfl) ?_
  refine lv_iload (pc := 290) hx hb dL_law_290 (lv_at hl 5 rfl) ?_
  refine k_iconst (pc := 292) hx hb dL_law_292 ?_
  refine k_iadd (pc := 293) hx hb dL_law_293 ?_
  refine k_sld (pc := 294) hx hb hX hbl hbA hS (i := (i + 1)) (by omega) (by omega) hL dL_law_294 ?_
  refine W.eq (g2 := F0 m 295 ls [.int (iI (sV xs (i + 1))), .ref (ad 0)]) rfl ?_
  refine lv_aload_n (pc := 295) hx hb dL_law_295 rfl (lv_at hl 0 rfl) ?_
  refine lv_iload (pc := 296) hx hb dL_law_296 (lv_at hl 5 rfl) ?_
  refine k_iconst (pc := 298) hx hb dL_law_298 ?_
  refine k_iadd (pc := 299) hx hb dL_law_299 ?_
  refine k_sld (pc := 300) hx hb hX hbl hbA hS (i := (i + 2)) (by omega) (by omega) hL dL_law_300 ?_
  refine W.eq (g2 := F0 m 301 ls [.int (iI (sV xs (i + 2))), .int (iI (sV xs (i + 1))), .ref (ad 0)]) rfl ?_
  refine lv_aload_n (pc := 301) hx hb dL_law_301 rfl (lv_at hl 3 rfl) ?_
  refine k_call1 (pc := 302) (vx_runSW (As := [.ref (ad 0), .int (iI (sV xs (i + 1))), .int (iI (sV xs (i + 2))), .ref (ad 301)]) (rest := []) ⟨hx, hb, hml, hown, hts⟩ (c_L_flowBy l hl0 D cA ad w H.size sc fn hI hbk (sV xs (i + 1)) (sV xs (i + 2)) (sV_r _ _) (sV_r _ _) o ho) (vx_cwSW 4 hts gL_law_L_flowBy rfl rfl rfl (by decide +kernel) ⟨Nat.le_of_ble_eq_true rfl, Nat.le_of_ble_eq_true rfl⟩) (gV_S hP hD hK hB hS hA hZ) rfl rfl hl.1 rfl (lv_room (Nat.le_of_ble_eq_true rfl)) dL_law_302 ⟨Nat.le_trans (show nc + 1 ≤ nc + 10 by omega) hnc.1, Nat.le_trans (show ns + 6 ≤ ns + 500 by omega) hnc.2⟩) hS (gA_sub hD hS hA) (fun v_302 ad_302 w_302 H locs hv_302 hP hD hS => ?_)
  obtain ⟨k1, sc1, fn1, vA, oA, hvk, hbA9, hIA, hkA, hoA, hrA, hrcA, hkrA⟩ := hv_302
  subst hvk
  have hmA : mdS cA ad_302 w_302 th sc fn := mdS_of (fun r h1 h2 => ⟨(hkA.2 r h1).2 (by omega), (hkA.2 r h1).1⟩) hmd
  have hgA : w_302 302 = some (eD (cA 3) 1 g) := ((hkA.2 302 (by omega)).2 (by omega)).trans hg
  rw [← hkA.1, ← (hkA.2 200 (by omega)).1, ← (hkA.2 301 (by omega)).1, ← (hkA.2 302 (by omega)).1] at hl
  obtain ⟨fs2, hq2⟩ := mdS_0 hmA
  refine W.eq (g2 := F0 m 305 ls [.int (iI k1)]) rfl ?_
  refine W.cs (cells' := (nc + 1)) (slots' := (ns + 6)) rfl rfl ?_
  refine lv_istore (pc := 305) (lv' := [(6, .int (iI k1)), (0, .ref b), (1, .ref (ad_302 0)), (2, .ref (ad_302 200)), (3, .ref (ad_302 301)), (4, .ref (ad_302 302)), (5, .int (iI i))]) hx hb dL_law_305 hl (by decide) rfl (fun ls hl => ?_)
  refine lv_aload_n (pc := 307) hx hb dL_law_307 rfl (lv_at hl 3 rfl) ?_
  refine lv_aload_n (pc := 308) hx hb dL_law_308 rfl (lv_at hl 1 rfl) ?_
  refine lv_iload (pc := 309) hx hb dL_law_309 (lv_at hl 6 rfl) ?_
  refine k_iconst (pc := 311) hx hb dL_law_311 ?_
  refine k_iadd (pc := 312) hx hb dL_law_312 ?_
  refine k_sld (pc := 313) hx hb hX hbl hbA hS (i := (i + 1)) (by omega) (by omega) hL dL_law_313 ?_
  refine W.eq (g2 := F0 m 314 ls [.int (iI (sV xs (i + 1))), .ref (ad_302 200)]) rfl ?_
  refine lv_aload_n (pc := 314) hx hb dL_law_314 rfl (lv_at hl 1 rfl) ?_
  refine lv_iload (pc := 315) hx hb dL_law_315 (lv_at hl 6 rfl) ?_
  refine k_iconst (pc := 317) hx hb dL_law_317 ?_
  refine k_iadd (pc := 318) hx hb dL_law_318 ?_
  refine k_sld (pc := 319) hx hb hX hbl hbA hS (i := (i + 2)) (by omega) (by omega) hL dL_law_319 ?_
  refine W.eq (g2 := F0 m 320 ls [.int (iI (sV xs (i + 2))), .int (iI (sV xs (i + 1))), .ref (ad_302 200)]) rfl ?_
  refine k_call1 (pc := 320) (va_runV (As := [.int (iI (sV xs (i + 1))), .int (iI (sV xs (i + 2)))]) (rest := []) ⟨hx, hb, hml, hown, hts⟩ (c_X6_flowBy l D cA ad_302 w_302 H.size th sc fn hI hmA (sV xs (i + 1)) (sV xs (i + 2)) (sV_r _ _) (sV_r _ _)) (cwV 2 hts gL_law_X6_flowBy rfl rfl rfl (by decide +kernel) ⟨Nat.le_of_ble_eq_true rfl, Nat.le_of_ble_eq_true rfl⟩) (gV_V hP hD hK hB hS hA hZ 200 (ci := 6) rfl hq2) rfl rfl hl.1 rfl (lv_room (Nat.le_of_ble_eq_true rfl)) dL_law_320 ⟨Nat.le_trans (show (nc + 1) + 0 ≤ nc + 10 by omega) hnc.1, Nat.le_trans (show (ns + 6) + 0 ≤ ns + 500 by omega) hnc.2⟩) hS (gA_sub hD hS hA) (fun v_320 ad_320 w_320 H locs hv_320 hP hD hS => ?_)
  obtain ⟨th2, sc2, fn2, hmB, hIB, hkB, hokB⟩ := hv_320
  obtain ⟨hrB, zB, hzB⟩ := md_flowBy hokB
  subst hzB
  obtain ⟨e1, e2, e3, e4⟩ := dt_flowBy sc fn _ _ hrA hrB
  have hbB : bookS cA ad_320 w_320 sc2 fn2 := bookS_of hIB (fun r h => ⟨(hkB.2 r (Or.inl h)).1, (hkB.2 r (Or.inl h)).2⟩) (by rw [← e2, ← e3]; exact hbA9)
  rw [← hkB.1, ← (hkB.2 0 (by omega)).2, ← (hkB.2 301 (by omega)).2, ← (hkB.2 302 (by omega)).2] at hl
  have hoX := (hkB.2 301 (by omega)).1.trans hoA
  have hgB := (hkB.2 302 (by omega)).1.trans hgA
  obtain ⟨frB, hk0B⟩ := mdS_k hmB
  refine W.eq (g2 := F0 m 323 ls [.long (lI zB)]) rfl ?_
  refine W.cs (cells' := (nc + 1)) (slots' := (ns + 6)) rfl rfl ?_
  refine lv_lstore (pc := 323) (lv' := [(7, .long (lI zB)), (6, .int (iI k1)), (0, .ref b), (1, .ref (ad_320 0)), (2, .ref (ad_320 200)), (3, .ref (ad_320 301)), (4, .ref (ad_320 302)), (5, .int (iI i))]) hx hb dL_law_323 hl (by decide) rfl (fun ls hl => ?_)
  refine lv_aload_n (pc := 325) hx hb dL_law_325 rfl (lv_at hl 4 rfl) ?_
  refine k_call0 (pc := 326) (va_runV (As := []) (rest := []) ⟨hx, hb, hml, hown, hts⟩ (c_X6_thrown l D cA ad_320 w_320 sc2 fn2 th2 frB hk0B) (cwV 0 hts gL_law_X6_thrown rfl rfl rfl (by decide +kernel) ⟨Nat.le_of_ble_eq_true rfl, Nat.le_of_ble_eq_true rfl⟩) (gR_V hP hK hB 200 (ci := 6) rfl hk0B) rfl rfl hl.1 rfl (lv_room (Nat.le_of_ble_eq_true rfl)) dL_law_326 ⟨Nat.le_trans (show (nc + 1) + 0 ≤ nc + 10 by omega) hnc.1, Nat.le_trans (show (ns + 6) + 0 ≤ ns + 500 by omega) hnc.2⟩) (fun v_326 hv_326 => ?_)
  obtain ⟨z_326, rfl, hz_326⟩ := hv_326
  refine W.eq (g2 := F0 m 329 ls [.int (iI z_326)]) rfl ?_
  refine lv_iload (pc := 329) hx hb dL_law_329 (lv_at hl 1 rfl) ?_
  refine k_icmp_eq (pc := 331) (tgt := 336) hx hb ⟨by omega, by omega⟩ ⟨by omega, by omega⟩ dL_law_331 (by decide) (fun hc_331 => ?_) (fun hc_331 => ?_)
  · skip
    refine lv_iload (pc := 336) hx hb dL_law_336 (lv_at hl 1 rfl) ?_
    refine k_if_ne (pc := 338) (tgt := 352) hx hb ⟨by omega, by omega⟩ dL_law_338 (by decide) (fun hc_338 => ?_) (fun hc_338 => ?_)
    · skip
      refine lv_goto (pc := 352) (tgt := 1710) hx hb dL_law_352 (by decide) ?_
      refine W.widen (k := nc + 10) (n := ns + 500) (by omega) (by omega) ?_
      exact kk ad_320 w_320 sc2 fn2 H locs ls ⟨hbB, hIB, ⟨th2, hmB⟩, ⟨_, hoX⟩, ⟨_, hgB⟩⟩ hP hD hS (lv_sub hl [2, 3, 4, 5, 6, 7] rfl)
    · skip
      refine lv_aload_n (pc := 341) hx hb dL_law_341 rfl (lv_at hl 5 rfl) ?_
      refine k_iconst (pc := 342) hx hb dL_law_342 ?_
      refine k_lald (pc := 343) hx hb hK hP 301 2 hoX rfl (by omega) (by omega) (by omega) dL_law_343 ?_
      refine lv_lload (pc := 344) hx hb dL_law_344 (lv_at hl 0 rfl) ?_
      have e5 := e4 hc_338
      have e6 := (hrcA hc_338 zB).2 e5
      rw [e6]
      refine k_lcmpS (pc := 346) (tgt := 352) hx hb dL_law_346 dL_law_347 (by decide) ?_
      refine lv_goto (pc := 352) (tgt := 1710) hx hb dL_law_352 (by decide) ?_
      refine W.widen (k := nc + 10) (n := ns + 500) (by omega) (by omega) ?_
      exact kk ad_320 w_320 sc2 fn2 H locs ls ⟨hbB, hIB, ⟨th2, hmB⟩, ⟨_, hoX⟩, ⟨_, hgB⟩⟩ hP hD hS (lv_sub hl [2, 3, 4, 5, 6, 7] rfl)
  · skip
    exfalso
    omega

set_option maxHeartbeats 4000000 in
set_option maxRecDepth 100000 in
theorem lc_stageBy {p : Program} {e : Env} {s : State} {m : MethodId} {below : List Frame} {meth : Method} {c : Code} {l : Launch} {D : va_G} {cA : Nat → ClassId} {A : Nat → Prop} {b L : Nat} {xs : Nat → Int32} (C : lwC p l s m c D cA A b L xs) (Q9 : State → Prop) (i : Int) (hi : 0 ≤ i ∧ i + 5 ≤ L) (nc ns : Nat) (hnc : nc + 10 ≤ room_1.cells ∧ ns + 500 ≤ room_1.slots)
  (kk : ∀ (ad : Nat → Nat) (w : Nat → Option va_E) (sc : Nat → Int) (fn : Nat → Int → Int) (H : Heap) (locs : List Loc) (ls : Array Slot), lwS cA ad w sc fn → gP D vwCl ad w H → gD A ad w → va_S A s.heap H locs → lv_has ls 9 [(0, .ref b), (1, .ref (ad 0)), (2, .ref (ad 200)), (3, .ref (ad 301)), (4, .ref (ad 302)), (5, .int (iI i))] → W p l e room_1 s m #[Value.ref b] below meth c H locs (nc + 10) (ns + 500) Q9 (F0 m 1710 ls []))
  (ad : Nat → Nat) (w : Nat → Option va_E) (sc : Nat → Int) (fn : Nat → Int → Int) (H : Heap) (locs : List Loc) (ls : Array Slot) (hW : lwS cA ad w sc fn) (hP : gP D vwCl ad w H) (hD : gD A ad w) (hS : va_S A s.heap H locs) (hl : lv_has ls 9 [(0, .ref b), (1, .ref (ad 0)), (2, .ref (ad 200)), (3, .ref (ad 301)), (4, .ref (ad 302)), (5, .int (iI i))]) : W p l e room_1 s m #[Value.ref b] below meth c H locs nc ns Q9 (F0 m 355 ls []) := by
  obtain ⟨hl0, hx, hb, hml, hown, hts, hK, hB, hZ, hA, hX, hbl, hbA, hL⟩ := C
  obtain ⟨hbk, hI, ⟨th, hmd⟩, ⟨o, ho⟩, ⟨g, hg⟩⟩ := hW
  obtain ⟨fs0, hq0⟩ := bookS_0 hbk
  refine lv_aload_n (pc := 355) hx hb dL_law_355 rfl (lv_at hl 1 rfl) ?_
  refine lv_aload_n (pc := 356) hx hb dL_law_356 rfl (lv_at hl 0 rfl) ?_
  refine lv_iload (pc := 357) hx hb dL_law_357 (lv_at hl 5 rfl) ?_
  refine k_iconst (pc := 359) hx hb dL_law_359 ?_
  refine k_iadd (pc := 360) hx hb dL_law_360 ?_
  refine k_sld (pc := 361) hx hb hX hbl hbA hS (i := (i + 1)) (by omega) (by omega) hL dL_law_361 ?_
  refine W.eq (g2 := F0 m 362 ls [.int (iI (sV xs (i + 1))), .ref (ad 0)]) rfl ?_
  refine lv_aload_n (pc := 362) hx hb dL_law_362 rfl (lv_at hl 0 rfl) ?_
  refine lv_iload (pc := 363) hx hb dL_law_363 (lv_at hl 5 rfl) ?_
  refine k_iconst (pc := 365) hx hb dL_law_365 ?_
  refine k_iadd (pc := 366) hx hb dL_law_366 ?_
  refine k_sld (pc := 367) hx hb hX hbl hbA hS (i := (i + 2)) (by omega) (by omega) hL dL_law_367 ?_
  refine W.eq (g2 := F0 m 368 ls [.int (iI (sV xs (i + 2))), .int (iI (sV xs (i + 1))), .ref (ad 0)]) rfl ?_
  refine lv_aload_n (pc := 368) hx hb dL_law_368 rfl (lv_at hl 3 rfl) ?_
  refine k_call1 (pc := 369) (vx_runSW (As := [.ref (ad 0), .int (iI (sV xs (i + 1))), .int (iI (sV xs (i + 2))), .ref (ad 301)]) (rest := []) ⟨hx, hb, hml, hown, hts⟩ (c_L_stageBy l hl0 D cA ad w H.size sc fn hI hbk (sV xs (i + 1)) (sV xs (i + 2)) (sV_r _ _) (sV_r _ _) o ho) (vx_cwSW 4 hts gL_law_L_stageBy rfl rfl rfl (by decide +kernel) ⟨Nat.le_of_ble_eq_true rfl, Nat.le_of_ble_eq_true rfl⟩) (gV_S hP hD hK hB hS hA hZ) rfl rfl hl.1 rfl (lv_room (Nat.le_of_ble_eq_true rfl)) dL_law_369 ⟨Nat.le_trans (show nc + 2 ≤ nc + 10 by omega) hnc.1, Nat.le_trans (show ns + 12 ≤ ns + 500 by omega) hnc.2⟩) hS (gA_sub hD hS hA) (fun v_369 ad_369 w_369 H locs hv_369 hP hD hS => ?_)
  obtain ⟨k1, sc1, fn1, vA, oA, hvk, hbA9, hIA, hkA, hoA, hrA, hrcA, hkrA⟩ := hv_369
  subst hvk
  have hmA : mdS cA ad_369 w_369 th sc fn := mdS_of (fun r h1 h2 => ⟨(hkA.2 r h1).2 (by omega), (hkA.2 r h1).1⟩) hmd
  have hgA : w_369 302 = some (eD (cA 3) 1 g) := ((hkA.2 302 (by omega)).2 (by omega)).trans hg
  rw [← hkA.1, ← (hkA.2 200 (by omega)).1, ← (hkA.2 301 (by omega)).1, ← (hkA.2 302 (by omega)).1] at hl
  obtain ⟨fs2, hq2⟩ := mdS_0 hmA
  refine W.eq (g2 := F0 m 372 ls [.int (iI k1)]) rfl ?_
  refine W.cs (cells' := (nc + 2)) (slots' := (ns + 12)) rfl rfl ?_
  refine lv_istore (pc := 372) (lv' := [(6, .int (iI k1)), (0, .ref b), (1, .ref (ad_369 0)), (2, .ref (ad_369 200)), (3, .ref (ad_369 301)), (4, .ref (ad_369 302)), (5, .int (iI i))]) hx hb dL_law_372 hl (by decide) rfl (fun ls hl => ?_)
  refine lv_aload_n (pc := 374) hx hb dL_law_374 rfl (lv_at hl 3 rfl) ?_
  refine lv_aload_n (pc := 375) hx hb dL_law_375 rfl (lv_at hl 1 rfl) ?_
  refine lv_iload (pc := 376) hx hb dL_law_376 (lv_at hl 6 rfl) ?_
  refine k_iconst (pc := 378) hx hb dL_law_378 ?_
  refine k_iadd (pc := 379) hx hb dL_law_379 ?_
  refine k_sld (pc := 380) hx hb hX hbl hbA hS (i := (i + 1)) (by omega) (by omega) hL dL_law_380 ?_
  refine W.eq (g2 := F0 m 381 ls [.int (iI (sV xs (i + 1))), .ref (ad_369 200)]) rfl ?_
  refine lv_aload_n (pc := 381) hx hb dL_law_381 rfl (lv_at hl 1 rfl) ?_
  refine lv_iload (pc := 382) hx hb dL_law_382 (lv_at hl 6 rfl) ?_
  refine k_iconst (pc := 384) hx hb dL_law_384 ?_
  refine k_iadd (pc := 385) hx hb dL_law_385 ?_
  refine k_sld (pc := 386) hx hb hX hbl hbA hS (i := (i + 2)) (by omega) (by omega) hL dL_law_386 ?_
  refine W.eq (g2 := F0 m 387 ls [.int (iI (sV xs (i + 2))), .int (iI (sV xs (i + 1))), .ref (ad_369 200)]) rfl ?_
  refine k_call1 (pc := 387) (va_runV (As := [.int (iI (sV xs (i + 1))), .int (iI (sV xs (i + 2)))]) (rest := []) ⟨hx, hb, hml, hown, hts⟩ (c_X6_stageBy l D cA ad_369 w_369 H.size th sc fn hI hmA (sV xs (i + 1)) (sV xs (i + 2)) (sV_r _ _) (sV_r _ _)) (cwV 2 hts gL_law_X6_stageBy rfl rfl rfl (by decide +kernel) ⟨Nat.le_of_ble_eq_true rfl, Nat.le_of_ble_eq_true rfl⟩) (gV_V hP hD hK hB hS hA hZ 200 (ci := 6) rfl hq2) rfl rfl hl.1 rfl (lv_room (Nat.le_of_ble_eq_true rfl)) dL_law_387 ⟨Nat.le_trans (show (nc + 2) + 0 ≤ nc + 10 by omega) hnc.1, Nat.le_trans (show (ns + 12) + 0 ≤ ns + 500 by omega) hnc.2⟩) hS (gA_sub hD hS hA) (fun v_387 ad_387 w_387 H locs hv_387 hP hD hS => ?_)
  obtain ⟨th2, sc2, fn2, hmB, hIB, hkB, hokB⟩ := hv_387
  obtain ⟨hrB, zB, hzB⟩ := md_stageBy hokB
  subst hzB
  obtain ⟨e1, e2, e3, e4⟩ := dt_stageBy sc fn _ _ hrA hrB
  have hbB : bookS cA ad_387 w_387 sc2 fn2 := bookS_of hIB (fun r h => ⟨(hkB.2 r (Or.inl h)).1, (hkB.2 r (Or.inl h)).2⟩) (by rw [← e2, ← e3]; exact hbA9)
  rw [← hkB.1, ← (hkB.2 0 (by omega)).2, ← (hkB.2 301 (by omega)).2, ← (hkB.2 302 (by omega)).2] at hl
  have hoX := (hkB.2 301 (by omega)).1.trans hoA
  have hgB := (hkB.2 302 (by omega)).1.trans hgA
  obtain ⟨frB, hk0B⟩ := mdS_k hmB
  refine W.eq (g2 := F0 m 390 ls [.int (iI zB)]) rfl ?_
  refine W.cs (cells' := (nc + 2)) (slots' := (ns + 12)) rfl rfl ?_
  refine lv_istore (pc := 390) (lv' := [(7, .int (iI zB)), (6, .int (iI k1)), (0, .ref b), (1, .ref (ad_387 0)), (2, .ref (ad_387 200)), (3, .ref (ad_387 301)), (4, .ref (ad_387 302)), (5, .int (iI i))]) hx hb dL_law_390 hl (by decide) rfl (fun ls hl => ?_)
  refine lv_aload_n (pc := 392) hx hb dL_law_392 rfl (lv_at hl 4 rfl) ?_
  refine k_call0 (pc := 393) (va_runV (As := []) (rest := []) ⟨hx, hb, hml, hown, hts⟩ (c_X6_thrown l D cA ad_387 w_387 sc2 fn2 th2 frB hk0B) (cwV 0 hts gL_law_X6_thrown rfl rfl rfl (by decide +kernel) ⟨Nat.le_of_ble_eq_true rfl, Nat.le_of_ble_eq_true rfl⟩) (gR_V hP hK hB 200 (ci := 6) rfl hk0B) rfl rfl hl.1 rfl (lv_room (Nat.le_of_ble_eq_true rfl)) dL_law_393 ⟨Nat.le_trans (show (nc + 2) + 0 ≤ nc + 10 by omega) hnc.1, Nat.le_trans (show (ns + 12) + 0 ≤ ns + 500 by omega) hnc.2⟩) (fun v_393 hv_393 => ?_)
  obtain ⟨z_393, rfl, hz_393⟩ := hv_393
  refine W.eq (g2 := F0 m 396 ls [.int (iI z_393)]) rfl ?_
  refine lv_iload (pc := 396) hx hb dL_law_396 (lv_at hl 1 rfl) ?_
  refine k_icmp_eq (pc := 398) (tgt := 403) hx hb ⟨by omega, by omega⟩ ⟨by omega, by omega⟩ dL_law_398 (by decide) (fun hc_398 => ?_) (fun hc_398 => ?_)
  · skip
    refine lv_iload (pc := 403) hx hb dL_law_403 (lv_at hl 1 rfl) ?_
    refine k_if_ne (pc := 405) (tgt := 420) hx hb ⟨by omega, by omega⟩ dL_law_405 (by decide) (fun hc_405 => ?_) (fun hc_405 => ?_)
    · skip
      refine lv_goto (pc := 420) (tgt := 1710) hx hb dL_law_420 (by decide) ?_
      refine W.widen (k := nc + 10) (n := ns + 500) (by omega) (by omega) ?_
      exact kk ad_387 w_387 sc2 fn2 H locs ls ⟨hbB, hIB, ⟨th2, hmB⟩, ⟨_, hoX⟩, ⟨_, hgB⟩⟩ hP hD hS (lv_sub hl [2, 3, 4, 5, 6, 7] rfl)
    · skip
      refine lv_aload_n (pc := 408) hx hb dL_law_408 rfl (lv_at hl 5 rfl) ?_
      refine k_iconst (pc := 409) hx hb dL_law_409 ?_
      refine k_lald (pc := 410) hx hb hK hP 301 2 hoX rfl (by omega) (by omega) (by omega) dL_law_410 ?_
      refine lv_iload (pc := 411) hx hb dL_law_411 (lv_at hl 0 rfl) ?_
      refine k_i2lw (pc := 413) hx hb dL_law_413 ?_
      have e5 := e4 hc_405
      have e6 := (hrcA hc_405 zB).1 e5
      rw [e6]
      refine k_lcmpS (pc := 414) (tgt := 420) hx hb dL_law_414 dL_law_415 (by decide) ?_
      refine lv_goto (pc := 420) (tgt := 1710) hx hb dL_law_420 (by decide) ?_
      refine W.widen (k := nc + 10) (n := ns + 500) (by omega) (by omega) ?_
      exact kk ad_387 w_387 sc2 fn2 H locs ls ⟨hbB, hIB, ⟨th2, hmB⟩, ⟨_, hoX⟩, ⟨_, hgB⟩⟩ hP hD hS (lv_sub hl [2, 3, 4, 5, 6, 7] rfl)
  · skip
    exfalso
    omega

set_option maxHeartbeats 4000000 in
set_option maxRecDepth 100000 in
theorem lc_curveOf {p : Program} {e : Env} {s : State} {m : MethodId} {below : List Frame} {meth : Method} {c : Code} {l : Launch} {D : va_G} {cA : Nat → ClassId} {A : Nat → Prop} {b L : Nat} {xs : Nat → Int32} (C : lwC p l s m c D cA A b L xs) (Q9 : State → Prop) (i : Int) (hi : 0 ≤ i ∧ i + 5 ≤ L) (nc ns : Nat) (hnc : nc + 10 ≤ room_1.cells ∧ ns + 500 ≤ room_1.slots)
  (kk : ∀ (ad : Nat → Nat) (w : Nat → Option va_E) (sc : Nat → Int) (fn : Nat → Int → Int) (H : Heap) (locs : List Loc) (ls : Array Slot), lwS cA ad w sc fn → gP D vwCl ad w H → gD A ad w → va_S A s.heap H locs → lv_has ls 9 [(0, .ref b), (1, .ref (ad 0)), (2, .ref (ad 200)), (3, .ref (ad 301)), (4, .ref (ad 302)), (5, .int (iI i))] → W p l e room_1 s m #[Value.ref b] below meth c H locs (nc + 10) (ns + 500) Q9 (F0 m 1710 ls []))
  (ad : Nat → Nat) (w : Nat → Option va_E) (sc : Nat → Int) (fn : Nat → Int → Int) (H : Heap) (locs : List Loc) (ls : Array Slot) (hW : lwS cA ad w sc fn) (hP : gP D vwCl ad w H) (hD : gD A ad w) (hS : va_S A s.heap H locs) (hl : lv_has ls 9 [(0, .ref b), (1, .ref (ad 0)), (2, .ref (ad 200)), (3, .ref (ad 301)), (4, .ref (ad 302)), (5, .int (iI i))]) : W p l e room_1 s m #[Value.ref b] below meth c H locs nc ns Q9 (F0 m 423 ls []) := by
  obtain ⟨hl0, hx, hb, hml, hown, hts, hK, hB, hZ, hA, hX, hbl, hbA, hL⟩ := C
  obtain ⟨hbk, hI, ⟨th, hmd⟩, ⟨o, ho⟩, ⟨g, hg⟩⟩ := hW
  obtain ⟨fs0, hq0⟩ := bookS_0 hbk
  refine lv_aload_n (pc := 423) hx hb dL_law_423 rfl (lv_at hl 1 rfl) ?_
  refine lv_aload_n (pc := 424) hx hb dL_law_424 rfl (lv_at hl 0 rfl) ?_
  refine lv_iload (pc := 425) hx hb dL_law_425 (lv_at hl 5 rfl) ?_
  refine k_iconst (pc := 427) hx hb dL_law_427 ?_
  refine k_iadd (pc := 428) hx hb dL_law_428 ?_
  refine k_sld (pc := 429) hx hb hX hbl hbA hS (i := (i + 1)) (by omega) (by omega) hL dL_law_429 ?_
  refine W.eq (g2 := F0 m 430 ls [.int (iI (sV xs (i + 1))), .ref (ad 0)]) rfl ?_
  refine lv_aload_n (pc := 430) hx hb dL_law_430 rfl (lv_at hl 3 rfl) ?_
  refine k_call1 (pc := 431) (vx_runSW (As := [.ref (ad 0), .int (iI (sV xs (i + 1))), .ref (ad 301)]) (rest := []) ⟨hx, hb, hml, hown, hts⟩ (c_L_curveOf l hl0 D cA ad w H.size sc fn hI hbk (sV xs (i + 1)) (sV_r _ _) o ho) (vx_cwSW 3 hts gL_law_L_curveOf rfl rfl rfl (by decide +kernel) ⟨Nat.le_of_ble_eq_true rfl, Nat.le_of_ble_eq_true rfl⟩) (gV_S hP hD hK hB hS hA hZ) rfl rfl hl.1 rfl (lv_room (Nat.le_of_ble_eq_true rfl)) dL_law_431 ⟨Nat.le_trans (show nc + 1 ≤ nc + 10 by omega) hnc.1, Nat.le_trans (show ns + 6 ≤ ns + 500 by omega) hnc.2⟩) hS (gA_sub hD hS hA) (fun v_431 ad_431 w_431 H locs hv_431 hP hD hS => ?_)
  obtain ⟨k1, sc1, fn1, vA, oA, hvk, hbA9, hIA, hkA, hoA, hrA, hrcA, hkrA⟩ := hv_431
  subst hvk
  have hmA : mdS cA ad_431 w_431 th sc fn := mdS_of (fun r h1 h2 => ⟨(hkA.2 r h1).2 (by omega), (hkA.2 r h1).1⟩) hmd
  have hgA : w_431 302 = some (eD (cA 3) 1 g) := ((hkA.2 302 (by omega)).2 (by omega)).trans hg
  rw [← hkA.1, ← (hkA.2 200 (by omega)).1, ← (hkA.2 301 (by omega)).1, ← (hkA.2 302 (by omega)).1] at hl
  obtain ⟨fs2, hq2⟩ := mdS_0 hmA
  refine W.eq (g2 := F0 m 434 ls [.int (iI k1)]) rfl ?_
  refine W.cs (cells' := (nc + 1)) (slots' := (ns + 6)) rfl rfl ?_
  refine lv_istore (pc := 434) (lv' := [(6, .int (iI k1)), (0, .ref b), (1, .ref (ad_431 0)), (2, .ref (ad_431 200)), (3, .ref (ad_431 301)), (4, .ref (ad_431 302)), (5, .int (iI i))]) hx hb dL_law_434 hl (by decide) rfl (fun ls hl => ?_)
  refine lv_aload_n (pc := 436) hx hb dL_law_436 rfl (lv_at hl 3 rfl) ?_
  refine lv_aload_n (pc := 437) hx hb dL_law_437 rfl (lv_at hl 1 rfl) ?_
  refine lv_iload (pc := 438) hx hb dL_law_438 (lv_at hl 6 rfl) ?_
  refine k_iconst (pc := 440) hx hb dL_law_440 ?_
  refine k_iadd (pc := 441) hx hb dL_law_441 ?_
  refine k_sld (pc := 442) hx hb hX hbl hbA hS (i := (i + 1)) (by omega) (by omega) hL dL_law_442 ?_
  refine W.eq (g2 := F0 m 443 ls [.int (iI (sV xs (i + 1))), .ref (ad_431 200)]) rfl ?_
  refine k_call1 (pc := 443) (va_runV (As := [.int (iI (sV xs (i + 1)))]) (rest := []) ⟨hx, hb, hml, hown, hts⟩ (c_X6_curveOf l D cA ad_431 w_431 H.size th sc fn hI hmA (sV xs (i + 1)) (sV_r _ _)) (cwV 1 hts gL_law_X6_curveOf rfl rfl rfl (by decide +kernel) ⟨Nat.le_of_ble_eq_true rfl, Nat.le_of_ble_eq_true rfl⟩) (gV_V hP hD hK hB hS hA hZ 200 (ci := 6) rfl hq2) rfl rfl hl.1 rfl (lv_room (Nat.le_of_ble_eq_true rfl)) dL_law_443 ⟨Nat.le_trans (show (nc + 1) + 0 ≤ nc + 10 by omega) hnc.1, Nat.le_trans (show (ns + 6) + 0 ≤ ns + 500 by omega) hnc.2⟩) hS (gA_sub hD hS hA) (fun v_443 ad_443 w_443 H locs hv_443 hP hD hS => ?_)
  obtain ⟨th2, sc2, fn2, hmB, hIB, hkB, hokB⟩ := hv_443
  obtain ⟨hrB, zB, hzB⟩ := md_curveOf hokB
  subst hzB
  obtain ⟨e1, e2, e3, e4⟩ := dt_curveOf sc fn _ hrA hrB
  have hbB : bookS cA ad_443 w_443 sc2 fn2 := bookS_of hIB (fun r h => ⟨(hkB.2 r (Or.inl h)).1, (hkB.2 r (Or.inl h)).2⟩) (by rw [← e2, ← e3]; exact hbA9)
  rw [← hkB.1, ← (hkB.2 0 (by omega)).2, ← (hkB.2 301 (by omega)).2, ← (hkB.2 302 (by omega)).2] at hl
  have hoX := (hkB.2 301 (by omega)).1.trans hoA
  have hgB := (hkB.2 302 (by omega)).1.trans hgA
  obtain ⟨frB, hk0B⟩ := mdS_k hmB
  refine W.eq (g2 := F0 m 446 ls [.int (iI zB)]) rfl ?_
  refine W.cs (cells' := (nc + 1)) (slots' := (ns + 6)) rfl rfl ?_
  refine lv_istore (pc := 446) (lv' := [(7, .int (iI zB)), (6, .int (iI k1)), (0, .ref b), (1, .ref (ad_443 0)), (2, .ref (ad_443 200)), (3, .ref (ad_443 301)), (4, .ref (ad_443 302)), (5, .int (iI i))]) hx hb dL_law_446 hl (by decide) rfl (fun ls hl => ?_)
  refine lv_aload_n (pc := 448) hx hb dL_law_448 rfl (lv_at hl 4 rfl) ?_
  refine k_call0 (pc := 449) (va_runV (As := []) (rest := []) ⟨hx, hb, hml, hown, hts⟩ (c_X6_thrown l D cA ad_443 w_443 sc2 fn2 th2 frB hk0B) (cwV 0 hts gL_law_X6_thrown rfl rfl rfl (by decide +kernel) ⟨Nat.le_of_ble_eq_true rfl, Nat.le_of_ble_eq_true rfl⟩) (gR_V hP hK hB 200 (ci := 6) rfl hk0B) rfl rfl hl.1 rfl (lv_room (Nat.le_of_ble_eq_true rfl)) dL_law_449 ⟨Nat.le_trans (show (nc + 1) + 0 ≤ nc + 10 by omega) hnc.1, Nat.le_trans (show (ns + 6) + 0 ≤ ns + 500 by omega) hnc.2⟩) (fun v_449 hv_449 => ?_)
  obtain ⟨z_449, rfl, hz_449⟩ := hv_449
  refine W.eq (g2 := F0 m 452 ls [.int (iI z_449)]) rfl ?_
  refine lv_iload (pc := 452) hx hb dL_law_452 (lv_at hl 1 rfl) ?_
  refine k_icmp_eq (pc := 454) (tgt := 459) hx hb ⟨by omega, by omega⟩ ⟨by omega, by omega⟩ dL_law_454 (by decide) (fun hc_454 => ?_) (fun hc_454 => ?_)
  · skip
    refine lv_iload (pc := 459) hx hb dL_law_459 (lv_at hl 1 rfl) ?_
    refine k_if_ne (pc := 461) (tgt := 476) hx hb ⟨by omega, by omega⟩ dL_law_461 (by decide) (fun hc_461 => ?_) (fun hc_461 => ?_)
    · skip
      refine lv_goto (pc := 476) (tgt := 1710) hx hb dL_law_476 (by decide) ?_
      refine W.widen (k := nc + 10) (n := ns + 500) (by omega) (by omega) ?_
      exact kk ad_443 w_443 sc2 fn2 H locs ls ⟨hbB, hIB, ⟨th2, hmB⟩, ⟨_, hoX⟩, ⟨_, hgB⟩⟩ hP hD hS (lv_sub hl [2, 3, 4, 5, 6, 7] rfl)
    · skip
      refine lv_aload_n (pc := 464) hx hb dL_law_464 rfl (lv_at hl 5 rfl) ?_
      refine k_iconst (pc := 465) hx hb dL_law_465 ?_
      refine k_lald (pc := 466) hx hb hK hP 301 2 hoX rfl (by omega) (by omega) (by omega) dL_law_466 ?_
      refine lv_iload (pc := 467) hx hb dL_law_467 (lv_at hl 0 rfl) ?_
      refine k_i2lw (pc := 469) hx hb dL_law_469 ?_
      have e5 := e4 hc_461
      have e6 := (hrcA hc_461 zB).1 e5
      rw [e6]
      refine k_lcmpS (pc := 470) (tgt := 476) hx hb dL_law_470 dL_law_471 (by decide) ?_
      refine lv_goto (pc := 476) (tgt := 1710) hx hb dL_law_476 (by decide) ?_
      refine W.widen (k := nc + 10) (n := ns + 500) (by omega) (by omega) ?_
      exact kk ad_443 w_443 sc2 fn2 H locs ls ⟨hbB, hIB, ⟨th2, hmB⟩, ⟨_, hoX⟩, ⟨_, hgB⟩⟩ hP hD hS (lv_sub hl [2, 3, 4, 5, 6, 7] rfl)
  · skip
    exfalso
    omega

set_option maxHeartbeats 4000000 in
set_option maxRecDepth 100000 in
theorem lc_setShift {p : Program} {e : Env} {s : State} {m : MethodId} {below : List Frame} {meth : Method} {c : Code} {l : Launch} {D : va_G} {cA : Nat → ClassId} {A : Nat → Prop} {b L : Nat} {xs : Nat → Int32} (C : lwC p l s m c D cA A b L xs) (Q9 : State → Prop) (i : Int) (hi : 0 ≤ i ∧ i + 5 ≤ L) (nc ns : Nat) (hnc : nc + 10 ≤ room_1.cells ∧ ns + 500 ≤ room_1.slots)
  (kk : ∀ (ad : Nat → Nat) (w : Nat → Option va_E) (sc : Nat → Int) (fn : Nat → Int → Int) (H : Heap) (locs : List Loc) (ls : Array Slot), lwS cA ad w sc fn → gP D vwCl ad w H → gD A ad w → va_S A s.heap H locs → lv_has ls 9 [(0, .ref b), (1, .ref (ad 0)), (2, .ref (ad 200)), (3, .ref (ad 301)), (4, .ref (ad 302)), (5, .int (iI i))] → W p l e room_1 s m #[Value.ref b] below meth c H locs (nc + 10) (ns + 500) Q9 (F0 m 1710 ls []))
  (ad : Nat → Nat) (w : Nat → Option va_E) (sc : Nat → Int) (fn : Nat → Int → Int) (H : Heap) (locs : List Loc) (ls : Array Slot) (hW : lwS cA ad w sc fn) (hP : gP D vwCl ad w H) (hD : gD A ad w) (hS : va_S A s.heap H locs) (hl : lv_has ls 9 [(0, .ref b), (1, .ref (ad 0)), (2, .ref (ad 200)), (3, .ref (ad 301)), (4, .ref (ad 302)), (5, .int (iI i))]) : W p l e room_1 s m #[Value.ref b] below meth c H locs nc ns Q9 (F0 m 479 ls []) := by
  obtain ⟨hl0, hx, hb, hml, hown, hts, hK, hB, hZ, hA, hX, hbl, hbA, hL⟩ := C
  obtain ⟨hbk, hI, ⟨th, hmd⟩, ⟨o, ho⟩, ⟨g, hg⟩⟩ := hW
  obtain ⟨fs0, hq0⟩ := bookS_0 hbk
  refine lv_aload_n (pc := 479) hx hb dL_law_479 rfl (lv_at hl 1 rfl) ?_
  refine lv_aload_n (pc := 480) hx hb dL_law_480 rfl (lv_at hl 0 rfl) ?_
  refine lv_iload (pc := 481) hx hb dL_law_481 (lv_at hl 5 rfl) ?_
  refine k_iconst (pc := 483) hx hb dL_law_483 ?_
  refine k_iadd (pc := 484) hx hb dL_law_484 ?_
  refine k_sld (pc := 485) hx hb hX hbl hbA hS (i := (i + 1)) (by omega) (by omega) hL dL_law_485 ?_
  refine W.eq (g2 := F0 m 486 ls [.int (iI (sV xs (i + 1))), .ref (ad 0)]) rfl ?_
  refine lv_aload_n (pc := 486) hx hb dL_law_486 rfl (lv_at hl 0 rfl) ?_
  refine lv_iload (pc := 487) hx hb dL_law_487 (lv_at hl 5 rfl) ?_
  refine k_iconst (pc := 489) hx hb dL_law_489 ?_
  refine k_iadd (pc := 490) hx hb dL_law_490 ?_
  refine k_sld (pc := 491) hx hb hX hbl hbA hS (i := (i + 2)) (by omega) (by omega) hL dL_law_491 ?_
  refine W.eq (g2 := F0 m 492 ls [.int (iI (sV xs (i + 2))), .int (iI (sV xs (i + 1))), .ref (ad 0)]) rfl ?_
  refine lv_aload_n (pc := 492) hx hb dL_law_492 rfl (lv_at hl 3 rfl) ?_
  refine k_call1 (pc := 493) (vx_runSW (As := [.ref (ad 0), .int (iI (sV xs (i + 1))), .int (iI (sV xs (i + 2))), .ref (ad 301)]) (rest := []) ⟨hx, hb, hml, hown, hts⟩ (c_L_setShift l hl0 D cA ad w H.size sc fn hI hbk (sV xs (i + 1)) (sV xs (i + 2)) (sV_r _ _) (sV_r _ _) o ho) (vx_cwSW 4 hts gL_law_L_setShift rfl rfl rfl (by decide +kernel) ⟨Nat.le_of_ble_eq_true rfl, Nat.le_of_ble_eq_true rfl⟩) (gV_S hP hD hK hB hS hA hZ) rfl rfl hl.1 rfl (lv_room (Nat.le_of_ble_eq_true rfl)) dL_law_493 ⟨Nat.le_trans (show nc + 2 ≤ nc + 10 by omega) hnc.1, Nat.le_trans (show ns + 12 ≤ ns + 500 by omega) hnc.2⟩) hS (gA_sub hD hS hA) (fun v_493 ad_493 w_493 H locs hv_493 hP hD hS => ?_)
  obtain ⟨k1, sc1, fn1, vA, oA, hvk, hbA9, hIA, hkA, hoA, hrA, hrcA, hkrA⟩ := hv_493
  subst hvk
  have hmA : mdS cA ad_493 w_493 th sc fn := mdS_of (fun r h1 h2 => ⟨(hkA.2 r h1).2 (by omega), (hkA.2 r h1).1⟩) hmd
  have hgA : w_493 302 = some (eD (cA 3) 1 g) := ((hkA.2 302 (by omega)).2 (by omega)).trans hg
  rw [← hkA.1, ← (hkA.2 200 (by omega)).1, ← (hkA.2 301 (by omega)).1, ← (hkA.2 302 (by omega)).1] at hl
  obtain ⟨fs2, hq2⟩ := mdS_0 hmA
  refine W.eq (g2 := F0 m 496 ls [.int (iI k1)]) rfl ?_
  refine W.cs (cells' := (nc + 2)) (slots' := (ns + 12)) rfl rfl ?_
  refine lv_istore (pc := 496) (lv' := [(6, .int (iI k1)), (0, .ref b), (1, .ref (ad_493 0)), (2, .ref (ad_493 200)), (3, .ref (ad_493 301)), (4, .ref (ad_493 302)), (5, .int (iI i))]) hx hb dL_law_496 hl (by decide) rfl (fun ls hl => ?_)
  refine lv_aload_n (pc := 498) hx hb dL_law_498 rfl (lv_at hl 3 rfl) ?_
  refine lv_aload_n (pc := 499) hx hb dL_law_499 rfl (lv_at hl 1 rfl) ?_
  refine lv_iload (pc := 500) hx hb dL_law_500 (lv_at hl 6 rfl) ?_
  refine k_iconst (pc := 502) hx hb dL_law_502 ?_
  refine k_iadd (pc := 503) hx hb dL_law_503 ?_
  refine k_sld (pc := 504) hx hb hX hbl hbA hS (i := (i + 1)) (by omega) (by omega) hL dL_law_504 ?_
  refine W.eq (g2 := F0 m 505 ls [.int (iI (sV xs (i + 1))), .ref (ad_493 200)]) rfl ?_
  refine lv_aload_n (pc := 505) hx hb dL_law_505 rfl (lv_at hl 1 rfl) ?_
  refine lv_iload (pc := 506) hx hb dL_law_506 (lv_at hl 6 rfl) ?_
  refine k_iconst (pc := 508) hx hb dL_law_508 ?_
  refine k_iadd (pc := 509) hx hb dL_law_509 ?_
  refine k_sld (pc := 510) hx hb hX hbl hbA hS (i := (i + 2)) (by omega) (by omega) hL dL_law_510 ?_
  refine W.eq (g2 := F0 m 511 ls [.int (iI (sV xs (i + 2))), .int (iI (sV xs (i + 1))), .ref (ad_493 200)]) rfl ?_
  refine k_call1 (pc := 511) (va_runV (As := [.int (iI (sV xs (i + 1))), .int (iI (sV xs (i + 2)))]) (rest := []) ⟨hx, hb, hml, hown, hts⟩ (c_X6_setShift l D cA ad_493 w_493 H.size th sc fn hI hmA (sV xs (i + 1)) (sV xs (i + 2)) (sV_r _ _) (sV_r _ _)) (cwV 2 hts gL_law_X6_setShift rfl rfl rfl (by decide +kernel) ⟨Nat.le_of_ble_eq_true rfl, Nat.le_of_ble_eq_true rfl⟩) (gV_V hP hD hK hB hS hA hZ 200 (ci := 6) rfl hq2) rfl rfl hl.1 rfl (lv_room (Nat.le_of_ble_eq_true rfl)) dL_law_511 ⟨Nat.le_trans (show (nc + 2) + 0 ≤ nc + 10 by omega) hnc.1, Nat.le_trans (show (ns + 12) + 0 ≤ ns + 500 by omega) hnc.2⟩) hS (gA_sub hD hS hA) (fun v_511 ad_511 w_511 H locs hv_511 hP hD hS => ?_)
  obtain ⟨th2, sc2, fn2, hmB, hIB, hkB, hokB⟩ := hv_511
  obtain ⟨hrB, zB, hzB⟩ := md_setShift hokB
  subst hzB
  obtain ⟨e1, e2, e3, e4⟩ := dt_setShift sc fn _ _ hrA hrB
  have hbB : bookS cA ad_511 w_511 sc2 fn2 := bookS_of hIB (fun r h => ⟨(hkB.2 r (Or.inl h)).1, (hkB.2 r (Or.inl h)).2⟩) (by rw [← e2, ← e3]; exact hbA9)
  rw [← hkB.1, ← (hkB.2 0 (by omega)).2, ← (hkB.2 301 (by omega)).2, ← (hkB.2 302 (by omega)).2] at hl
  have hoX := (hkB.2 301 (by omega)).1.trans hoA
  have hgB := (hkB.2 302 (by omega)).1.trans hgA
  obtain ⟨frB, hk0B⟩ := mdS_k hmB
  refine W.eq (g2 := F0 m 514 ls [.int (iI zB)]) rfl ?_
  refine W.cs (cells' := (nc + 2)) (slots' := (ns + 12)) rfl rfl ?_
  refine lv_istore (pc := 514) (lv' := [(7, .int (iI zB)), (6, .int (iI k1)), (0, .ref b), (1, .ref (ad_511 0)), (2, .ref (ad_511 200)), (3, .ref (ad_511 301)), (4, .ref (ad_511 302)), (5, .int (iI i))]) hx hb dL_law_514 hl (by decide) rfl (fun ls hl => ?_)
  refine lv_aload_n (pc := 516) hx hb dL_law_516 rfl (lv_at hl 4 rfl) ?_
  refine k_call0 (pc := 517) (va_runV (As := []) (rest := []) ⟨hx, hb, hml, hown, hts⟩ (c_X6_thrown l D cA ad_511 w_511 sc2 fn2 th2 frB hk0B) (cwV 0 hts gL_law_X6_thrown rfl rfl rfl (by decide +kernel) ⟨Nat.le_of_ble_eq_true rfl, Nat.le_of_ble_eq_true rfl⟩) (gR_V hP hK hB 200 (ci := 6) rfl hk0B) rfl rfl hl.1 rfl (lv_room (Nat.le_of_ble_eq_true rfl)) dL_law_517 ⟨Nat.le_trans (show (nc + 2) + 0 ≤ nc + 10 by omega) hnc.1, Nat.le_trans (show (ns + 12) + 0 ≤ ns + 500 by omega) hnc.2⟩) (fun v_517 hv_517 => ?_)
  obtain ⟨z_517, rfl, hz_517⟩ := hv_517
  refine W.eq (g2 := F0 m 520 ls [.int (iI z_517)]) rfl ?_
  refine lv_iload (pc := 520) hx hb dL_law_520 (lv_at hl 1 rfl) ?_
  refine k_icmp_eq (pc := 522) (tgt := 527) hx hb ⟨by omega, by omega⟩ ⟨by omega, by omega⟩ dL_law_522 (by decide) (fun hc_522 => ?_) (fun hc_522 => ?_)
  · skip
    refine lv_iload (pc := 527) hx hb dL_law_527 (lv_at hl 1 rfl) ?_
    refine k_if_ne (pc := 529) (tgt := 544) hx hb ⟨by omega, by omega⟩ dL_law_529 (by decide) (fun hc_529 => ?_) (fun hc_529 => ?_)
    · skip
      refine lv_goto (pc := 544) (tgt := 1710) hx hb dL_law_544 (by decide) ?_
      refine W.widen (k := nc + 10) (n := ns + 500) (by omega) (by omega) ?_
      exact kk ad_511 w_511 sc2 fn2 H locs ls ⟨hbB, hIB, ⟨th2, hmB⟩, ⟨_, hoX⟩, ⟨_, hgB⟩⟩ hP hD hS (lv_sub hl [2, 3, 4, 5, 6, 7] rfl)
    · skip
      refine lv_aload_n (pc := 532) hx hb dL_law_532 rfl (lv_at hl 5 rfl) ?_
      refine k_iconst (pc := 533) hx hb dL_law_533 ?_
      refine k_lald (pc := 534) hx hb hK hP 301 2 hoX rfl (by omega) (by omega) (by omega) dL_law_534 ?_
      refine lv_iload (pc := 535) hx hb dL_law_535 (lv_at hl 0 rfl) ?_
      refine k_i2lw (pc := 537) hx hb dL_law_537 ?_
      have e5 := e4 hc_529
      have e6 := (hrcA hc_529 zB).1 e5
      rw [e6]
      refine k_lcmpS (pc := 538) (tgt := 544) hx hb dL_law_538 dL_law_539 (by decide) ?_
      refine lv_goto (pc := 544) (tgt := 1710) hx hb dL_law_544 (by decide) ?_
      refine W.widen (k := nc + 10) (n := ns + 500) (by omega) (by omega) ?_
      exact kk ad_511 w_511 sc2 fn2 H locs ls ⟨hbB, hIB, ⟨th2, hmB⟩, ⟨_, hoX⟩, ⟨_, hgB⟩⟩ hP hD hS (lv_sub hl [2, 3, 4, 5, 6, 7] rfl)
  · skip
    exfalso
    omega
