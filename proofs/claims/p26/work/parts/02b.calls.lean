/-! contract forms over worlds by roles, and one call lemma each -/
/-- the array classes of the worlds, by their places: 0 int, 1 boolean, 2 long, 3 int once more, 4 curves, 5 measurements, 6 rows of rows -/
def gT (cA : Nat → ClassId) : List (ClassId × FieldType) := [(cA 0, .int), (cA 1, .boolean), (cA 2, .long), (cA 3, .int), (cA 4, .object RX0), (cA 5, .object RX2), (cA 6, .array .int)]
/-- links to private members of nest mates -/
def gMl : List (String × Nat × MethodName × String) := [(RX0, 25, yX5_countLower, RX5), (RX0, 33, yX5_insertInto, RX5), (RX0, 46, yX5_interpolate, RX5), (RX1, 37, yX5_interpolate, RX5), (RX4, 20, yX5_countLower, RX5), (RX4, 26, yX5_interpolate, RX5), (RX4, 30, yX5_insertInto, RX5)]
def gFl : List (String × Nat × String × String × String × String) := [(RX5, 269, RX0, "firstDay", "I", RX5)]
def xIA : String := "java/lang/IllegalArgumentException"
def xIS : String := "java/lang/IllegalStateException"
def xIX : String := "java/lang/IndexOutOfBoundsException"
def gCa : List (String × String) := [(xIA, xIA), (xIS, xIS), (xIX, xIX)]
def gNc : List (String × String) := []
def gDe : List MethodName := [Bundle.initS "java/lang/RuntimeException", Bundle.initS "java/lang/Exception", Bundle.initS Bundle.tN]
def gStr : List (String × Nat × String) := [(RX5, 106, "the curve cannot take this point"), (RX5, 114, "stage is not -2000 to 4000"), (RX5, 121, "the curve is not complete"), (RX5, 134, "shift is not -200 to 200"), (RX5, 142, "there are 20 shifts, and none for this day"), (RX5, 152, "factor is not 0 to 100"), (RX5, 154, "limit is not 0 to 60"), (RX5, 165, "what is not 0 to 4"), (RX5, 184, "percent is not 1 to 100"), (RX5, 202, "apart is not 1 to 100"), (RX5, 250, "day is not 0 to 399"), (RX5, 252, "days is not 1 to 400"), (RX5, 254, "the last day is greater than 399"), (RX5, 256, "from and to are not days in their order"), (RX5, 262, "stage is not -500 to 2000"), (RX5, 265, "flow is not 0 to 1000000"), (RX5, 267, "limit is less than 0"), (RX5, 69, "there are 6 curves"), (RX5, 78, "a curve holds from this day on"), (RX5, 92, "no such curve")]
/-- the words that no word list hands on -/
def gB (U : State) : Prop := (∀ q ∈ gMl, va_Nw (.methodLinkNest q.1 q.2.1 q.2.2.1 q.2.2.2) U) ∧ (∀ q ∈ gFl, va_Nw (.fieldLinkNest q.1 q.2.1 q.2.2.1 q.2.2.2.1 q.2.2.2.2.1 q.2.2.2.2.2) U) ∧ (∀ q ∈ gCa, va_Nw (.castable q.1 q.2) U) ∧ (∀ q ∈ gNc, va_Nc q.1 q.2 U) ∧ (∀ q ∈ gStr, ∃ a, vk_R q.1 q.2.1 q.2.2 a U) ∧ (∀ q ∈ gDe, va_Nw (.declares q) U) ∧ va_AO RX0 U ∧ va_AO RX2 U ∧ va_AOA .int U
theorem gB.warm {s U : State} (hW : s.WarmedH U.vm) (h : gB s) : gB U :=
  ⟨fun q hq => va_Nw.warmM hW (h.1 q hq), fun q hq => va_Nw.warmF hW (h.2.1 q hq), fun q hq => va_Nw.warmC hW (h.2.2.1 q hq), fun q hq => va_Nc.moved hW.alike (h.2.2.2.1 q hq), fun q hq => (h.2.2.2.2.1 q hq).imp fun a ha => vk_R.warm hW ha, fun q hq => va_Nw.warmD hW (h.2.2.2.2.2.1 q hq), va_AO.moved hW.alike h.2.2.2.2.2.2.1, va_AO.moved hW.alike h.2.2.2.2.2.2.2.1, va_AOA.moved hW.alike h.2.2.2.2.2.2.2.2⟩
theorem gB.same {u U : State} (hv : U.vm = u.vm) (h : gB u) : gB U :=
  ⟨fun q hq => va_Nw.same rfl hv.symm (h.1 q hq), fun q hq => va_Nw.same rfl hv.symm (h.2.1 q hq), fun q hq => va_Nw.same rfl hv.symm (h.2.2.1 q hq), fun q hq => va_Nc.moved (by rw [hv]; exact Vm.Alike.refl _) (h.2.2.2.1 q hq), fun q hq => (h.2.2.2.2.1 q hq).imp fun a ha => vk_R.same hv ha, fun q hq => va_Nw.same rfl hv.symm (h.2.2.2.2.2.1 q hq), va_AO.moved (by rw [hv]; exact Vm.Alike.refl _) h.2.2.2.2.2.2.1, va_AO.moved (by rw [hv]; exact Vm.Alike.refl _) h.2.2.2.2.2.2.2.1, va_AOA.moved (by rw [hv]; exact Vm.Alike.refl _) h.2.2.2.2.2.2.2.2⟩
/-- the two statics that an exception's constructor reads -/
def gZ (A : Nat → Prop) (U : State) (H : Heap) : Prop := vx_Zq Bundle.tN "UNASSIGNED_STACK" Bundle.steD A U H ∧ vx_Zq Bundle.tN "SUPPRESSED_SENTINEL" Bundle.listD A U H
theorem gZ.moved {A : Nat → Prop} {u U : State} {H : Heap} (hvm : u.vm.Alike U.vm) (h : gZ A u H) : gZ A U H := ⟨vx_Zq.moved hvm h.1, vx_Zq.moved hvm h.2⟩
theorem gZ.kept {A : Nat → Prop} {U : State} {H H1 : Heap} (h : gZ A U H) (hq : ∀ a : Nat, a < H.size → ¬ A a → H1[a]? = H[a]?) : gZ A U H1 := ⟨h.1.kept hq, h.2.kept hq⟩
theorem gZ.narrow {A B : Nat → Prop} {U : State} {H : Heap} (h : gZ A U H) (hAB : ∀ q, B q → A q) : gZ B U H := ⟨h.1.narrow hAB, h.2.narrow hAB⟩
/-- a start: of a method that reads alone; of one that writes or throws -/
def gR (D : va_G) (cA : Nat → ClassId) (ad : Nat → Nat) (w : Nat → Option va_E) (av : List Value) : Array Value → State → Prop := va_Pc av (fun U => gP D vwCl ad w U.heap ∧ va_K D vwCl (gT cA) U ∧ gB U)
def gV (D : va_G) (cA : Nat → ClassId) (ad : Nat → Nat) (w : Nat → Option va_E) (sz : Nat) (av : List Value) : Array Value → State → Prop := va_Pc av (fun U => U.heap.size = sz ∧ gP D vwCl ad w U.heap ∧ gD (fun _ => True) ad w ∧ va_K D vwCl (gT cA) U ∧ gB U ∧ gZ (gA ad w sz) U U.heap)
/-- an end: nothing written; a new world; an exception and the old world -/
def gR0 (post : Option Value → Prop) : Array Value → State → Outcome → State → Prop := fun _ st oc t => ∃ v : Option Value, oc = .returned v ∧ post v ∧ t.heap = st.heap
def gW (D : va_G) (post : Option Value → (Nat → Nat) → (Nat → Option va_E) → Prop) (A : Nat → Prop) : Array Value → State → Outcome → State → Prop := fun _ st oc t => (∃ (v : Option Value) (ad1 : Nat → Nat) (w1 : Nat → Option va_E), oc = .returned v ∧ post v ad1 w1 ∧ gP D vwCl ad1 w1 t.heap ∧ gD A ad1 w1) ∧ va_F A st t
def gX (D : va_G) (px : String → Prop) (ad : Nat → Nat) (w : Nat → Option va_E) (A : Nat → Prop) : String → State → State → Prop := fun E st t => px E ∧ gP D vwCl ad w t.heap ∧ gD A ad w ∧ va_F A st t
theorem gR_blind {D : va_G} {cA : Nat → ClassId} {ad : Nat → Nat} {w : Nat → Option va_E} {av : List Value} : FrameBlind (gR D cA ad w av) := fun a U g mk q => by
  obtain ⟨q0, qP, qK, qB⟩ := q
  exact ⟨q0, qP, va_K.moved (u := U) (U := U.calling g mk a) (Vm.Alike.refl U.vm) qK, gB.same (u := U) (U := U.calling g mk a) rfl qB⟩
theorem gV_blind {D : va_G} {cA : Nat → ClassId} {ad : Nat → Nat} {w : Nat → Option va_E} {sz : Nat} {av : List Value} : FrameBlind (gV D cA ad w sz av) := fun a U g mk q => by
  obtain ⟨q0, q1, qP, qD, qK, qB, qZ⟩ := q
  exact ⟨q0, q1, qP, qD, va_K.moved (u := U) (U := U.calling g mk a) (Vm.Alike.refl U.vm) qK, gB.same (u := U) (U := U.calling g mk a) rfl qB, gZ.moved (u := U) (U := U.calling g mk a) (Vm.Alike.refl U.vm) qZ⟩
section GPR
variable {s : State} {H : Heap} {D : va_G} {cA : Nat → ClassId} {ad : Nat → Nat} {w : Nat → Option va_E} {As : List Value} {A : Nat → Prop} {locs : List Loc}
theorem g_recv (hK : va_K D vwCl (gT cA) s) (hP : gP D vwCl ad w H) {r ci : Nat} {q : vw_C} {fs : List Value} (hc : vwCl[ci]? = some q) (he : w r = some (.inr (ci, fs))) : ∃ cell : Cell, H[ad r]? = some cell ∧ cell.vm.isStatics = false ∧ s.vm.findClass q.1 = some cell.cls := va_recv (ws := [(ad r, .inr (ci, fs))]) hK (hP.one he) hc (q0 := 0) rfl
theorem gR_S (hP : gP D vwCl ad w H) (hK : va_K D vwCl (gT cA) s) (hB : gB s) : PreS s H (gR D cA ad w As) As := ⟨gR_blind, fun U hU hW => ⟨rfl, by rw [hU]; exact hP, va_K.moved hW.alike hK, gB.warm hW hB⟩⟩
theorem gR_V (hP : gP D vwCl ad w H) (hK : va_K D vwCl (gT cA) s) (hB : gB s) (r : Nat) {ci : Nat} {q : vw_C} {fs : List Value} (hc : vwCl[ci]? = some q) (he : w r = some (.inr (ci, fs))) : PreV s H q.1 (ad r) (gR D cA ad w (.ref (ad r) :: As)) As := ⟨gR_blind, g_recv hK hP hc he, fun U hU hW => ⟨rfl, by rw [hU]; exact hP, va_K.moved hW.alike hK, gB.warm hW hB⟩⟩
theorem gV_S (hP : gP D vwCl ad w H) (hD : gD A ad w) (hK : va_K D vwCl (gT cA) s) (hB : gB s) (hS : va_S A s.heap H locs) (hA : ∀ q, s.heap.size ≤ q → A q) (hZ : gZ A s s.heap) : PreS s H (gV D cA ad w H.size As) As :=
  ⟨gV_blind, fun U hU hW => ⟨rfl, by rw [hU], by rw [hU]; exact hP, hD.weaken (fun _ _ => trivial), va_K.moved hW.alike hK, gB.warm hW hB, by rw [hU]; exact ((hZ.kept hS.2.1).narrow (gA_sub hD hS hA)).moved hW.alike⟩⟩
theorem gV_V (hP : gP D vwCl ad w H) (hD : gD A ad w) (hK : va_K D vwCl (gT cA) s) (hB : gB s) (hS : va_S A s.heap H locs) (hA : ∀ q, s.heap.size ≤ q → A q) (hZ : gZ A s s.heap) (r : Nat) {ci : Nat} {q : vw_C} {fs : List Value} (hc : vwCl[ci]? = some q) (he : w r = some (.inr (ci, fs))) : PreV s H q.1 (ad r) (gV D cA ad w H.size (.ref (ad r) :: As)) As :=
  ⟨gV_blind, g_recv hK hP hc he, fun U hU hW => ⟨rfl, by rw [hU], by rw [hU]; exact hP, hD.weaken (fun _ _ => trivial), va_K.moved hW.alike hK, gB.warm hW hB, by rw [hU]; exact ((hZ.kept hS.2.1).narrow (gA_sub hD hS hA)).moved hW.alike⟩⟩
end GPR
section GCALL
variable {p : Program} {l : Launch} {e : Env} {R : Room} {s : State} {m : MethodId} {args : Array Value} {below : List Frame} {meth : Method} {c : Code} {H : Heap} {locs : List Loc} {cells slots : Nat} {Q : State → Prop}
variable {pc : Nat} {ls : Array Slot} {rest st0 : List Value} {a : Array Value} {A0 A1 : Nat → Prop} {H0 : Heap} {mc ms : Nat} {D : va_G}
/-- behind a call that wrote nothing -/
theorem k_call0 {post : Option Value → Prop} (hr : va_Run p l e R s m args below meth c H locs cells slots 0 0 (F0 m pc ls st0) rest (gR0 post a) (fun _ => False))
    (kk : ∀ v : Option Value, post v → W p l e R s m args below meth c H locs cells slots Q (F0 m (pc + 3) ls (v.toList ++ rest))) : W p l e R s m args below meth c H locs cells slots Q (F0 m pc ls st0) := by
  intro T hT X
  obtain ⟨v, st₀, t, T', L, h0, X', hL, e1, e2, ⟨v1, hv, hp, hh⟩, st⟩ := hr T hT X
  cases hv
  obtain ⟨t2, a1, b1⟩ := kk v hp T' (by rw [e1, hh, h0]) (Stand.forget X' (fun q h => (hL q h).elim))
  exact ⟨t2, st t2 a1, b1⟩
theorem k_call1 {post : Option Value → (Nat → Nat) → (Nat → Option va_E) → Prop} (hr : va_Run p l e R s m args below meth c H locs cells slots mc ms (F0 m pc ls st0) rest (gW D post A1 a) A1) (hS : va_S A0 H0 H locs) (hf : ∀ q, A1 q → A0 q)
    (kk : ∀ (v : Option Value) (ad1 : Nat → Nat) (w1 : Nat → Option va_E) (H1 : Heap) (locs1 : List Loc), post v ad1 w1 → gP D vwCl ad1 w1 H1 → gD A0 ad1 w1 → va_S A0 H0 H1 locs1 → W p l e R s m args below meth c H1 locs1 (cells + mc) (slots + ms) Q (F0 m (pc + 3) ls (v.toList ++ rest))) : W p l e R s m args below meth c H locs cells slots Q (F0 m pc ls st0) := by
  intro T hT X
  obtain ⟨v, st₀, t, T', L, h0, X', hL, e1, e2, ⟨⟨v1, ad1, w1, hv, hp, hP, hD⟩, hF⟩, st⟩ := hr T hT X
  cases hv
  obtain ⟨k1, k2, k3⟩ := vx_keep h0 e1 hS (fun q _ h => hf q h) hf hL hF
  obtain ⟨t2, a1, b1⟩ := kk v ad1 w1 T'.heap (locs ++ L) hp (by rw [e1]; exact hP) (hD.weaken hf) k3 T' rfl X'
  exact ⟨t2, st t2 a1, b1⟩
theorem k_callx {post : Option Value → (Nat → Nat) → (Nat → Option va_E) → Prop} {px : String → Prop} {ad : Nat → Nat} {w : Nat → Option va_E} (hr : vx_Run p l e R s m args below meth c H locs cells slots mc ms (F0 m pc ls st0) rest (gW D post A1 a) (gX D px ad w A1) A1) (hS : va_S A0 H0 H locs) (hf : ∀ q, A1 q → A0 q)
    (kx : ∀ (E : String) (ce : Cell) (q9 : Addr) (H1 : Heap) (locs1 : List Loc), px E → gP D vwCl ad w H1 → gD A0 ad w → va_S A0 H0 H1 locs1 → H1[q9]? = some ce → ce.vm = .none → s.vm.findClass E = some ce.cls → vx_W p l e R s m args below meth c H1 locs1 (cells + mc) (slots + ms) Q (F0 m pc ls rest) q9)
    (kk : ∀ (v : Option Value) (ad1 : Nat → Nat) (w1 : Nat → Option va_E) (H1 : Heap) (locs1 : List Loc), post v ad1 w1 → gP D vwCl ad1 w1 H1 → gD A0 ad1 w1 → va_S A0 H0 H1 locs1 → W p l e R s m args below meth c H1 locs1 (cells + mc) (slots + ms) Q (F0 m (pc + 3) ls (v.toList ++ rest))) : W p l e R s m args below meth c H locs cells slots Q (F0 m pc ls st0) := by
  intro T hT X
  rcases hr T hT X with ⟨v, st₀, t, T', L, h0, X', hL, e1, e2, ⟨⟨v1, ad1, w1, hv, hp, hP, hD⟩, hF⟩, st⟩ | ⟨q, st₀, t, T', L, E, ce, h0, X', hL, e1, e2, ⟨hp, hP, hD, hF⟩, hce, hcv, hcl, st⟩
  · cases hv
    obtain ⟨k1, k2, k3⟩ := vx_keep h0 e1 hS (fun q _ h => hf q h) hf hL hF
    obtain ⟨t2, a1, b1⟩ := kk v ad1 w1 T'.heap (locs ++ L) hp (by rw [e1]; exact hP) (hD.weaken hf) k3 T' rfl X'
    exact ⟨t2, st t2 a1, b1⟩
  · obtain ⟨k1, k2, k3⟩ := vx_keep h0 e1 hS (fun q _ h => hf q h) hf hL hF
    obtain ⟨t2, a1, b1⟩ := kx E ce q T'.heap (locs ++ L) hp (by rw [e1]; exact hP) (hD.weaken hf) k3 (by rw [e1]; exact hce) hcv hcl T' rfl X'
    exact ⟨t2, Steps.trans st a1, b1⟩
end GCALL
