/-! THE CLAIM OUT OF ONE WALK OF THE LAW'S BODY. Your part is whole_start (and what it stands on); all else here is the same for every law, but numbers. -/
def R_law : String := "GaugeBookLaw"
def lw_P (b : Addr) (xs : List Int32) (args : Array Value) (s : State) : Prop := args = #[.ref b] ∧ s.IntsAt b xs ∧ xs.length ≤ 2560 ∧ (Jvm.Cond.and given_1 narrow_1).before args s = true
/-- what a walk over the start with the record d0 says of its end, said of the start itself -/
theorem lw_closed {s t : State} {o : Outcome} {d0 : Drawn} {L : List Loc} {k n : Nat} (hd0 : s.drawn.sameBut d0 lw_cs) (hv : ∃ v, o = .returned v) (hW : (s.setDrawn d0).WarmedH t.vm) (hs : (s.setDrawn d0).sameButNew ({ t with vm := s.vm } : State) L k n) : State.butDraws s t lw_cs (fun t1 => Framed s o t1 L k n) := by
  have h2 : t.drawn = d0 := congrArg State.drawn hs.1
  refine ⟨⟨hv, hW, State.sameButNew.setDrawn hs s.drawn⟩, ?_, by decide⟩
  rw [h2]
  exact hd0
def lw_Q (_ : Array Value) (s : State) (o : Outcome) (t : State) : Prop := o = .returned (some (.int 1)) ∧ State.butDraws s t lw_cs (fun t1 => Framed s o t1 [] 601024 7293034)
def lw_Z (below : List Frame) (a : Array Value) (s : State) : State → Prop := fun t => ∃ o, t.status = .running ∧ Ended t below o ∧ lw_Q a s o t
/-- the law's own end, with 1 on the stack, nothing written that was there before, its room as the claim has it; d0: the record of draws at this point (at the entry s.drawn: begin with 'refine W.base ?_' and 'have hd0 := Drawn.sameBut.refl s.drawn lw_cs') -/
theorem lw_ret {p : Program} {l : Launch} {e : Env} {s : State} {m : MethodId} {below : List Frame} {meth : Method} {c : Code} {b : Nat} {d0 : Drawn} (hd0 : s.drawn.sameBut d0 lw_cs) (hx : p.tables.exec = Jvm.exec) (hb : c.code = code) (hr : meth.sig.returnType = ret) (hlocks : meth.locks = false) {pc : Nat} {H : Heap} {ls : Array Slot} (hdg : decode code pc = .ok (.ireturn, 1)) : W p l e room_1 (s.setDrawn d0) m #[Value.ref b] below meth c H [] 601024 7293034 (lw_Z below #[Value.ref b] s) (F0 m pc ls [.int 1]) := by
  intro T hT X
  obtain ⟨fs, hret, hrun, hended, hW, hframe⟩ := X.leave (v := some (.int 1)) (hlocks := hlocks) (fun h => by rw [hr] at h; cases h)
  have hmeth' : T.vm.method? m = some meth := X.method'
  refine ⟨T.setFrames fs, ?_, .returned (some (.int 1)), hrun, hended, rfl, lw_closed hd0 ⟨_, rfl⟩ hW hframe⟩
  jvm_step X.here [X.here.top, hx, hb, hdg, hmeth', hr, ret, narrow_b1]
  (try refine ⟨rfl, ?_⟩); (try refine ⟨rfl, ?_⟩)
  first | (intro acts; rw [hret _ acts rfl rfl rfl]) | rw [hret _ _ rfl rfl rfl]
  exact Steps.refl _
/-- what holds at the law's entry: the machine, the code, the tables' words (any of lw_tbl by 'hts w (by decide +kernel)'), the script of L ints xs at the cell b, what the Statement gives of the start (any of its parts by flat_of_before) -/
def lw_At (p : Program) (s : State) (m : MethodId) (meth : Method) (c : Code) (b L : Nat) (xs : Nat → Int32) : Prop :=
  p.tables.exec = Jvm.exec ∧ c.code = code ∧ meth.sig.returnType = ret ∧ c.maxLocals = 9 ∧ s.vm.findClass R_law = some m.cls ∧ (∀ w ∈ lw_tbl, w.before #[Value.ref b] s = true) ∧ va_X b L xs s s.heap ∧ b < s.heap.size ∧ meth.locks = false ∧ (Jvm.Cond.and given_1 narrow_1).before #[Value.ref b] s = true

theorem lw_ret9 {p : Program} {l : Launch} {e : Env} {s : State} {m : MethodId} {below : List Frame} {meth : Method} {c : Code} {b : Nat} (hx : p.tables.exec = Jvm.exec) (hb : c.code = code) (hr : meth.sig.returnType = ret) (hlocks : meth.locks = false) {pc : Nat} {H : Heap} {ls : Array Slot} (hdg : decode code pc = .ok (.ireturn, 1)) : W p l e room_1 s m #[Value.ref b] below meth c H [] 601024 7293034 (lw_Z below #[Value.ref b] s) (F0 m pc ls [.int (iI 1)]) := by
  rw [← iI_1]
  exact W.base (lw_ret (Drawn.sameBut.refl s.drawn lw_cs) hx hb hr hlocks hdg)

set_option maxHeartbeats 4000000 in
set_option maxRecDepth 100000 in
theorem law_loop {p : Program} {e : Env} {s : State} {m : MethodId} {below : List Frame} {meth : Method} {c : Code} {l : Launch} {D : va_G} {cA : Nat → ClassId} {A : Nat → Prop} {b L : Nat} {xs : Nat → Int32} (C : lwC p l s m c D cA A b L xs) (hr : meth.sig.returnType = ret) (hlocks : meth.locks = false) (hAs : ∀ q, A q → s.heap.size ≤ q) : ∀ (N9 k : Nat), 5 * k ≤ L → L - 5 * k < N9 → ∀ (ad : Nat → Nat) (w : Nat → Option va_E) (sc : Nat → Int) (fn : Nat → Int → Int) (H : Heap) (locs : List Loc) (ls : Array Slot), lwS cA ad w sc fn → gP D vwCl ad w H → gD A ad w → va_S A s.heap H locs → lv_has ls 9 [(0, .ref b), (1, .ref (ad 0)), (2, .ref (ad 200)), (3, .ref (ad 301)), (4, .ref (ad 302)), (5, .int (iI ((5 * k : Nat) : Int)))] → W p l e room_1 s m #[Value.ref b] below meth c H locs (100 + 10 * k) (10000 + 500 * k) (lw_Z below #[Value.ref b] s) (F0 m 28 ls []) := by
  have hC := C
  obtain ⟨hl0, hx, hb, hml, hown, hts, hK, hB, hZ, hA, hX, hbl, hbA, hL⟩ := C
  intro N9
  induction N9 with
  | zero => intro k h1 h2; exact absurd h2 (Nat.not_lt_zero _)
  | succ N9 ih =>
    intro k hk hmu ad w sc fn H locs ls hW hP hD hS hl
    refine lv_iload (pc := 28) hx hb dL_law_28 (lv_at hl 5 rfl) ?_
    refine lv_aload_n (pc := 30) hx hb dL_law_30 rfl (lv_at hl 0 rfl) ?_
    refine k_slen (pc := 31) hx hb hX hbl hbA hS dL_law_31 ?_
    refine k_iconst (pc := 32) hx hb dL_law_32 ?_
    refine k_isub (pc := 33) hx hb dL_law_33 ?_
    refine k_icmp_gt (pc := 34) (tgt := 1716) hx hb ⟨by omega, by omega⟩ ⟨by omega, by omega⟩ dL_law_34 (by decide) (fun hc => ?_) (fun hc => ?_)
    · refine k_iconst (pc := 1716) hx hb dL_law_1716 ?_
      refine va_forget (fun q hq => hAs _ (hS.2.2 q hq)) ?_
      refine W.widen (k := 601024) (n := 7293034) (by omega) (by omega) ?_
      exact lw_ret9 hx hb hr hlocks dL_law_1717
    · have hn : ∀ (ad : Nat → Nat) (w : Nat → Option va_E) (sc : Nat → Int) (fn : Nat → Int → Int) (H : Heap) (locs : List Loc) (ls : Array Slot), lwS cA ad w sc fn → gP D vwCl ad w H → gD A ad w → va_S A s.heap H locs → lv_has ls 9 [(0, .ref b), (1, .ref (ad 0)), (2, .ref (ad 200)), (3, .ref (ad 301)), (4, .ref (ad 302)), (5, .int (iI ((5 * k : Nat) : Int)))] → W p l e room_1 s m #[Value.ref b] below meth c H locs (100 + 10 * k + 10) (10000 + 500 * k + 500) (lw_Z below #[Value.ref b] s) (F0 m 1710 ls []) := by
        intro ad w sc fn H locs ls hW hP hD hS hl
        refine lv_iinc (pc := 1710) (v := iI (((5 * k : Nat) : Int) + 5)) (lv' := [(5, .int (iI (((5 * k : Nat) : Int) + 5))), (0, .ref b), (1, .ref (ad 0)), (2, .ref (ad 200)), (3, .ref (ad 301)), (4, .ref (ad 302))]) hx hb dL_law_1710 hl (k := 5) rfl (iI_add _ _) (by decide) rfl (fun ls hl => ?_)
        refine lv_goto (pc := 1713) (tgt := 28) hx hb dL_law_1713 (by decide) ?_
        rw [show ((5 * k : Nat) : Int) + 5 = ((5 * (k + 1) : Nat) : Int) by omega] at hl
        refine W.widen (k := 100 + 10 * (k + 1)) (n := 10000 + 500 * (k + 1)) (by omega) (by omega) ?_
        exact ih (k + 1) (by omega) (by omega) ad w sc fn H locs ls hW hP hD hS (lv_sub hl [1, 2, 3, 4, 5, 0] rfl)
      have hi : 0 ≤ ((5 * k : Nat) : Int) ∧ ((5 * k : Nat) : Int) + 5 ≤ L := ⟨by omega, by omega⟩
      have hnc : 100 + 10 * k + 10 ≤ room_1.cells ∧ 10000 + 500 * k + 500 ≤ room_1.slots := ⟨show 100 + 10 * k + 10 ≤ 601024 by omega, show 10000 + 500 * k + 500 ≤ 7293034 by omega⟩
      refine lv_aload_n (pc := 37) hx hb dL_law_37 rfl (lv_at hl 0 rfl) ?_
      refine lv_iload (pc := 38) hx hb dL_law_38 (lv_at hl 5 rfl) ?_
      refine k_sld (pc := 40) hx hb hX hbl hbA hS (i := ((5 * k : Nat) : Int)) (by omega) (by omega) hL dL_law_40 ?_
      refine W.eq (g2 := F0 m 41 ls [.int (iI (sV xs ((5 * k : Nat) : Int)))]) rfl ?_
      refine k_bipush (pc := 41) hx hb dL_law_41 (by decide +kernel) ?_
      refine k_iand (pc := 43) hx hb dL_law_43 ?_
      rcases (show iAnd (sV xs ((5 * k : Nat) : Int)) 31 = 0 ∨ iAnd (sV xs ((5 * k : Nat) : Int)) 31 = 1 ∨ iAnd (sV xs ((5 * k : Nat) : Int)) 31 = 2 ∨ iAnd (sV xs ((5 * k : Nat) : Int)) 31 = 3 ∨ iAnd (sV xs ((5 * k : Nat) : Int)) 31 = 4 ∨ iAnd (sV xs ((5 * k : Nat) : Int)) 31 = 5 ∨ iAnd (sV xs ((5 * k : Nat) : Int)) 31 = 6 ∨ iAnd (sV xs ((5 * k : Nat) : Int)) 31 = 7 ∨ iAnd (sV xs ((5 * k : Nat) : Int)) 31 = 8 ∨ iAnd (sV xs ((5 * k : Nat) : Int)) 31 = 9 ∨ iAnd (sV xs ((5 * k : Nat) : Int)) 31 = 10 ∨ iAnd (sV xs ((5 * k : Nat) : Int)) 31 = 11 ∨ iAnd (sV xs ((5 * k : Nat) : Int)) 31 = 12 ∨ iAnd (sV xs ((5 * k : Nat) : Int)) 31 = 13 ∨ iAnd (sV xs ((5 * k : Nat) : Int)) 31 = 14 ∨ iAnd (sV xs ((5 * k : Nat) : Int)) 31 = 15 ∨ iAnd (sV xs ((5 * k : Nat) : Int)) 31 = 16 ∨ iAnd (sV xs ((5 * k : Nat) : Int)) 31 = 17 ∨ iAnd (sV xs ((5 * k : Nat) : Int)) 31 = 18 ∨ iAnd (sV xs ((5 * k : Nat) : Int)) 31 = 19 ∨ iAnd (sV xs ((5 * k : Nat) : Int)) 31 = 20 ∨ iAnd (sV xs ((5 * k : Nat) : Int)) 31 = 21 ∨ iAnd (sV xs ((5 * k : Nat) : Int)) 31 = 22 ∨ (iAnd (sV xs ((5 * k : Nat) : Int)) 31 < 0 ∨ 22 < iAnd (sV xs ((5 * k : Nat) : Int)) 31) by omega) with hz | hz | hz | hz | hz | hz | hz | hz | hz | hz | hz | hz | hz | hz | hz | hz | hz | hz | hz | hz | hz | hz | hz | hz
      · refine k_tab (pc := 44) (v := 0) (tgt := 152) hx hb hz (by decide) (by decide) (by decide) rfl dL_law_44 (by decide) ?_
        exact lc_addCurve hC _ _ hi _ _ hnc hn ad w sc fn H locs ls hW hP hD hS hl
      · refine k_tab (pc := 44) (v := 1) (tgt := 208) hx hb hz (by decide) (by decide) (by decide) rfl dL_law_44 (by decide) ?_
        exact lc_addPoint hC _ _ hi _ _ hnc hn ad w sc fn H locs ls hW hP hD hS hl
      · refine k_tab (pc := 44) (v := 2) (tgt := 288) hx hb hz (by decide) (by decide) (by decide) rfl dL_law_44 (by decide) ?_
        exact lc_flowBy hC _ _ hi _ _ hnc hn ad w sc fn H locs ls hW hP hD hS hl
      · refine k_tab (pc := 44) (v := 3) (tgt := 355) hx hb hz (by decide) (by decide) (by decide) rfl dL_law_44 (by decide) ?_
        exact lc_stageBy hC _ _ hi _ _ hnc hn ad w sc fn H locs ls hW hP hD hS hl
      · refine k_tab (pc := 44) (v := 4) (tgt := 423) hx hb hz (by decide) (by decide) (by decide) rfl dL_law_44 (by decide) ?_
        exact lc_curveOf hC _ _ hi _ _ hnc hn ad w sc fn H locs ls hW hP hD hS hl
      · refine k_tab (pc := 44) (v := 5) (tgt := 479) hx hb hz (by decide) (by decide) (by decide) rfl dL_law_44 (by decide) ?_
        exact lc_setShift hC _ _ hi _ _ hnc hn ad w sc fn H locs ls hW hP hD hS hl
      · refine k_tab (pc := 44) (v := 6) (tgt := 547) hx hb hz (by decide) (by decide) (by decide) rfl dL_law_44 (by decide) ?_
        exact lc_shift hC _ _ hi _ _ hnc hn ad w sc fn H locs ls hW hP hD hS hl
      · refine k_tab (pc := 44) (v := 7) (tgt := 603) hx hb hz (by decide) (by decide) (by decide) rfl dL_law_44 (by decide) ?_
        exact lc_read hC _ _ hi _ _ hnc hn ad w sc fn H locs ls hW hP hD hS hl
      · refine k_tab (pc := 44) (v := 8) (tgt := 695) hx hb hz (by decide) (by decide) (by decide) rfl dL_law_44 (by decide) ?_
        exact lc_erase hC _ _ hi _ _ hnc hn ad w sc fn H locs ls hW hP hD hS hl
      · refine k_tab (pc := 44) (v := 9) (tgt := 763) hx hb hz (by decide) (by decide) (by decide) rfl dL_law_44 (by decide) ?_
        exact lc_freeze hC _ _ hi _ _ hnc hn ad w sc fn H locs ls hW hP hD hS hl
      · refine k_tab (pc := 44) (v := 10) (tgt := 859) hx hb hz (by decide) (by decide) (by decide) rfl dL_law_44 (by decide) ?_
        exact lc_setRules hC _ _ hi _ _ hnc hn ad w sc fn H locs ls hW hP hD hS hl
      · refine k_tab (pc := 44) (v := 11) (tgt := 927) hx hb hz (by decide) (by decide) (by decide) rfl dL_law_44 (by decide) ?_
        exact lc_state hC _ _ hi _ _ hnc hn ad w sc fn H locs ls hW hP hD hS hl
      · refine k_tab (pc := 44) (v := 12) (tgt := 983) hx hb hz (by decide) (by decide) (by decide) rfl dL_law_44 (by decide) ?_
        exact lc_flow hC _ _ hi _ _ hnc hn ad w sc fn H locs ls hW hP hD hS hl
      · refine k_tab (pc := 44) (v := 13) (tgt := 1038) hx hb hz (by decide) (by decide) (by decide) rfl dL_law_44 (by decide) ?_
        exact lc_sum hC _ _ hi _ _ hnc hn ad w sc fn H locs ls hW hP hD hS hl
      · refine k_tab (pc := 44) (v := 14) (tgt := 1117) hx hb hz (by decide) (by decide) (by decide) rfl dL_law_44 (by decide) ?_
        exact lc_mean hC _ _ hi _ _ hnc hn ad w sc fn H locs ls hW hP hD hS hl
      · refine k_tab (pc := 44) (v := 15) (tgt := 1206) hx hb hz (by decide) (by decide) (by decide) rfl dL_law_44 (by decide) ?_
        exact lc_reached hC _ _ hi _ _ hnc hn ad w sc fn H locs ls hW hP hD hS hl
      · refine k_tab (pc := 44) (v := 16) (tgt := 1261) hx hb hz (by decide) (by decide) (by decide) rfl dL_law_44 (by decide) ?_
        exact lc_peaks hC _ _ hi _ _ hnc hn ad w sc fn H locs ls hW hP hD hS hl
      · refine k_tab (pc := 44) (v := 17) (tgt := 1361) hx hb hz (by decide) (by decide) (by decide) rfl dL_law_44 (by decide) ?_
        exact lc_spell hC _ _ hi _ _ hnc hn ad w sc fn H locs ls hW hP hD hS hl
      · refine k_tab (pc := 44) (v := 18) (tgt := 1449) hx hb hz (by decide) (by decide) (by decide) rfl dL_law_44 (by decide) ?_
        exact lc_measure hC _ _ hi _ _ hnc hn ad w sc fn H locs ls hW hP hD hS hl
      · refine k_tab (pc := 44) (v := 19) (tgt := 1529) hx hb hz (by decide) (by decide) (by decide) rfl dL_law_44 (by decide) ?_
        exact lc_deviation hC _ _ hi _ _ hnc hn ad w sc fn H locs ls hW hP hD hS hl
      · refine k_tab (pc := 44) (v := 20) (tgt := 1584) hx hb hz (by decide) (by decide) (by decide) rfl dL_law_44 (by decide) ?_
        exact lc_wouldShift hC _ _ hi _ _ hnc hn ad w sc fn H locs ls hW hP hD hS hl
      · refine k_tab (pc := 44) (v := 21) (tgt := 1640) hx hb hz (by decide) (by decide) (by decide) rfl dL_law_44 (by decide) ?_
        exact lc_count hC _ _ hi _ _ hnc hn ad w sc fn H locs ls hW hP hD hS hl
      · refine k_tab (pc := 44) (v := 22) (tgt := 1696) hx hb hz (by decide) (by decide) (by decide) rfl dL_law_44 (by decide) ?_
        exact lc_digest hC _ _ hi _ _ hnc hn ad w sc fn H locs ls hW hP hD hS hl
      · refine k_tabOut (pc := 44) (tgt := 1710) hx hb (iAnd_r _ _) hz dL_law_44 (by decide) ?_
        refine W.widen (k := 100 + 10 * k + 10) (n := 10000 + 500 * k + 500) (by omega) (by omega) ?_
        exact hn ad w sc fn H locs ls hW hP hD hS hl

set_option maxHeartbeats 4000000 in
set_option maxRecDepth 100000 in
theorem whole_start {p : Program} {e : Env} {s : State} {m : MethodId} {below : List Frame} {meth : Method} {c : Code} (l : Launch) (hflags : l.flags = flags0) {b L : Nat} {xs : Nat → Int32} (hL : L ≤ 2560) (C0 : lw_At p s m meth c b L xs) : W p l e room_1 s m #[Value.ref b] below meth c s.heap [] 0 0 (lw_Z below #[Value.ref b] s) (entryFrame m ([Value.ref b] : List Value).toArray 9) := by
  obtain ⟨hx, hb, hr, hml, hown0, hts0, hX, hbl, hlocks, hgv⟩ := C0
  have hb : c.code = cL_law := hb
  have hown : s.vm.findClass RL = some m.cls := hown0
  have hts : ∀ w ∈ wsL_law, w.before #[Value.ref b] s = true := fun w h => hts0 w (wsL_law_in w h)
  have hl0 : l.stackTraces = false := by unfold Launch.stackTraces; rw [hflags]; decide +kernel
  obtain ⟨D, cA, hK⟩ := ws_K hts0
  have hB : gB s := ws_B (hK.1 5 _ rfl).2.1 hts0 hgv
  have hZ0 := ws_Z hts0 hgv
  obtain ⟨A, hAe⟩ : ∃ A : Nat → Prop, A = fun q : Nat => s.heap.size ≤ q := ⟨_, rfl⟩
  have hZ : gZ A s s.heap := by rw [hAe]; exact hZ0
  have hA : ∀ q, s.heap.size ≤ q → A q := fun q h => by rw [hAe]; exact h
  have hAs : ∀ q, A q → s.heap.size ≤ q := fun q h => by rw [hAe] at h; exact h
  have hbA : ¬ A b := fun h => absurd (hAs b h) (Nat.not_le.mpr hbl)
  have C9 : lwC p l s m c D cA A b L xs := ⟨hl0, hx, hb, hml, hown, hts, hK, hB, hZ, hA, hX, hbl, hbA, hL⟩
  have hi5 := inlX5
  have hi6 := inlX6
  obtain ⟨w, hw9⟩ : ∃ w : Nat → Option va_E, w = fun _ => none := ⟨_, rfl⟩
  obtain ⟨ad, had9⟩ : ∃ ad : Nat → Nat, ad = fun _ => 0 := ⟨_, rfl⟩
  obtain ⟨H, hHe⟩ : ∃ H : Heap, H = s.heap := ⟨_, rfl⟩
  obtain ⟨locs, hLe⟩ : ∃ z : List Loc, z = [] := ⟨_, rfl⟩
  rw [← hHe, ← hLe]
  have hP : gP D vwCl ad w H := fun r x h => by rw [hw9] at h; exact absurd h (by simp)
  have hD : gD A ad w := ⟨fun a _ h => absurd (by rw [hw9]) h, fun a h => absurd (by rw [hw9]) h⟩
  have hS : va_S A s.heap H locs := by rw [hHe, hLe]; exact va_S.rf
  have hl := lv_entry ([.ref b]) (n := 9) (Nat.le_of_ble_eq_true rfl)
  rw [lg_entry_eq]
  generalize (lg_sl ([.ref b]) ++ List.replicate (9 - (lg_sl ([.ref b])).length) Slot.unset).toArray = ls at hl ⊢
  have hl : lv_has ls 9 [(0, .ref b)] := hl
  refine k_new (pc := 0) (own := RL) (C := RX5) (T := TX5) (N := 13) (ci := 5) hx hb hts hi5 tyX5 tyX5_ok hown (hts (.classLink RL 8 RX5) (by decide +kernel)) (hts (.instantiable RX5 13) (by decide +kernel)) (hts (.initialized RX5) (by decide +kernel)) hK hP hD hS hA rfl 0 (fs := [.null, .null, .null, .null, .null, .null, .null, .null, .int (iI 0), .int (iI 0), .int (iI 0), .int (iI 0), .int (iI 0)]) (by intro j hj; rcases j with _ | _ | _ | _ | _ | _ | _ | _ | _ | _ | _ | _ | _ | j <;> first | rfl | omega) (Nat.le_of_ble_eq_true rfl) (Nat.le_of_ble_eq_true rfl) dL_law_0 (fun q_0 H hP hD hS => ?_)
  obtain ⟨ad_0, hga_0⟩ : ∃ z9 : Nat → Nat, adN ad 0 q_0 = z9 := ⟨_, rfl⟩
  rw [hga_0] at hP hD
  have hnn_0 : ∀ j9 : Nat, j9 ≠ 0 → ad j9 = ad_0 j9 := fun j9 h9_ => by rw [← hga_0, adN_n _ _ h9_]
  rw [show q_0 = ad_0 0 by rw [← hga_0, adN_s]]
  refine W.eq (g2 := F0 m 3 ls [.ref (ad_0 0)]) rfl ?_
  refine W.cs (cells' := 1) (slots' := 13) rfl rfl ?_
  refine lv_dup (pc := 3) hx hb dL_law_3 rfl ?_
  refine k_call1 (pc := 4) (va_runI (As := []) (rest := [.ref (ad_0 0)]) ⟨hx, hb, hml, hown, hts⟩ (c_X5_init l D cA ad_0 (up w 0 (oB 5 [.null, .null, .null, .null, .null, .null, .null, .null, .int (iI 0), .int (iI 0), .int (iI 0), .int (iI 0), .int (iI 0)])) H.size (up_s _ _ _)) (cwI 0 hts gL_law_X5_init rfl rfl rfl (hts (.initialized RX5) (by decide +kernel)) (hts (.methodLink RL 92 yX5_init) (by decide +kernel)) (hts (.instanceMethod yX5_init) (by decide +kernel)) rfl (by decide +kernel) ⟨Nat.le_of_ble_eq_true rfl, Nat.le_of_ble_eq_true rfl⟩) (gV_S hP hD hK hB hS hA hZ) rfl rfl hl.1 rfl (lv_room (Nat.le_of_ble_eq_true rfl)) dL_law_4 ⟨Nat.le_of_ble_eq_true rfl, Nat.le_of_ble_eq_true rfl⟩) hS (gA_sub hD hS hA) (fun v_4 ad_4 w_4 H locs hv_4 hP hD hS => ?_)
  obtain ⟨hb1, hk1, hvn⟩ := hv_4
  subst hvn
  rw [← hk1.1]
  refine W.eq (g2 := F0 m 7 ls [.ref (ad_4 0)]) rfl ?_
  refine W.cs (cells' := 17) (slots' := 4313) rfl rfl ?_
  refine lv_astore_n (pc := 7) (lv' := [(1, .ref (ad_4 0)), (0, .ref b)]) hx hb dL_law_7 rfl hl (by decide) rfl (fun ls hl => ?_)
  refine k_new (pc := 8) (own := RL) (C := RX6) (T := TX6) (N := 19) (ci := 6) hx hb hts hi6 tyX6 tyX6_ok hown (hts (.classLink RL 93 RX6) (by decide +kernel)) (hts (.instantiable RX6 19) (by decide +kernel)) (hts (.initialized RX6) (by decide +kernel)) hK hP hD hS hA rfl 200 (fs := [.int (iI 0), .int (iI 0), .null, .null, .null, .null, .int (iI 0), .null, .null, .null, .null, .null, .int (iI 0), .int (iI 0), .int (iI 0), .null, .int (iI 0), .null, .null]) (by intro j hj; rcases j with _ | _ | _ | _ | _ | _ | _ | _ | _ | _ | _ | _ | _ | _ | _ | _ | _ | _ | _ | j <;> first | rfl | omega) (Nat.le_of_ble_eq_true rfl) (Nat.le_of_ble_eq_true rfl) dL_law_8 (fun q_8 H hP hD hS => ?_)
  obtain ⟨ad_8, hga_8⟩ : ∃ z9 : Nat → Nat, adN ad_4 200 q_8 = z9 := ⟨_, rfl⟩
  rw [hga_8] at hP hD
  have hnn_8 : ∀ j9 : Nat, j9 ≠ 200 → ad_4 j9 = ad_8 j9 := fun j9 h9_ => by rw [← hga_8, adN_n _ _ h9_]
  rw [show q_8 = ad_8 200 by rw [← hga_8, adN_s]]
  rw [hnn_8 0 (by omega)] at hl
  refine W.eq (g2 := F0 m 11 ls [.ref (ad_8 200)]) rfl ?_
  refine W.cs (cells' := 18) (slots' := 4332) rfl rfl ?_
  refine lv_dup (pc := 11) hx hb dL_law_11 rfl ?_
  refine k_call1 (pc := 12) (va_runI (As := []) (rest := [.ref (ad_8 200)]) ⟨hx, hb, hml, hown, hts⟩ (c_X6_init l D cA ad_8 (up w_4 200 (oB 6 [.int (iI 0), .int (iI 0), .null, .null, .null, .null, .int (iI 0), .null, .null, .null, .null, .null, .int (iI 0), .int (iI 0), .int (iI 0), .null, .int (iI 0), .null, .null])) H.size (up_s _ _ _)) (cwI 0 hts gL_law_X6_init rfl rfl rfl (hts (.initialized RX6) (by decide +kernel)) (hts (.methodLink RL 95 yX6_init) (by decide +kernel)) (hts (.instanceMethod yX6_init) (by decide +kernel)) rfl (by decide +kernel) ⟨Nat.le_of_ble_eq_true rfl, Nat.le_of_ble_eq_true rfl⟩) (gV_S hP hD hK hB hS hA hZ) rfl rfl hl.1 rfl (lv_room (Nat.le_of_ble_eq_true rfl)) dL_law_12 ⟨Nat.le_of_ble_eq_true rfl, Nat.le_of_ble_eq_true rfl⟩) hS (gA_sub hD hS hA) (fun v_12 ad_12 w_12 H locs hv_12 hP hD hS => ?_)
  obtain ⟨hm1, hk2, hvn2⟩ := hv_12
  subst hvn2
  rw [← hk2.1]
  rw [← (hk2.2 0 (by omega)).2] at hl
  have hb2 : bookS cA ad_12 w_12 sc00 fn00 := bookS_of inv_00 (fun r h => ⟨(hk2.2 r (Or.inl h)).1.trans (up_n (by omega) rfl), (hk2.2 r (Or.inl h)).2.trans (hnn_8 r (by omega)).symm⟩) hb1
  refine W.eq (g2 := F0 m 15 ls [.ref (ad_12 200)]) rfl ?_
  refine W.cs (cells' := 30) (slots' := 7808) rfl rfl ?_
  refine lv_astore_n (pc := 15) (lv' := [(2, .ref (ad_12 200)), (1, .ref (ad_12 0)), (0, .ref b)]) hx hb dL_law_15 rfl hl (by decide) rfl (fun ls hl => ?_)
  refine k_iconst (pc := 16) hx hb dL_law_16 ?_
  refine k_newJ (pc := 17) hx hb (hts (.arrayClass .long) (by decide +kernel)) hK hP hD hS hA 301 2 rfl 1 rfl (by decide) (Nat.le_of_ble_eq_true rfl) (Nat.le_of_ble_eq_true rfl) dL_law_17 (fun q_17 H hP hD hS => ?_)
  obtain ⟨ad_17, hga_17⟩ : ∃ z9 : Nat → Nat, adN ad_12 301 q_17 = z9 := ⟨_, rfl⟩
  rw [hga_17] at hP hD
  have hnn_17 : ∀ j9 : Nat, j9 ≠ 301 → ad_12 j9 = ad_17 j9 := fun j9 h9_ => by rw [← hga_17, adN_n _ _ h9_]
  rw [show q_17 = ad_17 301 by rw [← hga_17, adN_s]]
  rw [hnn_17 200 (by omega)] at hl
  rw [hnn_17 0 (by omega)] at hl
  refine W.eq (g2 := F0 m 19 ls [.ref (ad_17 301)]) rfl ?_
  refine W.cs (cells' := 31) (slots' := 7809) rfl rfl ?_
  refine lv_astore_n (pc := 19) (lv' := [(3, .ref (ad_17 301)), (2, .ref (ad_17 200)), (1, .ref (ad_17 0)), (0, .ref b)]) hx hb dL_law_19 rfl hl (by decide) rfl (fun ls hl => ?_)
  refine k_iconst (pc := 20) hx hb dL_law_20 ?_
  refine k_newD (pc := 21) hx hb (hts (.arrayClass .double) (by decide +kernel)) hK hP hD hS hA 302 3 rfl 1 rfl (by decide) (Nat.le_of_ble_eq_true rfl) (Nat.le_of_ble_eq_true rfl) dL_law_21 (fun q_21 H hPD hS => ?_)
  obtain ⟨gg, hP, hD⟩ := hPD
  obtain ⟨ad_21, hga_21⟩ : ∃ z9 : Nat → Nat, adN ad_17 302 q_21 = z9 := ⟨_, rfl⟩
  rw [hga_21] at hP hD
  have hnn_21 : ∀ j9 : Nat, j9 ≠ 302 → ad_17 j9 = ad_21 j9 := fun j9 h9_ => by rw [← hga_21, adN_n _ _ h9_]
  rw [show q_21 = ad_21 302 by rw [← hga_21, adN_s]]
  rw [hnn_21 301 (by omega)] at hl
  rw [hnn_21 200 (by omega)] at hl
  rw [hnn_21 0 (by omega)] at hl
  refine W.eq (g2 := F0 m 23 ls [.ref (ad_21 302)]) rfl ?_
  refine W.cs (cells' := 32) (slots' := 7810) rfl rfl ?_
  refine lv_astore (pc := 23) (lv' := [(4, .ref (ad_21 302)), (3, .ref (ad_21 301)), (2, .ref (ad_21 200)), (1, .ref (ad_21 0)), (0, .ref b)]) hx hb dL_law_23 hl (by decide) rfl (fun ls hl => ?_)
  refine k_iconst (pc := 25) hx hb dL_law_25 ?_
  refine lv_istore (pc := 26) (lv' := [(5, .int (iI 0)), (4, .ref (ad_21 302)), (3, .ref (ad_21 301)), (2, .ref (ad_21 200)), (1, .ref (ad_21 0)), (0, .ref b)]) hx hb dL_law_26 hl (by decide) rfl (fun ls hl => ?_)
  have hbF : bookS cA ad_21 (up (up w_12 301 (eJ (cA 2) 1 (fun _ => 0))) 302 (eD (cA 3) 1 gg)) sc00 fn00 := bookS_of inv_00 (fun r h => ⟨up_n (by omega) (up_n (by omega) rfl), (show ad_21 r = ad_12 r by rw [← hnn_21 r (by omega), ← hnn_17 r (by omega)])⟩) hb2
  have hmF : mdS cA ad_21 (up (up w_12 301 (eJ (cA 2) 1 (fun _ => 0))) 302 (eD (cA 3) 1 gg)) 0 sc00 fn00 := mdS_of (fun r h1 h2 => ⟨up_n (by omega) (up_n (by omega) rfl), (show ad_21 r = ad_12 r by rw [← hnn_21 r (by omega), ← hnn_17 r (by omega)])⟩) hm1
  refine W.widen (k := 100 + 10 * 0) (n := 10000 + 500 * 0) (by decide) (by decide) ?_
  exact law_loop C9 hr hlocks hAs (L + 1) 0 (by omega) (by omega) ad_21 (up (up w_12 301 (eJ (cA 2) 1 (fun _ => 0))) 302 (eD (cA 3) 1 gg)) sc00 fn00 H locs ls ⟨hbF, inv_00, ⟨0, hmF⟩, ⟨_, (up_n (by decide) (up_s _ _ _))⟩, ⟨_, (up_s _ _ _)⟩⟩ hP hD hS (lv_sub hl [5, 4, 3, 2, 1, 0] rfl)
