theorem ws_Ml {s : State} {args : Array Value} (hts : ∀ w ∈ lw_tbl, w.before args s = true) : ∀ q ∈ gMl, va_Nw (.methodLinkNest q.1 q.2.1 q.2.2.1 q.2.2.2) s := (List.forall_mem_cons.mpr ⟨va_Nw.of rfl (hts (.methodLinkNest RX0 25 yX5_countLower RX5) (by decide +kernel)), (List.forall_mem_cons.mpr ⟨va_Nw.of rfl (hts (.methodLinkNest RX0 33 yX5_insertInto RX5) (by decide +kernel)), (List.forall_mem_cons.mpr ⟨va_Nw.of rfl (hts (.methodLinkNest RX0 46 yX5_interpolate RX5) (by decide +kernel)), (List.forall_mem_cons.mpr ⟨va_Nw.of rfl (hts (.methodLinkNest RX1 37 yX5_interpolate RX5) (by decide +kernel)), (List.forall_mem_cons.mpr ⟨va_Nw.of rfl (hts (.methodLinkNest RX4 20 yX5_countLower RX5) (by decide +kernel)), (List.forall_mem_cons.mpr ⟨va_Nw.of rfl (hts (.methodLinkNest RX4 26 yX5_interpolate RX5) (by decide +kernel)), (List.forall_mem_cons.mpr ⟨va_Nw.of rfl (hts (.methodLinkNest RX4 30 yX5_insertInto RX5) (by decide +kernel)), (fun _ h => absurd h List.not_mem_nil)⟩)⟩)⟩)⟩)⟩)⟩)⟩)
theorem ws_Fl {s : State} {args : Array Value} (hts : ∀ w ∈ lw_tbl, w.before args s = true) : ∀ q ∈ gFl, va_Nw (.fieldLinkNest q.1 q.2.1 q.2.2.1 q.2.2.2.1 q.2.2.2.2.1 q.2.2.2.2.2) s := (List.forall_mem_cons.mpr ⟨va_Nw.of rfl (hts (.fieldLinkNest RX5 269 RX0 "firstDay" "I" RX5) (by decide +kernel)), (fun _ h => absurd h List.not_mem_nil)⟩)
theorem ws_Ca {s : State} {args : Array Value} (hts : ∀ w ∈ lw_tbl, w.before args s = true) : ∀ q ∈ gCa, va_Nw (.castable q.1 q.2) s := (List.forall_mem_cons.mpr ⟨va_Nw.of rfl (hts (.castable xIA xIA) (by decide +kernel)), (List.forall_mem_cons.mpr ⟨va_Nw.of rfl (hts (.castable xIS xIS) (by decide +kernel)), (List.forall_mem_cons.mpr ⟨va_Nw.of rfl (hts (.castable xIX xIX) (by decide +kernel)), (fun _ h => absurd h List.not_mem_nil)⟩)⟩)⟩)
theorem ws_De {s : State} {args : Array Value} (hts : ∀ w ∈ lw_tbl, w.before args s = true) : ∀ q ∈ gDe, va_Nw (.declares q) s := (List.forall_mem_cons.mpr ⟨va_Nw.of rfl (hts (.declares (Bundle.initS "java/lang/RuntimeException")) (by decide +kernel)), (List.forall_mem_cons.mpr ⟨va_Nw.of rfl (hts (.declares (Bundle.initS "java/lang/Exception")) (by decide +kernel)), (List.forall_mem_cons.mpr ⟨va_Nw.of rfl (hts (.declares (Bundle.initS Bundle.tN)) (by decide +kernel)), (fun _ h => absurd h List.not_mem_nil)⟩)⟩)⟩)
theorem ws_Nc {s : State} : ∀ q ∈ gNc, va_Nc q.1 q.2 s := fun _ h => absurd h List.not_mem_nil
theorem ws_str {s : State} {args : Array Value} {own : String} {cur k : Nat} {tx : String} (hcur : s.vm.findClass own = some cur) (h : (Cond.stringRef own k tx).before args s = true) : ∃ a, vk_R own k tx a s := by
  obtain ⟨k1, cf, i, a, -, -, -, -, -, h2⟩ := Cond.stringRef_spec hcur h
  exact ⟨a, vk_R.of h h2⟩
theorem ws_Str {s : State} {args : Array Value} {cur : Nat} (hcur : s.vm.findClass RX5 = some cur) (hts : ∀ w ∈ lw_tbl, w.before args s = true) : ∀ q ∈ gStr, ∃ a, vk_R q.1 q.2.1 q.2.2 a s := (List.forall_mem_cons.mpr ⟨ws_str hcur (hts (.stringRef RX5 106 "the curve cannot take this point") (by decide +kernel)), (List.forall_mem_cons.mpr ⟨ws_str hcur (hts (.stringRef RX5 114 "stage is not -2000 to 4000") (by decide +kernel)), (List.forall_mem_cons.mpr ⟨ws_str hcur (hts (.stringRef RX5 121 "the curve is not complete") (by decide +kernel)), (List.forall_mem_cons.mpr ⟨ws_str hcur (hts (.stringRef RX5 134 "shift is not -200 to 200") (by decide +kernel)), (List.forall_mem_cons.mpr ⟨ws_str hcur (hts (.stringRef RX5 142 "there are 20 shifts, and none for this day") (by decide +kernel)), (List.forall_mem_cons.mpr ⟨ws_str hcur (hts (.stringRef RX5 152 "factor is not 0 to 100") (by decide +kernel)), (List.forall_mem_cons.mpr ⟨ws_str hcur (hts (.stringRef RX5 154 "limit is not 0 to 60") (by decide +kernel)), (List.forall_mem_cons.mpr ⟨ws_str hcur (hts (.stringRef RX5 165 "what is not 0 to 4") (by decide +kernel)), (List.forall_mem_cons.mpr ⟨ws_str hcur (hts (.stringRef RX5 184 "percent is not 1 to 100") (by decide +kernel)), (List.forall_mem_cons.mpr ⟨ws_str hcur (hts (.stringRef RX5 202 "apart is not 1 to 100") (by decide +kernel)), (List.forall_mem_cons.mpr ⟨ws_str hcur (hts (.stringRef RX5 250 "day is not 0 to 399") (by decide +kernel)), (List.forall_mem_cons.mpr ⟨ws_str hcur (hts (.stringRef RX5 252 "days is not 1 to 400") (by decide +kernel)), (List.forall_mem_cons.mpr ⟨ws_str hcur (hts (.stringRef RX5 254 "the last day is greater than 399") (by decide +kernel)), (List.forall_mem_cons.mpr ⟨ws_str hcur (hts (.stringRef RX5 256 "from and to are not days in their order") (by decide +kernel)), (List.forall_mem_cons.mpr ⟨ws_str hcur (hts (.stringRef RX5 262 "stage is not -500 to 2000") (by decide +kernel)), (List.forall_mem_cons.mpr ⟨ws_str hcur (hts (.stringRef RX5 265 "flow is not 0 to 1000000") (by decide +kernel)), (List.forall_mem_cons.mpr ⟨ws_str hcur (hts (.stringRef RX5 267 "limit is less than 0") (by decide +kernel)), (List.forall_mem_cons.mpr ⟨ws_str hcur (hts (.stringRef RX5 69 "there are 6 curves") (by decide +kernel)), (List.forall_mem_cons.mpr ⟨ws_str hcur (hts (.stringRef RX5 78 "a curve holds from this day on") (by decide +kernel)), (List.forall_mem_cons.mpr ⟨ws_str hcur (hts (.stringRef RX5 92 "no such curve") (by decide +kernel)), (fun _ h => absurd h List.not_mem_nil)⟩)⟩)⟩)⟩)⟩)⟩)⟩)⟩)⟩)⟩)⟩)⟩)⟩)⟩)⟩)⟩)⟩)⟩)⟩)⟩)
theorem ws_B {s : State} {args : Array Value} {cur : Nat} (hcur : s.vm.findClass RX5 = some cur) (hts : ∀ w ∈ lw_tbl, w.before args s = true) : gB s :=
  ⟨ws_Ml hts, ws_Fl hts, ws_Ca hts, ws_Nc, ws_Str hcur hts, ws_De hts, va_AO.of (hts (.arrayOver (.object RX0)) (by decide +kernel)), va_AO.of (hts (.arrayOver (.object RX2)) (by decide +kernel)), va_AOA.of (hts (.arrayOver (.array .int)) (by decide +kernel))⟩
theorem ws_Z {s : State} {args : Array Value} (hts : ∀ w ∈ lw_tbl, w.before args s = true) (hgv : (Jvm.Cond.and given_1 narrow_1).before args s = true) : gZ (fun q : Nat => s.heap.size ≤ q) s s.heap :=
  ⟨vx_Zqof (hts (.laysStatic Bundle.tN "UNASSIGNED_STACK" Bundle.steD) (by decide +kernel)) (hts (.initialized Bundle.tN) (by decide +kernel)) (flat_of_before _ hgv (.isRef (.static Bundle.tN "UNASSIGNED_STACK" Bundle.steD)) (by decide +kernel)) (fun a h => Nat.not_le.mpr h),
   vx_Zqof (hts (.laysStatic Bundle.tN "SUPPRESSED_SENTINEL" Bundle.listD) (by decide +kernel)) (hts (.initialized Bundle.tN) (by decide +kernel)) (flat_of_before _ hgv (.isRef (.static Bundle.tN "SUPPRESSED_SENTINEL" Bundle.listD)) (by decide +kernel)) (fun a h => Nat.not_le.mpr h)⟩
theorem ws_arr {s : State} {args : Array Value} {ty : FieldType} (h : (Cond.arrayClass ty).before args s = true) : ∃ cA : ClassId, ArrOfT s cA ty ∧ s.vm.findClass ("[" ++ ty.toString) = some cA := by
  obtain ⟨cA, kA, comp, h1, h2, h3⟩ := Cond.arrayClass_spec h
  exact ⟨cA, fun n z => ⟨fun k h => (by cases h), kA, h2, comp, h3⟩, h1⟩
theorem ws_obj {s : State} {args : Array Value} {C : String} (h : (Cond.arrayOver (.object C)).before args s = true) : ∃ cA : ClassId, ArrOfT s cA (.object C) ∧ va_RA s cA (.object C) := by
  obtain ⟨comp, c, k, f1, -, f2, f3, f4⟩ := Cond.arrayOver_spec h
  exact ⟨c, fun n z => ⟨fun k h => (by cases h), k, f2, comp, f3⟩, k, comp, f2, f3, f1, f4⟩
theorem ws_oar {s : State} {args : Array Value} {t : FieldType} (h : (Cond.arrayOver (.array t)).before args s = true) : ∃ cA : ClassId, ArrOfT s cA (.array t) ∧ s.vm.findClass ("[" ++ (FieldType.array t).toString) = some cA := by
  obtain ⟨comp, c, k, f1, -, f2, f3, f4⟩ := arrayOverA_spec h
  exact ⟨c, fun n z => ⟨fun k h => (by cases h), k, f2, comp, f3⟩, f4⟩

theorem ws_K {s : State} {args : Array Value} (hts : ∀ w ∈ lw_tbl, w.before args s = true) : ∃ (D : va_G) (cA : Nat → ClassId), va_K D vwCl (gT cA) s := by
  obtain ⟨c0, i0, h0⟩ := u_known (C := RX0) (T := TX0) (N := 4) (n := 4) hts inX0 (hts (.instantiable RX0 4) (by decide +kernel))
  obtain ⟨c1, i1, h1⟩ := u_known (C := RX1) (T := TX1) (N := 2) (n := 2) hts inX1 (hts (.instantiable RX1 2) (by decide +kernel))
  obtain ⟨c2, i2, h2⟩ := u_known (C := RX0) (T := TX0) (N := 4) (n := 4) hts inX0 (hts (.instantiable RX0 4) (by decide +kernel))
  obtain ⟨c3, i3, h3⟩ := u_known (C := RX3) (T := TX3) (N := 4) (n := 4) hts inX3 (hts (.instantiable RX3 4) (by decide +kernel))
  obtain ⟨c4, i4, h4⟩ := u_known (C := RX4) (T := TX4) (N := 3) (n := 3) hts inX4 (hts (.instantiable RX4 3) (by decide +kernel))
  obtain ⟨c5, i5, h5⟩ := u_known (C := RX5) (T := TX5) (N := 13) (n := 13) hts inX5 (hts (.instantiable RX5 13) (by decide +kernel))
  obtain ⟨c6, i6, h6⟩ := u_known (C := RX6) (T := TX6) (N := 5) (n := 5) hts inX6 (hts (.instantiable RX6 5) (by decide +kernel))
  obtain ⟨a0, b0, n0⟩ := ws_arr (hts (.arrayClass .int) (by decide +kernel))
  obtain ⟨a1, b1, n1⟩ := ws_arr (hts (.arrayClass .boolean) (by decide +kernel))
  obtain ⟨a2, b2, n2⟩ := ws_arr (hts (.arrayClass .long) (by decide +kernel))
  obtain ⟨a4, b4, n4⟩ := ws_obj (hts (.arrayOver (.object RX0)) (by decide +kernel))
  obtain ⟨a5, b5, n5⟩ := ws_obj (hts (.arrayOver (.object RX2)) (by decide +kernel))
  obtain ⟨a6, b6, n6⟩ := ws_oar (hts (.arrayOver (.array .int)) (by decide +kernel))
  refine ⟨(fun k => match k with | 0 => c0 | 1 => c1 | 2 => c2 | 3 => c3 | 4 => c4 | 5 => c5 | _ => c6, fun k => match k with | 0 => i0 | 1 => i1 | 2 => i2 | 3 => i3 | 4 => i4 | 5 => i5 | _ => i6), (fun k => match k with | 0 => a0 | 1 => a1 | 2 => a2 | 3 => a0 | 4 => a4 | 5 => a5 | _ => a6), ?_, ?_⟩
  · intro k q hq
    match k, hq with
    | 0, hq => cases hq; exact h0
    | 1, hq => cases hq; exact h1
    | 2, hq => cases hq; exact h2
    | 3, hq => cases hq; exact h3
    | 4, hq => cases hq; exact h4
    | 5, hq => cases hq; exact h5
    | 6, hq => cases hq; exact h6
    | k + 7, hq => simp [vwCl] at hq
  · intro k q hq
    match k, hq with
    | 0, hq => cases hq; exact ⟨b0, n0⟩
    | 1, hq => cases hq; exact ⟨b1, n1⟩
    | 2, hq => cases hq; exact ⟨b2, n2⟩
    | 3, hq => cases hq; exact ⟨b0, n0⟩
    | 4, hq => cases hq; exact ⟨b4, n4⟩
    | 5, hq => cases hq; exact ⟨b5, n5⟩
    | 6, hq => cases hq; exact ⟨b6, n6⟩
    | k + 7, hq => simp [gT] at hq
