section
-- ===== PART A: goes FIRST, ahead of the names: the tables' words, and 'selects' of the private methods out of them =====
/-- a private method of a class that the tables say can be made, by its rows of tables_1 -/
def lw_okq (q : MethodName × Nat) : Prop := (q.1.cls ≠ "java/lang/invoke/MethodHandle" ∧ q.1.cls ≠ "java/lang/invoke/VarHandle") ∧ Cond.instantiable q.1.cls q.2 ∈ tables_1 ∧ Cond.privateMethod q.1 ∈ tables_1 ∧ Cond.instanceMethod q.1 ∈ tables_1
theorem lw_p0 : lw_okq (⟨"GaugeBook", "curveAt", "(I)LGaugeBook$Curve;"⟩, 13) := ⟨⟨by decide +kernel, by decide +kernel⟩, List.mem_of_getElem? (i := 16) (by decide +kernel), List.mem_of_getElem? (i := 122) (by decide +kernel), List.mem_of_getElem? (i := 123) (by decide +kernel)⟩
theorem lw_p1 : lw_okq (⟨"java/lang/Throwable", "fillInStackTrace", "(I)Ljava/lang/Throwable;"⟩, 6) := ⟨⟨by decide +kernel, by decide +kernel⟩, List.mem_of_getElem? (i := 164) (by decide +kernel), List.mem_of_getElem? (i := 162) (by decide +kernel), List.mem_of_getElem? (i := 163) (by decide +kernel)⟩
theorem lw_p2 : lw_okq (⟨"GaugeBook", "curveNumberOn", "(I)I"⟩, 13) := ⟨⟨by decide +kernel, by decide +kernel⟩, List.mem_of_getElem? (i := 16) (by decide +kernel), List.mem_of_getElem? (i := 254) (by decide +kernel), List.mem_of_getElem? (i := 255) (by decide +kernel)⟩
theorem lw_p3 : lw_okq (⟨"GaugeBook", "reckon", "()V"⟩, 13) := ⟨⟨by decide +kernel, by decide +kernel⟩, List.mem_of_getElem? (i := 16) (by decide +kernel), List.mem_of_getElem? (i := 272) (by decide +kernel), List.mem_of_getElem? (i := 273) (by decide +kernel)⟩
theorem lw_p4 : lw_okq (⟨"GaugeBook", "reckonDay", "(I)V"⟩, 13) := ⟨⟨by decide +kernel, by decide +kernel⟩, List.mem_of_getElem? (i := 16) (by decide +kernel), List.mem_of_getElem? (i := 276) (by decide +kernel), List.mem_of_getElem? (i := 277) (by decide +kernel)⟩
theorem lw_p5 : lw_okq (⟨"GaugeBook", "completeCurveOn", "(I)LGaugeBook$Curve;"⟩, 13) := ⟨⟨by decide +kernel, by decide +kernel⟩, List.mem_of_getElem? (i := 16) (by decide +kernel), List.mem_of_getElem? (i := 280) (by decide +kernel), List.mem_of_getElem? (i := 281) (by decide +kernel)⟩
theorem lw_p6 : lw_okq (⟨"GaugeBook$FlowTable", "fillBetween", "(II)V"⟩, 2) := ⟨⟨by decide +kernel, by decide +kernel⟩, List.mem_of_getElem? (i := 45) (by decide +kernel), List.mem_of_getElem? (i := 302) (by decide +kernel), List.mem_of_getElem? (i := 303) (by decide +kernel)⟩
theorem lw_p7 : lw_okq (⟨"GaugeBook$Ranking", "mergeRuns", "(LGaugeBook$FlowTable;I)V"⟩, 4) := ⟨⟨by decide +kernel, by decide +kernel⟩, List.mem_of_getElem? (i := 60) (by decide +kernel), List.mem_of_getElem? (i := 354) (by decide +kernel), List.mem_of_getElem? (i := 355) (by decide +kernel)⟩
theorem lw_p8 : lw_okq (⟨"GaugeBook$Ranking", "merge", "(LGaugeBook$FlowTable;III)V"⟩, 4) := ⟨⟨by decide +kernel, by decide +kernel⟩, List.mem_of_getElem? (i := 60) (by decide +kernel), List.mem_of_getElem? (i := 359) (by decide +kernel), List.mem_of_getElem? (i := 360) (by decide +kernel)⟩
theorem lw_p9 : lw_okq (⟨"GaugeBook$Ranking", "clearPeaks", "()V"⟩, 4) := ⟨⟨by decide +kernel, by decide +kernel⟩, List.mem_of_getElem? (i := 60) (by decide +kernel), List.mem_of_getElem? (i := 389) (by decide +kernel), List.mem_of_getElem? (i := 390) (by decide +kernel)⟩
theorem lw_p10 : lw_okq (⟨"GaugeBook$Ranking", "markNear", "(II)V"⟩, 4) := ⟨⟨by decide +kernel, by decide +kernel⟩, List.mem_of_getElem? (i := 60) (by decide +kernel), List.mem_of_getElem? (i := 394) (by decide +kernel), List.mem_of_getElem? (i := 395) (by decide +kernel)⟩
theorem lw_p11 : lw_okq (⟨"GaugeBook", "hasCurveFrom", "(I)Z"⟩, 13) := ⟨⟨by decide +kernel, by decide +kernel⟩, List.mem_of_getElem? (i := 16) (by decide +kernel), List.mem_of_getElem? (i := 444) (by decide +kernel), List.mem_of_getElem? (i := 445) (by decide +kernel)⟩
theorem lw_p12 : lw_okq (⟨"GaugeBook$Curve", "fits", "(III)Z"⟩, 4) := ⟨⟨by decide +kernel, by decide +kernel⟩, List.mem_of_getElem? (i := 448) (by decide +kernel), List.mem_of_getElem? (i := 487) (by decide +kernel), List.mem_of_getElem? (i := 488) (by decide +kernel)⟩
def lw_privs_1 : List (MethodName × Nat) := [(⟨"GaugeBook", "curveAt", "(I)LGaugeBook$Curve;"⟩, 13), (⟨"java/lang/Throwable", "fillInStackTrace", "(I)Ljava/lang/Throwable;"⟩, 6), (⟨"GaugeBook", "curveNumberOn", "(I)I"⟩, 13), (⟨"GaugeBook", "reckon", "()V"⟩, 13), (⟨"GaugeBook", "reckonDay", "(I)V"⟩, 13), (⟨"GaugeBook", "completeCurveOn", "(I)LGaugeBook$Curve;"⟩, 13), (⟨"GaugeBook$FlowTable", "fillBetween", "(II)V"⟩, 2), (⟨"GaugeBook$Ranking", "mergeRuns", "(LGaugeBook$FlowTable;I)V"⟩, 4), (⟨"GaugeBook$Ranking", "merge", "(LGaugeBook$FlowTable;III)V"⟩, 4), (⟨"GaugeBook$Ranking", "clearPeaks", "()V"⟩, 4), (⟨"GaugeBook$Ranking", "markNear", "(II)V"⟩, 4), (⟨"GaugeBook", "hasCurveFrom", "(I)Z"⟩, 13), (⟨"GaugeBook$Curve", "fits", "(III)Z"⟩, 4)]
theorem lw_r1 : ∀ q ∈ lw_privs_1, lw_okq q := List.forall_mem_cons.mpr ⟨lw_p0, List.forall_mem_cons.mpr ⟨lw_p1, List.forall_mem_cons.mpr ⟨lw_p2, List.forall_mem_cons.mpr ⟨lw_p3, List.forall_mem_cons.mpr ⟨lw_p4, List.forall_mem_cons.mpr ⟨lw_p5, List.forall_mem_cons.mpr ⟨lw_p6, List.forall_mem_cons.mpr ⟨lw_p7, List.forall_mem_cons.mpr ⟨lw_p8, List.forall_mem_cons.mpr ⟨lw_p9, List.forall_mem_cons.mpr ⟨lw_p10, List.forall_mem_cons.mpr ⟨lw_p11, List.forall_mem_cons.mpr ⟨lw_p12, fun _ h => absurd h List.not_mem_nil⟩⟩⟩⟩⟩⟩⟩⟩⟩⟩⟩⟩⟩
def lw_privs : List (MethodName × Nat) := lw_privs_1
def lw_tbl : List Cond := k2_sels lw_privs ++ tables_1
theorem lw_privs_ok : ∀ q ∈ lw_privs, lw_okq q := lw_r1
end
section
theorem fl_wide (a b : UInt64) : Jvm.FP.Core.val64 (Jvm.FP.Core.ddiv a b) = Jvm.FP.Core.quotient Jvm.FP.Core.b64 (Jvm.FP.Core.val64 a) (Jvm.FP.Core.val64 b) := Jvm.FP.Core.val64_ddiv a b
end
section
/-! arrays of arrays: the word that there is such a class, and that it stays -/
def va_AOA (t : FieldType) (U : State) : Prop := (Cond.arrayOver (.array t)).before #[] U = true
theorem va_AOA.of {t : FieldType} {A : Array Value} {U : State} (h : (Cond.arrayOver (.array t)).before A U = true) : va_AOA t U := h
theorem va_AOA.use {t : FieldType} {A : Array Value} {U : State} (h : va_AOA t U) : (Cond.arrayOver (.array t)).before A U = true := h
theorem va_AOA.moved {t : FieldType} {u U : State} (hal : u.vm.Alike U.vm) (h : va_AOA t u) : va_AOA t U := by
  obtain ⟨comp, c, k, h1, h2, h3, h4, h5⟩ := arrayOverA_spec h
  obtain ⟨k2, hk2, he⟩ := hal.2.2 _ _ h3
  have g1 : k2.kind = .array comp (.array t) := by rw [he]; exact h4
  have g2 : U.vm.findClass (FieldType.array t).toString = some comp := by rw [hal.findClass]; exact h1
  have g3 : U.vm.findClass ("[" ++ (FieldType.array t).toString) = some c := by rw [hal.findClass]; exact h5
  have g4 : (U.vm.classes.findIdx? fun x => match x.kind with | .array component _ => component == comp | _ => false) = some c := by
    rw [hal.findIdx?_eq _ (fun _ => rfl)]; exact h2
  unfold va_AOA Cond.before Cond.holds
  simp only [Cond.value, g2, Option.bind_some, beq_iff_eq]
  rw [Option.bind_eq_some_iff]
  refine ⟨c, (hal.findIdx?_eq _ (fun _ => rfl)).trans h2, ?_⟩
  simp [hk2, g1, g3]
end
section
/-! ===== BEGIN words of one list among another's, by their places ===== -/
theorem goodIn_r {big : List Cond} (ws : List Cond) (ps : List Nat) (hp : ws = ps.filterMap (fun i => big[i]?)) (h : ws.all goodWord = true) : GoodIn big ws := by
  intro w hw
  have h1 := List.all_eq_true.mp h w hw
  rw [hp] at hw
  obtain ⟨i, -, hi⟩ := List.mem_filterMap.mp hw
  have hm : w ∈ big := by first | exact List.mem_of_getElem? hi | exact List.getElem?_mem hi
  exact ⟨hm, good_of_word h1⟩
theorem goodIn_app {big a b : List Cond} (ha : GoodIn big a) (hb : GoodIn big b) : GoodIn big (a ++ b) := fun w h => (List.mem_append.mp h).elim (ha w) (hb w)
theorem goodIn_ca {big a b : List Cond} {c : Cond} (ha : GoodIn big (c :: a)) (hb : GoodIn big b) : GoodIn big (c :: (a ++ b)) := fun w h => (List.mem_cons.mp h).elim (fun e => ha w (List.mem_cons.mpr (Or.inl e))) (fun h => (List.mem_append.mp h).elim (fun h => ha w (List.mem_cons.mpr (Or.inr h))) (hb w))
theorem goodIn_sub {big ws : List Cond} (hm : ∀ w ∈ ws, w ∈ big) (h : ws.all goodWord = true) : GoodIn big ws := fun w hw => ⟨hm w hw, good_of_word (List.all_eq_true.mp h w hw)⟩
/-! ===== END ===== -/

/-! ===== BEGIN new T[n][m]: the outer array a place, the inner ones among the pooled ===== -/
/-- f, but v at every address of l -/
def vr_up {α : Type} (f : Nat → α) (l : List Nat) (v : α) : Nat → α := fun a => if a ∈ l then v else f a
theorem vr_up_in {α : Type} {f : Nat → α} {l : List Nat} {v : α} {a : Nat} (h : a ∈ l) : vr_up f l v a = v := if_pos h
theorem vr_up_ne {α : Type} {f : Nat → α} {l : List Nat} {v : α} {a : Nat} (h : a ∉ l) : vr_up f l v a = f a := if_neg h
theorem vr_rows {L l : List Nat} {f : Nat → va_E} {e : va_E} (h : ∀ a, a ∈ l → a ∉ L) : va_pl L f ++ l.map (fun a => (a, e)) = va_pl (L ++ l) (vr_up f l e) := by
  unfold va_pl
  rw [List.map_append]
  congr 1
  · apply List.map_congr_left
    intro a ha
    rw [vr_up_ne (fun q => h a q ha)]
  · apply List.map_congr_left
    intro a ha
    rw [vr_up_in ha]
theorem vr_lay {X rows : va_W} {x : Nat × va_E} {pl : va_W} {D : va_G} {cl : List vw_C} {H : Heap} (hP : va_P D cl (((X ++ pl) ++ [x]) ++ rows) H) : va_P D cl ((X ++ [x]) ++ (pl ++ rows)) H := by
  rw [List.append_assoc (X ++ pl)] at hP
  have h := va_P.swap hP
  rw [← List.append_assoc X] at h
  have h2 := va_P.swap h
  rw [List.append_assoc (X ++ [x])] at h2
  exact h2
theorem vr_layD {X rows : va_W} {x : Nat × va_E} {pl : va_W} {A : Nat → Prop} (hD : va_D A (((X ++ pl) ++ [x]) ++ rows)) : va_D A ((X ++ [x]) ++ (pl ++ rows)) := by
  rw [List.append_assoc (X ++ pl)] at hD
  have h := va_D.swap hD
  rw [← List.append_assoc X] at h
  have h2 := va_D.swap h
  rw [List.append_assoc (X ++ [x])] at h2
  exact h2
theorem vr_outer (c : ClassId) (N h0 : Nat) : ∀ i : Nat, Jvm.Free.Multi.outerC c N h0 i = arrV c N (fun j => va_rf (if j < i then some (h0 + 1 + j) else none))
  | 0 => by
    show ({ cls := c, slots := Array.replicate N .null, vm := .none } : Cell) = _
    rw [arrV_new]
    refine congrArg (arrV c N) (funext fun j => ?_)
    simp [va_rf]
  | i + 1 => by
    show (Jvm.Free.Multi.outerC c N h0 i).setSlot i (.ref (h0 + 1 + i)) = _
    rw [vr_outer c N h0 i, arrV_store]
    refine congrArg (arrV c N) (funext fun j => ?_)
    by_cases e : j = i
    · subst e
      simp [updV, va_rf]
    · by_cases h : j < i
      · simp [updV, e, h, Nat.lt_succ_of_lt h]
      · simp [updV, e, h, show ¬ j < i + 1 by omega]
/-! ===== END ===== -/

/-! ===== BEGIN exceptions that leave a method, and their catching by the caller (launches without stack traces) ===== -/
section VXA
/-! The laws vx_back, vx_callV, vx_callS, vx_callSW, vx_throw0, vx_throwS follow proofs of the library, with one case more: JvmDerived/Free/Laws.lean (Back.of_free), Shelf42/LK1.lean (callV, callS), Shelf/KitTraced.lean (throwNew0V, throwNewS). -/
/-- where a method has thrown q: the class by its name, the cell, what was written, the world -/
def vx_T (XC : String → State → State → Prop) (st : State) (q : Addr) (t : State) (mc ms : Nat) (free : Addr → Prop) : Prop :=
  ∃ (E : String) (ce : Cell) (L : List Loc), XC E st t ∧ t.heap[q]? = some ce ∧ ce.vm = .none ∧ st.vm.findClass E = some ce.cls ∧ st.WarmedH t.vm ∧ st.sameButNew ({ t with vm := st.vm } : State) L mc ms ∧ ∀ z ∈ L, free z.base
def vx_Q (Qc : Array Value → State → Outcome → State → Prop) (XC : String → State → State → Prop) (mc ms : Nat) (free : Addr → Prop) : Array Value → State → Outcome → State → Prop := fun a st o t =>
  (Qc a st o t ∧ ∃ L, FrameEnd st o t L mc ms ∧ ∀ q ∈ L, free q.base) ∨ ∃ q, o = .threw q ∧ vx_T XC st q t mc ms free
/-- a callee that returns or throws -/
def vx_Met (l : Launch) (y : MethodName) (ws : List Cond) (rm : Room) (Pc : Array Value → State → Prop) (Qc : Array Value → State → Outcome → State → Prop) (XC : String → State → State → Prop) (mc ms : Nat) (free : Addr → Prop) : Prop :=
  MetFree l y (headSpec ws rm) Pc (fun _ _ _ _ _ => True) (vx_Q Qc XC mc ms free)
def vx_Post (XC : String → State → State → Prop) (mc ms : Nat) (free : Addr → Prop) : Pt → Array Value → Addr → Pt → Prop := fun A a q B =>
  ∃ (g : JFrame) (mk : MethodId) (t : State) (L : List Loc) (E : String) (ce : Cell), B.U.heap = t.heap ∧ B.U.vm = t.vm ∧ XC E (A.U.calling g mk a) t ∧ t.heap[q]? = some ce ∧ ce.vm = .none ∧ A.U.vm.findClass E = some ce.cls ∧ B.locs = A.locs ++ L ∧ (∀ z ∈ L, free z.base) ∧ B.cells = A.cells + mc ∧ B.slots = A.slots + ms
def vx_Back (l : Launch) (R : Room) (p : Program) (e : Env) (below : List Frame) (s : State) (sargs : Array Value) (y : MethodName) (len W9 : Nat)
    (Pre : Pt → Array Value → Prop) (Post : Pt → Array Value → Option Value → Pt → Prop) (PostX : Pt → Array Value → Addr → Pt → Prop) : Prop :=
  ∀ (m : MethodId) (meth : Method) (c : Code) (A : Pt) (g : JFrame) (ig : Instr) (mk : MethodId) (a : Array Value),
    Stand p l e R s m sargs below meth c A.U A.locs A.cells A.slots → g.method = m → g.locals.size = c.maxLocals → decode c.code g.pc = .ok (ig, len) →
    2 * g.monitorRoom + (g.stack.map fun v => v.category).sum ≤ W9 → A.U.methodNamed? y = some mk → Pre A a →
    (∃ (v : Option Value) (B : Pt), Stand p l e R s m sargs below meth c B.U B.locs B.cells B.slots ∧ Post A a v B ∧
      Steps p.tables e below (doInvoke e (A.U.setTop g) [] mk a).1 (B.U.setTop { g with pc := g.pc + len, stack := v.toList ++ g.stack })) ∨
    (∃ (q : Addr) (B : Pt), Stand p l e R s m sargs below meth c B.U B.locs B.cells B.slots ∧ PostX A a q B ∧
      Steps p.tables e below (doInvoke e (A.U.setTop g) [] mk a).1 ((B.U.setTop g).pushFrame (.throwing q)))
section Payer
variable {l : Launch} {R : Room} {p : Program} {e : Env} {below : List Frame} {s : State} {sargs : Array Value} {y : MethodName} {len W9 : Nat}
theorem vx_back {ws : List Cond} {rm : Room} {Pc : Array Value → State → Prop} {Qc : Array Value → State → Outcome → State → Prop} {XC : String → State → State → Prop} {mc ms : Nat} {free : Addr → Prop} {bytes : ByteArray} {maxL : Nat} {ret : Option FieldType}
    (hM : vx_Met l y ws rm Pc Qc XC mc ms free) (hblind : FrameBlind Pc) (hrc : rm.cells = mc) (hrs : rm.slots = ms)
    (hframes : rm.frames + 1 ≤ R.frames) (hlocals : W9 + (maxL + 11) + rm.locals ≤ R.locals)
    (hws : ∀ w ∈ ws, ∀ a' U, s.WarmedH U.vm → w.before a' U = true) (hcode : Cond.code y bytes maxL ret ∈ ws) (hinit : ∀ a' U, s.WarmedH U.vm → (Cond.initialized y.cls).before a' U = true) :
    vx_Back l R p e below s sargs y len W9 (PreOf R mc ms Pc) (PostOf Qc mc ms free) (vx_Post XC mc ms free) := by
  intro m meth c A g ig mk a X hg hsize hdg hW hn hp
  have h1 : (headSpec ws rm).pre.before a A.U = true := atoms_intro fun w hw => hws w hw _ _ X.warmed
  have h2 : (Cond.code y bytes maxL ret).before a A.U = true := hws _ hcode _ _ X.warmed
  have h3 : (Cond.initialized y.cls).before a A.U = true := hinit _ _ X.warmed
  have h4 : A.cells + (headSpec ws rm).room.cells ≤ R.cells := by rw [show (headSpec ws rm).room.cells = mc from hrc]; exact hp.1
  have h5 : A.slots + (headSpec ws rm).room.slots ≤ R.slots := by rw [show (headSpec ws rm).room.slots = ms from hrs]; exact hp.2.1
  have hPc : Pc a (A.U.calling g mk a) := hblind _ _ _ _ hp.2.2
  obtain ⟨U, Ls, c0, s0⟩ := A
  dsimp only [Pt.U, Pt.locs, Pt.cells, Pt.slots] at h1 h2 h3 h4 h5 X hn hPc ⊢
  obtain ⟨methY, cY, hmY, hcY, -, hlY, -, -, -, -⟩ := Cond.code_spec hn h2
  obtain ⟨kY, hkY, -⟩ := className_of_methodNamed hn
  have hinitY : kY.init = .initialized := Cond.initialized_spec (findClass_of_methodNamed hn) hkY h3
  have h : At U g.method c below := by rw [hg]; exact X.here
  have hlocals9 : W9 + (maxL + 11) + (headSpec ws rm).room.locals ≤ R.locals := hlocals
  have happ : (headSpec ws rm).appliesLoose y e.platform (U.calling g mk a) = true :=
    Spec.appliesLoose_calling (g := g) h hdg hn hkY hinitY
      (X.room_calling (g := g) (R' := (headSpec ws rm).room) hsize hmY hcY hframes (by rw [hlY]; omega) h4 h5) h1
  obtain ⟨mid, hmid⟩ := h.above
  have hfr : (U.setTop g).frames = (.java g :: mid) ++ below := by rw [State.frames_setTop' g h.top, hmid]; rfl
  obtain ⟨o, s₂, hsteps, -, hend, hq⟩ := Steps.callFree hM p X.admits X.cas X.clock (acts := []) hfr happ hPc trivial
  have hq' : vx_Q Qc XC mc ms free a (U.calling g mk a) o s₂ := hq
  rw [State.frames_setTop' g h.top] at hend
  obtain ⟨g₀, hg0⟩ := Option.isSome_iff_exists.mp h.top
  obtain ⟨r, hr⟩ := State.topJava?_eq_some.mp hg0
  have hr' : (({ U with heap := s₂.heap, slotsUsed := s₂.slotsUsed } : State).setVm s₂.vm).frames = .java g₀ :: r := hr
  rcases hq' with ⟨hqc, L, hfe, hL⟩ | ⟨q, rfl, E, ce, L, hx, hce, hcv, hcl, hW₂, hsm, hL⟩
  · obtain ⟨⟨v, rfl⟩, hW₂, e2, q2, q3, q4, q5, q6⟩ := id hfe
    have e3 : s₂ = ({ (U.calling g mk a).setFrames s₂.frames with heap := s₂.heap, slotsUsed := s₂.slotsUsed } : State).setVm s₂.vm := by
      have : s₂ = ({ s₂ with vm := (U.calling g mk a).vm } : State).setVm s₂.vm := rfl
      rw [e2] at this
      exact this
    obtain ⟨c₂, i₂, len₂, hc₂, hd₂, hf₂⟩ := hend
    have hW' : U.WarmedH s₂.vm := hW₂
    have hcc : c₂ = c := by
      have h1 : s₂.code? g.method = U.code? g.method := by
        rw [State.code?_eq, State.code?_eq, hW'.alike.method?]
      exact Option.some.inj (hc₂.symm.trans (h1.trans h.code))
    subst hcc
    have hlen : len₂ = len := by rw [hdg] at hd₂; cases hd₂; rfl
    subst hlen
    have hs₂ : s₂ = (({ U with heap := s₂.heap, slotsUsed := s₂.slotsUsed } : State).setVm s₂.vm).setTop { g with pc := g.pc + len₂, stack := v.toList ++ g.stack } := by
      refine e3.trans ?_
      rw [hf₂, State.calling_eq h.top, State.setFrames_setFrames, State.setTop_of_frames _ hr', hr]
      rfl
    have hsame : U.sameButNew ({ U with heap := s₂.heap, slotsUsed := s₂.slotsUsed } : State) L mc ms := by
      refine ⟨?_, q2, q3, q4, q5, q6⟩
      obtain ⟨t, ht, -⟩ := State.frames_cons hr
      show ({ U with heap := s₂.heap, slotsUsed := s₂.slotsUsed } : State) = { U.setFrames U.frames with heap := s₂.heap, slotsUsed := s₂.slotsUsed }
      rw [State.setFrames_self ht]
    subst hg
    refine Or.inl ⟨v, ⟨(({ U with heap := s₂.heap, slotsUsed := s₂.slotsUsed } : State).setVm s₂.vm), Ls ++ L, c0 + mc, s0 + ms⟩,
      ⟨X.admits, X.cas, X.clock, X.frames, X.room, X.hears, X.method, X.code, (X.here.setHeapUsed s₂.heap s₂.slotsUsed).setVm hW'.alike, X.tail, State.WarmedH.trans X.warmed hW', X.limits, X.bytes, X.same.trans (hsame.setVm s.vm)⟩,
      ⟨g, mk, s₂, L, rfl, rfl, hqc, rfl, hL, rfl, rfl⟩, ?_⟩
    show Steps p.tables e below _ ((({ U with heap := s₂.heap, slotsUsed := s₂.slotsUsed } : State).setVm s₂.vm).setTop { g with pc := g.pc + len₂, stack := v.toList ++ g.stack })
    rw [← hs₂]
    exact hsteps
  · obtain ⟨e2, q2, q3, q4, q5, q6⟩ := id hsm
    have e3 : s₂ = ({ (U.calling g mk a).setFrames s₂.frames with heap := s₂.heap, slotsUsed := s₂.slotsUsed } : State).setVm s₂.vm := by
      have : s₂ = ({ s₂ with vm := (U.calling g mk a).vm } : State).setVm s₂.vm := rfl
      rw [e2] at this
      exact this
    have hf₂ : s₂.frames = .throwing q :: .java g :: U.frames.tail := hend
    have hW' : U.WarmedH s₂.vm := hW₂
    have hs₂ : s₂ = ((({ U with heap := s₂.heap, slotsUsed := s₂.slotsUsed } : State).setVm s₂.vm).setTop g).pushFrame (.throwing q) := by
      refine e3.trans ?_
      rw [hf₂, State.calling_eq h.top, State.setFrames_setFrames, State.pushFrame, State.frames_setTop _ hr', State.setTop_of_frames _ hr', State.setFrames_setFrames, hr]
      rfl
    have hsame : U.sameButNew ({ U with heap := s₂.heap, slotsUsed := s₂.slotsUsed } : State) L mc ms := by
      refine ⟨?_, q2, q3, q4, q5, q6⟩
      obtain ⟨t, ht, -⟩ := State.frames_cons hr
      show ({ U with heap := s₂.heap, slotsUsed := s₂.slotsUsed } : State) = { U.setFrames U.frames with heap := s₂.heap, slotsUsed := s₂.slotsUsed }
      rw [State.setFrames_self ht]
    subst hg
    refine Or.inr ⟨q, ⟨(({ U with heap := s₂.heap, slotsUsed := s₂.slotsUsed } : State).setVm s₂.vm), Ls ++ L, c0 + mc, s0 + ms⟩,
      ⟨X.admits, X.cas, X.clock, X.frames, X.room, X.hears, X.method, X.code, (X.here.setHeapUsed s₂.heap s₂.slotsUsed).setVm hW'.alike, X.tail, State.WarmedH.trans X.warmed hW', X.limits, X.bytes, X.same.trans (hsame.setVm s.vm)⟩,
      ⟨g, mk, s₂, L, E, ce, rfl, rfl, hx, hce, hcv, hcl, rfl, hL, rfl, rfl⟩, ?_⟩
    show Steps p.tables e below _ (((({ U with heap := s₂.heap, slotsUsed := s₂.slotsUsed } : State).setVm s₂.vm).setTop g).pushFrame (.throwing q))
    rw [← hs₂]
    exact hsteps
end Payer
section Calls
variable {p : Program} {l : Launch} {e : Env} {R : Room} {s : State} {m : MethodId} {args : Array Value} {below : List Frame} {meth : Method} {c : Code} {T : State} {locs : List Loc} {cells slots : Nat}
theorem vx_callV (X : Stand p l e R s m args below meth c T locs cells slots) (hexec : p.tables.exec = Jvm.exec) {own C : String} {index : Nat} {y : MethodName} {bytes : ByteArray} {maxL : Nat} {ret : Option FieldType}
    (hown : s.vm.findClass own = some m.cls) (hlink : (Cond.methodLink own index y).before args s = true) (hinst : (Cond.instanceMethod y).before args s = true) (hsel : (Cond.selects C y y).before args s = true)
    (hcode : (Cond.code y bytes maxL ret).before args s = true) (hy : y.cls ≠ "java/lang/invoke/MethodHandle" ∧ y.cls ≠ "java/lang/invoke/VarHandle")
    {W9 : Nat} {Pre : Pt → Array Value → Prop} {Post : Pt → Array Value → Option Value → Pt → Prop} {PostX : Pt → Array Value → Addr → Pt → Prop} (hK : vx_Back l R p e below s args y 3 W9 Pre Post PostX)
    {b : Addr} {cellB : Cell} (hcell : T.heap[b]? = some cellB) (hobj : cellB.vm.isStatics = false) (hcls : s.vm.findClass C = some cellB.cls)
    {g : JFrame} (hg : g.method = m) (hsize : g.locals.size = c.maxLocals) {argsL rest : List Value} (hlen : ∀ sig, parseMethodDescriptor y.desc = some sig → argsL.length = sig.parameters.length)
    (hstack : g.stack = argsL.reverse ++ .ref b :: rest) (hW : 2 * g.monitorRoom + (rest.map fun v => v.category).sum ≤ W9) (hdg : decode c.code g.pc = .ok (.invokevirtual index, 3))
    (hpre : ∀ vm₁, s.WarmedH vm₁ → Pre ⟨T.setVm vm₁, locs, cells, slots⟩ (Value.ref b :: argsL).toArray) :
    (∃ (v : Option Value) (vm₁ : Vm) (B : Pt), s.WarmedH vm₁ ∧ Stand p l e R s m args below meth c B.U B.locs B.cells B.slots ∧ Post ⟨T.setVm vm₁, locs, cells, slots⟩ (Value.ref b :: argsL).toArray v B ∧
      ∀ target, Steps p.tables e below (B.U.setTop { g with pc := g.pc + 3, stack := v.toList ++ rest }) target → Steps p.tables e below (T.setTop g) target) ∨
    (∃ (q : Addr) (vm₁ : Vm) (B : Pt), s.WarmedH vm₁ ∧ Stand p l e R s m args below meth c B.U B.locs B.cells B.slots ∧ PostX ⟨T.setVm vm₁, locs, cells, slots⟩ (Value.ref b :: argsL).toArray q B ∧
      Steps p.tables e below (T.setTop g) ((B.U.setTop { g with stack := rest }).pushFrame (.throwing q))) := by
  obtain ⟨mk, methM, hnamed, hmethM, hstM, habM⟩ := Cond.instanceMethod_spec hinst
  obtain ⟨methM', cM, hmethM', -, -, -, -, -, -, hsigM⟩ := Cond.code_spec hnamed hcode
  cases hmethM.symm.trans hmethM'
  obtain ⟨c2, r2, m2, q1, q2, q3, q4, kP, hkP, hkPi⟩ := Cond.selects_spec hsel
  cases hcls.symm.trans q1
  cases (State.methodFound?_of_named hnamed hy).symm.trans q2
  cases hnamed.symm.trans q3
  have hselP : selectMethod e.platform s.vm cellB.cls mk = .method mk := by rw [Launch.admits_selectMethod X.admits]; exact q4
  obtain ⟨vm₁, X₁, hstep₁⟩ := X.invokevirtual hexec hown hlink hnamed hmethM hstM hkP hkPi hy (a := b) (cell := cellB) hcell
    (fun z h => by rw [h] at hobj; cases hobj) hselP hmethM habM hkP hkPi (g := g) hg (argsL := argsL) (rest := rest) (hlen _ hsigM) hstack hdg
  rcases hK m meth c ⟨T.setVm vm₁, locs, cells, slots⟩ { g with stack := rest } (.invokevirtual index) mk (Value.ref b :: argsL).toArray X₁ hg hsize hdg hW (X₁.named hnamed) (hpre vm₁ X₁.warmed) with ⟨v, B, X', hpost, hsteps⟩ | ⟨q, B, X', hpost, hsteps⟩
  · exact Or.inl ⟨v, vm₁, B, X₁.warmed, X', hpost, fun target h => hstep₁ _ fun acts => by rw [doInvoke_state]; exact hsteps.trans h⟩
  · exact Or.inr ⟨q, vm₁, B, X₁.warmed, X', hpost, hstep₁ _ fun acts => by rw [doInvoke_state]; exact hsteps⟩
theorem vx_callS (X : Stand p l e R s m args below meth c T locs cells slots) (hexec : p.tables.exec = Jvm.exec) {own : String} {index : Nat} {y : MethodName} {bytes : ByteArray} {maxL : Nat} {ret : Option FieldType}
    (hown : s.vm.findClass own = some m.cls) (hlink : (Cond.methodLink own index y).before args s = true) (hstat : (Cond.static y).before args s = true) (hinit : (Cond.initialized y.cls).before args s = true)
    (hcode : (Cond.code y bytes maxL ret).before args s = true) (hy : y.cls ≠ "java/lang/invoke/MethodHandle" ∧ y.cls ≠ "java/lang/invoke/VarHandle")
    {W9 : Nat} {Pre : Pt → Array Value → Prop} {Post : Pt → Array Value → Option Value → Pt → Prop} {PostX : Pt → Array Value → Addr → Pt → Prop} (hK : vx_Back l R p e below s args y 3 W9 Pre Post PostX)
    {g : JFrame} (hg : g.method = m) (hsize : g.locals.size = c.maxLocals) {argsL rest : List Value} (hlen : ∀ sig, parseMethodDescriptor y.desc = some sig → argsL.length = sig.parameters.length)
    (hstack : g.stack = argsL.reverse ++ rest) (hW : 2 * g.monitorRoom + (rest.map fun v => v.category).sum ≤ W9) (hdg : decode c.code g.pc = .ok (.invokestatic index, 3))
    (hpre : ∀ vm₁, s.WarmedH vm₁ → Pre ⟨T.setVm vm₁, locs, cells, slots⟩ argsL.toArray) :
    (∃ (v : Option Value) (vm₁ : Vm) (B : Pt), s.WarmedH vm₁ ∧ Stand p l e R s m args below meth c B.U B.locs B.cells B.slots ∧ Post ⟨T.setVm vm₁, locs, cells, slots⟩ argsL.toArray v B ∧
      ∀ target, Steps p.tables e below (B.U.setTop { g with pc := g.pc + 3, stack := v.toList ++ rest }) target → Steps p.tables e below (T.setTop g) target) ∨
    (∃ (q : Addr) (vm₁ : Vm) (B : Pt), s.WarmedH vm₁ ∧ Stand p l e R s m args below meth c B.U B.locs B.cells B.slots ∧ PostX ⟨T.setVm vm₁, locs, cells, slots⟩ argsL.toArray q B ∧
      Steps p.tables e below (T.setTop g) ((B.U.setTop { g with stack := rest }).pushFrame (.throwing q))) := by
  obtain ⟨mk, hnamed⟩ := Cond.code_named hcode
  obtain ⟨methM, cM, hmethM, -, -, -, -, -, -, hsigM⟩ := Cond.code_spec hnamed hcode
  have hstatic : methM.isStatic = true := Cond.static_spec hnamed hmethM hstat
  obtain ⟨kP, hkP, -⟩ := className_of_methodNamed hnamed
  have hinitP : kP.init = .initialized := Cond.initialized_spec (findClass_of_methodNamed hnamed) hkP hinit
  obtain ⟨vm₁, X₁, hstep₁⟩ := X.invokestatic hexec hown hlink hnamed hmethM hstatic hkP hinitP hy (g := g) hg (argsL := argsL) (rest := rest) (hlen _ hsigM) hstack hdg
  rcases hK m meth c ⟨T.setVm vm₁, locs, cells, slots⟩ { g with stack := rest } (.invokestatic index) mk argsL.toArray X₁ hg hsize hdg hW (X₁.named hnamed) (hpre vm₁ X₁.warmed) with ⟨v, B, X', hpost, hsteps⟩ | ⟨q, B, X', hpost, hsteps⟩
  · exact Or.inl ⟨v, vm₁, B, X₁.warmed, X', hpost, fun target h => hstep₁ _ fun acts => by rw [doInvoke_state]; exact hsteps.trans h⟩
  · exact Or.inr ⟨q, vm₁, B, X₁.warmed, X', hpost, hstep₁ _ fun acts => by rw [doInvoke_state]; exact hsteps⟩
end Calls
theorem vx_cls {s : State} {T : State} {vm₁ : Vm} {E : String} {k : ClassId} (hW : s.WarmedH vm₁) (h : (T.setVm vm₁).vm.findClass E = some k) : s.vm.findClass E = some k := by
  have h1 : vm₁.findClass E = some k := h
  rw [hW.alike.findClass] at h1
  exact h1
/-- the method's frame g, with q thrown over it -/
def vx_W (p : Program) (l : Launch) (e : Env) (R : Room) (s : State) (m : MethodId) (args : Array Value) (below : List Frame) (meth : Method) (c : Code) (H : Heap) (locs : List Loc) (cells slots : Nat) (Q : State → Prop) (g : JFrame) (q : Addr) : Prop :=
  ∀ T : State, T.heap = H → Stand p l e R s m args below meth c T locs cells slots → ∃ t, Steps p.tables e below ((T.setTop g).pushFrame (.throwing q)) t ∧ Q t
def vx_Run (p : Program) (l : Launch) (e : Env) (R : Room) (s : State) (m : MethodId) (args : Array Value) (below : List Frame) (meth : Method) (c : Code) (H : Heap) (locs : List Loc) (cells slots mc ms : Nat) (g : JFrame) (rest : List Value) (Qa : State → Outcome → State → Prop) (XC : String → State → State → Prop) (free : Addr → Prop) : Prop :=
  ∀ T : State, T.heap = H → Stand p l e R s m args below meth c T locs cells slots →
    (∃ (v : Option Value) (st₀ t T' : State) (L : List Loc), st₀.heap = H ∧ Stand p l e R s m args below meth c T' (locs ++ L) (cells + mc) (slots + ms) ∧ (∀ q ∈ L, free q.base) ∧ T'.heap = t.heap ∧ T'.vm = t.vm ∧ Qa st₀ (.returned v) t ∧
      Goes p e below T g T' { g with pc := g.pc + 3, stack := v.toList ++ rest }) ∨
    (∃ (q : Addr) (st₀ t T' : State) (L : List Loc) (E : String) (ce : Cell), st₀.heap = H ∧ Stand p l e R s m args below meth c T' (locs ++ L) (cells + mc) (slots + ms) ∧ (∀ z ∈ L, free z.base) ∧ T'.heap = t.heap ∧ T'.vm = t.vm ∧ XC E st₀ t ∧ t.heap[q]? = some ce ∧ ce.vm = .none ∧ s.vm.findClass E = some ce.cls ∧
      Steps p.tables e below (T.setTop g) ((T'.setTop { g with stack := rest }).pushFrame (.throwing q)))
def vx_X {S : Type} (px : S → Prop) (B : String → S → State → Prop) (A : Nat → Prop) : String → State → State → Prop := fun E st t => ∃ u : S, px u ∧ B E u t ∧ va_F A st t
section Runs
variable {p : Program} {l : Launch} {e : Env} {R : Room} {s : State} {m : MethodId} {args : Array Value} {below : List Frame} {meth : Method} {c : Code} {H : Heap} {locs : List Loc} {cells slots : Nat}
variable {y : MethodName} {bytes cc : ByteArray} {maxL nL mc ms n index : Nat} {ret : Option FieldType} {ws : List Cond} {rm : Room} {Pc : Array Value → State → Prop} {Qc : Array Value → State → Outcome → State → Prop} {XC : String → State → State → Prop} {free : Addr → Prop} {Ts : List Cond} {own C : String} {b : Addr} {As rest : List Value} {g : JFrame}
theorem vx_callBack (cb : CallB R s args own index y bytes maxL ret ws rm mc ms n) (hM : vx_Met l y ws rm Pc Qc XC mc ms free) (hbl : FrameBlind Pc) : vx_Back l R p e below s args y 3 8 (PreOf R mc ms Pc) (PostOf Qc mc ms free) (vx_Post XC mc ms free) := by
  obtain ⟨hrc, hrs, hfr, hlo, hws, hcw, -, hini, -⟩ := cb
  exact vx_back (bytes := bytes) (maxL := maxL) (ret := ret) hM hbl hrc hrs hfr hlo hws hcw (fun a' U hW => word_at hW (Or.inl (by first | rfl | simp [Cond.onTables, Cond.keeps, Cond.steady])) hini)
theorem vx_runV (S : CallFix p m c cc nL s args Ts own) (hM : vx_Met l y ws rm Pc Qc XC mc ms free) (cw : CallW R s args own C index y bytes maxL ret ws rm mc ms n) (hp : PreV s H C b Pc As)
    (hg : g.method = m) (hn : As.length = n) (hsize : g.locals.size = nL) (hstack : g.stack = As.reverse ++ .ref b :: rest) (hW : 2 * g.monitorRoom + (rest.map fun v => v.category).sum ≤ 8) (hdg : decode cc g.pc = .ok (.invokevirtual index, 3)) (hf : cells + mc ≤ R.cells ∧ slots + ms ≤ R.slots) :
    vx_Run p l e R s m args below meth c H locs cells slots mc ms g rest (Qc (Value.ref b :: As).toArray) XC free := by
  have hK : vx_Back l R p e below s args y 3 8 (PreOf R mc ms Pc) (PostOf Qc mc ms free) (vx_Post XC mc ms free) := vx_callBack cw.1 hM hp.1
  obtain ⟨⟨-, -, -, -, -, -, hcode, -, hy, hlen, hl⟩, hin, hse⟩ := cw
  obtain ⟨hx, hb, hml, ho, -⟩ := S
  obtain ⟨-, ⟨cellB, hcB, hoB, hclB⟩, hPc⟩ := hp
  intro T hT X
  rcases vx_callV X hx (C := C) (bytes := bytes) (maxL := maxL) (ret := ret) ho hl hin hse hcode hy hK (by rw [hT]; exact hcB) hoB hclB hg (hsize.trans hml.symm) (argsL := As) (rest := rest) (fun sig h => hn.trans (hlen sig h)) hstack hW (by rw [hb]; exact hdg)
    (fun vm₁ hW₁ => ⟨hf.1, hf.2, hPc (T.setVm vm₁) hT hW₁⟩) with ⟨v, vm₁, ⟨U', l2, c2, s2⟩, hW₁, X', ⟨g', mk, t, L, e1, e2, hq, h1, hL, h2, h3⟩, st⟩ | ⟨q, vm₁, ⟨U', l2, c2, s2⟩, hW₁, X', ⟨g', mk, t, L, E, ce, e1, e2, hq, hce, hcv, hcl, h1, hL, h2, h3⟩, st⟩
  · dsimp only [Pt.U, Pt.locs, Pt.cells, Pt.slots] at X' e1 e2 h1 h2 h3 st
    subst h1; subst h2; subst h3
    exact Or.inl ⟨v, (T.setVm vm₁).calling g' mk (Value.ref b :: As).toArray, t, U', L, hT, X', hL, e1, e2, hq, st⟩
  · dsimp only [Pt.U, Pt.locs, Pt.cells, Pt.slots] at X' e1 e2 h1 h2 h3 st hcl
    subst h1; subst h2; subst h3
    exact Or.inr ⟨q, (T.setVm vm₁).calling g' mk (Value.ref b :: As).toArray, t, U', L, E, ce, hT, X', hL, e1, e2, hq, hce, hcv, vx_cls hW₁ hcl, st⟩
theorem vx_runS (S : CallFix p m c cc nL s args Ts own) (hM : vx_Met l y ws rm Pc Qc XC mc ms free) (cw : CallB R s args own index y bytes maxL ret ws rm mc ms n ∧ (Cond.static y).before args s = true) (hp : PreS s H Pc As)
    (hg : g.method = m) (hn : As.length = n) (hsize : g.locals.size = nL) (hstack : g.stack = As.reverse ++ rest) (hW : 2 * g.monitorRoom + (rest.map fun v => v.category).sum ≤ 8) (hdg : decode cc g.pc = .ok (.invokestatic index, 3)) (hf : cells + mc ≤ R.cells ∧ slots + ms ≤ R.slots) :
    vx_Run p l e R s m args below meth c H locs cells slots mc ms g rest (Qc As.toArray) XC free := by
  have hK : vx_Back l R p e below s args y 3 8 (PreOf R mc ms Pc) (PostOf Qc mc ms free) (vx_Post XC mc ms free) := vx_callBack cw.1 hM hp.1
  obtain ⟨⟨-, -, -, -, -, -, hcode, hini, hy, hlen, hl⟩, hstt⟩ := cw
  obtain ⟨hx, hb, hml, ho, -⟩ := S
  intro T hT X
  rcases vx_callS X hx (bytes := bytes) (maxL := maxL) (ret := ret) ho hl hstt hini hcode hy hK hg (hsize.trans hml.symm) (argsL := As) (rest := rest) (fun sig h => hn.trans (hlen sig h)) hstack hW (by rw [hb]; exact hdg)
    (fun vm₁ hW₁ => ⟨hf.1, hf.2, hp.2 (T.setVm vm₁) hT hW₁⟩) with ⟨v, vm₁, ⟨U', l2, c2, s2⟩, hW₁, X', ⟨g', mk, t, L, e1, e2, hq, h1, hL, h2, h3⟩, st⟩ | ⟨q, vm₁, ⟨U', l2, c2, s2⟩, hW₁, X', ⟨g', mk, t, L, E, ce, e1, e2, hq, hce, hcv, hcl, h1, hL, h2, h3⟩, st⟩
  · dsimp only [Pt.U, Pt.locs, Pt.cells, Pt.slots] at X' e1 e2 h1 h2 h3 st
    subst h1; subst h2; subst h3
    exact Or.inl ⟨v, (T.setVm vm₁).calling g' mk As.toArray, t, U', L, hT, X', hL, e1, e2, hq, st⟩
  · dsimp only [Pt.U, Pt.locs, Pt.cells, Pt.slots] at X' e1 e2 h1 h2 h3 st hcl
    subst h1; subst h2; subst h3
    exact Or.inr ⟨q, (T.setVm vm₁).calling g' mk As.toArray, t, U', L, E, ce, hT, X', hL, e1, e2, hq, hce, hcv, vx_cls hW₁ hcl, st⟩
end Runs
section Rows
variable {p : Program} {l : Launch} {e : Env} {R : Room} {s : State} {m : MethodId} {args : Array Value} {below : List Frame} {meth : Method} {c : Code} {H : Heap} {locs : List Loc} {cells slots : Nat} {Q : State → Prop}
variable {mc ms : Nat} {free : Addr → Prop} {A0 A1 : Nat → Prop} {H0 : Heap} {a : Array Value} {pc : Nat} {ls : Array Slot} {st0 rest : List Value}
theorem vx_keep {st₀ t T' : State} {L : List Loc} (h0 : st₀.heap = H) (e1 : T'.heap = t.heap) (hS : va_S A0 H0 H locs) (hA : ∀ q, q < H.size → A1 q → A0 q) (hf : ∀ q, free q → A0 q) (hL : ∀ q ∈ L, free q.base) (hF : va_F A1 st₀ t) :
    H.size ≤ T'.heap.size ∧ (∀ q : Nat, q < H.size → ¬ A1 q → T'.heap[q]? = H[q]?) ∧ va_S A0 H0 T'.heap (locs ++ L) := by
  obtain ⟨hz, hk⟩ := hF
  rw [h0] at hz hk
  exact ⟨by rw [e1]; exact hz, fun q h1 h2 => by rw [e1]; exact hk q h1 h2,
    ⟨Nat.le_trans hS.1 (by rw [e1]; exact hz), fun q h1 h2 => by rw [e1, hk q (Nat.lt_of_lt_of_le h1 hS.1) (fun z => h2 (hA q (Nat.lt_of_lt_of_le h1 hS.1) z))]; exact hS.2.1 q h1 h2, fun q hq => by
      rcases List.mem_append.mp hq with h | h
      · exact hS.2.2 q h
      · exact hf _ (hL q h)⟩⟩
theorem vx_calli {S SX : Type} {post : Int32 → S → Prop} {px : SX → Prop} {B : S → State → Prop} {BX : String → SX → State → Prop} {AX : Nat → Prop} (hr : vx_Run p l e R s m args below meth c H locs cells slots mc ms (F0 m pc ls st0) rest (va_Qi post B A1 a) (vx_X px BX AX) free) (hS : va_S A0 H0 H locs) (hA : ∀ q, q < H.size → A1 q → A0 q) (hf : ∀ q, free q → A0 q) (hAX : ∀ q, q < H.size → AX q → A0 q)
    (kx : ∀ (E : String) (ce : Cell) (q9 : Addr) (u : SX) (t : State) (H1 : Heap) (locs1 : List Loc), t.heap = H1 → s.vm.Alike t.vm → px u → BX E u t → H.size ≤ H1.size → (∀ q : Nat, q < H.size → ¬ AX q → H1[q]? = H[q]?) → va_S A0 H0 H1 locs1 → H1[q9]? = some ce → ce.vm = .none → s.vm.findClass E = some ce.cls → vx_W p l e R s m args below meth c H1 locs1 (cells + mc) (slots + ms) Q (F0 m pc ls rest) q9)
    (kk : ∀ (r : Int32) (u : S) (t : State) (H1 : Heap) (locs1 : List Loc), t.heap = H1 → s.vm.Alike t.vm → post r u → B u t → H.size ≤ H1.size → (∀ q : Nat, q < H.size → ¬ A1 q → H1[q]? = H[q]?) → va_S A0 H0 H1 locs1 → W p l e R s m args below meth c H1 locs1 (cells + mc) (slots + ms) Q (F0 m (pc + 3) ls (.int r :: rest))) : W p l e R s m args below meth c H locs cells slots Q (F0 m pc ls st0) := by
  intro T hT X
  rcases hr T hT X with ⟨v, st₀, t, T', L, h0, X', hL, e1, e2, ⟨⟨r, u, hv, hp, hb⟩, hF⟩, st⟩ | ⟨q, st₀, t, T', L, E, ce, h0, X', hL, e1, e2, ⟨u, hp, hb, hF⟩, hce, hcv, hcl, st⟩
  · cases hv
    obtain ⟨k1, k2, k3⟩ := vx_keep h0 e1 hS hA hf hL hF
    obtain ⟨t2, a1, b1⟩ := kk r u t T'.heap (locs ++ L) e1.symm (by rw [← e2]; exact X'.warmed.alike) hp hb k1 k2 k3 T' rfl X'
    exact ⟨t2, st t2 a1, b1⟩
  · obtain ⟨k1, k2, k3⟩ := vx_keep h0 e1 hS hAX hf hL hF
    obtain ⟨t2, a1, b1⟩ := kx E ce q u t T'.heap (locs ++ L) e1.symm (by rw [← e2]; exact X'.warmed.alike) hp hb k1 k2 k3 (by rw [e1]; exact hce) hcv hcl T' rfl X'
    exact ⟨t2, st.trans a1, b1⟩
theorem vx_calll {S SX : Type} {post : Int64 → S → Prop} {px : SX → Prop} {B : S → State → Prop} {BX : String → SX → State → Prop} {AX : Nat → Prop} (hr : vx_Run p l e R s m args below meth c H locs cells slots mc ms (F0 m pc ls st0) rest (va_Ql post B A1 a) (vx_X px BX AX) free) (hS : va_S A0 H0 H locs) (hA : ∀ q, q < H.size → A1 q → A0 q) (hf : ∀ q, free q → A0 q) (hAX : ∀ q, q < H.size → AX q → A0 q)
    (kx : ∀ (E : String) (ce : Cell) (q9 : Addr) (u : SX) (t : State) (H1 : Heap) (locs1 : List Loc), t.heap = H1 → s.vm.Alike t.vm → px u → BX E u t → H.size ≤ H1.size → (∀ q : Nat, q < H.size → ¬ AX q → H1[q]? = H[q]?) → va_S A0 H0 H1 locs1 → H1[q9]? = some ce → ce.vm = .none → s.vm.findClass E = some ce.cls → vx_W p l e R s m args below meth c H1 locs1 (cells + mc) (slots + ms) Q (F0 m pc ls rest) q9)
    (kk : ∀ (r : Int64) (u : S) (t : State) (H1 : Heap) (locs1 : List Loc), t.heap = H1 → s.vm.Alike t.vm → post r u → B u t → H.size ≤ H1.size → (∀ q : Nat, q < H.size → ¬ A1 q → H1[q]? = H[q]?) → va_S A0 H0 H1 locs1 → W p l e R s m args below meth c H1 locs1 (cells + mc) (slots + ms) Q (F0 m (pc + 3) ls (.long r :: rest))) : W p l e R s m args below meth c H locs cells slots Q (F0 m pc ls st0) := by
  intro T hT X
  rcases hr T hT X with ⟨v, st₀, t, T', L, h0, X', hL, e1, e2, ⟨⟨r, u, hv, hp, hb⟩, hF⟩, st⟩ | ⟨q, st₀, t, T', L, E, ce, h0, X', hL, e1, e2, ⟨u, hp, hb, hF⟩, hce, hcv, hcl, st⟩
  · cases hv
    obtain ⟨k1, k2, k3⟩ := vx_keep h0 e1 hS hA hf hL hF
    obtain ⟨t2, a1, b1⟩ := kk r u t T'.heap (locs ++ L) e1.symm (by rw [← e2]; exact X'.warmed.alike) hp hb k1 k2 k3 T' rfl X'
    exact ⟨t2, st t2 a1, b1⟩
  · obtain ⟨k1, k2, k3⟩ := vx_keep h0 e1 hS hAX hf hL hF
    obtain ⟨t2, a1, b1⟩ := kx E ce q u t T'.heap (locs ++ L) e1.symm (by rw [← e2]; exact X'.warmed.alike) hp hb k1 k2 k3 (by rw [e1]; exact hce) hcv hcl T' rfl X'
    exact ⟨t2, st.trans a1, b1⟩
theorem vx_callf {S SX : Type} {post : UInt32 → S → Prop} {px : SX → Prop} {B : S → State → Prop} {BX : String → SX → State → Prop} {AX : Nat → Prop} (hr : vx_Run p l e R s m args below meth c H locs cells slots mc ms (F0 m pc ls st0) rest (va_Qf post B A1 a) (vx_X px BX AX) free) (hS : va_S A0 H0 H locs) (hA : ∀ q, q < H.size → A1 q → A0 q) (hf : ∀ q, free q → A0 q) (hAX : ∀ q, q < H.size → AX q → A0 q)
    (kx : ∀ (E : String) (ce : Cell) (q9 : Addr) (u : SX) (t : State) (H1 : Heap) (locs1 : List Loc), t.heap = H1 → s.vm.Alike t.vm → px u → BX E u t → H.size ≤ H1.size → (∀ q : Nat, q < H.size → ¬ AX q → H1[q]? = H[q]?) → va_S A0 H0 H1 locs1 → H1[q9]? = some ce → ce.vm = .none → s.vm.findClass E = some ce.cls → vx_W p l e R s m args below meth c H1 locs1 (cells + mc) (slots + ms) Q (F0 m pc ls rest) q9)
    (kk : ∀ (r : UInt32) (u : S) (t : State) (H1 : Heap) (locs1 : List Loc), t.heap = H1 → s.vm.Alike t.vm → post r u → B u t → H.size ≤ H1.size → (∀ q : Nat, q < H.size → ¬ A1 q → H1[q]? = H[q]?) → va_S A0 H0 H1 locs1 → W p l e R s m args below meth c H1 locs1 (cells + mc) (slots + ms) Q (F0 m (pc + 3) ls (.float r :: rest))) : W p l e R s m args below meth c H locs cells slots Q (F0 m pc ls st0) := by
  intro T hT X
  rcases hr T hT X with ⟨v, st₀, t, T', L, h0, X', hL, e1, e2, ⟨⟨r, u, hv, hp, hb⟩, hF⟩, st⟩ | ⟨q, st₀, t, T', L, E, ce, h0, X', hL, e1, e2, ⟨u, hp, hb, hF⟩, hce, hcv, hcl, st⟩
  · cases hv
    obtain ⟨k1, k2, k3⟩ := vx_keep h0 e1 hS hA hf hL hF
    obtain ⟨t2, a1, b1⟩ := kk r u t T'.heap (locs ++ L) e1.symm (by rw [← e2]; exact X'.warmed.alike) hp hb k1 k2 k3 T' rfl X'
    exact ⟨t2, st t2 a1, b1⟩
  · obtain ⟨k1, k2, k3⟩ := vx_keep h0 e1 hS hAX hf hL hF
    obtain ⟨t2, a1, b1⟩ := kx E ce q u t T'.heap (locs ++ L) e1.symm (by rw [← e2]; exact X'.warmed.alike) hp hb k1 k2 k3 (by rw [e1]; exact hce) hcv hcl T' rfl X'
    exact ⟨t2, st.trans a1, b1⟩
theorem vx_calld {S SX : Type} {post : UInt64 → S → Prop} {px : SX → Prop} {B : S → State → Prop} {BX : String → SX → State → Prop} {AX : Nat → Prop} (hr : vx_Run p l e R s m args below meth c H locs cells slots mc ms (F0 m pc ls st0) rest (va_Qd post B A1 a) (vx_X px BX AX) free) (hS : va_S A0 H0 H locs) (hA : ∀ q, q < H.size → A1 q → A0 q) (hf : ∀ q, free q → A0 q) (hAX : ∀ q, q < H.size → AX q → A0 q)
    (kx : ∀ (E : String) (ce : Cell) (q9 : Addr) (u : SX) (t : State) (H1 : Heap) (locs1 : List Loc), t.heap = H1 → s.vm.Alike t.vm → px u → BX E u t → H.size ≤ H1.size → (∀ q : Nat, q < H.size → ¬ AX q → H1[q]? = H[q]?) → va_S A0 H0 H1 locs1 → H1[q9]? = some ce → ce.vm = .none → s.vm.findClass E = some ce.cls → vx_W p l e R s m args below meth c H1 locs1 (cells + mc) (slots + ms) Q (F0 m pc ls rest) q9)
    (kk : ∀ (r : UInt64) (u : S) (t : State) (H1 : Heap) (locs1 : List Loc), t.heap = H1 → s.vm.Alike t.vm → post r u → B u t → H.size ≤ H1.size → (∀ q : Nat, q < H.size → ¬ A1 q → H1[q]? = H[q]?) → va_S A0 H0 H1 locs1 → W p l e R s m args below meth c H1 locs1 (cells + mc) (slots + ms) Q (F0 m (pc + 3) ls (.double r :: rest))) : W p l e R s m args below meth c H locs cells slots Q (F0 m pc ls st0) := by
  intro T hT X
  rcases hr T hT X with ⟨v, st₀, t, T', L, h0, X', hL, e1, e2, ⟨⟨r, u, hv, hp, hb⟩, hF⟩, st⟩ | ⟨q, st₀, t, T', L, E, ce, h0, X', hL, e1, e2, ⟨u, hp, hb, hF⟩, hce, hcv, hcl, st⟩
  · cases hv
    obtain ⟨k1, k2, k3⟩ := vx_keep h0 e1 hS hA hf hL hF
    obtain ⟨t2, a1, b1⟩ := kk r u t T'.heap (locs ++ L) e1.symm (by rw [← e2]; exact X'.warmed.alike) hp hb k1 k2 k3 T' rfl X'
    exact ⟨t2, st t2 a1, b1⟩
  · obtain ⟨k1, k2, k3⟩ := vx_keep h0 e1 hS hAX hf hL hF
    obtain ⟨t2, a1, b1⟩ := kx E ce q u t T'.heap (locs ++ L) e1.symm (by rw [← e2]; exact X'.warmed.alike) hp hb k1 k2 k3 (by rw [e1]; exact hce) hcv hcl T' rfl X'
    exact ⟨t2, st.trans a1, b1⟩
theorem vx_callv {S SX : Type} {post : S → Prop} {px : SX → Prop} {B : S → State → Prop} {BX : String → SX → State → Prop} {AX : Nat → Prop} (hr : vx_Run p l e R s m args below meth c H locs cells slots mc ms (F0 m pc ls st0) rest (va_Qv post B A1 a) (vx_X px BX AX) free) (hS : va_S A0 H0 H locs) (hA : ∀ q, q < H.size → A1 q → A0 q) (hf : ∀ q, free q → A0 q) (hAX : ∀ q, q < H.size → AX q → A0 q)
    (kx : ∀ (E : String) (ce : Cell) (q9 : Addr) (u : SX) (t : State) (H1 : Heap) (locs1 : List Loc), t.heap = H1 → s.vm.Alike t.vm → px u → BX E u t → H.size ≤ H1.size → (∀ q : Nat, q < H.size → ¬ AX q → H1[q]? = H[q]?) → va_S A0 H0 H1 locs1 → H1[q9]? = some ce → ce.vm = .none → s.vm.findClass E = some ce.cls → vx_W p l e R s m args below meth c H1 locs1 (cells + mc) (slots + ms) Q (F0 m pc ls rest) q9)
    (kk : ∀ (u : S) (t : State) (H1 : Heap) (locs1 : List Loc), t.heap = H1 → s.vm.Alike t.vm → post u → B u t → H.size ≤ H1.size → (∀ q : Nat, q < H.size → ¬ A1 q → H1[q]? = H[q]?) → va_S A0 H0 H1 locs1 → W p l e R s m args below meth c H1 locs1 (cells + mc) (slots + ms) Q (F0 m (pc + 3) ls (rest))) : W p l e R s m args below meth c H locs cells slots Q (F0 m pc ls st0) := by
  intro T hT X
  rcases hr T hT X with ⟨v, st₀, t, T', L, h0, X', hL, e1, e2, ⟨⟨u, hv, hp, hb⟩, hF⟩, st⟩ | ⟨q, st₀, t, T', L, E, ce, h0, X', hL, e1, e2, ⟨u, hp, hb, hF⟩, hce, hcv, hcl, st⟩
  · cases hv
    obtain ⟨k1, k2, k3⟩ := vx_keep h0 e1 hS hA hf hL hF
    obtain ⟨t2, a1, b1⟩ := kk u t T'.heap (locs ++ L) e1.symm (by rw [← e2]; exact X'.warmed.alike) hp hb k1 k2 k3 T' rfl X'
    exact ⟨t2, st t2 a1, b1⟩
  · obtain ⟨k1, k2, k3⟩ := vx_keep h0 e1 hS hAX hf hL hF
    obtain ⟨t2, a1, b1⟩ := kx E ce q u t T'.heap (locs ++ L) e1.symm (by rw [← e2]; exact X'.warmed.alike) hp hb k1 k2 k3 (by rw [e1]; exact hce) hcv hcl T' rfl X'
    exact ⟨t2, st.trans a1, b1⟩
/-- caught by the row x of this method's table; the rows ahead don't take it -/
theorem vx_catch {own name : String} {E : String} {ce : Cell} {q : Addr} (hown : s.vm.findClass own = some m.cls) (pre : List ExceptionTableEntry) (x : ExceptionTableEntry) (suf : List ExceptionTableEntry) (hsplit : c.exceptionTable.toList = pre ++ x :: suf)
    (hpass : ∀ z ∈ pre, covers z pc = false ∨ (z.catchType ≠ 0 ∧ ∃ nm : String, (Cond.classLink own z.catchType nm).before args s = true ∧ va_Nc E nm s)) (hx : covers x pc = true) (h0 : x.catchType ≠ 0)
    (hlink : (Cond.classLink own x.catchType name).before args s = true) (hcast : (Cond.castable E name).before args s = true) (hcell : H[q]? = some ce) (hv : ce.vm = .none) (hcl : s.vm.findClass E = some ce.cls)
    (kk : W p l e R s m args below meth c H locs cells slots Q (F0 m x.handlerPc ls [.ref q])) : vx_W p l e R s m args below meth c H locs cells slots Q (F0 m pc ls rest) q := by
  intro T hT X
  have hpl : e.platform.magicAccessors = ({} : Platform).magicAccessors := by rw [X.admits.platform]
  obtain ⟨c3, c4, hc3, hc4, hasg⟩ := Cond.castable_spec hcast
  cases Option.some.inj (hc3.symm.trans hcl)
  obtain ⟨c5, hc5, hcl5⟩ := Cond.classLink_spec hown hlink e.platform hpl
  cases Option.some.inj (hc4.symm.trans hc5)
  obtain ⟨vm', X', st⟩ := X.thenCaughtThrough q (g := F0 m pc ls rest) rfl (Steps.refl _) (by rw [hT]; exact hcell) (by rw [hv]; rfl) (by obtain ⟨k9, h9, -⟩ := Vm.findClass_spec hcl; exact ⟨k9, h9⟩) pre x suf hsplit
    (fun z hz => by
      rcases hpass z hz with h | ⟨hz0, nm, hl1, hn1⟩
      · exact Or.inl h
      · obtain ⟨c6, hc6, hcl6⟩ := Cond.classLink_spec hown hl1 e.platform hpl
        obtain ⟨a8, b8, h1, h2, h3⟩ := hn1
        cases Option.some.inj (h1.symm.trans hcl)
        cases Option.some.inj (h2.symm.trans hc6)
        exact Or.inr ⟨hz0, _, hcl6, h3⟩) hx (Or.inr ⟨h0, c4, hcl5, hasg⟩)
  obtain ⟨t, a1, b1⟩ := kk (T.setVm vm') hT X'
  exact ⟨t, st.trans a1, b1⟩
end Rows
section Ends
variable {p : Program} {l : Launch} {e : Env} {R : Room} {s : State} {m : MethodId} {args : Array Value} {below : List Frame} {meth : Method} {c : Code} {H : Heap} {locs : List Loc} {cells slots : Nat} {Q : State → Prop}
variable {mc ms : Nat} {free : Addr → Prop} {A0 A1 : Nat → Prop} {H0 : Heap} {a : Array Value} {ls : Array Slot} {st0 rest : List Value}
variable {Qc : Array Value → State → Outcome → State → Prop} {XC : String → State → State → Prop}
/-- what a body that may throw owes at its end -/
def vx_MQ (below : List Frame) (Qc : Array Value → State → Outcome → State → Prop) (XC : String → State → State → Prop) (a : Array Value) (s : State) (mc ms : Nat) (free : Addr → Prop) : State → Prop := fun t =>
  ∃ o, t.status = .running ∧ Ended t below o ∧ vx_Q Qc XC mc ms free a s o t
theorem vx_ret {g : JFrame} {mc ms : Nat} (k : W p l e R s m args below meth c H locs cells slots (MQ below Qc args s mc ms free) g) : W p l e R s m args below meth c H locs cells slots (vx_MQ below Qc XC args s mc ms free) g := by
  intro T hT X
  obtain ⟨t, a1, o, b1, b2, b3, b4⟩ := k T hT X
  exact ⟨t, a1, o, b1, b2, Or.inl ⟨b3, b4⟩⟩
/-- not caught here: it goes on to the caller -/
theorem vx_widen {g : JFrame} {q : Addr} {k n : Nat} (h1 : cells ≤ k) (h2 : slots ≤ n) (kk : vx_W p l e R s m args below meth c H locs k n Q g q) : vx_W p l e R s m args below meth c H locs cells slots Q g q := fun T hT X => kk T hT (stand_widen X h1 h2)
theorem vx_out {pc : Nat} {E : String} {ce : Cell} {q : Addr} {mc ms : Nat} (hout : ∀ x ∈ c.exceptionTable.toList, covers x pc = false) (hlocks : meth.locks = false) (hcell : H[q]? = some ce) (hv : ce.vm = .none) (hcl : s.vm.findClass E = some ce.cls)
    (hx : ∀ t : State, t.heap = H → s.vm.Alike t.vm → XC E s t) (hf : ∀ z ∈ locs, free z.base) (hc : cells ≤ mc) (hs : slots ≤ ms) :
    vx_W p l e R s m args below meth c H locs cells slots (vx_MQ below Qc XC args s mc ms free) (F0 m pc ls rest) q := by
  intro T hT X
  obtain ⟨st1, hrun, hend, hW, hsm⟩ := X.leaveThrown q (g := F0 m pc ls rest) rfl rfl rfl hout hlocks
  have hcell9 : (T.setFrames (.throwing q :: below)).heap[q]? = some ce := by
    show T.heap[q]? = some ce
    rw [hT]; exact hcell
  exact ⟨_, st1, .threw q, hrun, hend, Or.inr ⟨q, rfl, E, ce, locs, hx _ hT hW.alike, hcell9, hv, hcl, hW, hsm.mono hc hs, hf⟩⟩
theorem vx_frame {U : State} {k n : Nat} (h : s.sameButNew ({ U with vm := s.vm } : State) locs k n) : s.heap.size ≤ U.heap.size ∧ ∀ q : Nat, q < s.heap.size → (∀ z ∈ locs, z.base ≠ q) → U.heap[q]? = s.heap[q]? := by
  obtain ⟨-, h2, -, -, -, h6⟩ := h
  refine ⟨h2, fun q hq hz => ?_⟩
  obtain ⟨c9, e1, e2, e3, e4⟩ := h6 q _ (Array.getElem?_eq_getElem hq)
  have hs : c9.slots = (s.heap[q]).slots := Array.ext_getElem? fun i => e4 i fun hm => hz _ hm rfl
  have h9 : c9 = s.heap[q] := by
    rw [hs] at e2
    exact e2
  have e5 : U.heap[q]? = some c9 := e1
  rw [e5, h9, Array.getElem?_eq_getElem hq]
/-- the words of a throw but the four that speak of the heap -/
def vx_no (w : Cond) : Bool := decide (w ≠ .isRef (.static Bundle.tN "UNASSIGNED_STACK" Bundle.steD)) && decide (w ≠ .isRef (.static Bundle.tN "SUPPRESSED_SENTINEL" Bundle.listD)) && decide (w ≠ .laysStatic Bundle.tN "UNASSIGNED_STACK" Bundle.steD) && decide (w ≠ .laysStatic Bundle.tN "SUPPRESSED_SENTINEL" Bundle.listD)
def vx_at0 (own : String) (ic : Nat) (X : String) (names : List String) : List Cond := (Bundle.ownAtoms0 own ic X names).filter vx_no
def vx_atS (own : String) (ic : Nat) (X : String) (names : List String) : List Cond := (Bundle.ownAtoms own ic X names).filter vx_no
/-- a word that the tables alone decide, or a good one -/
def vx_ot (w : Cond) : Bool := w.onTables || goodWord w
theorem vx_ot_at {args a' : Array Value} {s U : State} {w : Cond} (hW : s.WarmedH U.vm) (hvm : s.vm = U.vm) (hg : vx_ot w = true) (h : w.before args s = true) : w.before a' U = true := by
  simp only [vx_ot, Bool.or_eq_true] at hg
  rcases hg with hg | hg
  · exact va_tabs hg hvm h
  · exact word_at hW (good_of_word hg) h
/-- a list's words: the good ones out of the method's own list, the others by premises of their own -/
theorem vx_hat {args : Array Value} {s : State} {L B : List Cond} (h1 : ∀ w ∈ L.filter goodWord, w.before args s = true) (h2 : ∀ w ∈ L.filter (fun w => !goodWord w), w ∈ B) (h3 : ∀ w ∈ B, w.before args s = true) : ∀ w ∈ L, w.before args s = true := by
  intro w hw
  by_cases g : goodWord w = true
  · exact h1 w (List.mem_filter.mpr ⟨hw, g⟩)
  · refine h3 w (h2 w (List.mem_filter.mpr ⟨hw, ?_⟩))
    show (!goodWord w) = true
    cases hgw : goodWord w
    · rfl
    · exact absurd hgw g
theorem vx_c {args : Array Value} {s : State} {w : Cond} {B : List Cond} (h : w.before args s = true) (t : ∀ w ∈ B, w.before args s = true) : ∀ w' ∈ w :: B, w'.before args s = true := fun w' h' => (List.mem_cons.mp h').elim (fun e => by rw [e]; exact h) (t w')
theorem vx_n {args : Array Value} {s : State} : ∀ w ∈ ([] : List Cond), w.before args s = true := fun _ h => nomatch h
theorem vx_own {args : Array Value} {s : State} {L : List Cond} (h1 : ∀ w ∈ L.filter vx_no, w.before args s = true)
    (hU : (Cond.isRef (.static Bundle.tN "UNASSIGNED_STACK" Bundle.steD)).before args s = true) (hN : (Cond.isRef (.static Bundle.tN "SUPPRESSED_SENTINEL" Bundle.listD)).before args s = true)
    (lU : (Cond.laysStatic Bundle.tN "UNASSIGNED_STACK" Bundle.steD).before args s = true) (lN : (Cond.laysStatic Bundle.tN "SUPPRESSED_SENTINEL" Bundle.listD).before args s = true) : ∀ w ∈ L, w.before args s = true := by
  intro w hw
  by_cases e1 : w = .isRef (.static Bundle.tN "UNASSIGNED_STACK" Bundle.steD)
  · rw [e1]; exact hU
  · by_cases e2 : w = .isRef (.static Bundle.tN "SUPPRESSED_SENTINEL" Bundle.listD)
    · rw [e2]; exact hN
    · by_cases e3 : w = .laysStatic Bundle.tN "UNASSIGNED_STACK" Bundle.steD
      · rw [e3]; exact lU
      · by_cases e4 : w = .laysStatic Bundle.tN "SUPPRESSED_SENTINEL" Bundle.listD
        · rw [e4]; exact lN
        · exact h1 w (List.mem_filter.mpr ⟨hw, by unfold vx_no; rw [decide_eq_true e1, decide_eq_true e2, decide_eq_true e3, decide_eq_true e4]; rfl⟩)
/-- where a static field lies, its class's statics cell in H -/
def vx_L (C n d : String) (A : Nat → Prop) (U : State) (H : Heap) : Prop := ∃ (c : ClassId) (k : Class) (i : Nat) (f : Field) (a : Nat) (cell : Cell), U.vm.findClass C = some c ∧ U.fieldFound? C n d = some (c, k, i, f) ∧ f.isStatic = true ∧ k.statics = some a ∧ H[a]? = some cell ∧ cell.vm.isStatics = true ∧ cell.cls = c ∧ f.slot < cell.slots.size ∧ k.staticTypes[f.slot]? = some f.type ∧ ¬ A a
theorem vx_L.moved {C n d : String} {A : Nat → Prop} {u U : State} {H : Heap} (hvm : u.vm.Alike U.vm) (h : vx_L C n d A u H) : vx_L C n d A U H := by
  obtain ⟨c, k, i, f, a, cell, h1, h2, h3, h4, h5, h6, h7, h8, h9, h10⟩ := h
  obtain ⟨k', hi', he⟩ := State.fieldFound?_setVm hvm h2
  exact ⟨c, k', i, f, a, cell, by rw [hvm.findClass]; exact h1, hi', h3, by rw [he]; exact h4, h5, h6, h7, h8, by rw [he]; exact h9, h10⟩
theorem vx_L.kept {C n d : String} {A : Nat → Prop} {U : State} {H H1 : Heap} (h : vx_L C n d A U H) (hq : ∀ a : Nat, a < H.size → ¬ A a → H1[a]? = H[a]?) : vx_L C n d A U H1 := by
  obtain ⟨c, k, i, f, a, cell, h1, h2, h3, h4, h5, h6, h7, h8, h9, h10⟩ := h
  exact ⟨c, k, i, f, a, cell, h1, h2, h3, h4, by rw [hq a (Array.getElem?_eq_some_iff.mp h5).1 h10]; exact h5, h6, h7, h8, h9, h10⟩
theorem vx_L.narrow {C n d : String} {A B : Nat → Prop} {U : State} {H : Heap} (h : vx_L C n d A U H) (hAB : ∀ q, B q → A q) : vx_L C n d B U H := by
  obtain ⟨c, k, i, f, a, cell, h1, h2, h3, h4, h5, h6, h7, h8, h9, h10⟩ := h
  exact ⟨c, k, i, f, a, cell, h1, h2, h3, h4, h5, h6, h7, h8, h9, fun z => h10 (hAB _ z)⟩
theorem vx_L.word {C n d : String} {A : Nat → Prop} {s : State} {args : Array Value} (h : vx_L C n d A s s.heap) : (Cond.laysStatic C n d).before args s = true := by
  obtain ⟨c, k, i, f, a, cell, h1, h2, h3, h4, h5, h6, h7, h8, h9, -⟩ := h
  show (Cond.laysStatic C n d).holds args s none s [] = true
  exact Cond.laysStatic_of h1 h2 h3 h4 h5 h6 h7 h8 h9
/-- .. and what it holds: null or some reference -/
def vx_Zq (C n d : String) (A : Nat → Prop) (U : State) (H : Heap) : Prop := va_Zq C n d A U H ∧ vx_L C n d A U H
theorem vx_Zq.moved {C n d : String} {A : Nat → Prop} {u U : State} {H : Heap} (hvm : u.vm.Alike U.vm) (h : vx_Zq C n d A u H) : vx_Zq C n d A U H := ⟨va_Zq.moved hvm h.1, vx_L.moved hvm h.2⟩
theorem vx_Zq.kept {C n d : String} {A : Nat → Prop} {U : State} {H H1 : Heap} (h : vx_Zq C n d A U H) (hq : ∀ a : Nat, a < H.size → ¬ A a → H1[a]? = H[a]?) : vx_Zq C n d A U H1 := ⟨va_Zq.kept h.1 hq, vx_L.kept h.2 hq⟩
theorem vx_Zq.narrow {C n d : String} {A B : Nat → Prop} {U : State} {H : Heap} (h : vx_Zq C n d A U H) (hAB : ∀ q, B q → A q) : vx_Zq C n d B U H := ⟨va_Zq.narrow h.1 hAB, vx_L.narrow h.2 hAB⟩
theorem vx_Zqof {args : Array Value} {s : State} {C n d : String} {A : Nat → Prop} (hl : (Cond.laysStatic C n d).before args s = true) (hini : (Cond.initialized C).before args s = true) (h : (Cond.isRef (.static C n d)).before args s = true) (hA : ∀ a : Nat, a < s.heap.size → ¬ A a) : vx_Zq C n d A s s.heap := by
  refine ⟨va_Zqof hl hini h hA, ?_⟩
  obtain ⟨c, k, i, f, a, cell, h1, h2, h3, h4, h5, h6, h7, h8, h9⟩ := Cond.laysStatic_spec hl
  exact ⟨c, k, i, f, a, cell, h1, h2, h3, h4, h5, h6, h7, h8, h9, hA a (Array.getElem?_eq_some_iff.mp h5).1⟩
theorem vx_isRef {C n d : String} {v : Value} {A : Nat → Prop} {s : State} {args : Array Value} (h : va_Z C n d v A s s.heap) (hv : v.isRef = true) : (Cond.isRef (.static C n d)).before args s = true := by
  obtain ⟨cf, kf, fi, f, a, cell, h1, h2, h3, h4, h5, h6, h7, -⟩ := h
  have he : (Term.static C n d).eval args s none [] s = some v := by
    simp [Term.eval, State.fieldNamed?, h1, h2, h4, h5, h6, h7]
  simp only [Cond.before, Cond.holds, Cond.value, he]
  cases v <;> simp_all [Value.isRef]
theorem vx_isRefq {C n d : String} {A : Nat → Prop} {s : State} {args : Array Value} (h : va_Zq C n d A s s.heap) : (Cond.isRef (.static C n d)).before args s = true := by
  rcases h with h | ⟨t, h⟩
  · exact vx_isRef h rfl
  · exact vx_isRef h rfl
/-- the same frame, seen from here: as if the method were called anew in this heap -/
theorem vx_rebase {T : State} (X : Stand p l e R s m args below meth c T locs cells slots) {R' : Room} (hf : R'.frames ≤ R.frames) (hl : R'.locals ≤ R.locals) (hc : cells + R'.cells ≤ R.cells) (hs : slots + R'.slots ≤ R.slots) :
    Stand p l e R' ((T.setVm s.vm).setFrames (.invoking m args :: below)) m args below meth c T [] 0 0 := by
  have htop : (T.setVm s.vm).topJava?.isSome := X.here.top
  have hF : ((T.setVm s.vm).setFrames (.invoking m args :: below)).frames = .invoking m args :: below := State.frames_setFrames _ (State.cur_lt_of_top htop)
  obtain ⟨g₀, hg0⟩ := Option.isSome_iff_exists.mp htop
  obtain ⟨r, hr⟩ := State.topJava?_eq_some.mp hg0
  have hl9 : e.platform.stackLimits (T.setVm s.vm).me = e.platform.stackLimits s.me := X.limits
  have hb9 : (T.setVm s.vm).me.stackBytes = s.me.stackBytes := X.bytes
  refine ⟨X.admits, X.cas, X.clock, hF, ?_, X.hears, X.method, X.code, X.here, X.tail, X.warmed, ?_, ?_, ?_⟩
  · have h := X.room
    have hU : ((T.setVm s.vm).setFrames (.invoking m args :: below)).localsInUse = s.localsInUse := by
      rw [State.localsInUse_invoking hF (meth := meth) (c := c) X.method X.code, State.localsInUse_invoking X.frames X.method X.code]
    simp only [State.hasRoom, Bool.and_eq_true, decide_eq_true_eq] at h ⊢
    obtain ⟨⟨⟨⟨h1, h2, h3, h4, h5, h6⟩, h7⟩, h8⟩, h9⟩ := h
    rw [X.frames, List.length_cons] at h2 h3
    have q1 := X.heapSize
    have q2 := X.used
    simp only [hF, hU, List.length_cons, State.stackLimits_setFrames, State.stackBytes_setFrames, hl9, hb9]
    refine ⟨⟨⟨⟨by omega, by omega, by omega, by omega, by omega, h6⟩, ?_⟩, ?_⟩, X.book⟩
    · show T.heap.size + R'.cells ≤ e.platform.maxCells
      omega
    · show T.slotsUsed + R'.slots ≤ e.platform.maxSlots
      omega
  · rw [State.stackLimits_setFrames]; rfl
  · rw [State.stackBytes_setFrames]; rfl
  · refine ⟨?_, Nat.le_refl _, Nat.le_refl _, ?_, ?_, fun a c9 h9 => ⟨c9, h9, rfl, rfl, fun _ _ => rfl⟩⟩
    · obtain ⟨t, ht, -⟩ := State.frames_cons hr
      show T.setVm s.vm = { ((T.setVm s.vm).setFrames (.invoking m args :: below)).setFrames (T.setVm s.vm).frames with heap := T.heap, slotsUsed := T.slotsUsed }
      rw [State.setFrames_setFrames, State.setFrames_self ht]
      rfl
    · show T.slotsUsed = T.slotsUsed + ((T.heap.toList.drop T.heap.size).map (·.slots.size)).sum
      rw [List.drop_eq_nil_of_le (Nat.le_of_eq Array.length_toList)]
      rfl
    · show ((T.heap.toList.drop T.heap.size).map (·.slots.size)).sum ≤ 0
      rw [List.drop_eq_nil_of_le (Nat.le_of_eq Array.length_toList)]
      exact Nat.le_refl _
/-- 'throw new E()': new; dup; invokespecial; athrow -/
theorem vx_throw0 {cc : ByteArray} {pc : Nat} (hexec : p.tables.exec = Jvm.exec) (hb : c.code = cc) (hl : l.stackTraces = false) {own cls : String} {names : List String} {ik ic mc ms : Nat} {A : Nat → Prop}
    (hown : s.vm.findClass own = some m.cls) (hcls : Bundle.fit cls = true) (hnames : ∀ n ∈ names, Bundle.fit n = true)
    (hk : (Cond.classLink own ik cls).before args s = true) (hini : (Cond.initialized cls).before args s = true) (hat : ∀ w ∈ vx_at0 own ic cls names, w.before args s = true)
    (hgood : ∀ w ∈ Cond.classLink own ik cls :: Cond.initialized cls :: vx_at0 own ic cls names, vx_ot w = true)
    (hU : vx_Zq Bundle.tN "UNASSIGNED_STACK" Bundle.steD A s s.heap) (hN : vx_Zq Bundle.tN "SUPPRESSED_SENTINEL" Bundle.listD A s s.heap) (hS : va_S A s.heap H locs) (hsize : ls.size = c.maxLocals)
    (d0 : decode cc pc = .ok (.new ik, 3)) (d3 : decode cc (pc + 3) = .ok (.dup, 1)) (d4 : decode cc (pc + 4) = .ok (.invokespecial ic, 3)) (d7 : decode cc (pc + 7) = .ok (.athrow, 1))
    (hout : ∀ x ∈ c.exceptionTable.toList, covers x (pc + 7) = false)
    (hRframes : names.length + 3 < R.frames) (hRlocals : (rest.map fun v => v.category).sum + (13 * (names.length + 1) + 42) ≤ R.locals) (hRcells : cells + 1 ≤ R.cells) (hRslots : slots + 6 ≤ R.slots) (hlocks : meth.locks = false)
    (hx : ∀ t : State, s.vm.Alike t.vm → H.size ≤ t.heap.size → (∀ q : Nat, q < H.size → t.heap[q]? = H[q]?) → XC cls s t)
    (hf : ∀ z ∈ locs, free z.base) (hc : cells + 1 ≤ mc) (hs : slots + 6 ≤ ms) :
    W p l e R s m args below meth c H locs cells slots (vx_MQ below Qc XC args s mc ms free) (F0 m pc ls rest) := by
  intro T hT X
  have htr : e.platform.stackTraces = false := (show e.platform.stackTraces = l.stackTraces by rw [X.admits.platform]).trans hl
  have Y := vx_rebase X (R' := { frames := R.frames, locals := R.locals, cells := 1, slots := 6 }) (Nat.le_refl _) (Nat.le_refl _) hRcells hRslots
  obtain ⟨s', hA⟩ : ∃ z, z = (T.setVm s.vm).setFrames (.invoking m args :: below) := ⟨_, rfl⟩
  rw [← hA] at Y
  have hvm : s'.vm = s.vm := by rw [hA]; rfl
  have hhp : s'.heap = H := by rw [hA]; exact hT
  have hW0 : s.WarmedH s'.vm := by rw [hvm]; exact State.WarmedH.refl s
  have hat' : ∀ w ∈ vx_at0 own ic cls names, w.before args s' = true := fun w hw => vx_ot_at hW0 hvm.symm (hgood w (List.mem_cons_of_mem _ (List.mem_cons_of_mem _ hw))) (hat w hw)
  have hk' : (Cond.classLink own ik cls).before args s' = true := vx_ot_at hW0 hvm.symm (hgood _ List.mem_cons_self) hk
  have hini' : (Cond.initialized cls).before args s' = true := vx_ot_at hW0 hvm.symm (hgood _ (List.mem_cons_of_mem _ List.mem_cons_self)) hini
  have hU' : vx_Zq Bundle.tN "UNASSIGNED_STACK" Bundle.steD A s' s'.heap := by rw [hhp]; exact vx_Zq.moved hW0.alike (hU.kept hS.2.1)
  have hN' : vx_Zq Bundle.tN "SUPPRESSED_SENTINEL" Bundle.listD A s' s'.heap := by rw [hhp]; exact vx_Zq.moved hW0.alike (hN.kept hS.2.1)
  have h : ∀ w ∈ Bundle.ownAtoms0 own ic cls names, w.before args s' = true := vx_own hat' (vx_isRefq hU'.1) (vx_isRefq hN'.1) hU'.2.word hN'.2.word
  have hown' : s'.vm.findClass own = some m.cls := by rw [hvm]; exact hown
  have hins : (Cond.instantiable cls 6).before args s' = true := h _ (by simp [Bundle.ownAtoms0])
  obtain ⟨vm₁, cX, kX, hfX, hkX, -, -, X₁, st1⟩ := Y.newCold hexec (own := own) (C := cls) (index := ik) (n := 6) hown' hk' hins hini'
    (g := F0 m pc ls rest) rfl (by rw [hb]; exact d0) (Nat.le_refl _) (Nat.le_refl _)
  generalize hT1 : (T.setVm vm₁).pushCell { cls := cX, slots := kX.instanceTypes.map defaultValue, vm := .none } = T1 at X₁ st1
  have hcat : (Value.ref T.heap.size).category = 1 := rfl
  have hcellA : T1.heap[T.heap.size]? = some (freshCell cX kX) := by rw [← hT1]; exact State.heap_pushCell_size _ _
  have d3' : decode c.code (pc + 3) = .ok (.dup, 1) := by rw [hb]; exact d3
  obtain ⟨U, hsteps, hrun, hend, hW, hsame, ce, hce, hO⟩ := X₁.ctorThrow0 hexec htr (own := own) (cls := cls) (names := names) (ic := ic) hown' hcls hnames h (fun x hx => nomatch hx) hfX hkX hcellA (by rw [hhp, hT]; exact Nat.le_refl _)
    (g := { method := m, pc := pc + 4, locals := ls, stack := .ref T.heap.size :: .ref T.heap.size :: rest, locked := none }) rfl hsize rfl rfl (rest := rest) rfl
    (by rw [hb]; exact d4) (by rw [hb]; exact d7) hout hRframes (by simp only [List.map_cons, List.sum_cons, hcat]; omega) hlocks
  obtain ⟨f1, f2⟩ := vx_frame hsame
  rw [hhp] at f1 f2
  have hWs : s.WarmedH U.vm := State.WarmedH.trans hW0 hW
  have hcl : s.vm.findClass cls = some ce.cls := by
    have h9 := hO.cls
    rw [hvm] at h9
    exact h9
  have hall : s.sameButNew ({ U with vm := s.vm } : State) locs mc ms := by
    subst hA
    obtain ⟨e1, e2⟩ := hsame
    rw [State.setFrames_setFrames] at e1
    have h2 : (T.setVm s.vm).sameButNew ({ U with vm := s.vm } : State) [] (0 + 1) (0 + 6) := ⟨e1, e2⟩
    have h3 := X.same.trans h2
    rw [List.append_nil] at h3
    exact h3.mono hc hs
  refine ⟨U, ?_, .threw T.heap.size, hrun, hend, Or.inr ⟨T.heap.size, rfl, cls, ce, locs, hx U hWs.alike f1 (fun q hq => f2 q hq (fun z hz => nomatch hz)), hce, hO.vm, hcl, hWs, hall, hf⟩⟩
  refine st1 _ ?_
  show Steps p.tables e below (T1.setTop { method := m, pc := pc + 3, locals := ls, stack := .ref T.heap.size :: rest, locked := none }) _
  jvm_step X₁.here [X₁.here.top, hexec, d3', Value.category]
  exact hsteps
/-- 'throw new E("text")': new; dup; ldc; invokespecial; athrow -/
theorem vx_throwS {cc : ByteArray} {pc : Nat} (hexec : p.tables.exec = Jvm.exec) (hb : c.code = cc) (hl : l.stackTraces = false) {own cls text : String} {names : List String} {ik is ic mc ms sa : Nat} {A : Nat → Prop}
    (hown : s.vm.findClass own = some m.cls) (hcls : Bundle.fit cls = true) (hnames : ∀ n ∈ names, Bundle.fit n = true)
    (hk : (Cond.classLink own ik cls).before args s = true) (hini : (Cond.initialized cls).before args s = true) (hstr : vk_R own is text sa s) (hat : ∀ w ∈ vx_atS own ic cls names, w.before args s = true)
    (hgood : ∀ w ∈ Cond.classLink own ik cls :: Cond.initialized cls :: vx_atS own ic cls names, vx_ot w = true)
    (hU : vx_Zq Bundle.tN "UNASSIGNED_STACK" Bundle.steD A s s.heap) (hN : vx_Zq Bundle.tN "SUPPRESSED_SENTINEL" Bundle.listD A s s.heap) (hS : va_S A s.heap H locs) (hsize : ls.size = c.maxLocals)
    (d0 : decode cc pc = .ok (.new ik, 3)) (d3 : decode cc (pc + 3) = .ok (.dup, 1)) (d4 : decode cc (pc + 4) = .ok (.ldc is, 2)) (d6 : decode cc (pc + 6) = .ok (.invokespecial ic, 3)) (d9 : decode cc (pc + 9) = .ok (.athrow, 1))
    (hout : ∀ x ∈ c.exceptionTable.toList, covers x (pc + 9) = false)
    (hRframes : names.length + 3 < R.frames) (hRlocals : (rest.map fun v => v.category).sum + (13 * (names.length + 1) + 43) ≤ R.locals) (hRcells : cells + 1 ≤ R.cells) (hRslots : slots + 6 ≤ R.slots) (hlocks : meth.locks = false)
    (hx : ∀ t : State, s.vm.Alike t.vm → H.size ≤ t.heap.size → (∀ q : Nat, q < H.size → t.heap[q]? = H[q]?) → XC cls s t)
    (hf : ∀ z ∈ locs, free z.base) (hc : cells + 1 ≤ mc) (hs : slots + 6 ≤ ms) :
    W p l e R s m args below meth c H locs cells slots (vx_MQ below Qc XC args s mc ms free) (F0 m pc ls rest) := by
  intro T hT X
  have htr : e.platform.stackTraces = false := (show e.platform.stackTraces = l.stackTraces by rw [X.admits.platform]).trans hl
  have Y := vx_rebase X (R' := { frames := R.frames, locals := R.locals, cells := 1, slots := 6 }) (Nat.le_refl _) (Nat.le_refl _) hRcells hRslots
  obtain ⟨s', hA⟩ : ∃ z, z = (T.setVm s.vm).setFrames (.invoking m args :: below) := ⟨_, rfl⟩
  rw [← hA] at Y
  have hvm : s'.vm = s.vm := by rw [hA]; rfl
  have hhp : s'.heap = H := by rw [hA]; exact hT
  have hW0 : s.WarmedH s'.vm := by rw [hvm]; exact State.WarmedH.refl s
  have hat' : ∀ w ∈ vx_atS own ic cls names, w.before args s' = true := fun w hw => vx_ot_at hW0 hvm.symm (hgood w (List.mem_cons_of_mem _ (List.mem_cons_of_mem _ hw))) (hat w hw)
  have hk' : (Cond.classLink own ik cls).before args s' = true := vx_ot_at hW0 hvm.symm (hgood _ List.mem_cons_self) hk
  have hini' : (Cond.initialized cls).before args s' = true := vx_ot_at hW0 hvm.symm (hgood _ (List.mem_cons_of_mem _ List.mem_cons_self)) hini
  have hU' : vx_Zq Bundle.tN "UNASSIGNED_STACK" Bundle.steD A s' s'.heap := by rw [hhp]; exact vx_Zq.moved hW0.alike (hU.kept hS.2.1)
  have hN' : vx_Zq Bundle.tN "SUPPRESSED_SENTINEL" Bundle.listD A s' s'.heap := by rw [hhp]; exact vx_Zq.moved hW0.alike (hN.kept hS.2.1)
  have h : ∀ w ∈ Bundle.ownAtoms own ic cls names, w.before args s' = true := vx_own hat' (vx_isRefq hU'.1) (vx_isRefq hN'.1) hU'.2.word hN'.2.word
  have hown' : s'.vm.findClass own = some m.cls := by rw [hvm]; exact hown
  have hins : (Cond.instantiable cls 6).before args s' = true := h _ (by simp [Bundle.ownAtoms])
  obtain ⟨vm₁, cX, kX, hfX, hkX, -, -, X₁, st1⟩ := Y.newCold hexec (own := own) (C := cls) (index := ik) (n := 6) hown' hk' hins hini'
    (g := F0 m pc ls rest) rfl (by rw [hb]; exact d0) (Nat.le_refl _) (Nat.le_refl _)
  generalize hT1 : (T.setVm vm₁).pushCell { cls := cX, slots := kX.instanceTypes.map defaultValue, vm := .none } = T1 at X₁ st1
  have hcat : (Value.ref T.heap.size).category = 1 := rfl
  have hcellA : T1.heap[T.heap.size]? = some (freshCell cX kX) := by rw [← hT1]; exact State.heap_pushCell_size _ _
  have d3' : decode c.code (pc + 3) = .ok (.dup, 1) := by rw [hb]; exact d3
  have d4' : decode c.code (pc + 4) = .ok (.ldc is, 2) := by rw [hb]; exact d4
  have hstr' : vk_R own is text sa s' := vk_R.warm hW0 hstr
  obtain ⟨U, hsteps, hrun, hend, hW, hsame, ce, hce, hO⟩ := X₁.ctorThrowS hexec htr (own := own) (cls := cls) (names := names) (ic := ic) hown' hcls hnames h (fun x hx => nomatch hx) hfX hkX hcellA (by rw [hhp, hT]; exact Nat.le_refl _) (msg := .ref sa) rfl
    (g := { method := m, pc := pc + 6, locals := ls, stack := .ref sa :: .ref T.heap.size :: .ref T.heap.size :: rest, locked := none }) rfl hsize rfl rfl (rest := rest) rfl
    (by rw [hb]; exact d6) (by rw [hb]; exact d9) hout hRframes (by simp only [List.map_cons, List.sum_cons, hcat]; omega) hlocks
  obtain ⟨f1, f2⟩ := vx_frame hsame
  rw [hhp] at f1 f2
  have hWs : s.WarmedH U.vm := State.WarmedH.trans hW0 hW
  have hcl : s.vm.findClass cls = some ce.cls := by
    have h9 := hO.cls
    rw [hvm] at h9
    exact h9
  have hall : s.sameButNew ({ U with vm := s.vm } : State) locs mc ms := by
    subst hA
    obtain ⟨e1, e2⟩ := hsame
    rw [State.setFrames_setFrames] at e1
    have h2 : (T.setVm s.vm).sameButNew ({ U with vm := s.vm } : State) [] (0 + 1) (0 + 6) := ⟨e1, e2⟩
    have h3 := X.same.trans h2
    rw [List.append_nil] at h3
    exact h3.mono hc hs
  refine ⟨U, ?_, .threw T.heap.size, hrun, hend, Or.inr ⟨T.heap.size, rfl, cls, ce, locs, hx U hWs.alike f1 (fun q hq => f2 q hq (fun z hz => nomatch hz)), hce, hO.vm, hcl, hWs, hall, hf⟩⟩
  refine st1 _ ?_
  show Steps p.tables e below (T1.setTop { method := m, pc := pc + 3, locals := ls, stack := .ref T.heap.size :: rest, locked := none }) _
  jvm_step X₁.here [X₁.here.top, hexec, d3', Value.category]
  exact X₁.ldcString hexec (own := own) (text := text) (index := is) (a := sa) hown' hstr'.1 hstr'.2
    (g := { method := m, pc := pc + 4, locals := ls, stack := .ref T.heap.size :: .ref T.heap.size :: rest, locked := none }) rfl d4' _ hsteps
/-- 'throw new E("text")', the text by a wide index -/
theorem vx_throwSW {cc : ByteArray} {pc : Nat} (hexec : p.tables.exec = Jvm.exec) (hb : c.code = cc) (hl : l.stackTraces = false) {own cls text : String} {names : List String} {ik is ic mc ms sa : Nat} {A : Nat → Prop}
    (hown : s.vm.findClass own = some m.cls) (hcls : Bundle.fit cls = true) (hnames : ∀ n ∈ names, Bundle.fit n = true)
    (hk : (Cond.classLink own ik cls).before args s = true) (hini : (Cond.initialized cls).before args s = true) (hstr : vk_R own is text sa s) (hat : ∀ w ∈ vx_atS own ic cls names, w.before args s = true)
    (hgood : ∀ w ∈ Cond.classLink own ik cls :: Cond.initialized cls :: vx_atS own ic cls names, vx_ot w = true)
    (hU : vx_Zq Bundle.tN "UNASSIGNED_STACK" Bundle.steD A s s.heap) (hN : vx_Zq Bundle.tN "SUPPRESSED_SENTINEL" Bundle.listD A s s.heap) (hS : va_S A s.heap H locs) (hsize : ls.size = c.maxLocals)
    (d0 : decode cc pc = .ok (.new ik, 3)) (d3 : decode cc (pc + 3) = .ok (.dup, 1)) (d4 : decode cc (pc + 4) = .ok (.ldc_w is, 3)) (d7 : decode cc (pc + 7) = .ok (.invokespecial ic, 3)) (d10 : decode cc (pc + 10) = .ok (.athrow, 1))
    (hout : ∀ x ∈ c.exceptionTable.toList, covers x (pc + 10) = false)
    (hRframes : names.length + 3 < R.frames) (hRlocals : (rest.map fun v => v.category).sum + (13 * (names.length + 1) + 43) ≤ R.locals) (hRcells : cells + 1 ≤ R.cells) (hRslots : slots + 6 ≤ R.slots) (hlocks : meth.locks = false)
    (hx : ∀ t : State, s.vm.Alike t.vm → H.size ≤ t.heap.size → (∀ q : Nat, q < H.size → t.heap[q]? = H[q]?) → XC cls s t)
    (hf : ∀ z ∈ locs, free z.base) (hc : cells + 1 ≤ mc) (hs : slots + 6 ≤ ms) :
    W p l e R s m args below meth c H locs cells slots (vx_MQ below Qc XC args s mc ms free) (F0 m pc ls rest) := by
  intro T hT X
  have htr : e.platform.stackTraces = false := (show e.platform.stackTraces = l.stackTraces by rw [X.admits.platform]).trans hl
  have Y := vx_rebase X (R' := { frames := R.frames, locals := R.locals, cells := 1, slots := 6 }) (Nat.le_refl _) (Nat.le_refl _) hRcells hRslots
  obtain ⟨s', hA⟩ : ∃ z, z = (T.setVm s.vm).setFrames (.invoking m args :: below) := ⟨_, rfl⟩
  rw [← hA] at Y
  have hvm : s'.vm = s.vm := by rw [hA]; rfl
  have hhp : s'.heap = H := by rw [hA]; exact hT
  have hW0 : s.WarmedH s'.vm := by rw [hvm]; exact State.WarmedH.refl s
  have hat' : ∀ w ∈ vx_atS own ic cls names, w.before args s' = true := fun w hw => vx_ot_at hW0 hvm.symm (hgood w (List.mem_cons_of_mem _ (List.mem_cons_of_mem _ hw))) (hat w hw)
  have hk' : (Cond.classLink own ik cls).before args s' = true := vx_ot_at hW0 hvm.symm (hgood _ List.mem_cons_self) hk
  have hini' : (Cond.initialized cls).before args s' = true := vx_ot_at hW0 hvm.symm (hgood _ (List.mem_cons_of_mem _ List.mem_cons_self)) hini
  have hU' : vx_Zq Bundle.tN "UNASSIGNED_STACK" Bundle.steD A s' s'.heap := by rw [hhp]; exact vx_Zq.moved hW0.alike (hU.kept hS.2.1)
  have hN' : vx_Zq Bundle.tN "SUPPRESSED_SENTINEL" Bundle.listD A s' s'.heap := by rw [hhp]; exact vx_Zq.moved hW0.alike (hN.kept hS.2.1)
  have h : ∀ w ∈ Bundle.ownAtoms own ic cls names, w.before args s' = true := vx_own hat' (vx_isRefq hU'.1) (vx_isRefq hN'.1) hU'.2.word hN'.2.word
  have hown' : s'.vm.findClass own = some m.cls := by rw [hvm]; exact hown
  have hins : (Cond.instantiable cls 6).before args s' = true := h _ (by simp [Bundle.ownAtoms])
  obtain ⟨vm₁, cX, kX, hfX, hkX, -, -, X₁, st1⟩ := Y.newCold hexec (own := own) (C := cls) (index := ik) (n := 6) hown' hk' hins hini'
    (g := F0 m pc ls rest) rfl (by rw [hb]; exact d0) (Nat.le_refl _) (Nat.le_refl _)
  generalize hT1 : (T.setVm vm₁).pushCell { cls := cX, slots := kX.instanceTypes.map defaultValue, vm := .none } = T1 at X₁ st1
  have hcat : (Value.ref T.heap.size).category = 1 := rfl
  have hcellA : T1.heap[T.heap.size]? = some (freshCell cX kX) := by rw [← hT1]; exact State.heap_pushCell_size _ _
  have d3' : decode c.code (pc + 3) = .ok (.dup, 1) := by rw [hb]; exact d3
  have d4' : decode c.code (pc + 4) = .ok (.ldc_w is, 3) := by rw [hb]; exact d4
  have hstr' : vk_R own is text sa s' := vk_R.warm hW0 hstr
  obtain ⟨U, hsteps, hrun, hend, hW, hsame, ce, hce, hO⟩ := X₁.ctorThrowS hexec htr (own := own) (cls := cls) (names := names) (ic := ic) hown' hcls hnames h (fun x hx => nomatch hx) hfX hkX hcellA (by rw [hhp, hT]; exact Nat.le_refl _) (msg := .ref sa) rfl
    (g := { method := m, pc := pc + 7, locals := ls, stack := .ref sa :: .ref T.heap.size :: .ref T.heap.size :: rest, locked := none }) rfl hsize rfl rfl (rest := rest) rfl
    (by rw [hb]; exact d7) (by rw [hb]; exact d10) hout hRframes (by simp only [List.map_cons, List.sum_cons, hcat]; omega) hlocks
  obtain ⟨f1, f2⟩ := vx_frame hsame
  rw [hhp] at f1 f2
  have hWs : s.WarmedH U.vm := State.WarmedH.trans hW0 hW
  have hcl : s.vm.findClass cls = some ce.cls := by
    have h9 := hO.cls
    rw [hvm] at h9
    exact h9
  have hall : s.sameButNew ({ U with vm := s.vm } : State) locs mc ms := by
    subst hA
    obtain ⟨e1, e2⟩ := hsame
    rw [State.setFrames_setFrames] at e1
    have h2 : (T.setVm s.vm).sameButNew ({ U with vm := s.vm } : State) [] (0 + 1) (0 + 6) := ⟨e1, e2⟩
    have h3 := X.same.trans h2
    rw [List.append_nil] at h3
    exact h3.mono hc hs
  refine ⟨U, ?_, .threw T.heap.size, hrun, hend, Or.inr ⟨T.heap.size, rfl, cls, ce, locs, hx U hWs.alike f1 (fun q hq => f2 q hq (fun z hz => nomatch hz)), hce, hO.vm, hcl, hWs, hall, hf⟩⟩
  refine st1 _ ?_
  show Steps p.tables e below (T1.setTop { method := m, pc := pc + 3, locals := ls, stack := .ref T.heap.size :: rest, locked := none }) _
  jvm_step X₁.here [X₁.here.top, hexec, d3', Value.category]
  exact X₁.ldcStringW hexec (own := own) (text := text) (index := is) (a := sa) hown' hstr'.1 hstr'.2
    (g := { method := m, pc := pc + 4, locals := ls, stack := .ref T.heap.size :: .ref T.heap.size :: rest, locked := none }) rfl d4' _ hsteps
end Ends
section Bodies
variable {l : Launch}
theorem vx_ofW {y : MethodName} {ws ws' : List Cond} {rm : Room} {Pc : Array Value → State → Prop} {Qc : Array Value → State → Outcome → State → Prop} {XC : String → State → State → Prop} {mc ms : Nat} {free : Addr → Prop} {cc : ByteArray} {maxL : Nat} {ret : Option FieldType}
    (hy : plainName y.cls = true) (hw : ws = Cond.code y cc maxL ret :: ws')
    (body : ∀ p e s m args below meth c s₁, BodyLoose p l y (headSpec ws rm) cc maxL ret e s m args below meth c s₁ → c.maxLocals = maxL → (∀ x ∈ c.exceptionTable.toList, False) → Pc args s →
      W p l e (headSpec ws rm).room s m args below meth c s.heap [] 0 0 (vx_MQ below Qc XC args s mc ms free) (entryFrame m args maxL)) : vx_Met l y ws rm Pc Qc XC mc ms free := by
  refine MetFree.of_bodyS (code := cc) (maxLocals := maxL) (ret := ret) hy ?_ ?_
  · intro args s m h hn
    obtain ⟨meth, c, h1, h2, h3, h4, h5, h6, -, -⟩ := Cond.code_spec hn (atoms_spec (ws := ws) h _ (by rw [hw]; exact List.mem_cons_self))
    exact ⟨meth, c, h1, h2, h3, h4, h5, h6⟩
  · intro p e s m args below meth c s₁ B hml hP _
    have hh0 : s₁.heap = s.heap := by rw [B.state]; rfl
    have ht : ∀ x ∈ c.exceptionTable.toList, False := by
      obtain ⟨meth9, c9, h1, h2, -, -, -, -, h7, -⟩ := Cond.code_spec B.named (atoms_spec (ws := ws) B.pre _ (by rw [hw]; exact List.mem_cons_self))
      cases Option.some.inj (h1.symm.trans B.method)
      cases Option.some.inj (h2.symm.trans (Stand.of_body B).code)
      intro x hx
      rw [Array.isEmpty_iff.mp h7] at hx
      cases hx
    obtain ⟨t, a1, o, b1, b2, b3⟩ := body p e s m args below meth c s₁ B hml ht hP s₁ hh0 (Stand.of_body B)
    exact ⟨t, o, a1, b1, b2, b3⟩
/-- the table of a body with handlers -/
theorem vx_table {p : Program} {x y : MethodName} {S : Spec} {cc bytes : ByteArray} {maxL maxL' : Nat} {ret ret' : Option FieldType} {e : Env} {s s₁ : State} {m : MethodId} {args : Array Value} {below : List Frame} {meth : Method} {c : Code} {hh : List (Nat × Nat × Nat × Nat)}
    (B : BodyLoose p l y S cc maxL ret e s m args below meth c s₁) (h : (Cond.codeWith y bytes maxL' ret' hh).before args s = true) : c.exceptionTable.toList = tableOf hh := by
  obtain ⟨m9, meth9, c9, hn9, h1, h2, -, -, h6, -⟩ := Cond.codeWith_spec h
  cases Option.some.inj (hn9.symm.trans B.named)
  cases Option.some.inj (h1.symm.trans B.method)
  cases Option.some.inj (h2.symm.trans (Stand.of_body B).code)
  rw [← h6, table_eq]
end Bodies
end VXA
/-! ===== END ===== -/
/-! ===== BEGIN a static call of a method with an exception table ===== -/
section VXS
variable {p : Program} {l : Launch} {e : Env} {R : Room} {s : State} {m : MethodId} {args : Array Value} {below : List Frame} {meth : Method} {c : Code} {T : State} {H : Heap} {locs : List Loc} {cells slots : Nat}
abbrev vx_CSW (R : Room) (s : State) (args : Array Value) (own : String) (index : Nat) (y : MethodName) (bytes : ByteArray) (maxL : Nat) (ret : Option FieldType) (hh : List (Nat × Nat × Nat × Nat)) (ws : List Cond) (rm : Room) (mc ms n : Nat) : Prop :=
  (rm.cells = mc ∧ rm.slots = ms ∧ rm.frames + 1 ≤ R.frames ∧ 8 + (maxL + 11) + rm.locals ≤ R.locals ∧ (∀ w ∈ ws, ∀ (a' : Array Value) (U : State), s.WarmedH U.vm → w.before a' U = true) ∧ Cond.codeWith y bytes maxL ret hh ∈ ws) ∧
  (Cond.codeWith y bytes maxL ret hh).before args s = true ∧ (Cond.initialized y.cls).before args s = true ∧ (y.cls ≠ "java/lang/invoke/MethodHandle" ∧ y.cls ≠ "java/lang/invoke/VarHandle") ∧
  (∀ sig, parseMethodDescriptor y.desc = some sig → n = sig.parameters.length) ∧ (Cond.methodLink own index y).before args s = true ∧ (Cond.static y).before args s = true
theorem vx_cwSW {own : String} {index maxL mc ms : Nat} {y : MethodName} {bytes : ByteArray} {ret : Option FieldType} {hh : List (Nat × Nat × Nat × Nat)} {Ts ws ws' : List Cond} {rm : Room} (n : Nat) (ht : ∀ w ∈ Ts, w.before args s = true) (hT : GoodIn Ts (va_wsS own index y ws)) (hw : ws = Cond.codeWith y bytes maxL ret hh :: ws') (hrc : rm.cells = mc) (hrs : rm.slots = ms)
    (hd : y.cls ≠ "java/lang/invoke/MethodHandle" ∧ y.cls ≠ "java/lang/invoke/VarHandle" ∧ (parseMethodDescriptor y.desc).map (fun d => d.parameters.length) = some n) (hR : rm.frames + 1 ≤ R.frames ∧ 8 + (maxL + 11) + rm.locals ≤ R.locals) :
    vx_CSW R s args own index y bytes maxL ret hh ws rm mc ms n := by
  have ok : ∀ w ∈ va_wsS own index y ws, w.before args s = true := fun w h => ht w (hT w h).1
  have hG : GoodIn Ts ws := fun w h => hT w (by unfold va_wsS; exact List.mem_append_right _ h)
  have hc : Cond.codeWith y bytes maxL ret hh ∈ ws := by rw [hw]; exact List.mem_cons_self
  refine ⟨⟨hrc, hrs, hR.1, hR.2, pay_in ht hG, hc⟩, ht _ (hG _ hc).1, ok _ (by simp [va_wsS]), ⟨hd.1, hd.2.1⟩, fun sig h => ?_, ok _ (by simp [va_wsS]), ok _ (by simp [va_wsS])⟩
  have h2 := hd.2.2
  rw [h] at h2
  exact (Option.some.inj h2).symm
theorem vx_callSW (X : Stand p l e R s m args below meth c T locs cells slots) (hexec : p.tables.exec = Jvm.exec) {own : String} {index : Nat} {y : MethodName} {bytes : ByteArray} {maxL : Nat} {ret : Option FieldType} {hh : List (Nat × Nat × Nat × Nat)}
    (hown : s.vm.findClass own = some m.cls) (hlink : (Cond.methodLink own index y).before args s = true) (hstat : (Cond.static y).before args s = true) (hinit : (Cond.initialized y.cls).before args s = true)
    (hcode : (Cond.codeWith y bytes maxL ret hh).before args s = true) (hy : y.cls ≠ "java/lang/invoke/MethodHandle" ∧ y.cls ≠ "java/lang/invoke/VarHandle")
    {W9 : Nat} {Pre : Pt → Array Value → Prop} {Post : Pt → Array Value → Option Value → Pt → Prop} (hK : Back l R p e below s args y 3 W9 Pre Post)
    {g : JFrame} (hg : g.method = m) (hsize : g.locals.size = c.maxLocals) {argsL rest : List Value} (hlen : ∀ sig, parseMethodDescriptor y.desc = some sig → argsL.length = sig.parameters.length)
    (hstack : g.stack = argsL.reverse ++ rest) (hW : 2 * g.monitorRoom + (rest.map fun v => v.category).sum ≤ W9) (hdg : decode c.code g.pc = .ok (.invokestatic index, 3))
    (hpre : ∀ vm₁, s.WarmedH vm₁ → Pre ⟨T.setVm vm₁, locs, cells, slots⟩ argsL.toArray) :
    ∃ (v : Option Value) (vm₁ : Vm) (B : Pt), s.WarmedH vm₁ ∧ Stand p l e R s m args below meth c B.U B.locs B.cells B.slots ∧ Post ⟨T.setVm vm₁, locs, cells, slots⟩ argsL.toArray v B ∧
      ∀ target, Steps p.tables e below (B.U.setTop { g with pc := g.pc + 3, stack := v.toList ++ rest }) target → Steps p.tables e below (T.setTop g) target := by
  obtain ⟨mk, methM, cM, hnamed, hmethM, -, -, -, -, -, -, hsigM⟩ := Cond.codeWith_spec hcode
  have hstatic : methM.isStatic = true := Cond.static_spec hnamed hmethM hstat
  obtain ⟨kP, hkP, -⟩ := className_of_methodNamed hnamed
  have hinitP : kP.init = .initialized := Cond.initialized_spec (findClass_of_methodNamed hnamed) hkP hinit
  obtain ⟨vm₁, X₁, hstep₁⟩ := X.invokestatic hexec hown hlink hnamed hmethM hstatic hkP hinitP hy (g := g) hg (argsL := argsL) (rest := rest) (hlen _ hsigM) hstack hdg
  obtain ⟨v, B, X', hpost, hsteps⟩ := hK m meth c ⟨T.setVm vm₁, locs, cells, slots⟩ { g with stack := rest } (.invokestatic index) mk argsL.toArray X₁ hg hsize hdg hW (X₁.named hnamed) (hpre vm₁ X₁.warmed)
  exact ⟨v, vm₁, B, X₁.warmed, X', hpost, fun target h => hstep₁ _ fun acts => by rw [doInvoke_state]; exact hsteps.trans h⟩
theorem vx_runSW {y : MethodName} {bytes cc : ByteArray} {maxL nL mc ms n index : Nat} {ret : Option FieldType} {hh : List (Nat × Nat × Nat × Nat)} {ws : List Cond} {rm : Room} {Pc : Array Value → State → Prop} {Qc : Array Value → State → Outcome → State → Prop} {free : Addr → Prop} {Ts : List Cond} {own : String} {As rest : List Value} {g : JFrame}
    (S : CallFix p m c cc nL s args Ts own) (hM : Met l y ws rm Pc Qc mc ms free) (cw : vx_CSW R s args own index y bytes maxL ret hh ws rm mc ms n) (hp : PreS s H Pc As)
    (hg : g.method = m) (hn : As.length = n) (hsize : g.locals.size = nL) (hstack : g.stack = As.reverse ++ rest) (hW : 2 * g.monitorRoom + (rest.map fun v => v.category).sum ≤ 8) (hdg : decode cc g.pc = .ok (.invokestatic index, 3)) (hf : cells + mc ≤ R.cells ∧ slots + ms ≤ R.slots) :
    va_Run p l e R s m args below meth c H locs cells slots mc ms g rest (Qc As.toArray) (free) := by
  obtain ⟨⟨hrc, hrs, hfr, hlo, hws, hcw⟩, hcode, hini, hy, hlen, hl, hstt⟩ := cw
  have hK : Back l R p e below s args y 3 8 (PreOf R mc ms Pc) (PostOf Qc mc ms free) := va_backW (hh := hh) (bytes := bytes) (maxL := maxL) (ret := ret) hM hp.1 hrc hrs hfr hlo hws hcw (fun a' U hW => word_at hW (Or.inl (by first | rfl | simp [Cond.onTables, Cond.keeps, Cond.steady])) hini)
  obtain ⟨hx, hb, hml, ho, -⟩ := S
  intro T hT X
  obtain ⟨v, vm₁, ⟨U', l2, c2, s2⟩, hW₁, X', ⟨g', mk, t, L, e1, e2, hq, h1, hL, h2, h3⟩, st⟩ := vx_callSW X hx (hh := hh) (bytes := bytes) (maxL := maxL) (ret := ret) ho hl hstt hini hcode hy hK hg (hsize.trans hml.symm) (argsL := As) (rest := rest) (fun sig h => hn.trans (hlen sig h)) hstack hW (by rw [hb]; exact hdg)
    (fun vm₁ hW₁ => ⟨hf.1, hf.2, hp.2 (T.setVm vm₁) hT hW₁⟩)
  dsimp only [Pt.U, Pt.locs, Pt.cells, Pt.slots] at X' e1 e2 h1 h2 h3 st
  subst h1; subst h2; subst h3
  exact ⟨v, (T.setVm vm₁).calling g' mk As.toArray, t, U', L, hT, X', hL, e1, e2, hq, st⟩
/-- not caught here, past rows that name other classes: it goes on to the caller -/
theorem vx_outP {p : Program} {l : Launch} {e : Env} {R : Room} {s : State} {m : MethodId} {args : Array Value} {below : List Frame} {meth : Method} {c : Code} {H : Heap} {locs : List Loc} {cells slots : Nat} {free : Addr → Prop} {ls : Array Slot} {rest : List Value} {Qc : Array Value → State → Outcome → State → Prop} {XC : String → State → State → Prop}
    {pc : Nat} {own E : String} {ce : Cell} {q : Addr} {mc ms : Nat} (hown : s.vm.findClass own = some m.cls) (hlocks : meth.locks = false)
    (hpass : ∀ z ∈ c.exceptionTable.toList, covers z pc = false ∨ (z.catchType ≠ 0 ∧ ∃ nm : String, (Cond.classLink own z.catchType nm).before args s = true ∧ va_Nc E nm s)) (hcell : H[q]? = some ce) (hv : ce.vm = .none) (hcl : s.vm.findClass E = some ce.cls)
    (hx : ∀ t : State, t.heap = H → s.vm.Alike t.vm → XC E s t) (hf : ∀ z ∈ locs, free z.base) (hc : cells ≤ mc) (hs : slots ≤ ms) :
    vx_W p l e R s m args below meth c H locs cells slots (vx_MQ below Qc XC args s mc ms free) (F0 m pc ls rest) q := by
  intro T hT X
  have hpl : e.platform.magicAccessors = ({} : Platform).magicAccessors := by rw [X.admits.platform]
  obtain ⟨vm', hW', X', st⟩ := X.outThrough hlocks q (g := F0 m pc ls rest) rfl rfl rfl (cell := ce) (by rw [hT]; exact hcell) (by rw [hv]; rfl)
    (by obtain ⟨k9, h9, -⟩ := Vm.findClass_spec hcl; exact ⟨k9, h9⟩) (fun z hz => by
      rcases hpass z hz with h | ⟨hz0, nm, hl1, hn1⟩
      · exact Or.inl h
      · obtain ⟨c6, hc6, hcl6⟩ := Cond.classLink_spec hown hl1 e.platform hpl
        obtain ⟨a8, b8, h1, h2, h3⟩ := hn1
        cases Option.some.inj (h1.symm.trans hcl)
        cases Option.some.inj (h2.symm.trans hc6)
        exact Or.inr ⟨hz0, _, hcl6, h3⟩)
  obtain ⟨g₀, hfr⟩ := X'.frames_eq
  have hcell9 : ((T.setVm vm').setFrames (.throwing q :: below)).heap[q]? = some ce := by
    show T.heap[q]? = some ce
    rw [hT]; exact hcell
  have hend : Ended ((T.setVm vm').setFrames (.throwing q :: below)) below (.threw q) := State.frames_setFrames _ (State.cur_lt_of_frames hfr)
  refine ⟨(T.setVm vm').setFrames (.throwing q :: below), ?_, .threw q, X'.here.running, hend, Or.inr ⟨q, rfl, E, ce, locs, hx _ hT (X'.ends _).1.alike, hcell9, hv, hcl, (X'.ends _).1, (X'.ends _).2.mono hc hs, hf⟩⟩
  rw [X.pushThrowing_eq]
  exact st
/-- a thing of a world lies in the heap -/
theorem vx_lt {D : va_G} {cl : List vw_C} {ws : va_W} {H1 : Heap} (h : va_P D cl ws H1) {k : Nat} {q : Nat × va_E} (hk : ws[k]? = some q) : q.1 < H1.size := (h k q hk).lt
end VXS
/-! ===== END ===== -/
/-! ===== BEGIN methods with a table of their own: called by a name, returning or throwing ===== -/
section VXH
/-! vx_backW, vx_callVX, vx_callSX, vx_callVW, vx_runVW, vx_runVX, vx_runSX, vx_ofWH follow the same proofs as their sisters above (Free/Laws.lean, Shelf42/LK1.lean); vx_outP calls Shelf42/NT130.lean (outThrough). -/
section
variable {l : Launch} {R : Room} {p : Program} {e : Env} {below : List Frame} {s : State} {sargs : Array Value} {y : MethodName} {len W9 : Nat}
theorem vx_backW {ws : List Cond} {rm : Room} {Pc : Array Value → State → Prop} {Qc : Array Value → State → Outcome → State → Prop} {XC : String → State → State → Prop} {mc ms : Nat} {free : Addr → Prop} {bytes : ByteArray} {maxL : Nat} {ret : Option FieldType} {hh : List (Nat × Nat × Nat × Nat)}
    (hM : vx_Met l y ws rm Pc Qc XC mc ms free) (hblind : FrameBlind Pc) (hrc : rm.cells = mc) (hrs : rm.slots = ms)
    (hframes : rm.frames + 1 ≤ R.frames) (hlocals : W9 + (maxL + 11) + rm.locals ≤ R.locals)
    (hws : ∀ w ∈ ws, ∀ a' U, s.WarmedH U.vm → w.before a' U = true) (hcode : Cond.codeWith y bytes maxL ret hh ∈ ws) (hinit : ∀ a' U, s.WarmedH U.vm → (Cond.initialized y.cls).before a' U = true) :
    vx_Back l R p e below s sargs y len W9 (PreOf R mc ms Pc) (PostOf Qc mc ms free) (vx_Post XC mc ms free) := by
  intro m meth c A g ig mk a X hg hsize hdg hW hn hp
  have h1 : (headSpec ws rm).pre.before a A.U = true := atoms_intro fun w hw => hws w hw _ _ X.warmed
  have h2 : (Cond.codeWith y bytes maxL ret hh).before a A.U = true := hws _ hcode _ _ X.warmed
  have h3 : (Cond.initialized y.cls).before a A.U = true := hinit _ _ X.warmed
  have h4 : A.cells + (headSpec ws rm).room.cells ≤ R.cells := by rw [show (headSpec ws rm).room.cells = mc from hrc]; exact hp.1
  have h5 : A.slots + (headSpec ws rm).room.slots ≤ R.slots := by rw [show (headSpec ws rm).room.slots = ms from hrs]; exact hp.2.1
  have hPc : Pc a (A.U.calling g mk a) := hblind _ _ _ _ hp.2.2
  obtain ⟨U, Ls, c0, s0⟩ := A
  dsimp only [Pt.U, Pt.locs, Pt.cells, Pt.slots] at h1 h2 h3 h4 h5 X hn hPc ⊢
  obtain ⟨m9, methY, cY, hn9, hmY, hcY, -, hlY, -⟩ := Cond.codeWith_spec h2
  cases Option.some.inj (hn9.symm.trans hn)
  obtain ⟨kY, hkY, -⟩ := className_of_methodNamed hn
  have hinitY : kY.init = .initialized := Cond.initialized_spec (findClass_of_methodNamed hn) hkY h3
  have h : At U g.method c below := by rw [hg]; exact X.here
  have hlocals9 : W9 + (maxL + 11) + (headSpec ws rm).room.locals ≤ R.locals := hlocals
  have happ : (headSpec ws rm).appliesLoose y e.platform (U.calling g mk a) = true :=
    Spec.appliesLoose_calling (g := g) h hdg hn hkY hinitY
      (X.room_calling (g := g) (R' := (headSpec ws rm).room) hsize hmY hcY hframes (by rw [hlY]; omega) h4 h5) h1
  obtain ⟨mid, hmid⟩ := h.above
  have hfr : (U.setTop g).frames = (.java g :: mid) ++ below := by rw [State.frames_setTop' g h.top, hmid]; rfl
  obtain ⟨o, s₂, hsteps, -, hend, hq⟩ := Steps.callFree hM p X.admits X.cas X.clock (acts := []) hfr happ hPc trivial
  have hq' : vx_Q Qc XC mc ms free a (U.calling g mk a) o s₂ := hq
  rw [State.frames_setTop' g h.top] at hend
  obtain ⟨g₀, hg0⟩ := Option.isSome_iff_exists.mp h.top
  obtain ⟨r, hr⟩ := State.topJava?_eq_some.mp hg0
  have hr' : (({ U with heap := s₂.heap, slotsUsed := s₂.slotsUsed } : State).setVm s₂.vm).frames = .java g₀ :: r := hr
  rcases hq' with ⟨hqc, L, hfe, hL⟩ | ⟨q, rfl, E, ce, L, hx, hce, hcv, hcl, hW₂, hsm, hL⟩
  · obtain ⟨⟨v, rfl⟩, hW₂, e2, q2, q3, q4, q5, q6⟩ := id hfe
    have e3 : s₂ = ({ (U.calling g mk a).setFrames s₂.frames with heap := s₂.heap, slotsUsed := s₂.slotsUsed } : State).setVm s₂.vm := by
      have : s₂ = ({ s₂ with vm := (U.calling g mk a).vm } : State).setVm s₂.vm := rfl
      rw [e2] at this
      exact this
    obtain ⟨c₂, i₂, len₂, hc₂, hd₂, hf₂⟩ := hend
    have hW' : U.WarmedH s₂.vm := hW₂
    have hcc : c₂ = c := by
      have h1 : s₂.code? g.method = U.code? g.method := by
        rw [State.code?_eq, State.code?_eq, hW'.alike.method?]
      exact Option.some.inj (hc₂.symm.trans (h1.trans h.code))
    subst hcc
    have hlen : len₂ = len := by rw [hdg] at hd₂; cases hd₂; rfl
    subst hlen
    have hs₂ : s₂ = (({ U with heap := s₂.heap, slotsUsed := s₂.slotsUsed } : State).setVm s₂.vm).setTop { g with pc := g.pc + len₂, stack := v.toList ++ g.stack } := by
      refine e3.trans ?_
      rw [hf₂, State.calling_eq h.top, State.setFrames_setFrames, State.setTop_of_frames _ hr', hr]
      rfl
    have hsame : U.sameButNew ({ U with heap := s₂.heap, slotsUsed := s₂.slotsUsed } : State) L mc ms := by
      refine ⟨?_, q2, q3, q4, q5, q6⟩
      obtain ⟨t, ht, -⟩ := State.frames_cons hr
      show ({ U with heap := s₂.heap, slotsUsed := s₂.slotsUsed } : State) = { U.setFrames U.frames with heap := s₂.heap, slotsUsed := s₂.slotsUsed }
      rw [State.setFrames_self ht]
    subst hg
    refine Or.inl ⟨v, ⟨(({ U with heap := s₂.heap, slotsUsed := s₂.slotsUsed } : State).setVm s₂.vm), Ls ++ L, c0 + mc, s0 + ms⟩,
      ⟨X.admits, X.cas, X.clock, X.frames, X.room, X.hears, X.method, X.code, (X.here.setHeapUsed s₂.heap s₂.slotsUsed).setVm hW'.alike, X.tail, State.WarmedH.trans X.warmed hW', X.limits, X.bytes, X.same.trans (hsame.setVm s.vm)⟩,
      ⟨g, mk, s₂, L, rfl, rfl, hqc, rfl, hL, rfl, rfl⟩, ?_⟩
    show Steps p.tables e below _ ((({ U with heap := s₂.heap, slotsUsed := s₂.slotsUsed } : State).setVm s₂.vm).setTop { g with pc := g.pc + len₂, stack := v.toList ++ g.stack })
    rw [← hs₂]
    exact hsteps
  · obtain ⟨e2, q2, q3, q4, q5, q6⟩ := id hsm
    have e3 : s₂ = ({ (U.calling g mk a).setFrames s₂.frames with heap := s₂.heap, slotsUsed := s₂.slotsUsed } : State).setVm s₂.vm := by
      have : s₂ = ({ s₂ with vm := (U.calling g mk a).vm } : State).setVm s₂.vm := rfl
      rw [e2] at this
      exact this
    have hf₂ : s₂.frames = .throwing q :: .java g :: U.frames.tail := hend
    have hW' : U.WarmedH s₂.vm := hW₂
    have hs₂ : s₂ = ((({ U with heap := s₂.heap, slotsUsed := s₂.slotsUsed } : State).setVm s₂.vm).setTop g).pushFrame (.throwing q) := by
      refine e3.trans ?_
      rw [hf₂, State.calling_eq h.top, State.setFrames_setFrames, State.pushFrame, State.frames_setTop _ hr', State.setTop_of_frames _ hr', State.setFrames_setFrames, hr]
      rfl
    have hsame : U.sameButNew ({ U with heap := s₂.heap, slotsUsed := s₂.slotsUsed } : State) L mc ms := by
      refine ⟨?_, q2, q3, q4, q5, q6⟩
      obtain ⟨t, ht, -⟩ := State.frames_cons hr
      show ({ U with heap := s₂.heap, slotsUsed := s₂.slotsUsed } : State) = { U.setFrames U.frames with heap := s₂.heap, slotsUsed := s₂.slotsUsed }
      rw [State.setFrames_self ht]
    subst hg
    refine Or.inr ⟨q, ⟨(({ U with heap := s₂.heap, slotsUsed := s₂.slotsUsed } : State).setVm s₂.vm), Ls ++ L, c0 + mc, s0 + ms⟩,
      ⟨X.admits, X.cas, X.clock, X.frames, X.room, X.hears, X.method, X.code, (X.here.setHeapUsed s₂.heap s₂.slotsUsed).setVm hW'.alike, X.tail, State.WarmedH.trans X.warmed hW', X.limits, X.bytes, X.same.trans (hsame.setVm s.vm)⟩,
      ⟨g, mk, s₂, L, E, ce, rfl, rfl, hx, hce, hcv, hcl, rfl, hL, rfl, rfl⟩, ?_⟩
    show Steps p.tables e below _ (((({ U with heap := s₂.heap, slotsUsed := s₂.slotsUsed } : State).setVm s₂.vm).setTop g).pushFrame (.throwing q))
    rw [← hs₂]
    exact hsteps
end
variable {p : Program} {l : Launch} {e : Env} {R : Room} {s : State} {m : MethodId} {args : Array Value} {below : List Frame} {meth : Method} {c : Code} {T : State} {H : Heap} {locs : List Loc} {cells slots : Nat}
theorem vx_callVX (X : Stand p l e R s m args below meth c T locs cells slots) (hexec : p.tables.exec = Jvm.exec) {own C : String} {index : Nat} {y : MethodName} {bytes : ByteArray} {maxL : Nat} {ret : Option FieldType} {hh : List (Nat × Nat × Nat × Nat)}
    (hown : s.vm.findClass own = some m.cls) (hlink : (Cond.methodLink own index y).before args s = true) (hinst : (Cond.instanceMethod y).before args s = true) (hsel : (Cond.selects C y y).before args s = true)
    (hcode : (Cond.codeWith y bytes maxL ret hh).before args s = true) (hy : y.cls ≠ "java/lang/invoke/MethodHandle" ∧ y.cls ≠ "java/lang/invoke/VarHandle")
    {W9 : Nat} {Pre : Pt → Array Value → Prop} {Post : Pt → Array Value → Option Value → Pt → Prop} {PostX : Pt → Array Value → Addr → Pt → Prop} (hK : vx_Back l R p e below s args y 3 W9 Pre Post PostX)
    {b : Addr} {cellB : Cell} (hcell : T.heap[b]? = some cellB) (hobj : cellB.vm.isStatics = false) (hcls : s.vm.findClass C = some cellB.cls)
    {g : JFrame} (hg : g.method = m) (hsize : g.locals.size = c.maxLocals) {argsL rest : List Value} (hlen : ∀ sig, parseMethodDescriptor y.desc = some sig → argsL.length = sig.parameters.length)
    (hstack : g.stack = argsL.reverse ++ .ref b :: rest) (hW : 2 * g.monitorRoom + (rest.map fun v => v.category).sum ≤ W9) (hdg : decode c.code g.pc = .ok (.invokevirtual index, 3))
    (hpre : ∀ vm₁, s.WarmedH vm₁ → Pre ⟨T.setVm vm₁, locs, cells, slots⟩ (Value.ref b :: argsL).toArray) :
    (∃ (v : Option Value) (vm₁ : Vm) (B : Pt), s.WarmedH vm₁ ∧ Stand p l e R s m args below meth c B.U B.locs B.cells B.slots ∧ Post ⟨T.setVm vm₁, locs, cells, slots⟩ (Value.ref b :: argsL).toArray v B ∧
      ∀ target, Steps p.tables e below (B.U.setTop { g with pc := g.pc + 3, stack := v.toList ++ rest }) target → Steps p.tables e below (T.setTop g) target) ∨
    (∃ (q : Addr) (vm₁ : Vm) (B : Pt), s.WarmedH vm₁ ∧ Stand p l e R s m args below meth c B.U B.locs B.cells B.slots ∧ PostX ⟨T.setVm vm₁, locs, cells, slots⟩ (Value.ref b :: argsL).toArray q B ∧
      Steps p.tables e below (T.setTop g) ((B.U.setTop { g with stack := rest }).pushFrame (.throwing q))) := by
  obtain ⟨mk, methM, hnamed, hmethM, hstM, habM⟩ := Cond.instanceMethod_spec hinst
  obtain ⟨m8, methM', cM, hn8, hmethM', -, -, -, -, -, -, hsigM⟩ := Cond.codeWith_spec hcode
  cases Option.some.inj (hn8.symm.trans hnamed)
  cases hmethM.symm.trans hmethM'
  obtain ⟨c2, r2, m2, q1, q2, q3, q4, kP, hkP, hkPi⟩ := Cond.selects_spec hsel
  cases hcls.symm.trans q1
  cases (State.methodFound?_of_named hnamed hy).symm.trans q2
  cases hnamed.symm.trans q3
  have hselP : selectMethod e.platform s.vm cellB.cls mk = .method mk := by rw [Launch.admits_selectMethod X.admits]; exact q4
  obtain ⟨vm₁, X₁, hstep₁⟩ := X.invokevirtual hexec hown hlink hnamed hmethM hstM hkP hkPi hy (a := b) (cell := cellB) hcell
    (fun z h => by rw [h] at hobj; cases hobj) hselP hmethM habM hkP hkPi (g := g) hg (argsL := argsL) (rest := rest) (hlen _ hsigM) hstack hdg
  rcases hK m meth c ⟨T.setVm vm₁, locs, cells, slots⟩ { g with stack := rest } (.invokevirtual index) mk (Value.ref b :: argsL).toArray X₁ hg hsize hdg hW (X₁.named hnamed) (hpre vm₁ X₁.warmed) with ⟨v, B, X', hpost, hsteps⟩ | ⟨q, B, X', hpost, hsteps⟩
  · exact Or.inl ⟨v, vm₁, B, X₁.warmed, X', hpost, fun target h => hstep₁ _ fun acts => by rw [doInvoke_state]; exact hsteps.trans h⟩
  · exact Or.inr ⟨q, vm₁, B, X₁.warmed, X', hpost, hstep₁ _ fun acts => by rw [doInvoke_state]; exact hsteps⟩
theorem vx_callSX (X : Stand p l e R s m args below meth c T locs cells slots) (hexec : p.tables.exec = Jvm.exec) {own : String} {index : Nat} {y : MethodName} {bytes : ByteArray} {maxL : Nat} {ret : Option FieldType} {hh : List (Nat × Nat × Nat × Nat)}
    (hown : s.vm.findClass own = some m.cls) (hlink : (Cond.methodLink own index y).before args s = true) (hstat : (Cond.static y).before args s = true) (hinit : (Cond.initialized y.cls).before args s = true)
    (hcode : (Cond.codeWith y bytes maxL ret hh).before args s = true) (hy : y.cls ≠ "java/lang/invoke/MethodHandle" ∧ y.cls ≠ "java/lang/invoke/VarHandle")
    {W9 : Nat} {Pre : Pt → Array Value → Prop} {Post : Pt → Array Value → Option Value → Pt → Prop} {PostX : Pt → Array Value → Addr → Pt → Prop} (hK : vx_Back l R p e below s args y 3 W9 Pre Post PostX)
    {g : JFrame} (hg : g.method = m) (hsize : g.locals.size = c.maxLocals) {argsL rest : List Value} (hlen : ∀ sig, parseMethodDescriptor y.desc = some sig → argsL.length = sig.parameters.length)
    (hstack : g.stack = argsL.reverse ++ rest) (hW : 2 * g.monitorRoom + (rest.map fun v => v.category).sum ≤ W9) (hdg : decode c.code g.pc = .ok (.invokestatic index, 3))
    (hpre : ∀ vm₁, s.WarmedH vm₁ → Pre ⟨T.setVm vm₁, locs, cells, slots⟩ argsL.toArray) :
    (∃ (v : Option Value) (vm₁ : Vm) (B : Pt), s.WarmedH vm₁ ∧ Stand p l e R s m args below meth c B.U B.locs B.cells B.slots ∧ Post ⟨T.setVm vm₁, locs, cells, slots⟩ argsL.toArray v B ∧
      ∀ target, Steps p.tables e below (B.U.setTop { g with pc := g.pc + 3, stack := v.toList ++ rest }) target → Steps p.tables e below (T.setTop g) target) ∨
    (∃ (q : Addr) (vm₁ : Vm) (B : Pt), s.WarmedH vm₁ ∧ Stand p l e R s m args below meth c B.U B.locs B.cells B.slots ∧ PostX ⟨T.setVm vm₁, locs, cells, slots⟩ argsL.toArray q B ∧
      Steps p.tables e below (T.setTop g) ((B.U.setTop { g with stack := rest }).pushFrame (.throwing q))) := by
  obtain ⟨mk, methM, cM, hnamed, hmethM, -, -, -, -, -, -, hsigM⟩ := Cond.codeWith_spec hcode
  have hstatic : methM.isStatic = true := Cond.static_spec hnamed hmethM hstat
  obtain ⟨kP, hkP, -⟩ := className_of_methodNamed hnamed
  have hinitP : kP.init = .initialized := Cond.initialized_spec (findClass_of_methodNamed hnamed) hkP hinit
  obtain ⟨vm₁, X₁, hstep₁⟩ := X.invokestatic hexec hown hlink hnamed hmethM hstatic hkP hinitP hy (g := g) hg (argsL := argsL) (rest := rest) (hlen _ hsigM) hstack hdg
  rcases hK m meth c ⟨T.setVm vm₁, locs, cells, slots⟩ { g with stack := rest } (.invokestatic index) mk argsL.toArray X₁ hg hsize hdg hW (X₁.named hnamed) (hpre vm₁ X₁.warmed) with ⟨v, B, X', hpost, hsteps⟩ | ⟨q, B, X', hpost, hsteps⟩
  · exact Or.inl ⟨v, vm₁, B, X₁.warmed, X', hpost, fun target h => hstep₁ _ fun acts => by rw [doInvoke_state]; exact hsteps.trans h⟩
  · exact Or.inr ⟨q, vm₁, B, X₁.warmed, X', hpost, hstep₁ _ fun acts => by rw [doInvoke_state]; exact hsteps⟩
theorem vx_callVW (X : Stand p l e R s m args below meth c T locs cells slots) (hexec : p.tables.exec = Jvm.exec) {own C : String} {index : Nat} {y : MethodName} {bytes : ByteArray} {maxL : Nat} {ret : Option FieldType} {hh : List (Nat × Nat × Nat × Nat)}
    (hown : s.vm.findClass own = some m.cls) (hlink : (Cond.methodLink own index y).before args s = true) (hinst : (Cond.instanceMethod y).before args s = true) (hsel : (Cond.selects C y y).before args s = true)
    (hcode : (Cond.codeWith y bytes maxL ret hh).before args s = true) (hy : y.cls ≠ "java/lang/invoke/MethodHandle" ∧ y.cls ≠ "java/lang/invoke/VarHandle")
    {W9 : Nat} {Pre : Pt → Array Value → Prop} {Post : Pt → Array Value → Option Value → Pt → Prop} (hK : Back l R p e below s args y 3 W9 Pre Post)
    {b : Addr} {cellB : Cell} (hcell : T.heap[b]? = some cellB) (hobj : cellB.vm.isStatics = false) (hcls : s.vm.findClass C = some cellB.cls)
    {g : JFrame} (hg : g.method = m) (hsize : g.locals.size = c.maxLocals) {argsL rest : List Value} (hlen : ∀ sig, parseMethodDescriptor y.desc = some sig → argsL.length = sig.parameters.length)
    (hstack : g.stack = argsL.reverse ++ .ref b :: rest) (hW : 2 * g.monitorRoom + (rest.map fun v => v.category).sum ≤ W9) (hdg : decode c.code g.pc = .ok (.invokevirtual index, 3))
    (hpre : ∀ vm₁, s.WarmedH vm₁ → Pre ⟨T.setVm vm₁, locs, cells, slots⟩ (Value.ref b :: argsL).toArray) :
    ∃ (v : Option Value) (vm₁ : Vm) (B : Pt), s.WarmedH vm₁ ∧ Stand p l e R s m args below meth c B.U B.locs B.cells B.slots ∧ Post ⟨T.setVm vm₁, locs, cells, slots⟩ (Value.ref b :: argsL).toArray v B ∧
      ∀ target, Steps p.tables e below (B.U.setTop { g with pc := g.pc + 3, stack := v.toList ++ rest }) target → Steps p.tables e below (T.setTop g) target := by
  obtain ⟨mk, methM, hnamed, hmethM, hstM, habM⟩ := Cond.instanceMethod_spec hinst
  obtain ⟨m8, methM', cM, hn8, hmethM', -, -, -, -, -, -, hsigM⟩ := Cond.codeWith_spec hcode
  cases Option.some.inj (hn8.symm.trans hnamed)
  cases hmethM.symm.trans hmethM'
  obtain ⟨c2, r2, m2, q1, q2, q3, q4, kP, hkP, hkPi⟩ := Cond.selects_spec hsel
  cases hcls.symm.trans q1
  cases (State.methodFound?_of_named hnamed hy).symm.trans q2
  cases hnamed.symm.trans q3
  have hselP : selectMethod e.platform s.vm cellB.cls mk = .method mk := by rw [Launch.admits_selectMethod X.admits]; exact q4
  obtain ⟨vm₁, X₁, hstep₁⟩ := X.invokevirtual hexec hown hlink hnamed hmethM hstM hkP hkPi hy (a := b) (cell := cellB) hcell
    (fun z h => by rw [h] at hobj; cases hobj) hselP hmethM habM hkP hkPi (g := g) hg (argsL := argsL) (rest := rest) (hlen _ hsigM) hstack hdg
  obtain ⟨v, B, X', hpost, hsteps⟩ := hK m meth c ⟨T.setVm vm₁, locs, cells, slots⟩ { g with stack := rest } (.invokevirtual index) mk (Value.ref b :: argsL).toArray X₁ hg hsize hdg hW (X₁.named hnamed) (hpre vm₁ X₁.warmed)
  exact ⟨v, vm₁, B, X₁.warmed, X', hpost, fun target h => hstep₁ _ fun acts => by rw [doInvoke_state]; exact hsteps.trans h⟩
abbrev vx_CVW (R : Room) (s : State) (args : Array Value) (own C : String) (index : Nat) (y : MethodName) (bytes : ByteArray) (maxL : Nat) (ret : Option FieldType) (hh : List (Nat × Nat × Nat × Nat)) (ws : List Cond) (rm : Room) (mc ms n : Nat) : Prop :=
  (rm.cells = mc ∧ rm.slots = ms ∧ rm.frames + 1 ≤ R.frames ∧ 8 + (maxL + 11) + rm.locals ≤ R.locals ∧ (∀ w ∈ ws, ∀ (a' : Array Value) (U : State), s.WarmedH U.vm → w.before a' U = true) ∧ Cond.codeWith y bytes maxL ret hh ∈ ws) ∧
  (Cond.codeWith y bytes maxL ret hh).before args s = true ∧ (Cond.initialized y.cls).before args s = true ∧ (y.cls ≠ "java/lang/invoke/MethodHandle" ∧ y.cls ≠ "java/lang/invoke/VarHandle") ∧
  (∀ sig, parseMethodDescriptor y.desc = some sig → n = sig.parameters.length) ∧ (Cond.methodLink own index y).before args s = true ∧ (Cond.instanceMethod y).before args s = true ∧ (Cond.selects C y y).before args s = true
theorem vx_cwVW {own C : String} {index maxL mc ms : Nat} {y : MethodName} {bytes : ByteArray} {ret : Option FieldType} {hh : List (Nat × Nat × Nat × Nat)} {Ts ws ws' : List Cond} {rm : Room} (n : Nat) (ht : ∀ w ∈ Ts, w.before args s = true) (hT : GoodIn Ts (wsV own index C y ws)) (hw : ws = Cond.codeWith y bytes maxL ret hh :: ws') (hrc : rm.cells = mc) (hrs : rm.slots = ms)
    (hd : y.cls = C ∧ y.cls ≠ "java/lang/invoke/MethodHandle" ∧ y.cls ≠ "java/lang/invoke/VarHandle" ∧ (parseMethodDescriptor y.desc).map (fun d => d.parameters.length) = some n) (hR : rm.frames + 1 ≤ R.frames ∧ 8 + (maxL + 11) + rm.locals ≤ R.locals) :
    vx_CVW R s args own C index y bytes maxL ret hh ws rm mc ms n := by
  obtain ⟨hC, hd⟩ := hd
  subst hC
  have ok : ∀ w ∈ wsV own index y.cls y ws, w.before args s = true := fun w h => ht w (hT w h).1
  have hG : GoodIn Ts ws := fun w h => hT w (by unfold wsV; exact List.mem_append_right _ h)
  have hc : Cond.codeWith y bytes maxL ret hh ∈ ws := by rw [hw]; exact List.mem_cons_self
  refine ⟨⟨hrc, hrs, hR.1, hR.2, pay_in ht hG, hc⟩, ht _ (hG _ hc).1, ok _ (by simp [wsV]), ⟨hd.1, hd.2.1⟩, fun sig h => ?_, ok _ (by simp [wsV]), ok _ (by simp [wsV]), ok _ (by simp [wsV])⟩
  have h2 := hd.2.2
  rw [h] at h2
  exact (Option.some.inj h2).symm
theorem vx_runVW {y : MethodName} {bytes cc : ByteArray} {maxL nL mc ms n index : Nat} {ret : Option FieldType} {hh : List (Nat × Nat × Nat × Nat)} {ws : List Cond} {rm : Room} {Pc : Array Value → State → Prop} {Qc : Array Value → State → Outcome → State → Prop} {free : Addr → Prop} {Ts : List Cond} {own C : String} {b : Addr} {As rest : List Value} {g : JFrame}
    (S : CallFix p m c cc nL s args Ts own) (hM : Met l y ws rm Pc Qc mc ms free) (cw : vx_CVW R s args own C index y bytes maxL ret hh ws rm mc ms n) (hp : PreV s H C b Pc As)
    (hg : g.method = m) (hn : As.length = n) (hsize : g.locals.size = nL) (hstack : g.stack = As.reverse ++ .ref b :: rest) (hW : 2 * g.monitorRoom + (rest.map fun v => v.category).sum ≤ 8) (hdg : decode cc g.pc = .ok (.invokevirtual index, 3)) (hf : cells + mc ≤ R.cells ∧ slots + ms ≤ R.slots) :
    va_Run p l e R s m args below meth c H locs cells slots mc ms g rest (Qc (Value.ref b :: As).toArray) free := by
  obtain ⟨⟨hrc, hrs, hfr, hlo, hws, hcw⟩, hcode, hini, hy, hlen, hl, hin, hse⟩ := cw
  have hK : Back l R p e below s args y 3 8 (PreOf R mc ms Pc) (PostOf Qc mc ms free) := va_backW (hh := hh) (bytes := bytes) (maxL := maxL) (ret := ret) hM hp.1 hrc hrs hfr hlo hws hcw (fun a' U hW => word_at hW (Or.inl (by first | rfl | simp [Cond.onTables, Cond.keeps, Cond.steady])) hini)
  obtain ⟨hx, hb, hml, ho, -⟩ := S
  obtain ⟨-, ⟨cellB, hcB, hoB, hclB⟩, hPc⟩ := hp
  intro T hT X
  obtain ⟨v, vm₁, ⟨U', l2, c2, s2⟩, hW₁, X', ⟨g', mk, t, L, e1, e2, hq, h1, hL, h2, h3⟩, st⟩ := vx_callVW X hx (C := C) (hh := hh) (bytes := bytes) (maxL := maxL) (ret := ret) ho hl hin hse hcode hy hK (by rw [hT]; exact hcB) hoB hclB hg (hsize.trans hml.symm) (argsL := As) (rest := rest) (fun sig h => hn.trans (hlen sig h)) hstack hW (by rw [hb]; exact hdg)
    (fun vm₁ hW₁ => ⟨hf.1, hf.2, hPc (T.setVm vm₁) hT hW₁⟩)
  dsimp only [Pt.U, Pt.locs, Pt.cells, Pt.slots] at X' e1 e2 h1 h2 h3 st
  subst h1; subst h2; subst h3
  exact ⟨v, (T.setVm vm₁).calling g' mk (Value.ref b :: As).toArray, t, U', L, hT, X', hL, e1, e2, hq, st⟩
section
variable {y : MethodName} {bytes cc : ByteArray} {maxL nL mc ms n index : Nat} {ret : Option FieldType} {ws : List Cond} {rm : Room} {Pc : Array Value → State → Prop} {Qc : Array Value → State → Outcome → State → Prop} {XC : String → State → State → Prop} {free : Addr → Prop} {Ts : List Cond} {own C : String} {b : Addr} {As rest : List Value} {g : JFrame}
theorem vx_runVX {hh : List (Nat × Nat × Nat × Nat)} (S : CallFix p m c cc nL s args Ts own) (hM : vx_Met l y ws rm Pc Qc XC mc ms free) (cw : vx_CVW R s args own C index y bytes maxL ret hh ws rm mc ms n) (hp : PreV s H C b Pc As)
    (hg : g.method = m) (hn : As.length = n) (hsize : g.locals.size = nL) (hstack : g.stack = As.reverse ++ .ref b :: rest) (hW : 2 * g.monitorRoom + (rest.map fun v => v.category).sum ≤ 8) (hdg : decode cc g.pc = .ok (.invokevirtual index, 3)) (hf : cells + mc ≤ R.cells ∧ slots + ms ≤ R.slots) :
    vx_Run p l e R s m args below meth c H locs cells slots mc ms g rest (Qc (Value.ref b :: As).toArray) XC free := by
  obtain ⟨⟨hrc, hrs, hfr, hlo, hws, hcw⟩, hcode, hini, hy, hlen, hl, hin, hse⟩ := cw
  have hK : vx_Back l R p e below s args y 3 8 (PreOf R mc ms Pc) (PostOf Qc mc ms free) (vx_Post XC mc ms free) := vx_backW (hh := hh) (bytes := bytes) (maxL := maxL) (ret := ret) hM hp.1 hrc hrs hfr hlo hws hcw (fun a' U hW => word_at hW (Or.inl (by first | rfl | simp [Cond.onTables, Cond.keeps, Cond.steady])) hini)
  obtain ⟨hx, hb, hml, ho, -⟩ := S
  obtain ⟨-, ⟨cellB, hcB, hoB, hclB⟩, hPc⟩ := hp
  intro T hT X
  rcases vx_callVX X hx (C := C) (hh := hh) (bytes := bytes) (maxL := maxL) (ret := ret) ho hl hin hse hcode hy hK (by rw [hT]; exact hcB) hoB hclB hg (hsize.trans hml.symm) (argsL := As) (rest := rest) (fun sig h => hn.trans (hlen sig h)) hstack hW (by rw [hb]; exact hdg)
    (fun vm₁ hW₁ => ⟨hf.1, hf.2, hPc (T.setVm vm₁) hT hW₁⟩) with ⟨v, vm₁, ⟨U', l2, c2, s2⟩, hW₁, X', ⟨g', mk, t, L, e1, e2, hq, h1, hL, h2, h3⟩, st⟩ | ⟨q, vm₁, ⟨U', l2, c2, s2⟩, hW₁, X', ⟨g', mk, t, L, E, ce, e1, e2, hq, hce, hcv, hcl, h1, hL, h2, h3⟩, st⟩
  · dsimp only [Pt.U, Pt.locs, Pt.cells, Pt.slots] at X' e1 e2 h1 h2 h3 st
    subst h1; subst h2; subst h3
    exact Or.inl ⟨v, (T.setVm vm₁).calling g' mk (Value.ref b :: As).toArray, t, U', L, hT, X', hL, e1, e2, hq, st⟩
  · dsimp only [Pt.U, Pt.locs, Pt.cells, Pt.slots] at X' e1 e2 h1 h2 h3 st hcl
    subst h1; subst h2; subst h3
    exact Or.inr ⟨q, (T.setVm vm₁).calling g' mk (Value.ref b :: As).toArray, t, U', L, E, ce, hT, X', hL, e1, e2, hq, hce, hcv, vx_cls hW₁ hcl, st⟩
theorem vx_runSX {hh : List (Nat × Nat × Nat × Nat)} (S : CallFix p m c cc nL s args Ts own) (hM : vx_Met l y ws rm Pc Qc XC mc ms free) (cw : vx_CSW R s args own index y bytes maxL ret hh ws rm mc ms n) (hp : PreS s H Pc As)
    (hg : g.method = m) (hn : As.length = n) (hsize : g.locals.size = nL) (hstack : g.stack = As.reverse ++ rest) (hW : 2 * g.monitorRoom + (rest.map fun v => v.category).sum ≤ 8) (hdg : decode cc g.pc = .ok (.invokestatic index, 3)) (hf : cells + mc ≤ R.cells ∧ slots + ms ≤ R.slots) :
    vx_Run p l e R s m args below meth c H locs cells slots mc ms g rest (Qc As.toArray) XC free := by
  obtain ⟨⟨hrc, hrs, hfr, hlo, hws, hcw⟩, hcode, hini, hy, hlen, hl, hstt⟩ := cw
  have hK : vx_Back l R p e below s args y 3 8 (PreOf R mc ms Pc) (PostOf Qc mc ms free) (vx_Post XC mc ms free) := vx_backW (hh := hh) (bytes := bytes) (maxL := maxL) (ret := ret) hM hp.1 hrc hrs hfr hlo hws hcw (fun a' U hW => word_at hW (Or.inl (by first | rfl | simp [Cond.onTables, Cond.keeps, Cond.steady])) hini)
  obtain ⟨hx, hb, hml, ho, -⟩ := S
  intro T hT X
  rcases vx_callSX X hx (hh := hh) (bytes := bytes) (maxL := maxL) (ret := ret) ho hl hstt hini hcode hy hK hg (hsize.trans hml.symm) (argsL := As) (rest := rest) (fun sig h => hn.trans (hlen sig h)) hstack hW (by rw [hb]; exact hdg)
    (fun vm₁ hW₁ => ⟨hf.1, hf.2, hp.2 (T.setVm vm₁) hT hW₁⟩) with ⟨v, vm₁, ⟨U', l2, c2, s2⟩, hW₁, X', ⟨g', mk, t, L, e1, e2, hq, h1, hL, h2, h3⟩, st⟩ | ⟨q, vm₁, ⟨U', l2, c2, s2⟩, hW₁, X', ⟨g', mk, t, L, E, ce, e1, e2, hq, hce, hcv, hcl, h1, hL, h2, h3⟩, st⟩
  · dsimp only [Pt.U, Pt.locs, Pt.cells, Pt.slots] at X' e1 e2 h1 h2 h3 st
    subst h1; subst h2; subst h3
    exact Or.inl ⟨v, (T.setVm vm₁).calling g' mk As.toArray, t, U', L, hT, X', hL, e1, e2, hq, st⟩
  · dsimp only [Pt.U, Pt.locs, Pt.cells, Pt.slots] at X' e1 e2 h1 h2 h3 st hcl
    subst h1; subst h2; subst h3
    exact Or.inr ⟨q, (T.setVm vm₁).calling g' mk As.toArray, t, U', L, E, ce, hT, X', hL, e1, e2, hq, hce, hcv, vx_cls hW₁ hcl, st⟩
end
end VXH
theorem vx_ofWH {l : Launch} {y : MethodName} {ws ws' : List Cond} {rm : Room} {Pc : Array Value → State → Prop} {Qc : Array Value → State → Outcome → State → Prop} {XC : String → State → State → Prop} {mc ms : Nat} {free : Addr → Prop} {cc : ByteArray} {maxL : Nat} {ret : Option FieldType} {hh : List (Nat × Nat × Nat × Nat)}
    (hy : plainName y.cls = true) (hw : ws = Cond.codeWith y cc maxL ret hh :: ws')
    (body : ∀ p e s m args below meth c s₁, BodyLoose p l y (headSpec ws rm) cc maxL ret e s m args below meth c s₁ → c.maxLocals = maxL → Pc args s →
      W p l e (headSpec ws rm).room s m args below meth c s.heap [] 0 0 (vx_MQ below Qc XC args s mc ms free) (entryFrame m args maxL)) : vx_Met l y ws rm Pc Qc XC mc ms free := by
  refine MetFree.of_bodyS (code := cc) (maxLocals := maxL) (ret := ret) hy ?_ ?_
  · intro args s m h hn
    obtain ⟨m9, meth, c, hn9, h1, h2, h3, h4, -, h5, h6, -⟩ := Cond.codeWith_spec (atoms_spec (ws := ws) h _ (by rw [hw]; exact List.mem_cons_self))
    cases hn.symm.trans hn9
    exact ⟨meth, c, h1, h2, h3, h4, h5, h6⟩
  · intro p e s m args below meth c s₁ B hml hP _
    have hh0 : s₁.heap = s.heap := by rw [B.state]; rfl
    obtain ⟨t, a1, o, b1, b2, b3⟩ := body p e s m args below meth c s₁ B hml hP s₁ hh0 (Stand.of_body B)
    exact ⟨t, o, a1, b1, b2, b3⟩
/-! ===== END ===== -/
end
section
/-! ===== BEGIN printed: names, fields, word lists, decode rows ===== -/
def RX0 : String := "GaugeBook$Curve"
def TX0 : u_T := fun k => match k with
  | 0 => ("GaugeBook$Curve", "firstDay", "I", true)
  | 1 => ("GaugeBook$Curve", "pointStages", "[I", true)
  | 2 => ("GaugeBook$Curve", "pointFlows", "[I", true)
  | _ => ("GaugeBook$Curve", "points", "I", false)
def tyX0 : Nat → FieldType := fun k => match k with
  | 0 => .int
  | 1 => .array .int
  | 2 => .array .int
  | _ => .int
abbrev wsX00 : List Cond := u_ws RX0 TX0 4
theorem nmX0 : ∀ a, a < 4 → ∀ b, b < 4 → a ≠ b → (TX0 a).2.1 ≠ (TX0 b).2.1 := by decide +kernel
theorem tyX0_ok : ∀ k, k < 4 → parseFieldDescriptor (TX0 k).2.2.1 = some (tyX0 k) := by decide +kernel
abbrev cX0_init : ByteArray := prog_2_method_1_code
def yX0_init : MethodName := ⟨RX0, "<init>", "(I)V"⟩
abbrev cX0_size : ByteArray := prog_2_method_2_code
def yX0_size : MethodName := ⟨RX0, "size", "()I"⟩
abbrev cX0_isComplete : ByteArray := prog_2_method_3_code
def yX0_isComplete : MethodName := ⟨RX0, "isComplete", "()Z"⟩
abbrev cX0_insert : ByteArray := prog_2_method_4_code
def yX0_insert : MethodName := ⟨RX0, "insert", "(II)Z"⟩
abbrev cX0_flowAt : ByteArray := prog_2_method_5_code
def yX0_flowAt : MethodName := ⟨RX0, "flowAt", "(I)J"⟩
abbrev cX0_fits : ByteArray := prog_2_method_7_code
def yX0_fits : MethodName := ⟨RX0, "fits", "(III)Z"⟩
def RX1 : String := "GaugeBook$FlowTable"
def TX1 : u_T := fun k => match k with
  | 0 => ("GaugeBook$FlowTable", "flows", "[J", true)
  | _ => ("GaugeBook$FlowTable", "states", "[I", true)
def tyX1 : Nat → FieldType := fun k => match k with
  | 0 => .array .long
  | _ => .array .int
abbrev wsX10 : List Cond := u_ws RX1 TX1 2
theorem nmX1 : ∀ a, a < 2 → ∀ b, b < 2 → a ≠ b → (TX1 a).2.1 ≠ (TX1 b).2.1 := by decide +kernel
theorem tyX1_ok : ∀ k, k < 2 → parseFieldDescriptor (TX1 k).2.2.1 = some (tyX1 k) := by decide +kernel
abbrev cX1_init : ByteArray := prog_3_method_1_code
def yX1_init : MethodName := ⟨RX1, "<init>", "()V"⟩
abbrev cX1_put : ByteArray := prog_3_method_2_code
def yX1_put : MethodName := ⟨RX1, "put", "(IJI)V"⟩
abbrev cX1_stateOn : ByteArray := prog_3_method_3_code
def yX1_stateOn : MethodName := ⟨RX1, "stateOn", "(I)I"⟩
abbrev cX1_flowOn : ByteArray := prog_3_method_4_code
def yX1_flowOn : MethodName := ⟨RX1, "flowOn", "(I)J"⟩
abbrev cX1_hasFlow : ByteArray := prog_3_method_5_code
def yX1_hasFlow : MethodName := ⟨RX1, "hasFlow", "(I)Z"⟩
abbrev cX1_fillGaps : ByteArray := prog_3_method_6_code
def yX1_fillGaps : MethodName := ⟨RX1, "fillGaps", "(I)V"⟩
abbrev cX1_fillBetween : ByteArray := prog_3_method_7_code
def yX1_fillBetween : MethodName := ⟨RX1, "fillBetween", "(II)V"⟩
abbrev cX1_daysWithFlow : ByteArray := prog_3_method_8_code
def yX1_daysWithFlow : MethodName := ⟨RX1, "daysWithFlow", "(II)I"⟩
abbrev cX1_total : ByteArray := prog_3_method_9_code
def yX1_total : MethodName := ⟨RX1, "total", "(II)J"⟩
abbrev cX1_greatestDay : ByteArray := prog_3_method_10_code
def yX1_greatestDay : MethodName := ⟨RX1, "greatestDay", "(II)I"⟩
abbrev cX1_leastFlow : ByteArray := prog_3_method_11_code
def yX1_leastFlow : MethodName := ⟨RX1, "leastFlow", "(II)J"⟩
def RX2 : String := "GaugeBook$Measurement"
def TX2 : u_T := fun k => match k with
  | _ => ("", "", "", false)
def tyX2 : Nat → FieldType := fun k => match k with
  | _ => .int
abbrev wsX20 : List Cond := u_ws RX2 TX2 0
theorem nmX2 : ∀ a, a < 0 → ∀ b, b < 0 → a ≠ b → (TX2 a).2.1 ≠ (TX2 b).2.1 := by decide +kernel
theorem tyX2_ok : ∀ k, k < 0 → parseFieldDescriptor (TX2 k).2.2.1 = some (tyX2 k) := by decide +kernel
def RX3 : String := "GaugeBook$Ranking"
def TX3 : u_T := fun k => match k with
  | 0 => ("GaugeBook$Ranking", "days", "[I", true)
  | 1 => ("GaugeBook$Ranking", "merged", "[I", true)
  | 2 => ("GaugeBook$Ranking", "isNearPeak", "[Z", true)
  | _ => ("GaugeBook$Ranking", "ranked", "I", false)
def tyX3 : Nat → FieldType := fun k => match k with
  | 0 => .array .int
  | 1 => .array .int
  | 2 => .array .boolean
  | _ => .int
abbrev wsX30 : List Cond := u_ws RX3 TX3 4
theorem nmX3 : ∀ a, a < 4 → ∀ b, b < 4 → a ≠ b → (TX3 a).2.1 ≠ (TX3 b).2.1 := by decide +kernel
theorem tyX3_ok : ∀ k, k < 4 → parseFieldDescriptor (TX3 k).2.2.1 = some (tyX3 k) := by decide +kernel
abbrev cX3_init : ByteArray := prog_5_method_1_code
def yX3_init : MethodName := ⟨RX3, "<init>", "()V"⟩
abbrev cX3_size : ByteArray := prog_5_method_2_code
def yX3_size : MethodName := ⟨RX3, "size", "()I"⟩
abbrev cX3_dayOfRank : ByteArray := prog_5_method_3_code
def yX3_dayOfRank : MethodName := ⟨RX3, "dayOfRank", "(I)I"⟩
abbrev cX3_rank : ByteArray := prog_5_method_4_code
def yX3_rank : MethodName := ⟨RX3, "rank", "(LGaugeBook$FlowTable;)V"⟩
abbrev cX3_countPeaks : ByteArray := prog_5_method_5_code
def yX3_countPeaks : MethodName := ⟨RX3, "countPeaks", "(LGaugeBook$FlowTable;JI)I"⟩
abbrev cX3_mergeRuns : ByteArray := prog_5_method_6_code
def yX3_mergeRuns : MethodName := ⟨RX3, "mergeRuns", "(LGaugeBook$FlowTable;I)V"⟩
abbrev cX3_merge : ByteArray := prog_5_method_7_code
def yX3_merge : MethodName := ⟨RX3, "merge", "(LGaugeBook$FlowTable;III)V"⟩
abbrev cX3_clearPeaks : ByteArray := prog_5_method_8_code
def yX3_clearPeaks : MethodName := ⟨RX3, "clearPeaks", "()V"⟩
abbrev cX3_markNear : ByteArray := prog_5_method_9_code
def yX3_markNear : MethodName := ⟨RX3, "markNear", "(II)V"⟩
def RX4 : String := "GaugeBook$Shifts"
def TX4 : u_T := fun k => match k with
  | 0 => ("GaugeBook$Shifts", "toldDays", "[I", true)
  | 1 => ("GaugeBook$Shifts", "toldShifts", "[I", true)
  | _ => ("GaugeBook$Shifts", "told", "I", false)
def tyX4 : Nat → FieldType := fun k => match k with
  | 0 => .array .int
  | 1 => .array .int
  | _ => .int
abbrev wsX40 : List Cond := u_ws RX4 TX4 3
theorem nmX4 : ∀ a, a < 3 → ∀ b, b < 3 → a ≠ b → (TX4 a).2.1 ≠ (TX4 b).2.1 := by decide +kernel
theorem tyX4_ok : ∀ k, k < 3 → parseFieldDescriptor (TX4 k).2.2.1 = some (tyX4 k) := by decide +kernel
abbrev cX4_init : ByteArray := prog_6_method_1_code
def yX4_init : MethodName := ⟨RX4, "<init>", "()V"⟩
abbrev cX4_on : ByteArray := prog_6_method_3_code
def yX4_on : MethodName := ⟨RX4, "on", "(I)I"⟩
abbrev cX4_tell : ByteArray := prog_6_method_4_code
def yX4_tell : MethodName := ⟨RX4, "tell", "(II)Z"⟩
def RX5 : String := "GaugeBook"
def TX5 : u_T := fun k => match k with
  | 0 => ("GaugeBook", "curves", "[LGaugeBook$Curve;", true)
  | 1 => ("GaugeBook", "shifts", "LGaugeBook$Shifts;", true)
  | 2 => ("GaugeBook", "stages", "[I", true)
  | 3 => ("GaugeBook", "hasStage", "[Z", true)
  | 4 => ("GaugeBook", "ice", "[Z", true)
  | 5 => ("GaugeBook", "measurements", "[LGaugeBook$Measurement;", true)
  | 6 => ("GaugeBook", "table", "LGaugeBook$FlowTable;", true)
  | 7 => ("GaugeBook", "ranking", "LGaugeBook$Ranking;", true)
  | 8 => ("GaugeBook", "curveTotal", "I", false)
  | 9 => ("GaugeBook", "measurementTotal", "I", false)
  | 10 => ("GaugeBook", "iceFactor", "I", false)
  | 11 => ("GaugeBook", "gapLimit", "I", false)
  | _ => ("GaugeBook", "isReckoned", "Z", false)
def tyX5 : Nat → FieldType := fun k => match k with
  | 0 => .array (.object "GaugeBook$Curve")
  | 1 => .object "GaugeBook$Shifts"
  | 2 => .array .int
  | 3 => .array .boolean
  | 4 => .array .boolean
  | 5 => .array (.object "GaugeBook$Measurement")
  | 6 => .object "GaugeBook$FlowTable"
  | 7 => .object "GaugeBook$Ranking"
  | 8 => .int
  | 9 => .int
  | 10 => .int
  | 11 => .int
  | _ => .boolean
abbrev wsX50 : List Cond := u_ws RX5 TX5 13
theorem nmX5 : ∀ a, a < 13 → ∀ b, b < 13 → a ≠ b → (TX5 a).2.1 ≠ (TX5 b).2.1 := by decide +kernel
theorem tyX5_ok : ∀ k, k < 13 → parseFieldDescriptor (TX5 k).2.2.1 = some (tyX5 k) := by decide +kernel
abbrev cX5_init : ByteArray := prog_1_method_1_code
def yX5_init : MethodName := ⟨RX5, "<init>", "()V"⟩
abbrev cX5_addCurve : ByteArray := prog_1_method_2_code
def yX5_addCurve : MethodName := ⟨RX5, "addCurve", "(I)I"⟩
abbrev cX5_addPoint : ByteArray := prog_1_method_3_code
def yX5_addPoint : MethodName := ⟨RX5, "addPoint", "(III)I"⟩
abbrev cX5_flowBy : ByteArray := prog_1_method_4_code
def yX5_flowBy : MethodName := ⟨RX5, "flowBy", "(II)J"⟩
abbrev cX5_curveOf : ByteArray := prog_1_method_6_code
def yX5_curveOf : MethodName := ⟨RX5, "curveOf", "(I)I"⟩
abbrev cX5_setShift : ByteArray := prog_1_method_7_code
def yX5_setShift : MethodName := ⟨RX5, "setShift", "(II)I"⟩
abbrev cX5_shift : ByteArray := prog_1_method_8_code
def yX5_shift : MethodName := ⟨RX5, "shift", "(I)I"⟩
abbrev cX5_read : ByteArray := prog_1_method_9_code
def yX5_read : MethodName := ⟨RX5, "read", "(IIII)I"⟩
abbrev cX5_erase : ByteArray := prog_1_method_10_code
def yX5_erase : MethodName := ⟨RX5, "erase", "(II)I"⟩
abbrev cX5_freeze : ByteArray := prog_1_method_11_code
def yX5_freeze : MethodName := ⟨RX5, "freeze", "(IIZ)I"⟩
abbrev cX5_setRules : ByteArray := prog_1_method_12_code
def yX5_setRules : MethodName := ⟨RX5, "setRules", "(II)I"⟩
abbrev cX5_state : ByteArray := prog_1_method_13_code
def yX5_state : MethodName := ⟨RX5, "state", "(I)I"⟩
abbrev cX5_flow : ByteArray := prog_1_method_14_code
def yX5_flow : MethodName := ⟨RX5, "flow", "(I)J"⟩
abbrev cX5_sum : ByteArray := prog_1_method_15_code
def yX5_sum : MethodName := ⟨RX5, "sum", "(III)J"⟩
abbrev cX5_reached : ByteArray := prog_1_method_17_code
def yX5_reached : MethodName := ⟨RX5, "reached", "(I)J"⟩
abbrev cX5_peaks : ByteArray := prog_1_method_18_code
def yX5_peaks : MethodName := ⟨RX5, "peaks", "(JI)I"⟩
abbrev cX5_requireDay : ByteArray := prog_1_method_25_code
def yX5_requireDay : MethodName := ⟨RX5, "requireDay", "(I)V"⟩
abbrev cX5_requireSpan : ByteArray := prog_1_method_26_code
def yX5_requireSpan : MethodName := ⟨RX5, "requireSpan", "(II)V"⟩
abbrev cX5_requireRange : ByteArray := prog_1_method_27_code
def yX5_requireRange : MethodName := ⟨RX5, "requireRange", "(II)V"⟩
abbrev cX5_requireStage : ByteArray := prog_1_method_28_code
def yX5_requireStage : MethodName := ⟨RX5, "requireStage", "(J)V"⟩
abbrev cX5_requireFlow : ByteArray := prog_1_method_29_code
def yX5_requireFlow : MethodName := ⟨RX5, "requireFlow", "(I)V"⟩
abbrev cX5_requireLimit : ByteArray := prog_1_method_30_code
def yX5_requireLimit : MethodName := ⟨RX5, "requireLimit", "(J)V"⟩
abbrev cX5_countTrue : ByteArray := prog_1_method_31_code
def yX5_countTrue : MethodName := ⟨RX5, "countTrue", "([ZII)I"⟩
abbrev cX5_countLower : ByteArray := prog_1_method_32_code
def yX5_countLower : MethodName := ⟨RX5, "countLower", "([III)I"⟩
abbrev cX5_insertInto : ByteArray := prog_1_method_33_code
def yX5_insertInto : MethodName := ⟨RX5, "insertInto", "([IIII)V"⟩
abbrev cX5_interpolate : ByteArray := prog_1_method_34_code
def yX5_interpolate : MethodName := ⟨RX5, "interpolate", "(JJJJ)J"⟩
abbrev cX5_curveAt : ByteArray := prog_1_method_35_code
def yX5_curveAt : MethodName := ⟨RX5, "curveAt", "(I)LGaugeBook$Curve;"⟩
abbrev cX5_hasCurveFrom : ByteArray := prog_1_method_36_code
def yX5_hasCurveFrom : MethodName := ⟨RX5, "hasCurveFrom", "(I)Z"⟩
abbrev cX5_curveNumberOn : ByteArray := prog_1_method_37_code
def yX5_curveNumberOn : MethodName := ⟨RX5, "curveNumberOn", "(I)I"⟩
abbrev cX5_completeCurveOn : ByteArray := prog_1_method_38_code
def yX5_completeCurveOn : MethodName := ⟨RX5, "completeCurveOn", "(I)LGaugeBook$Curve;"⟩
abbrev cX5_reckon : ByteArray := prog_1_method_40_code
def yX5_reckon : MethodName := ⟨RX5, "reckon", "()V"⟩
abbrev cX5_reckonDay : ByteArray := prog_1_method_41_code
def yX5_reckonDay : MethodName := ⟨RX5, "reckonDay", "(I)V"⟩
def RX6 : String := "GaugeBookLaw$Book"
def TX6 : u_T := fun k => match k with
  | 0 => ("GaugeBookLaw$Book", "curves", "[[I", true)
  | 1 => ("GaugeBookLaw$Book", "shifts", "[I", true)
  | 2 => ("GaugeBookLaw$Book", "stages", "[I", true)
  | 3 => ("GaugeBookLaw$Book", "ice", "[Z", true)
  | _ => ("GaugeBookLaw$Book", "n", "[I", true)
def tyX6 : Nat → FieldType := fun k => match k with
  | 0 => .array (.array .int)
  | 1 => .array .int
  | 2 => .array .int
  | 3 => .array .boolean
  | _ => .array .int
abbrev wsX60 : List Cond := u_ws RX6 TX6 5
theorem nmX6 : ∀ a, a < 5 → ∀ b, b < 5 → a ≠ b → (TX6 a).2.1 ≠ (TX6 b).2.1 := by decide +kernel
theorem tyX6_ok : ∀ k, k < 5 → parseFieldDescriptor (TX6 k).2.2.1 = some (tyX6 k) := by decide +kernel
abbrev cX6_init : ByteArray := prog_8_method_1_code
def yX6_init : MethodName := ⟨RX6, "<init>", "()V"⟩
abbrev cX6_shift : ByteArray := prog_8_method_4_code
def yX6_shift : MethodName := ⟨RX6, "shift", "(I)I"⟩
def RX7 : String := "GaugeBookModel"
def TX7 : u_T := fun k => match k with
  | _ => ("", "", "", false)
def tyX7 : Nat → FieldType := fun k => match k with
  | _ => .int
abbrev wsX70 : List Cond := u_ws RX7 TX7 0
theorem nmX7 : ∀ a, a < 0 → ∀ b, b < 0 → a ≠ b → (TX7 a).2.1 ≠ (TX7 b).2.1 := by decide +kernel
theorem tyX7_ok : ∀ k, k < 0 → parseFieldDescriptor (TX7 k).2.2.1 = some (tyX7 k) := by decide +kernel
def RJ9 : String := "java/lang/Math"
def TJ9 : u_T := fun k => match k with
  | _ => ("", "", "", false)
def tyJ9 : Nat → FieldType := fun k => match k with
  | _ => .int
abbrev wsJ90 : List Cond := u_ws RJ9 TJ9 0
theorem nmJ9 : ∀ a, a < 0 → ∀ b, b < 0 → a ≠ b → (TJ9 a).2.1 ≠ (TJ9 b).2.1 := by decide +kernel
theorem tyJ9_ok : ∀ k, k < 0 → parseFieldDescriptor (TJ9 k).2.2.1 = some (tyJ9 k) := by decide +kernel
abbrev cJ9_max_7cf53 : ByteArray := prog_14_method_65_code
def yJ9_max_7cf53 : MethodName := ⟨RJ9, "max", "(II)I"⟩
abbrev cJ9_max_f86c9 : ByteArray := prog_14_method_66_code
def yJ9_max_f86c9 : MethodName := ⟨RJ9, "max", "(JJ)J"⟩
abbrev cJ9_min_7cf53 : ByteArray := prog_14_method_69_code
def yJ9_min_7cf53 : MethodName := ⟨RJ9, "min", "(II)I"⟩
abbrev cJ9_min_f86c9 : ByteArray := prog_14_method_70_code
def yJ9_min_f86c9 : MethodName := ⟨RJ9, "min", "(JJ)J"⟩
def RJ0 : String := "java/lang/String"
def TJ0 : u_T := fun k => match k with
  | _ => ("", "", "", false)
def tyJ0 : Nat → FieldType := fun k => match k with
  | _ => .int
abbrev wsJ00 : List Cond := u_ws RJ0 TJ0 0
theorem nmJ0 : ∀ a, a < 0 → ∀ b, b < 0 → a ≠ b → (TJ0 a).2.1 ≠ (TJ0 b).2.1 := by decide +kernel
theorem tyJ0_ok : ∀ k, k < 0 → parseFieldDescriptor (TJ0 k).2.2.1 = some (tyJ0 k) := by decide +kernel
def RJ10 : String := "java/lang/System"
def TJ10 : u_T := fun k => match k with
  | _ => ("", "", "", false)
def tyJ10 : Nat → FieldType := fun k => match k with
  | _ => .int
abbrev wsJ100 : List Cond := u_ws RJ10 TJ10 0
theorem nmJ10 : ∀ a, a < 0 → ∀ b, b < 0 → a ≠ b → (TJ10 a).2.1 ≠ (TJ10 b).2.1 := by decide +kernel
theorem tyJ10_ok : ∀ k, k < 0 → parseFieldDescriptor (TJ10 k).2.2.1 = some (tyJ10 k) := by decide +kernel
def RL : String := "GaugeBookLaw"
abbrev cL_below : ByteArray := method_2_code
def yL_below : MethodName := ⟨RL, "below", "(II)I"⟩
abbrev cL_cell : ByteArray := method_3_code
def yL_cell : MethodName := ⟨RL, "cell", "([II)I"⟩
abbrev cL_build : ByteArray := method_4_code
def yL_build : MethodName := ⟨RL, "build", "(LGaugeBook;[II)LGaugeBookLaw$Book;"⟩
abbrev cL_law : ByteArray := code
def yL_law : MethodName := ⟨RL, "law", "([I)Z"⟩
def wsX0_init : List Cond := .code yX0_init cX0_init 2 none :: ([.methodLink RX0 3 objectInit, .instanceMethod objectInit, .code objectInit ⟨#[0xb1]⟩ 1 none, .fieldLink RX0 9 "GaugeBook$Curve" "firstDay" "I", .arrayClass .int, .fieldLink RX0 15 "GaugeBook$Curve" "pointStages" "[I", .fieldLink RX0 19 "GaugeBook$Curve" "pointFlows" "[I"] ++ wsX00)
def wsX0_size : List Cond := .code yX0_size cX0_size 1 (some .int) :: ([.fieldLink RX0 22 "GaugeBook$Curve" "points" "I"] ++ wsX00)
def wsX0_isComplete : List Cond := .code yX0_isComplete cX0_isComplete 1 (some .boolean) :: ([.fieldLink RX0 22 "GaugeBook$Curve" "points" "I"] ++ wsX00)
def wsX5_countLower : List Cond := .code yX5_countLower cX5_countLower 4 (some .int) :: ([])
def wsX0_fits : List Cond := .code yX0_fits cX0_fits 6 (some .boolean) :: ([.fieldLink RX0 19 "GaugeBook$Curve" "pointFlows" "[I", .fieldLink RX0 22 "GaugeBook$Curve" "points" "I", .fieldLink RX0 15 "GaugeBook$Curve" "pointStages" "[I"] ++ wsX00)
def wsX5_insertInto : List Cond := .code yX5_insertInto cX5_insertInto 5 none :: ([])
def wsX0_insert : List Cond := .code yX0_insert cX0_insert 4 (some .boolean) :: ([.fieldLink RX0 15 "GaugeBook$Curve" "pointStages" "[I", .fieldLink RX0 22 "GaugeBook$Curve" "points" "I", .fieldLink RX0 19 "GaugeBook$Curve" "pointFlows" "[I", .static yX5_countLower, .initialized RX5, .code yX5_countLower cX5_countLower 4 (some .int), .methodLink RX0 29 yX0_fits, .instanceMethod yX0_fits, .selects RX0 yX0_fits yX0_fits, .initialized RX0, .code yX0_fits cX0_fits 6 (some .boolean), .static yX5_insertInto, .code yX5_insertInto cX5_insertInto 5 none] ++ wsX00)
def wsX5_interpolate : List Cond := .code yX5_interpolate cX5_interpolate 8 (some .long) :: ([])
def wsX0_flowAt : List Cond := .code yX0_flowAt cX0_flowAt 4 (some .long) :: ([.fieldLink RX0 22 "GaugeBook$Curve" "points" "I", .fieldLink RX0 15 "GaugeBook$Curve" "pointStages" "[I", .methodLink RX0 37 Lib.Math.max.name, .static Lib.Math.max.name, .initialized "java/lang/Math", .code Lib.Math.max.name Lib.Math.max.code 2 (some .int), .methodLink RX0 43 Lib.Math.min.name, .static Lib.Math.min.name, .code Lib.Math.min.name Lib.Math.min.code 2 (some .int), .fieldLink RX0 19 "GaugeBook$Curve" "pointFlows" "[I", .static yX5_countLower, .initialized RX5, .code yX5_countLower cX5_countLower 4 (some .int), .static yX5_interpolate, .code yX5_interpolate cX5_interpolate 8 (some .long)] ++ wsX00)
def wsX1_init : List Cond := .code yX1_init cX1_init 1 none :: ([.methodLink RX1 3 objectInit, .instanceMethod objectInit, .code objectInit ⟨#[0xb1]⟩ 1 none, .arrayClass .long, .fieldLink RX1 9 "GaugeBook$FlowTable" "flows" "[J", .arrayClass .int, .fieldLink RX1 15 "GaugeBook$FlowTable" "states" "[I"] ++ wsX10)
def wsX1_put : List Cond := .code yX1_put cX1_put 5 none :: ([.fieldLink RX1 9 "GaugeBook$FlowTable" "flows" "[J", .fieldLink RX1 15 "GaugeBook$FlowTable" "states" "[I"] ++ wsX10)
def wsX1_stateOn : List Cond := .code yX1_stateOn cX1_stateOn 2 (some .int) :: ([.fieldLink RX1 15 "GaugeBook$FlowTable" "states" "[I"] ++ wsX10)
def wsX1_flowOn : List Cond := .code yX1_flowOn cX1_flowOn 2 (some .long) :: ([.constantLong RX1 19 (-1), .fieldLink RX1 9 "GaugeBook$FlowTable" "flows" "[J"] ++ wsX10)
def wsX1_hasFlow : List Cond := .code yX1_hasFlow cX1_hasFlow 2 (some .boolean) :: ([.methodLink RX1 21 yX1_stateOn, .instanceMethod yX1_stateOn, .selects RX1 yX1_stateOn yX1_stateOn, .initialized RX1, .code yX1_stateOn cX1_stateOn 2 (some .int), .fieldLink RX1 15 "GaugeBook$FlowTable" "states" "[I"] ++ wsX10)
def wsX1_fillBetween : List Cond := .code yX1_fillBetween cX1_fillBetween 8 none :: ([.methodLink RX1 33 yX1_flowOn, .instanceMethod yX1_flowOn, .selects RX1 yX1_flowOn yX1_flowOn, .initialized RX1, .code yX1_flowOn cX1_flowOn 2 (some .long), .constantLong RX1 19 (-1), .fieldLink RX1 9 "GaugeBook$FlowTable" "flows" "[J", .static yX5_interpolate, .initialized RX5, .code yX5_interpolate cX5_interpolate 8 (some .long), .methodLink RX1 41 yX1_put, .instanceMethod yX1_put, .selects RX1 yX1_put yX1_put, .code yX1_put cX1_put 5 none, .fieldLink RX1 15 "GaugeBook$FlowTable" "states" "[I"] ++ wsX10)
def wsX1_fillGaps_r1 : List Cond := [Cond.methodLink RX1 25 yX1_hasFlow, Cond.instanceMethod yX1_hasFlow, Cond.selects RX1 yX1_hasFlow yX1_hasFlow, Cond.initialized RX1, Cond.code yX1_hasFlow cX1_hasFlow 2 (some .boolean), Cond.methodLink RX1 21 yX1_stateOn, Cond.instanceMethod yX1_stateOn, Cond.selects RX1 yX1_stateOn yX1_stateOn, Cond.code yX1_stateOn cX1_stateOn 2 (some .int), Cond.fieldLink RX1 15 "GaugeBook$FlowTable" "states" "[I", Cond.methodLink RX1 29 yX1_fillBetween, Cond.instanceMethod yX1_fillBetween, Cond.selects RX1 yX1_fillBetween yX1_fillBetween, Cond.code yX1_fillBetween cX1_fillBetween 8 none, Cond.methodLink RX1 33 yX1_flowOn, Cond.instanceMethod yX1_flowOn, Cond.selects RX1 yX1_flowOn yX1_flowOn, Cond.code yX1_flowOn cX1_flowOn 2 (some .long), Cond.constantLong RX1 19 (-1), Cond.fieldLink RX1 9 "GaugeBook$FlowTable" "flows" "[J", Cond.static yX5_interpolate, Cond.initialized RX5, Cond.code yX5_interpolate cX5_interpolate 8 (some .long), Cond.methodLink RX1 41 yX1_put]
def wsX1_fillGaps_r2 : List Cond := [Cond.instanceMethod yX1_put, Cond.selects RX1 yX1_put yX1_put, Cond.code yX1_put cX1_put 5 none]
def wsX1_fillGaps : List Cond := .code yX1_fillGaps cX1_fillGaps 4 none :: ((wsX1_fillGaps_r1 ++ wsX1_fillGaps_r2) ++ wsX10)
def wsX1_daysWithFlow : List Cond := .code yX1_daysWithFlow cX1_daysWithFlow 5 (some .int) :: ([.methodLink RX1 25 yX1_hasFlow, .instanceMethod yX1_hasFlow, .selects RX1 yX1_hasFlow yX1_hasFlow, .initialized RX1, .code yX1_hasFlow cX1_hasFlow 2 (some .boolean), .methodLink RX1 21 yX1_stateOn, .instanceMethod yX1_stateOn, .selects RX1 yX1_stateOn yX1_stateOn, .code yX1_stateOn cX1_stateOn 2 (some .int), .fieldLink RX1 15 "GaugeBook$FlowTable" "states" "[I"] ++ wsX10)
def wsX1_total : List Cond := .code yX1_total cX1_total 6 (some .long) :: ([.methodLink RX1 25 yX1_hasFlow, .instanceMethod yX1_hasFlow, .selects RX1 yX1_hasFlow yX1_hasFlow, .initialized RX1, .code yX1_hasFlow cX1_hasFlow 2 (some .boolean), .methodLink RX1 21 yX1_stateOn, .instanceMethod yX1_stateOn, .selects RX1 yX1_stateOn yX1_stateOn, .code yX1_stateOn cX1_stateOn 2 (some .int), .fieldLink RX1 15 "GaugeBook$FlowTable" "states" "[I", .methodLink RX1 33 yX1_flowOn, .instanceMethod yX1_flowOn, .selects RX1 yX1_flowOn yX1_flowOn, .code yX1_flowOn cX1_flowOn 2 (some .long), .constantLong RX1 19 (-1), .fieldLink RX1 9 "GaugeBook$FlowTable" "flows" "[J"] ++ wsX10)
def wsX1_greatestDay : List Cond := .code yX1_greatestDay cX1_greatestDay 5 (some .int) :: ([.methodLink RX1 25 yX1_hasFlow, .instanceMethod yX1_hasFlow, .selects RX1 yX1_hasFlow yX1_hasFlow, .initialized RX1, .code yX1_hasFlow cX1_hasFlow 2 (some .boolean), .methodLink RX1 21 yX1_stateOn, .instanceMethod yX1_stateOn, .selects RX1 yX1_stateOn yX1_stateOn, .code yX1_stateOn cX1_stateOn 2 (some .int), .fieldLink RX1 15 "GaugeBook$FlowTable" "states" "[I", .methodLink RX1 33 yX1_flowOn, .instanceMethod yX1_flowOn, .selects RX1 yX1_flowOn yX1_flowOn, .code yX1_flowOn cX1_flowOn 2 (some .long), .constantLong RX1 19 (-1), .fieldLink RX1 9 "GaugeBook$FlowTable" "flows" "[J"] ++ wsX10)
def wsX1_leastFlow : List Cond := .code yX1_leastFlow cX1_leastFlow 6 (some .long) :: ([.constantLong RX1 19 (-1), .methodLink RX1 25 yX1_hasFlow, .instanceMethod yX1_hasFlow, .selects RX1 yX1_hasFlow yX1_hasFlow, .initialized RX1, .code yX1_hasFlow cX1_hasFlow 2 (some .boolean), .methodLink RX1 21 yX1_stateOn, .instanceMethod yX1_stateOn, .selects RX1 yX1_stateOn yX1_stateOn, .code yX1_stateOn cX1_stateOn 2 (some .int), .fieldLink RX1 15 "GaugeBook$FlowTable" "states" "[I", .methodLink RX1 33 yX1_flowOn, .instanceMethod yX1_flowOn, .selects RX1 yX1_flowOn yX1_flowOn, .code yX1_flowOn cX1_flowOn 2 (some .long), .fieldLink RX1 9 "GaugeBook$FlowTable" "flows" "[J"] ++ wsX10)
def wsX3_init : List Cond := .code yX3_init cX3_init 1 none :: ([.methodLink RX3 3 objectInit, .instanceMethod objectInit, .code objectInit ⟨#[0xb1]⟩ 1 none, .arrayClass .int, .fieldLink RX3 9 "GaugeBook$Ranking" "days" "[I", .fieldLink RX3 15 "GaugeBook$Ranking" "merged" "[I", .arrayClass .boolean, .fieldLink RX3 18 "GaugeBook$Ranking" "isNearPeak" "[Z"] ++ wsX30)
def wsX3_size : List Cond := .code yX3_size cX3_size 1 (some .int) :: ([.fieldLink RX3 22 "GaugeBook$Ranking" "ranked" "I"] ++ wsX30)
def wsX3_dayOfRank : List Cond := .code yX3_dayOfRank cX3_dayOfRank 2 (some .int) :: ([.fieldLink RX3 22 "GaugeBook$Ranking" "ranked" "I", .fieldLink RX3 9 "GaugeBook$Ranking" "days" "[I"] ++ wsX30)
def wsX3_merge : List Cond := .code yX3_merge cX3_merge 9 none :: ([.fieldLink RX3 9 "GaugeBook$Ranking" "days" "[I", .fieldLink RX3 15 "GaugeBook$Ranking" "merged" "[I", .methodLink RX3 43 yX1_flowOn, .instanceMethod yX1_flowOn, .selects RX1 yX1_flowOn yX1_flowOn, .initialized RX1, .code yX1_flowOn cX1_flowOn 2 (some .long), .constantLong RX1 19 (-1), .fieldLink RX1 9 "GaugeBook$FlowTable" "flows" "[J"] ++ wsX30 ++ wsX10)
def wsX3_mergeRuns : List Cond := .code yX3_mergeRuns cX3_mergeRuns 6 none :: ([.fieldLink RX3 22 "GaugeBook$Ranking" "ranked" "I", .methodLink RX3 51 Lib.Math.min.name, .static Lib.Math.min.name, .initialized "java/lang/Math", .code Lib.Math.min.name Lib.Math.min.code 2 (some .int), .fieldLink RX3 15 "GaugeBook$Ranking" "merged" "[I", .fieldLink RX3 9 "GaugeBook$Ranking" "days" "[I", .methodLink RX3 61 arraycopyName, .native arraycopyName, .static arraycopyName, .initialized "java/lang/System", .methodLink RX3 57 yX3_merge, .instanceMethod yX3_merge, .selects RX3 yX3_merge yX3_merge, .initialized RX3, .code yX3_merge cX3_merge 9 none, .methodLink RX3 43 yX1_flowOn, .instanceMethod yX1_flowOn, .selects RX1 yX1_flowOn yX1_flowOn, .initialized RX1, .code yX1_flowOn cX1_flowOn 2 (some .long), .constantLong RX1 19 (-1), .fieldLink RX1 9 "GaugeBook$FlowTable" "flows" "[J"] ++ wsX30 ++ wsX10)
def wsX3_rank_r1 : List Cond := [Cond.fieldLink RX3 22 "GaugeBook$Ranking" "ranked" "I", Cond.fieldLink RX3 9 "GaugeBook$Ranking" "days" "[I", Cond.methodLink RX3 26 yX1_hasFlow, Cond.instanceMethod yX1_hasFlow, Cond.selects RX1 yX1_hasFlow yX1_hasFlow, Cond.initialized RX1, Cond.code yX1_hasFlow cX1_hasFlow 2 (some .boolean), Cond.methodLink RX1 21 yX1_stateOn, Cond.instanceMethod yX1_stateOn, Cond.selects RX1 yX1_stateOn yX1_stateOn, Cond.code yX1_stateOn cX1_stateOn 2 (some .int), Cond.fieldLink RX1 15 "GaugeBook$FlowTable" "states" "[I", Cond.methodLink RX3 32 yX3_mergeRuns, Cond.instanceMethod yX3_mergeRuns, Cond.selects RX3 yX3_mergeRuns yX3_mergeRuns, Cond.initialized RX3, Cond.code yX3_mergeRuns cX3_mergeRuns 6 none, Cond.methodLink RX3 51 Lib.Math.min.name, Cond.static Lib.Math.min.name, Cond.initialized "java/lang/Math", Cond.code Lib.Math.min.name Lib.Math.min.code 2 (some .int), Cond.fieldLink RX3 15 "GaugeBook$Ranking" "merged" "[I", Cond.methodLink RX3 61 arraycopyName, Cond.native arraycopyName]
def wsX3_rank_r2 : List Cond := [Cond.static arraycopyName, Cond.initialized "java/lang/System", Cond.methodLink RX3 57 yX3_merge, Cond.instanceMethod yX3_merge, Cond.selects RX3 yX3_merge yX3_merge, Cond.code yX3_merge cX3_merge 9 none, Cond.methodLink RX3 43 yX1_flowOn, Cond.instanceMethod yX1_flowOn, Cond.selects RX1 yX1_flowOn yX1_flowOn, Cond.code yX1_flowOn cX1_flowOn 2 (some .long), Cond.constantLong RX1 19 (-1), Cond.fieldLink RX1 9 "GaugeBook$FlowTable" "flows" "[J"]
def wsX3_rank : List Cond := .code yX3_rank cX3_rank 3 none :: ((wsX3_rank_r1 ++ wsX3_rank_r2) ++ wsX30 ++ wsX10)
def wsX3_clearPeaks : List Cond := .code yX3_clearPeaks cX3_clearPeaks 2 none :: ([.fieldLink RX3 18 "GaugeBook$Ranking" "isNearPeak" "[Z"] ++ wsX30)
def wsX3_markNear : List Cond := .code yX3_markNear cX3_markNear 6 none :: ([.methodLink RX3 67 Lib.Math.max.name, .static Lib.Math.max.name, .initialized "java/lang/Math", .code Lib.Math.max.name Lib.Math.max.code 2 (some .int), .methodLink RX3 51 Lib.Math.min.name, .static Lib.Math.min.name, .code Lib.Math.min.name Lib.Math.min.code 2 (some .int), .fieldLink RX3 18 "GaugeBook$Ranking" "isNearPeak" "[Z"] ++ wsX30)
def wsX3_countPeaks_r1 : List Cond := [Cond.fieldLink RX3 22 "GaugeBook$Ranking" "ranked" "I", Cond.fieldLink RX3 18 "GaugeBook$Ranking" "isNearPeak" "[Z", Cond.methodLink RX3 36 yX3_clearPeaks, Cond.instanceMethod yX3_clearPeaks, Cond.selects RX3 yX3_clearPeaks yX3_clearPeaks, Cond.initialized RX3, Cond.code yX3_clearPeaks cX3_clearPeaks 2 none, Cond.methodLink RX3 39 yX3_dayOfRank, Cond.instanceMethod yX3_dayOfRank, Cond.selects RX3 yX3_dayOfRank yX3_dayOfRank, Cond.code yX3_dayOfRank cX3_dayOfRank 2 (some .int), Cond.fieldLink RX3 9 "GaugeBook$Ranking" "days" "[I", Cond.methodLink RX3 43 yX1_flowOn, Cond.instanceMethod yX1_flowOn, Cond.selects RX1 yX1_flowOn yX1_flowOn, Cond.initialized RX1, Cond.code yX1_flowOn cX1_flowOn 2 (some .long), Cond.constantLong RX1 19 (-1), Cond.fieldLink RX1 9 "GaugeBook$FlowTable" "flows" "[J", Cond.methodLink RX3 47 yX3_markNear, Cond.instanceMethod yX3_markNear, Cond.selects RX3 yX3_markNear yX3_markNear, Cond.code yX3_markNear cX3_markNear 6 none, Cond.methodLink RX3 67 Lib.Math.max.name]
def wsX3_countPeaks_r2 : List Cond := [Cond.static Lib.Math.max.name, Cond.initialized "java/lang/Math", Cond.code Lib.Math.max.name Lib.Math.max.code 2 (some .int), Cond.methodLink RX3 51 Lib.Math.min.name, Cond.static Lib.Math.min.name, Cond.code Lib.Math.min.name Lib.Math.min.code 2 (some .int)]
def wsX3_countPeaks : List Cond := .code yX3_countPeaks cX3_countPeaks 8 (some .int) :: ((wsX3_countPeaks_r1 ++ wsX3_countPeaks_r2) ++ wsX30 ++ wsX10)
def wsX4_init : List Cond := .code yX4_init cX4_init 1 none :: ([.methodLink RX4 1 objectInit, .instanceMethod objectInit, .code objectInit ⟨#[0xb1]⟩ 1 none, .arrayClass .int, .fieldLink RX4 9 "GaugeBook$Shifts" "toldDays" "[I", .fieldLink RX4 13 "GaugeBook$Shifts" "toldShifts" "[I"] ++ wsX40)
def wsX4_on : List Cond := .code yX4_on cX4_on 4 (some .int) :: ([.fieldLink RX4 16 "GaugeBook$Shifts" "told" "I", .fieldLink RX4 9 "GaugeBook$Shifts" "toldDays" "[I", .fieldLink RX4 13 "GaugeBook$Shifts" "toldShifts" "[I", .static yX5_countLower, .initialized RX5, .code yX5_countLower cX5_countLower 4 (some .int), .static yX5_interpolate, .code yX5_interpolate cX5_interpolate 8 (some .long)] ++ wsX40)
def wsX4_tell : List Cond := .code yX4_tell cX4_tell 4 (some .boolean) :: ([.fieldLink RX4 9 "GaugeBook$Shifts" "toldDays" "[I", .fieldLink RX4 16 "GaugeBook$Shifts" "told" "I", .fieldLink RX4 13 "GaugeBook$Shifts" "toldShifts" "[I", .static yX5_countLower, .initialized RX5, .code yX5_countLower cX5_countLower 4 (some .int), .static yX5_insertInto, .code yX5_insertInto cX5_insertInto 5 none] ++ wsX40)
def wsX5_init_r1 : List Cond := [Cond.methodLink RX5 1 objectInit, Cond.instanceMethod objectInit, Cond.code objectInit ⟨#[0xb1]⟩ 1 none, Cond.classLink RX5 9 RX0, Cond.fieldLink RX5 11 "GaugeBook" "curves" "[LGaugeBook$Curve;", Cond.classLink RX5 15 RX4, Cond.instantiable RX4 3, Cond.initialized RX4, Cond.fieldLink RX5 18 "GaugeBook" "shifts" "LGaugeBook$Shifts;", Cond.arrayClass .int, Cond.fieldLink RX5 22 "GaugeBook" "stages" "[I", Cond.arrayClass .boolean, Cond.fieldLink RX5 26 "GaugeBook" "hasStage" "[Z", Cond.fieldLink RX5 30 "GaugeBook" "ice" "[Z", Cond.classLink RX5 33 RX2, Cond.fieldLink RX5 35 "GaugeBook" "measurements" "[LGaugeBook$Measurement;", Cond.classLink RX5 39 RX1, Cond.instantiable RX1 2, Cond.initialized RX1, Cond.fieldLink RX5 42 "GaugeBook" "table" "LGaugeBook$FlowTable;", Cond.classLink RX5 46 RX3, Cond.instantiable RX3 4, Cond.initialized RX3, Cond.fieldLink RX5 49 "GaugeBook" "ranking" "LGaugeBook$Ranking;"]
def wsX5_init_r2 : List Cond := [Cond.fieldLink RX5 53 "GaugeBook" "iceFactor" "I", Cond.fieldLink RX5 57 "GaugeBook" "gapLimit" "I", Cond.methodLink RX5 17 yX4_init, Cond.instanceMethod yX4_init, Cond.code yX4_init cX4_init 1 none, Cond.methodLink RX4 1 objectInit, Cond.fieldLink RX4 9 "GaugeBook$Shifts" "toldDays" "[I", Cond.fieldLink RX4 13 "GaugeBook$Shifts" "toldShifts" "[I", Cond.methodLink RX5 41 yX1_init, Cond.instanceMethod yX1_init, Cond.code yX1_init cX1_init 1 none, Cond.methodLink RX1 3 objectInit, Cond.arrayClass .long, Cond.fieldLink RX1 9 "GaugeBook$FlowTable" "flows" "[J", Cond.fieldLink RX1 15 "GaugeBook$FlowTable" "states" "[I", Cond.methodLink RX5 48 yX3_init, Cond.instanceMethod yX3_init, Cond.code yX3_init cX3_init 1 none, Cond.methodLink RX3 3 objectInit, Cond.fieldLink RX3 9 "GaugeBook$Ranking" "days" "[I", Cond.fieldLink RX3 15 "GaugeBook$Ranking" "merged" "[I", Cond.fieldLink RX3 18 "GaugeBook$Ranking" "isNearPeak" "[Z"]
def wsX5_init : List Cond := .code yX5_init cX5_init 1 none :: ((wsX5_init_r1 ++ wsX5_init_r2) ++ wsX50 ++ wsX40 ++ wsX10 ++ wsX30)
def wsX5_requireDay : List Cond := .code yX5_requireDay cX5_requireDay 1 none :: ([.classLink RX5 112 "java/lang/IllegalArgumentException", .initialized "java/lang/IllegalArgumentException"] ++ (vx_atS RX5 116 "java/lang/IllegalArgumentException" ["java/lang/RuntimeException", "java/lang/Exception"]).filter goodWord)
def wsX5_curveAt : List Cond := .code yX5_curveAt cX5_curveAt 2 (some (.object "GaugeBook$Curve")) :: ([.fieldLink RX5 64 "GaugeBook" "curveTotal" "I", .fieldLink RX5 11 "GaugeBook" "curves" "[LGaugeBook$Curve;"] ++ wsX50)
def wsX5_curveNumberOn : List Cond := .code yX5_curveNumberOn cX5_curveNumberOn 6 (some .int) :: ([.methodLink RX5 86 yX5_curveAt, .instanceMethod yX5_curveAt, .selects RX5 yX5_curveAt yX5_curveAt, .initialized RX5, .code yX5_curveAt cX5_curveAt 2 (some (.object "GaugeBook$Curve")), .fieldLink RX5 64 "GaugeBook" "curveTotal" "I", .fieldLink RX5 11 "GaugeBook" "curves" "[LGaugeBook$Curve;"] ++ wsX00 ++ wsX50)
def wsX5_hasCurveFrom : List Cond := .code yX5_hasCurveFrom cX5_hasCurveFrom 3 (some .boolean) :: ([.methodLink RX5 131 yX5_curveNumberOn, .instanceMethod yX5_curveNumberOn, .selects RX5 yX5_curveNumberOn yX5_curveNumberOn, .initialized RX5, .code yX5_curveNumberOn cX5_curveNumberOn 6 (some .int), .methodLink RX5 86 yX5_curveAt, .instanceMethod yX5_curveAt, .selects RX5 yX5_curveAt yX5_curveAt, .code yX5_curveAt cX5_curveAt 2 (some (.object "GaugeBook$Curve")), .fieldLink RX5 64 "GaugeBook" "curveTotal" "I", .fieldLink RX5 11 "GaugeBook" "curves" "[LGaugeBook$Curve;"] ++ wsX00 ++ wsX50)
def wsX5_addCurve_r1 : List Cond := [Cond.classLink RX5 67 "java/lang/IllegalStateException", Cond.initialized "java/lang/IllegalStateException", Cond.fieldLink RX5 64 "GaugeBook" "curveTotal" "I", Cond.fieldLink RX5 11 "GaugeBook" "curves" "[LGaugeBook$Curve;", Cond.classLink RX5 9 RX0, Cond.instantiable RX0 4, Cond.initialized RX0, Cond.fieldLink RX5 82 "GaugeBook" "isReckoned" "Z", Cond.methodLink RX5 60 yX5_requireDay, Cond.static yX5_requireDay, Cond.initialized RX5, Cond.code yX5_requireDay cX5_requireDay 1 none, Cond.classLink RX5 112 "java/lang/IllegalArgumentException", Cond.initialized "java/lang/IllegalArgumentException", Cond.methodLink RX5 74 yX5_hasCurveFrom, Cond.instanceMethod yX5_hasCurveFrom, Cond.selects RX5 yX5_hasCurveFrom yX5_hasCurveFrom, Cond.code yX5_hasCurveFrom cX5_hasCurveFrom 3 (some .boolean), Cond.methodLink RX5 131 yX5_curveNumberOn, Cond.instanceMethod yX5_curveNumberOn, Cond.selects RX5 yX5_curveNumberOn yX5_curveNumberOn, Cond.code yX5_curveNumberOn cX5_curveNumberOn 6 (some .int), Cond.methodLink RX5 86 yX5_curveAt, Cond.instanceMethod yX5_curveAt]
def wsX5_addCurve_r2 : List Cond := [Cond.selects RX5 yX5_curveAt yX5_curveAt, Cond.code yX5_curveAt cX5_curveAt 2 (some (.object "GaugeBook$Curve")), Cond.methodLink RX5 80 yX0_init, Cond.instanceMethod yX0_init, Cond.code yX0_init cX0_init 2 none, Cond.methodLink RX0 3 objectInit, Cond.instanceMethod objectInit, Cond.code objectInit ⟨#[0xb1]⟩ 1 none, Cond.fieldLink RX0 9 "GaugeBook$Curve" "firstDay" "I", Cond.arrayClass .int, Cond.fieldLink RX0 15 "GaugeBook$Curve" "pointStages" "[I", Cond.fieldLink RX0 19 "GaugeBook$Curve" "pointFlows" "[I"]
def wsX5_addCurve : List Cond := .code yX5_addCurve cX5_addCurve 3 (some .int) :: ((wsX5_addCurve_r1 ++ wsX5_addCurve_r2) ++ wsX50 ++ wsX00 ++ (vx_atS RX5 71 "java/lang/IllegalStateException" ["java/lang/RuntimeException", "java/lang/Exception"]).filter goodWord ++ (vx_atS RX5 116 "java/lang/IllegalArgumentException" ["java/lang/RuntimeException", "java/lang/Exception"]).filter goodWord)
def wsX5_requireStage : List Cond := .code yX5_requireStage cX5_requireStage 2 none :: ([.classLink RX5 112 "java/lang/IllegalArgumentException", .initialized "java/lang/IllegalArgumentException", .constantLong RX5 258 (-500), .constantLong RX5 260 (2000)] ++ (vx_atS RX5 116 "java/lang/IllegalArgumentException" ["java/lang/RuntimeException", "java/lang/Exception"]).filter goodWord)
def wsX5_requireFlow : List Cond := .code yX5_requireFlow cX5_requireFlow 1 none :: ([.classLink RX5 112 "java/lang/IllegalArgumentException", .initialized "java/lang/IllegalArgumentException", .constant RX5 264 (1000000)] ++ (vx_atS RX5 116 "java/lang/IllegalArgumentException" ["java/lang/RuntimeException", "java/lang/Exception"]).filter goodWord)
def wsX5_addPoint_r1 : List Cond := [Cond.classLink RX5 90 "java/lang/IndexOutOfBoundsException", Cond.initialized "java/lang/IndexOutOfBoundsException", Cond.classLink RX5 67 "java/lang/IllegalStateException", Cond.initialized "java/lang/IllegalStateException", Cond.fieldLink RX5 82 "GaugeBook" "isReckoned" "Z", Cond.methodLink RX5 86 yX5_curveAt, Cond.instanceMethod yX5_curveAt, Cond.selects RX5 yX5_curveAt yX5_curveAt, Cond.initialized RX5, Cond.code yX5_curveAt cX5_curveAt 2 (some (.object "GaugeBook$Curve")), Cond.fieldLink RX5 64 "GaugeBook" "curveTotal" "I", Cond.fieldLink RX5 11 "GaugeBook" "curves" "[LGaugeBook$Curve;", Cond.methodLink RX5 95 yX5_requireStage, Cond.static yX5_requireStage, Cond.code yX5_requireStage cX5_requireStage 2 none, Cond.classLink RX5 112 "java/lang/IllegalArgumentException", Cond.initialized "java/lang/IllegalArgumentException", Cond.constantLong RX5 258 (-500), Cond.constantLong RX5 260 (2000), Cond.methodLink RX5 99 yX5_requireFlow, Cond.static yX5_requireFlow, Cond.code yX5_requireFlow cX5_requireFlow 1 none, Cond.constant RX5 264 (1000000), Cond.methodLink RX5 102 yX0_insert]
def wsX5_addPoint_r2 : List Cond := [Cond.instanceMethod yX0_insert, Cond.selects RX0 yX0_insert yX0_insert, Cond.initialized RX0, Cond.code yX0_insert cX0_insert 4 (some .boolean), Cond.fieldLink RX0 15 "GaugeBook$Curve" "pointStages" "[I", Cond.fieldLink RX0 22 "GaugeBook$Curve" "points" "I", Cond.fieldLink RX0 19 "GaugeBook$Curve" "pointFlows" "[I", Cond.static yX5_countLower, Cond.code yX5_countLower cX5_countLower 4 (some .int), Cond.methodLink RX0 29 yX0_fits, Cond.instanceMethod yX0_fits, Cond.selects RX0 yX0_fits yX0_fits, Cond.code yX0_fits cX0_fits 6 (some .boolean), Cond.static yX5_insertInto, Cond.code yX5_insertInto cX5_insertInto 5 none, Cond.methodLink RX5 108 yX0_size, Cond.instanceMethod yX0_size, Cond.selects RX0 yX0_size yX0_size, Cond.code yX0_size cX0_size 1 (some .int)]
def wsX5_addPoint : List Cond := .code yX5_addPoint cX5_addPoint 5 (some .int) :: ((wsX5_addPoint_r1 ++ wsX5_addPoint_r2) ++ wsX50 ++ wsX00 ++ (vx_atS RX5 94 "java/lang/IndexOutOfBoundsException" ["java/lang/RuntimeException", "java/lang/Exception"]).filter goodWord ++ (vx_atS RX5 71 "java/lang/IllegalStateException" ["java/lang/RuntimeException", "java/lang/Exception"]).filter goodWord ++ (vx_atS RX5 116 "java/lang/IllegalArgumentException" ["java/lang/RuntimeException", "java/lang/Exception"]).filter goodWord)
def wsX5_flowBy_r1 : List Cond := [Cond.classLink RX5 90 "java/lang/IndexOutOfBoundsException", Cond.initialized "java/lang/IndexOutOfBoundsException", Cond.classLink RX5 112 "java/lang/IllegalArgumentException", Cond.initialized "java/lang/IllegalArgumentException", Cond.classLink RX5 67 "java/lang/IllegalStateException", Cond.initialized "java/lang/IllegalStateException", Cond.methodLink RX5 86 yX5_curveAt, Cond.instanceMethod yX5_curveAt, Cond.selects RX5 yX5_curveAt yX5_curveAt, Cond.initialized RX5, Cond.code yX5_curveAt cX5_curveAt 2 (some (.object "GaugeBook$Curve")), Cond.fieldLink RX5 64 "GaugeBook" "curveTotal" "I", Cond.fieldLink RX5 11 "GaugeBook" "curves" "[LGaugeBook$Curve;", Cond.methodLink RX5 117 yX0_isComplete, Cond.instanceMethod yX0_isComplete, Cond.selects RX0 yX0_isComplete yX0_isComplete, Cond.initialized RX0, Cond.code yX0_isComplete cX0_isComplete 1 (some .boolean), Cond.fieldLink RX0 22 "GaugeBook$Curve" "points" "I", Cond.methodLink RX5 123 yX0_flowAt, Cond.instanceMethod yX0_flowAt, Cond.selects RX0 yX0_flowAt yX0_flowAt, Cond.code yX0_flowAt cX0_flowAt 4 (some .long), Cond.fieldLink RX0 15 "GaugeBook$Curve" "pointStages" "[I"]
def wsX5_flowBy_r2 : List Cond := [Cond.methodLink RX0 37 Lib.Math.max.name, Cond.static Lib.Math.max.name, Cond.initialized "java/lang/Math", Cond.code Lib.Math.max.name Lib.Math.max.code 2 (some .int), Cond.methodLink RX0 43 Lib.Math.min.name, Cond.static Lib.Math.min.name, Cond.code Lib.Math.min.name Lib.Math.min.code 2 (some .int), Cond.fieldLink RX0 19 "GaugeBook$Curve" "pointFlows" "[I", Cond.static yX5_countLower, Cond.code yX5_countLower cX5_countLower 4 (some .int), Cond.static yX5_interpolate, Cond.code yX5_interpolate cX5_interpolate 8 (some .long)]
def wsX5_flowBy : List Cond := .code yX5_flowBy cX5_flowBy 4 (some .long) :: ((wsX5_flowBy_r1 ++ wsX5_flowBy_r2) ++ wsX50 ++ wsX00 ++ (vx_atS RX5 94 "java/lang/IndexOutOfBoundsException" ["java/lang/RuntimeException", "java/lang/Exception"]).filter goodWord ++ (vx_atS RX5 116 "java/lang/IllegalArgumentException" ["java/lang/RuntimeException", "java/lang/Exception"]).filter goodWord ++ (vx_atS RX5 71 "java/lang/IllegalStateException" ["java/lang/RuntimeException", "java/lang/Exception"]).filter goodWord)
def wsX5_curveOf : List Cond := .code yX5_curveOf cX5_curveOf 2 (some .int) :: ([.methodLink RX5 60 yX5_requireDay, .static yX5_requireDay, .initialized RX5, .code yX5_requireDay cX5_requireDay 1 none, .classLink RX5 112 "java/lang/IllegalArgumentException", .initialized "java/lang/IllegalArgumentException", .methodLink RX5 131 yX5_curveNumberOn, .instanceMethod yX5_curveNumberOn, .selects RX5 yX5_curveNumberOn yX5_curveNumberOn, .code yX5_curveNumberOn cX5_curveNumberOn 6 (some .int), .methodLink RX5 86 yX5_curveAt, .instanceMethod yX5_curveAt, .selects RX5 yX5_curveAt yX5_curveAt, .code yX5_curveAt cX5_curveAt 2 (some (.object "GaugeBook$Curve")), .fieldLink RX5 64 "GaugeBook" "curveTotal" "I", .fieldLink RX5 11 "GaugeBook" "curves" "[LGaugeBook$Curve;"] ++ wsX00 ++ wsX50 ++ (vx_atS RX5 116 "java/lang/IllegalArgumentException" ["java/lang/RuntimeException", "java/lang/Exception"]).filter goodWord)
def wsX5_setShift_r1 : List Cond := [Cond.classLink RX5 112 "java/lang/IllegalArgumentException", Cond.initialized "java/lang/IllegalArgumentException", Cond.classLink RX5 67 "java/lang/IllegalStateException", Cond.initialized "java/lang/IllegalStateException", Cond.fieldLink RX5 18 "GaugeBook" "shifts" "LGaugeBook$Shifts;", Cond.fieldLink RX5 82 "GaugeBook" "isReckoned" "Z", Cond.methodLink RX5 60 yX5_requireDay, Cond.static yX5_requireDay, Cond.initialized RX5, Cond.code yX5_requireDay cX5_requireDay 1 none, Cond.methodLink RX5 136 yX4_on, Cond.instanceMethod yX4_on, Cond.selects RX4 yX4_on yX4_on, Cond.initialized RX4, Cond.code yX4_on cX4_on 4 (some .int), Cond.fieldLink RX4 16 "GaugeBook$Shifts" "told" "I", Cond.fieldLink RX4 9 "GaugeBook$Shifts" "toldDays" "[I", Cond.fieldLink RX4 13 "GaugeBook$Shifts" "toldShifts" "[I", Cond.static yX5_countLower, Cond.code yX5_countLower cX5_countLower 4 (some .int), Cond.static yX5_interpolate, Cond.code yX5_interpolate cX5_interpolate 8 (some .long), Cond.methodLink RX5 139 yX4_tell, Cond.instanceMethod yX4_tell]
def wsX5_setShift_r2 : List Cond := [Cond.selects RX4 yX4_tell yX4_tell, Cond.code yX4_tell cX4_tell 4 (some .boolean), Cond.static yX5_insertInto, Cond.code yX5_insertInto cX5_insertInto 5 none]
def wsX5_setShift : List Cond := .code yX5_setShift cX5_setShift 4 (some .int) :: ((wsX5_setShift_r1 ++ wsX5_setShift_r2) ++ wsX50 ++ wsX40 ++ (vx_atS RX5 116 "java/lang/IllegalArgumentException" ["java/lang/RuntimeException", "java/lang/Exception"]).filter goodWord ++ (vx_atS RX5 71 "java/lang/IllegalStateException" ["java/lang/RuntimeException", "java/lang/Exception"]).filter goodWord)
def wsX5_shift : List Cond := .code yX5_shift cX5_shift 2 (some .int) :: ([.fieldLink RX5 18 "GaugeBook" "shifts" "LGaugeBook$Shifts;", .methodLink RX5 60 yX5_requireDay, .static yX5_requireDay, .initialized RX5, .code yX5_requireDay cX5_requireDay 1 none, .classLink RX5 112 "java/lang/IllegalArgumentException", .initialized "java/lang/IllegalArgumentException", .methodLink RX5 136 yX4_on, .instanceMethod yX4_on, .selects RX4 yX4_on yX4_on, .initialized RX4, .code yX4_on cX4_on 4 (some .int), .fieldLink RX4 16 "GaugeBook$Shifts" "told" "I", .fieldLink RX4 9 "GaugeBook$Shifts" "toldDays" "[I", .fieldLink RX4 13 "GaugeBook$Shifts" "toldShifts" "[I", .static yX5_countLower, .code yX5_countLower cX5_countLower 4 (some .int), .static yX5_interpolate, .code yX5_interpolate cX5_interpolate 8 (some .long)] ++ wsX50 ++ wsX40 ++ (vx_atS RX5 116 "java/lang/IllegalArgumentException" ["java/lang/RuntimeException", "java/lang/Exception"]).filter goodWord)
def wsX5_requireSpan : List Cond := .code yX5_requireSpan cX5_requireSpan 2 none :: ([.classLink RX5 112 "java/lang/IllegalArgumentException", .initialized "java/lang/IllegalArgumentException", .methodLink RX5 60 yX5_requireDay, .static yX5_requireDay, .initialized RX5, .code yX5_requireDay cX5_requireDay 1 none] ++ (vx_atS RX5 116 "java/lang/IllegalArgumentException" ["java/lang/RuntimeException", "java/lang/Exception"]).filter goodWord)
def wsX5_countTrue : List Cond := .code yX5_countTrue cX5_countTrue 5 (some .int) :: ([])
def wsX5_read : List Cond := .code yX5_read cX5_read 7 (some .int) :: ([.fieldLink RX5 26 "GaugeBook" "hasStage" "[Z", .fieldLink RX5 22 "GaugeBook" "stages" "[I", .fieldLink RX5 82 "GaugeBook" "isReckoned" "Z", .methodLink RX5 144 yX5_requireSpan, .static yX5_requireSpan, .initialized RX5, .code yX5_requireSpan cX5_requireSpan 2 none, .classLink RX5 112 "java/lang/IllegalArgumentException", .initialized "java/lang/IllegalArgumentException", .methodLink RX5 60 yX5_requireDay, .static yX5_requireDay, .code yX5_requireDay cX5_requireDay 1 none, .methodLink RX5 95 yX5_requireStage, .static yX5_requireStage, .code yX5_requireStage cX5_requireStage 2 none, .constantLong RX5 258 (-500), .constantLong RX5 260 (2000), .methodLink RX5 148 yX5_countTrue, .static yX5_countTrue, .code yX5_countTrue cX5_countTrue 5 (some .int)] ++ wsX50 ++ (vx_atS RX5 116 "java/lang/IllegalArgumentException" ["java/lang/RuntimeException", "java/lang/Exception"]).filter goodWord)
def wsX5_erase : List Cond := .code yX5_erase cX5_erase 5 (some .int) :: ([.fieldLink RX5 26 "GaugeBook" "hasStage" "[Z", .fieldLink RX5 82 "GaugeBook" "isReckoned" "Z", .methodLink RX5 144 yX5_requireSpan, .static yX5_requireSpan, .initialized RX5, .code yX5_requireSpan cX5_requireSpan 2 none, .classLink RX5 112 "java/lang/IllegalArgumentException", .initialized "java/lang/IllegalArgumentException", .methodLink RX5 60 yX5_requireDay, .static yX5_requireDay, .code yX5_requireDay cX5_requireDay 1 none, .methodLink RX5 148 yX5_countTrue, .static yX5_countTrue, .code yX5_countTrue cX5_countTrue 5 (some .int)] ++ wsX50 ++ (vx_atS RX5 116 "java/lang/IllegalArgumentException" ["java/lang/RuntimeException", "java/lang/Exception"]).filter goodWord)
def wsX5_freeze : List Cond := .code yX5_freeze cX5_freeze 6 (some .int) :: ([.fieldLink RX5 30 "GaugeBook" "ice" "[Z", .fieldLink RX5 82 "GaugeBook" "isReckoned" "Z", .methodLink RX5 144 yX5_requireSpan, .static yX5_requireSpan, .initialized RX5, .code yX5_requireSpan cX5_requireSpan 2 none, .classLink RX5 112 "java/lang/IllegalArgumentException", .initialized "java/lang/IllegalArgumentException", .methodLink RX5 60 yX5_requireDay, .static yX5_requireDay, .code yX5_requireDay cX5_requireDay 1 none, .methodLink RX5 148 yX5_countTrue, .static yX5_countTrue, .code yX5_countTrue cX5_countTrue 5 (some .int)] ++ wsX50 ++ (vx_atS RX5 116 "java/lang/IllegalArgumentException" ["java/lang/RuntimeException", "java/lang/Exception"]).filter goodWord)
def wsX5_setRules : List Cond := .code yX5_setRules cX5_setRules 4 (some .int) :: ([.classLink RX5 112 "java/lang/IllegalArgumentException", .initialized "java/lang/IllegalArgumentException", .fieldLink RX5 53 "GaugeBook" "iceFactor" "I", .fieldLink RX5 57 "GaugeBook" "gapLimit" "I", .fieldLink RX5 82 "GaugeBook" "isReckoned" "Z"] ++ wsX50 ++ (vx_atS RX5 116 "java/lang/IllegalArgumentException" ["java/lang/RuntimeException", "java/lang/Exception"]).filter goodWord)
def wsX5_completeCurveOn : List Cond := .code yX5_completeCurveOn cX5_completeCurveOn 3 (some (.object "GaugeBook$Curve")) :: ([.methodLink RX5 131 yX5_curveNumberOn, .instanceMethod yX5_curveNumberOn, .selects RX5 yX5_curveNumberOn yX5_curveNumberOn, .initialized RX5, .code yX5_curveNumberOn cX5_curveNumberOn 6 (some .int), .methodLink RX5 86 yX5_curveAt, .instanceMethod yX5_curveAt, .selects RX5 yX5_curveAt yX5_curveAt, .code yX5_curveAt cX5_curveAt 2 (some (.object "GaugeBook$Curve")), .fieldLink RX5 64 "GaugeBook" "curveTotal" "I", .fieldLink RX5 11 "GaugeBook" "curves" "[LGaugeBook$Curve;", .methodLink RX5 117 yX0_isComplete, .instanceMethod yX0_isComplete, .selects RX0 yX0_isComplete yX0_isComplete, .initialized RX0, .code yX0_isComplete cX0_isComplete 1 (some .boolean), .fieldLink RX0 22 "GaugeBook$Curve" "points" "I"] ++ wsX00 ++ wsX50)
def wsX5_reckonDay_r1 : List Cond := [Cond.fieldLink RX5 26 "GaugeBook" "hasStage" "[Z", Cond.fieldLink RX5 42 "GaugeBook" "table" "LGaugeBook$FlowTable;", Cond.constantLong RX5 278 (-1), Cond.fieldLink RX5 22 "GaugeBook" "stages" "[I", Cond.fieldLink RX5 18 "GaugeBook" "shifts" "LGaugeBook$Shifts;", Cond.fieldLink RX5 30 "GaugeBook" "ice" "[Z", Cond.fieldLink RX5 53 "GaugeBook" "iceFactor" "I", Cond.constantLong RX5 284 (100), Cond.methodLink RX5 229 yX5_completeCurveOn, Cond.instanceMethod yX5_completeCurveOn, Cond.selects RX5 yX5_completeCurveOn yX5_completeCurveOn, Cond.initialized RX5, Cond.code yX5_completeCurveOn cX5_completeCurveOn 3 (some (.object "GaugeBook$Curve")), Cond.methodLink RX5 131 yX5_curveNumberOn, Cond.instanceMethod yX5_curveNumberOn, Cond.selects RX5 yX5_curveNumberOn yX5_curveNumberOn, Cond.code yX5_curveNumberOn cX5_curveNumberOn 6 (some .int), Cond.methodLink RX5 86 yX5_curveAt, Cond.instanceMethod yX5_curveAt, Cond.selects RX5 yX5_curveAt yX5_curveAt, Cond.code yX5_curveAt cX5_curveAt 2 (some (.object "GaugeBook$Curve")), Cond.fieldLink RX5 64 "GaugeBook" "curveTotal" "I", Cond.fieldLink RX5 11 "GaugeBook" "curves" "[LGaugeBook$Curve;", Cond.methodLink RX5 117 yX0_isComplete]
def wsX5_reckonDay_r2 : List Cond := [Cond.instanceMethod yX0_isComplete, Cond.selects RX0 yX0_isComplete yX0_isComplete, Cond.initialized RX0, Cond.code yX0_isComplete cX0_isComplete 1 (some .boolean), Cond.fieldLink RX0 22 "GaugeBook$Curve" "points" "I", Cond.methodLink RX5 280 yX1_put, Cond.instanceMethod yX1_put, Cond.selects RX1 yX1_put yX1_put, Cond.initialized RX1, Cond.code yX1_put cX1_put 5 none, Cond.fieldLink RX1 9 "GaugeBook$FlowTable" "flows" "[J", Cond.fieldLink RX1 15 "GaugeBook$FlowTable" "states" "[I", Cond.methodLink RX5 136 yX4_on, Cond.instanceMethod yX4_on, Cond.selects RX4 yX4_on yX4_on, Cond.initialized RX4, Cond.code yX4_on cX4_on 4 (some .int), Cond.fieldLink RX4 16 "GaugeBook$Shifts" "told" "I", Cond.fieldLink RX4 9 "GaugeBook$Shifts" "toldDays" "[I", Cond.fieldLink RX4 13 "GaugeBook$Shifts" "toldShifts" "[I", Cond.static yX5_countLower, Cond.code yX5_countLower cX5_countLower 4 (some .int), Cond.static yX5_interpolate, Cond.code yX5_interpolate cX5_interpolate 8 (some .long)]
def wsX5_reckonDay_r3 : List Cond := [Cond.methodLink RX5 123 yX0_flowAt, Cond.instanceMethod yX0_flowAt, Cond.selects RX0 yX0_flowAt yX0_flowAt, Cond.code yX0_flowAt cX0_flowAt 4 (some .long), Cond.fieldLink RX0 15 "GaugeBook$Curve" "pointStages" "[I", Cond.methodLink RX0 37 Lib.Math.max.name, Cond.static Lib.Math.max.name, Cond.initialized "java/lang/Math", Cond.code Lib.Math.max.name Lib.Math.max.code 2 (some .int), Cond.methodLink RX0 43 Lib.Math.min.name, Cond.static Lib.Math.min.name, Cond.code Lib.Math.min.name Lib.Math.min.code 2 (some .int), Cond.fieldLink RX0 19 "GaugeBook$Curve" "pointFlows" "[I"]
def wsX5_reckonDay : List Cond := .code yX5_reckonDay cX5_reckonDay 5 none :: ((wsX5_reckonDay_r1 ++ (wsX5_reckonDay_r2 ++ wsX5_reckonDay_r3)) ++ wsX50 ++ wsX00 ++ wsX10 ++ wsX40)
def wsX5_reckon_r1 : List Cond := [Cond.fieldLink RX5 82 "GaugeBook" "isReckoned" "Z", Cond.fieldLink RX5 42 "GaugeBook" "table" "LGaugeBook$FlowTable;", Cond.fieldLink RX5 57 "GaugeBook" "gapLimit" "I", Cond.methodLink RX5 272 yX5_reckonDay, Cond.instanceMethod yX5_reckonDay, Cond.selects RX5 yX5_reckonDay yX5_reckonDay, Cond.initialized RX5, Cond.code yX5_reckonDay cX5_reckonDay 5 none, Cond.fieldLink RX5 26 "GaugeBook" "hasStage" "[Z", Cond.constantLong RX5 278 (-1), Cond.fieldLink RX5 22 "GaugeBook" "stages" "[I", Cond.fieldLink RX5 18 "GaugeBook" "shifts" "LGaugeBook$Shifts;", Cond.fieldLink RX5 30 "GaugeBook" "ice" "[Z", Cond.fieldLink RX5 53 "GaugeBook" "iceFactor" "I", Cond.constantLong RX5 284 (100), Cond.methodLink RX5 229 yX5_completeCurveOn, Cond.instanceMethod yX5_completeCurveOn, Cond.selects RX5 yX5_completeCurveOn yX5_completeCurveOn, Cond.code yX5_completeCurveOn cX5_completeCurveOn 3 (some (.object "GaugeBook$Curve")), Cond.methodLink RX5 131 yX5_curveNumberOn, Cond.instanceMethod yX5_curveNumberOn, Cond.selects RX5 yX5_curveNumberOn yX5_curveNumberOn, Cond.code yX5_curveNumberOn cX5_curveNumberOn 6 (some .int), Cond.methodLink RX5 86 yX5_curveAt]
def wsX5_reckon_r2 : List Cond := [Cond.instanceMethod yX5_curveAt, Cond.selects RX5 yX5_curveAt yX5_curveAt, Cond.code yX5_curveAt cX5_curveAt 2 (some (.object "GaugeBook$Curve")), Cond.fieldLink RX5 64 "GaugeBook" "curveTotal" "I", Cond.fieldLink RX5 11 "GaugeBook" "curves" "[LGaugeBook$Curve;", Cond.methodLink RX5 117 yX0_isComplete, Cond.instanceMethod yX0_isComplete, Cond.selects RX0 yX0_isComplete yX0_isComplete, Cond.initialized RX0, Cond.code yX0_isComplete cX0_isComplete 1 (some .boolean), Cond.fieldLink RX0 22 "GaugeBook$Curve" "points" "I", Cond.methodLink RX5 280 yX1_put, Cond.instanceMethod yX1_put, Cond.selects RX1 yX1_put yX1_put, Cond.initialized RX1, Cond.code yX1_put cX1_put 5 none, Cond.fieldLink RX1 9 "GaugeBook$FlowTable" "flows" "[J", Cond.fieldLink RX1 15 "GaugeBook$FlowTable" "states" "[I", Cond.methodLink RX5 136 yX4_on, Cond.instanceMethod yX4_on, Cond.selects RX4 yX4_on yX4_on, Cond.initialized RX4, Cond.code yX4_on cX4_on 4 (some .int), Cond.fieldLink RX4 16 "GaugeBook$Shifts" "told" "I"]
def wsX5_reckon_r3 : List Cond := [Cond.fieldLink RX4 9 "GaugeBook$Shifts" "toldDays" "[I", Cond.fieldLink RX4 13 "GaugeBook$Shifts" "toldShifts" "[I", Cond.static yX5_countLower, Cond.code yX5_countLower cX5_countLower 4 (some .int), Cond.static yX5_interpolate, Cond.code yX5_interpolate cX5_interpolate 8 (some .long), Cond.methodLink RX5 123 yX0_flowAt, Cond.instanceMethod yX0_flowAt, Cond.selects RX0 yX0_flowAt yX0_flowAt, Cond.code yX0_flowAt cX0_flowAt 4 (some .long), Cond.fieldLink RX0 15 "GaugeBook$Curve" "pointStages" "[I", Cond.methodLink RX0 37 Lib.Math.max.name, Cond.static Lib.Math.max.name, Cond.initialized "java/lang/Math", Cond.code Lib.Math.max.name Lib.Math.max.code 2 (some .int), Cond.methodLink RX0 43 Lib.Math.min.name, Cond.static Lib.Math.min.name, Cond.code Lib.Math.min.name Lib.Math.min.code 2 (some .int), Cond.fieldLink RX0 19 "GaugeBook$Curve" "pointFlows" "[I", Cond.methodLink RX5 275 yX1_fillGaps, Cond.instanceMethod yX1_fillGaps, Cond.selects RX1 yX1_fillGaps yX1_fillGaps, Cond.code yX1_fillGaps cX1_fillGaps 4 none, Cond.methodLink RX1 25 yX1_hasFlow]
def wsX5_reckon_r4 : List Cond := [Cond.instanceMethod yX1_hasFlow, Cond.selects RX1 yX1_hasFlow yX1_hasFlow, Cond.code yX1_hasFlow cX1_hasFlow 2 (some .boolean), Cond.methodLink RX1 21 yX1_stateOn, Cond.instanceMethod yX1_stateOn, Cond.selects RX1 yX1_stateOn yX1_stateOn, Cond.code yX1_stateOn cX1_stateOn 2 (some .int), Cond.methodLink RX1 29 yX1_fillBetween, Cond.instanceMethod yX1_fillBetween, Cond.selects RX1 yX1_fillBetween yX1_fillBetween, Cond.code yX1_fillBetween cX1_fillBetween 8 none, Cond.methodLink RX1 33 yX1_flowOn, Cond.instanceMethod yX1_flowOn, Cond.selects RX1 yX1_flowOn yX1_flowOn, Cond.code yX1_flowOn cX1_flowOn 2 (some .long), Cond.constantLong RX1 19 (-1), Cond.methodLink RX1 41 yX1_put]
def wsX5_reckon : List Cond := .code yX5_reckon cX5_reckon 2 none :: ((wsX5_reckon_r1 ++ (wsX5_reckon_r2 ++ (wsX5_reckon_r3 ++ wsX5_reckon_r4))) ++ wsX50 ++ wsX00 ++ wsX10 ++ wsX40)
def wsX5_state_r1 : List Cond := [Cond.fieldLink RX5 42 "GaugeBook" "table" "LGaugeBook$FlowTable;", Cond.methodLink RX5 60 yX5_requireDay, Cond.static yX5_requireDay, Cond.initialized RX5, Cond.code yX5_requireDay cX5_requireDay 1 none, Cond.classLink RX5 112 "java/lang/IllegalArgumentException", Cond.initialized "java/lang/IllegalArgumentException", Cond.methodLink RX5 156 yX5_reckon, Cond.instanceMethod yX5_reckon, Cond.selects RX5 yX5_reckon yX5_reckon, Cond.code yX5_reckon cX5_reckon 2 none, Cond.fieldLink RX5 82 "GaugeBook" "isReckoned" "Z", Cond.fieldLink RX5 57 "GaugeBook" "gapLimit" "I", Cond.methodLink RX5 272 yX5_reckonDay, Cond.instanceMethod yX5_reckonDay, Cond.selects RX5 yX5_reckonDay yX5_reckonDay, Cond.code yX5_reckonDay cX5_reckonDay 5 none, Cond.fieldLink RX5 26 "GaugeBook" "hasStage" "[Z", Cond.constantLong RX5 278 (-1), Cond.fieldLink RX5 22 "GaugeBook" "stages" "[I", Cond.fieldLink RX5 18 "GaugeBook" "shifts" "LGaugeBook$Shifts;", Cond.fieldLink RX5 30 "GaugeBook" "ice" "[Z", Cond.fieldLink RX5 53 "GaugeBook" "iceFactor" "I", Cond.constantLong RX5 284 (100)]
def wsX5_state_r2 : List Cond := [Cond.methodLink RX5 229 yX5_completeCurveOn, Cond.instanceMethod yX5_completeCurveOn, Cond.selects RX5 yX5_completeCurveOn yX5_completeCurveOn, Cond.code yX5_completeCurveOn cX5_completeCurveOn 3 (some (.object "GaugeBook$Curve")), Cond.methodLink RX5 131 yX5_curveNumberOn, Cond.instanceMethod yX5_curveNumberOn, Cond.selects RX5 yX5_curveNumberOn yX5_curveNumberOn, Cond.code yX5_curveNumberOn cX5_curveNumberOn 6 (some .int), Cond.methodLink RX5 86 yX5_curveAt, Cond.instanceMethod yX5_curveAt, Cond.selects RX5 yX5_curveAt yX5_curveAt, Cond.code yX5_curveAt cX5_curveAt 2 (some (.object "GaugeBook$Curve")), Cond.fieldLink RX5 64 "GaugeBook" "curveTotal" "I", Cond.fieldLink RX5 11 "GaugeBook" "curves" "[LGaugeBook$Curve;", Cond.methodLink RX5 117 yX0_isComplete, Cond.instanceMethod yX0_isComplete, Cond.selects RX0 yX0_isComplete yX0_isComplete, Cond.initialized RX0, Cond.code yX0_isComplete cX0_isComplete 1 (some .boolean), Cond.fieldLink RX0 22 "GaugeBook$Curve" "points" "I", Cond.methodLink RX5 280 yX1_put, Cond.instanceMethod yX1_put, Cond.selects RX1 yX1_put yX1_put, Cond.initialized RX1]
def wsX5_state_r3 : List Cond := [Cond.code yX1_put cX1_put 5 none, Cond.fieldLink RX1 9 "GaugeBook$FlowTable" "flows" "[J", Cond.fieldLink RX1 15 "GaugeBook$FlowTable" "states" "[I", Cond.methodLink RX5 136 yX4_on, Cond.instanceMethod yX4_on, Cond.selects RX4 yX4_on yX4_on, Cond.initialized RX4, Cond.code yX4_on cX4_on 4 (some .int), Cond.fieldLink RX4 16 "GaugeBook$Shifts" "told" "I", Cond.fieldLink RX4 9 "GaugeBook$Shifts" "toldDays" "[I", Cond.fieldLink RX4 13 "GaugeBook$Shifts" "toldShifts" "[I", Cond.static yX5_countLower, Cond.code yX5_countLower cX5_countLower 4 (some .int), Cond.static yX5_interpolate, Cond.code yX5_interpolate cX5_interpolate 8 (some .long), Cond.methodLink RX5 123 yX0_flowAt, Cond.instanceMethod yX0_flowAt, Cond.selects RX0 yX0_flowAt yX0_flowAt, Cond.code yX0_flowAt cX0_flowAt 4 (some .long), Cond.fieldLink RX0 15 "GaugeBook$Curve" "pointStages" "[I", Cond.methodLink RX0 37 Lib.Math.max.name, Cond.static Lib.Math.max.name, Cond.initialized "java/lang/Math", Cond.code Lib.Math.max.name Lib.Math.max.code 2 (some .int)]
def wsX5_state_r4 : List Cond := [Cond.methodLink RX0 43 Lib.Math.min.name, Cond.static Lib.Math.min.name, Cond.code Lib.Math.min.name Lib.Math.min.code 2 (some .int), Cond.fieldLink RX0 19 "GaugeBook$Curve" "pointFlows" "[I", Cond.methodLink RX5 275 yX1_fillGaps, Cond.instanceMethod yX1_fillGaps, Cond.selects RX1 yX1_fillGaps yX1_fillGaps, Cond.code yX1_fillGaps cX1_fillGaps 4 none, Cond.methodLink RX1 25 yX1_hasFlow, Cond.instanceMethod yX1_hasFlow, Cond.selects RX1 yX1_hasFlow yX1_hasFlow, Cond.code yX1_hasFlow cX1_hasFlow 2 (some .boolean), Cond.methodLink RX1 21 yX1_stateOn, Cond.instanceMethod yX1_stateOn, Cond.selects RX1 yX1_stateOn yX1_stateOn, Cond.code yX1_stateOn cX1_stateOn 2 (some .int), Cond.methodLink RX1 29 yX1_fillBetween, Cond.instanceMethod yX1_fillBetween, Cond.selects RX1 yX1_fillBetween yX1_fillBetween, Cond.code yX1_fillBetween cX1_fillBetween 8 none, Cond.methodLink RX1 33 yX1_flowOn, Cond.instanceMethod yX1_flowOn, Cond.selects RX1 yX1_flowOn yX1_flowOn, Cond.code yX1_flowOn cX1_flowOn 2 (some .long)]
def wsX5_state_r5 : List Cond := [Cond.constantLong RX1 19 (-1), Cond.methodLink RX1 41 yX1_put, Cond.methodLink RX5 159 yX1_stateOn]
def wsX5_state : List Cond := .code yX5_state cX5_state 2 (some .int) :: ((wsX5_state_r1 ++ (wsX5_state_r2 ++ (wsX5_state_r3 ++ (wsX5_state_r4 ++ wsX5_state_r5)))) ++ wsX50 ++ wsX00 ++ wsX10 ++ wsX40 ++ (vx_atS RX5 116 "java/lang/IllegalArgumentException" ["java/lang/RuntimeException", "java/lang/Exception"]).filter goodWord)
def wsX5_flow_r1 : List Cond := [Cond.fieldLink RX5 42 "GaugeBook" "table" "LGaugeBook$FlowTable;", Cond.methodLink RX5 60 yX5_requireDay, Cond.static yX5_requireDay, Cond.initialized RX5, Cond.code yX5_requireDay cX5_requireDay 1 none, Cond.classLink RX5 112 "java/lang/IllegalArgumentException", Cond.initialized "java/lang/IllegalArgumentException", Cond.methodLink RX5 156 yX5_reckon, Cond.instanceMethod yX5_reckon, Cond.selects RX5 yX5_reckon yX5_reckon, Cond.code yX5_reckon cX5_reckon 2 none, Cond.fieldLink RX5 82 "GaugeBook" "isReckoned" "Z", Cond.fieldLink RX5 57 "GaugeBook" "gapLimit" "I", Cond.methodLink RX5 272 yX5_reckonDay, Cond.instanceMethod yX5_reckonDay, Cond.selects RX5 yX5_reckonDay yX5_reckonDay, Cond.code yX5_reckonDay cX5_reckonDay 5 none, Cond.fieldLink RX5 26 "GaugeBook" "hasStage" "[Z", Cond.constantLong RX5 278 (-1), Cond.fieldLink RX5 22 "GaugeBook" "stages" "[I", Cond.fieldLink RX5 18 "GaugeBook" "shifts" "LGaugeBook$Shifts;", Cond.fieldLink RX5 30 "GaugeBook" "ice" "[Z", Cond.fieldLink RX5 53 "GaugeBook" "iceFactor" "I", Cond.constantLong RX5 284 (100)]
def wsX5_flow_r2 : List Cond := [Cond.methodLink RX5 229 yX5_completeCurveOn, Cond.instanceMethod yX5_completeCurveOn, Cond.selects RX5 yX5_completeCurveOn yX5_completeCurveOn, Cond.code yX5_completeCurveOn cX5_completeCurveOn 3 (some (.object "GaugeBook$Curve")), Cond.methodLink RX5 131 yX5_curveNumberOn, Cond.instanceMethod yX5_curveNumberOn, Cond.selects RX5 yX5_curveNumberOn yX5_curveNumberOn, Cond.code yX5_curveNumberOn cX5_curveNumberOn 6 (some .int), Cond.methodLink RX5 86 yX5_curveAt, Cond.instanceMethod yX5_curveAt, Cond.selects RX5 yX5_curveAt yX5_curveAt, Cond.code yX5_curveAt cX5_curveAt 2 (some (.object "GaugeBook$Curve")), Cond.fieldLink RX5 64 "GaugeBook" "curveTotal" "I", Cond.fieldLink RX5 11 "GaugeBook" "curves" "[LGaugeBook$Curve;", Cond.methodLink RX5 117 yX0_isComplete, Cond.instanceMethod yX0_isComplete, Cond.selects RX0 yX0_isComplete yX0_isComplete, Cond.initialized RX0, Cond.code yX0_isComplete cX0_isComplete 1 (some .boolean), Cond.fieldLink RX0 22 "GaugeBook$Curve" "points" "I", Cond.methodLink RX5 280 yX1_put, Cond.instanceMethod yX1_put, Cond.selects RX1 yX1_put yX1_put, Cond.initialized RX1]
def wsX5_flow_r3 : List Cond := [Cond.code yX1_put cX1_put 5 none, Cond.fieldLink RX1 9 "GaugeBook$FlowTable" "flows" "[J", Cond.fieldLink RX1 15 "GaugeBook$FlowTable" "states" "[I", Cond.methodLink RX5 136 yX4_on, Cond.instanceMethod yX4_on, Cond.selects RX4 yX4_on yX4_on, Cond.initialized RX4, Cond.code yX4_on cX4_on 4 (some .int), Cond.fieldLink RX4 16 "GaugeBook$Shifts" "told" "I", Cond.fieldLink RX4 9 "GaugeBook$Shifts" "toldDays" "[I", Cond.fieldLink RX4 13 "GaugeBook$Shifts" "toldShifts" "[I", Cond.static yX5_countLower, Cond.code yX5_countLower cX5_countLower 4 (some .int), Cond.static yX5_interpolate, Cond.code yX5_interpolate cX5_interpolate 8 (some .long), Cond.methodLink RX5 123 yX0_flowAt, Cond.instanceMethod yX0_flowAt, Cond.selects RX0 yX0_flowAt yX0_flowAt, Cond.code yX0_flowAt cX0_flowAt 4 (some .long), Cond.fieldLink RX0 15 "GaugeBook$Curve" "pointStages" "[I", Cond.methodLink RX0 37 Lib.Math.max.name, Cond.static Lib.Math.max.name, Cond.initialized "java/lang/Math", Cond.code Lib.Math.max.name Lib.Math.max.code 2 (some .int)]
def wsX5_flow_r4 : List Cond := [Cond.methodLink RX0 43 Lib.Math.min.name, Cond.static Lib.Math.min.name, Cond.code Lib.Math.min.name Lib.Math.min.code 2 (some .int), Cond.fieldLink RX0 19 "GaugeBook$Curve" "pointFlows" "[I", Cond.methodLink RX5 275 yX1_fillGaps, Cond.instanceMethod yX1_fillGaps, Cond.selects RX1 yX1_fillGaps yX1_fillGaps, Cond.code yX1_fillGaps cX1_fillGaps 4 none, Cond.methodLink RX1 25 yX1_hasFlow, Cond.instanceMethod yX1_hasFlow, Cond.selects RX1 yX1_hasFlow yX1_hasFlow, Cond.code yX1_hasFlow cX1_hasFlow 2 (some .boolean), Cond.methodLink RX1 21 yX1_stateOn, Cond.instanceMethod yX1_stateOn, Cond.selects RX1 yX1_stateOn yX1_stateOn, Cond.code yX1_stateOn cX1_stateOn 2 (some .int), Cond.methodLink RX1 29 yX1_fillBetween, Cond.instanceMethod yX1_fillBetween, Cond.selects RX1 yX1_fillBetween yX1_fillBetween, Cond.code yX1_fillBetween cX1_fillBetween 8 none, Cond.methodLink RX1 33 yX1_flowOn, Cond.instanceMethod yX1_flowOn, Cond.selects RX1 yX1_flowOn yX1_flowOn, Cond.code yX1_flowOn cX1_flowOn 2 (some .long)]
def wsX5_flow_r5 : List Cond := [Cond.constantLong RX1 19 (-1), Cond.methodLink RX1 41 yX1_put, Cond.methodLink RX5 162 yX1_flowOn]
def wsX5_flow : List Cond := .code yX5_flow cX5_flow 2 (some .long) :: ((wsX5_flow_r1 ++ (wsX5_flow_r2 ++ (wsX5_flow_r3 ++ (wsX5_flow_r4 ++ wsX5_flow_r5)))) ++ wsX50 ++ wsX00 ++ wsX10 ++ wsX40 ++ (vx_atS RX5 116 "java/lang/IllegalArgumentException" ["java/lang/RuntimeException", "java/lang/Exception"]).filter goodWord)
def wsX5_requireRange : List Cond := .code yX5_requireRange cX5_requireRange 2 none :: ([.classLink RX5 112 "java/lang/IllegalArgumentException", .initialized "java/lang/IllegalArgumentException"] ++ (vx_atS RX5 116 "java/lang/IllegalArgumentException" ["java/lang/RuntimeException", "java/lang/Exception"]).filter goodWord)
def wsX5_sum_r1 : List Cond := [Cond.classLink RX5 90 "java/lang/IndexOutOfBoundsException", Cond.initialized "java/lang/IndexOutOfBoundsException", Cond.fieldLink RX5 42 "GaugeBook" "table" "LGaugeBook$FlowTable;", Cond.methodLink RX5 167 yX5_requireRange, Cond.static yX5_requireRange, Cond.initialized RX5, Cond.code yX5_requireRange cX5_requireRange 2 none, Cond.classLink RX5 112 "java/lang/IllegalArgumentException", Cond.initialized "java/lang/IllegalArgumentException", Cond.methodLink RX5 156 yX5_reckon, Cond.instanceMethod yX5_reckon, Cond.selects RX5 yX5_reckon yX5_reckon, Cond.code yX5_reckon cX5_reckon 2 none, Cond.fieldLink RX5 82 "GaugeBook" "isReckoned" "Z", Cond.fieldLink RX5 57 "GaugeBook" "gapLimit" "I", Cond.methodLink RX5 272 yX5_reckonDay, Cond.instanceMethod yX5_reckonDay, Cond.selects RX5 yX5_reckonDay yX5_reckonDay, Cond.code yX5_reckonDay cX5_reckonDay 5 none, Cond.fieldLink RX5 26 "GaugeBook" "hasStage" "[Z", Cond.constantLong RX5 278 (-1), Cond.fieldLink RX5 22 "GaugeBook" "stages" "[I", Cond.fieldLink RX5 18 "GaugeBook" "shifts" "LGaugeBook$Shifts;", Cond.fieldLink RX5 30 "GaugeBook" "ice" "[Z"]
def wsX5_sum_r2 : List Cond := [Cond.fieldLink RX5 53 "GaugeBook" "iceFactor" "I", Cond.constantLong RX5 284 (100), Cond.methodLink RX5 229 yX5_completeCurveOn, Cond.instanceMethod yX5_completeCurveOn, Cond.selects RX5 yX5_completeCurveOn yX5_completeCurveOn, Cond.code yX5_completeCurveOn cX5_completeCurveOn 3 (some (.object "GaugeBook$Curve")), Cond.methodLink RX5 131 yX5_curveNumberOn, Cond.instanceMethod yX5_curveNumberOn, Cond.selects RX5 yX5_curveNumberOn yX5_curveNumberOn, Cond.code yX5_curveNumberOn cX5_curveNumberOn 6 (some .int), Cond.methodLink RX5 86 yX5_curveAt, Cond.instanceMethod yX5_curveAt, Cond.selects RX5 yX5_curveAt yX5_curveAt, Cond.code yX5_curveAt cX5_curveAt 2 (some (.object "GaugeBook$Curve")), Cond.fieldLink RX5 64 "GaugeBook" "curveTotal" "I", Cond.fieldLink RX5 11 "GaugeBook" "curves" "[LGaugeBook$Curve;", Cond.methodLink RX5 117 yX0_isComplete, Cond.instanceMethod yX0_isComplete, Cond.selects RX0 yX0_isComplete yX0_isComplete, Cond.initialized RX0, Cond.code yX0_isComplete cX0_isComplete 1 (some .boolean), Cond.fieldLink RX0 22 "GaugeBook$Curve" "points" "I", Cond.methodLink RX5 280 yX1_put, Cond.instanceMethod yX1_put]
def wsX5_sum_r3 : List Cond := [Cond.selects RX1 yX1_put yX1_put, Cond.initialized RX1, Cond.code yX1_put cX1_put 5 none, Cond.fieldLink RX1 9 "GaugeBook$FlowTable" "flows" "[J", Cond.fieldLink RX1 15 "GaugeBook$FlowTable" "states" "[I", Cond.methodLink RX5 136 yX4_on, Cond.instanceMethod yX4_on, Cond.selects RX4 yX4_on yX4_on, Cond.initialized RX4, Cond.code yX4_on cX4_on 4 (some .int), Cond.fieldLink RX4 16 "GaugeBook$Shifts" "told" "I", Cond.fieldLink RX4 9 "GaugeBook$Shifts" "toldDays" "[I", Cond.fieldLink RX4 13 "GaugeBook$Shifts" "toldShifts" "[I", Cond.static yX5_countLower, Cond.code yX5_countLower cX5_countLower 4 (some .int), Cond.static yX5_interpolate, Cond.code yX5_interpolate cX5_interpolate 8 (some .long), Cond.methodLink RX5 123 yX0_flowAt, Cond.instanceMethod yX0_flowAt, Cond.selects RX0 yX0_flowAt yX0_flowAt, Cond.code yX0_flowAt cX0_flowAt 4 (some .long), Cond.fieldLink RX0 15 "GaugeBook$Curve" "pointStages" "[I", Cond.methodLink RX0 37 Lib.Math.max.name, Cond.static Lib.Math.max.name]
def wsX5_sum_r4 : List Cond := [Cond.initialized "java/lang/Math", Cond.code Lib.Math.max.name Lib.Math.max.code 2 (some .int), Cond.methodLink RX0 43 Lib.Math.min.name, Cond.static Lib.Math.min.name, Cond.code Lib.Math.min.name Lib.Math.min.code 2 (some .int), Cond.fieldLink RX0 19 "GaugeBook$Curve" "pointFlows" "[I", Cond.methodLink RX5 275 yX1_fillGaps, Cond.instanceMethod yX1_fillGaps, Cond.selects RX1 yX1_fillGaps yX1_fillGaps, Cond.code yX1_fillGaps cX1_fillGaps 4 none, Cond.methodLink RX1 25 yX1_hasFlow, Cond.instanceMethod yX1_hasFlow, Cond.selects RX1 yX1_hasFlow yX1_hasFlow, Cond.code yX1_hasFlow cX1_hasFlow 2 (some .boolean), Cond.methodLink RX1 21 yX1_stateOn, Cond.instanceMethod yX1_stateOn, Cond.selects RX1 yX1_stateOn yX1_stateOn, Cond.code yX1_stateOn cX1_stateOn 2 (some .int), Cond.methodLink RX1 29 yX1_fillBetween, Cond.instanceMethod yX1_fillBetween, Cond.selects RX1 yX1_fillBetween yX1_fillBetween, Cond.code yX1_fillBetween cX1_fillBetween 8 none, Cond.methodLink RX1 33 yX1_flowOn, Cond.instanceMethod yX1_flowOn]
def wsX5_sum_r5 : List Cond := [Cond.selects RX1 yX1_flowOn yX1_flowOn, Cond.code yX1_flowOn cX1_flowOn 2 (some .long), Cond.constantLong RX1 19 (-1), Cond.methodLink RX1 41 yX1_put, Cond.methodLink RX5 170 yX1_daysWithFlow, Cond.instanceMethod yX1_daysWithFlow, Cond.selects RX1 yX1_daysWithFlow yX1_daysWithFlow, Cond.code yX1_daysWithFlow cX1_daysWithFlow 5 (some .int), Cond.methodLink RX5 174 yX1_total, Cond.instanceMethod yX1_total, Cond.selects RX1 yX1_total yX1_total, Cond.code yX1_total cX1_total 6 (some .long), Cond.methodLink RX5 178 yX1_greatestDay, Cond.instanceMethod yX1_greatestDay, Cond.selects RX1 yX1_greatestDay yX1_greatestDay, Cond.code yX1_greatestDay cX1_greatestDay 5 (some .int), Cond.methodLink RX5 162 yX1_flowOn, Cond.methodLink RX5 181 yX1_leastFlow, Cond.instanceMethod yX1_leastFlow, Cond.selects RX1 yX1_leastFlow yX1_leastFlow, Cond.code yX1_leastFlow cX1_leastFlow 6 (some .long)]
def wsX5_sum : List Cond := .code yX5_sum cX5_sum 4 (some .long) :: ((wsX5_sum_r1 ++ (wsX5_sum_r2 ++ (wsX5_sum_r3 ++ (wsX5_sum_r4 ++ wsX5_sum_r5)))) ++ wsX50 ++ wsX00 ++ wsX10 ++ wsX40 ++ (vx_atS RX5 94 "java/lang/IndexOutOfBoundsException" ["java/lang/RuntimeException", "java/lang/Exception"]).filter goodWord ++ (vx_atS RX5 116 "java/lang/IllegalArgumentException" ["java/lang/RuntimeException", "java/lang/Exception"]).filter goodWord)
def wsX5_reached_r1 : List Cond := [Cond.classLink RX5 112 "java/lang/IllegalArgumentException", Cond.initialized "java/lang/IllegalArgumentException", Cond.fieldLink RX5 49 "GaugeBook" "ranking" "LGaugeBook$Ranking;", Cond.fieldLink RX5 42 "GaugeBook" "table" "LGaugeBook$FlowTable;", Cond.methodLink RX5 191 Lib.Math.max.name, Cond.static Lib.Math.max.name, Cond.initialized "java/lang/Math", Cond.code Lib.Math.max.name Lib.Math.max.code 2 (some .int), Cond.methodLink RX5 156 yX5_reckon, Cond.instanceMethod yX5_reckon, Cond.selects RX5 yX5_reckon yX5_reckon, Cond.initialized RX5, Cond.code yX5_reckon cX5_reckon 2 none, Cond.fieldLink RX5 82 "GaugeBook" "isReckoned" "Z", Cond.fieldLink RX5 57 "GaugeBook" "gapLimit" "I", Cond.methodLink RX5 272 yX5_reckonDay, Cond.instanceMethod yX5_reckonDay, Cond.selects RX5 yX5_reckonDay yX5_reckonDay, Cond.code yX5_reckonDay cX5_reckonDay 5 none, Cond.fieldLink RX5 26 "GaugeBook" "hasStage" "[Z", Cond.constantLong RX5 278 (-1), Cond.fieldLink RX5 22 "GaugeBook" "stages" "[I", Cond.fieldLink RX5 18 "GaugeBook" "shifts" "LGaugeBook$Shifts;", Cond.fieldLink RX5 30 "GaugeBook" "ice" "[Z"]
def wsX5_reached_r2 : List Cond := [Cond.fieldLink RX5 53 "GaugeBook" "iceFactor" "I", Cond.constantLong RX5 284 (100), Cond.methodLink RX5 229 yX5_completeCurveOn, Cond.instanceMethod yX5_completeCurveOn, Cond.selects RX5 yX5_completeCurveOn yX5_completeCurveOn, Cond.code yX5_completeCurveOn cX5_completeCurveOn 3 (some (.object "GaugeBook$Curve")), Cond.methodLink RX5 131 yX5_curveNumberOn, Cond.instanceMethod yX5_curveNumberOn, Cond.selects RX5 yX5_curveNumberOn yX5_curveNumberOn, Cond.code yX5_curveNumberOn cX5_curveNumberOn 6 (some .int), Cond.methodLink RX5 86 yX5_curveAt, Cond.instanceMethod yX5_curveAt, Cond.selects RX5 yX5_curveAt yX5_curveAt, Cond.code yX5_curveAt cX5_curveAt 2 (some (.object "GaugeBook$Curve")), Cond.fieldLink RX5 64 "GaugeBook" "curveTotal" "I", Cond.fieldLink RX5 11 "GaugeBook" "curves" "[LGaugeBook$Curve;", Cond.methodLink RX5 117 yX0_isComplete, Cond.instanceMethod yX0_isComplete, Cond.selects RX0 yX0_isComplete yX0_isComplete, Cond.initialized RX0, Cond.code yX0_isComplete cX0_isComplete 1 (some .boolean), Cond.fieldLink RX0 22 "GaugeBook$Curve" "points" "I", Cond.methodLink RX5 280 yX1_put, Cond.instanceMethod yX1_put]
def wsX5_reached_r3 : List Cond := [Cond.selects RX1 yX1_put yX1_put, Cond.initialized RX1, Cond.code yX1_put cX1_put 5 none, Cond.fieldLink RX1 9 "GaugeBook$FlowTable" "flows" "[J", Cond.fieldLink RX1 15 "GaugeBook$FlowTable" "states" "[I", Cond.methodLink RX5 136 yX4_on, Cond.instanceMethod yX4_on, Cond.selects RX4 yX4_on yX4_on, Cond.initialized RX4, Cond.code yX4_on cX4_on 4 (some .int), Cond.fieldLink RX4 16 "GaugeBook$Shifts" "told" "I", Cond.fieldLink RX4 9 "GaugeBook$Shifts" "toldDays" "[I", Cond.fieldLink RX4 13 "GaugeBook$Shifts" "toldShifts" "[I", Cond.static yX5_countLower, Cond.code yX5_countLower cX5_countLower 4 (some .int), Cond.static yX5_interpolate, Cond.code yX5_interpolate cX5_interpolate 8 (some .long), Cond.methodLink RX5 123 yX0_flowAt, Cond.instanceMethod yX0_flowAt, Cond.selects RX0 yX0_flowAt yX0_flowAt, Cond.code yX0_flowAt cX0_flowAt 4 (some .long), Cond.fieldLink RX0 15 "GaugeBook$Curve" "pointStages" "[I", Cond.methodLink RX0 37 Lib.Math.max.name, Cond.methodLink RX0 43 Lib.Math.min.name]
def wsX5_reached_r4 : List Cond := [Cond.static Lib.Math.min.name, Cond.code Lib.Math.min.name Lib.Math.min.code 2 (some .int), Cond.fieldLink RX0 19 "GaugeBook$Curve" "pointFlows" "[I", Cond.methodLink RX5 275 yX1_fillGaps, Cond.instanceMethod yX1_fillGaps, Cond.selects RX1 yX1_fillGaps yX1_fillGaps, Cond.code yX1_fillGaps cX1_fillGaps 4 none, Cond.methodLink RX1 25 yX1_hasFlow, Cond.instanceMethod yX1_hasFlow, Cond.selects RX1 yX1_hasFlow yX1_hasFlow, Cond.code yX1_hasFlow cX1_hasFlow 2 (some .boolean), Cond.methodLink RX1 21 yX1_stateOn, Cond.instanceMethod yX1_stateOn, Cond.selects RX1 yX1_stateOn yX1_stateOn, Cond.code yX1_stateOn cX1_stateOn 2 (some .int), Cond.methodLink RX1 29 yX1_fillBetween, Cond.instanceMethod yX1_fillBetween, Cond.selects RX1 yX1_fillBetween yX1_fillBetween, Cond.code yX1_fillBetween cX1_fillBetween 8 none, Cond.methodLink RX1 33 yX1_flowOn, Cond.instanceMethod yX1_flowOn, Cond.selects RX1 yX1_flowOn yX1_flowOn, Cond.code yX1_flowOn cX1_flowOn 2 (some .long), Cond.constantLong RX1 19 (-1)]
def wsX5_reached_r5 : List Cond := [Cond.methodLink RX1 41 yX1_put, Cond.methodLink RX5 186 yX3_rank, Cond.instanceMethod yX3_rank, Cond.selects RX3 yX3_rank yX3_rank, Cond.initialized RX3, Cond.code yX3_rank cX3_rank 3 none, Cond.fieldLink RX3 22 "GaugeBook$Ranking" "ranked" "I", Cond.fieldLink RX3 9 "GaugeBook$Ranking" "days" "[I", Cond.methodLink RX3 26 yX1_hasFlow, Cond.methodLink RX3 32 yX3_mergeRuns, Cond.instanceMethod yX3_mergeRuns, Cond.selects RX3 yX3_mergeRuns yX3_mergeRuns, Cond.code yX3_mergeRuns cX3_mergeRuns 6 none, Cond.methodLink RX3 51 Lib.Math.min.name, Cond.fieldLink RX3 15 "GaugeBook$Ranking" "merged" "[I", Cond.methodLink RX3 61 arraycopyName, Cond.native arraycopyName, Cond.static arraycopyName, Cond.initialized "java/lang/System", Cond.methodLink RX3 57 yX3_merge, Cond.instanceMethod yX3_merge, Cond.selects RX3 yX3_merge yX3_merge, Cond.code yX3_merge cX3_merge 9 none, Cond.methodLink RX3 43 yX1_flowOn]
def wsX5_reached_r6 : List Cond := [Cond.methodLink RX5 190 yX3_size, Cond.instanceMethod yX3_size, Cond.selects RX3 yX3_size yX3_size, Cond.code yX3_size cX3_size 1 (some .int), Cond.methodLink RX5 196 yX3_dayOfRank, Cond.instanceMethod yX3_dayOfRank, Cond.selects RX3 yX3_dayOfRank yX3_dayOfRank, Cond.code yX3_dayOfRank cX3_dayOfRank 2 (some .int), Cond.methodLink RX5 162 yX1_flowOn]
def wsX5_reached : List Cond := .code yX5_reached cX5_reached 3 (some .long) :: ((wsX5_reached_r1 ++ (wsX5_reached_r2 ++ (wsX5_reached_r3 ++ (wsX5_reached_r4 ++ (wsX5_reached_r5 ++ wsX5_reached_r6))))) ++ wsX50 ++ wsX00 ++ wsX10 ++ wsX40 ++ wsX30 ++ (vx_atS RX5 116 "java/lang/IllegalArgumentException" ["java/lang/RuntimeException", "java/lang/Exception"]).filter goodWord)
def wsX5_requireLimit : List Cond := .code yX5_requireLimit cX5_requireLimit 2 none :: ([.classLink RX5 112 "java/lang/IllegalArgumentException", .initialized "java/lang/IllegalArgumentException"] ++ (vx_atS RX5 116 "java/lang/IllegalArgumentException" ["java/lang/RuntimeException", "java/lang/Exception"]).filter goodWord)
def wsX5_peaks_r1 : List Cond := [Cond.classLink RX5 112 "java/lang/IllegalArgumentException", Cond.initialized "java/lang/IllegalArgumentException", Cond.fieldLink RX5 49 "GaugeBook" "ranking" "LGaugeBook$Ranking;", Cond.fieldLink RX5 42 "GaugeBook" "table" "LGaugeBook$FlowTable;", Cond.methodLink RX5 199 yX5_requireLimit, Cond.static yX5_requireLimit, Cond.initialized RX5, Cond.code yX5_requireLimit cX5_requireLimit 2 none, Cond.methodLink RX5 156 yX5_reckon, Cond.instanceMethod yX5_reckon, Cond.selects RX5 yX5_reckon yX5_reckon, Cond.code yX5_reckon cX5_reckon 2 none, Cond.fieldLink RX5 82 "GaugeBook" "isReckoned" "Z", Cond.fieldLink RX5 57 "GaugeBook" "gapLimit" "I", Cond.methodLink RX5 272 yX5_reckonDay, Cond.instanceMethod yX5_reckonDay, Cond.selects RX5 yX5_reckonDay yX5_reckonDay, Cond.code yX5_reckonDay cX5_reckonDay 5 none, Cond.fieldLink RX5 26 "GaugeBook" "hasStage" "[Z", Cond.constantLong RX5 278 (-1), Cond.fieldLink RX5 22 "GaugeBook" "stages" "[I", Cond.fieldLink RX5 18 "GaugeBook" "shifts" "LGaugeBook$Shifts;", Cond.fieldLink RX5 30 "GaugeBook" "ice" "[Z", Cond.fieldLink RX5 53 "GaugeBook" "iceFactor" "I"]
def wsX5_peaks_r2 : List Cond := [Cond.constantLong RX5 284 (100), Cond.methodLink RX5 229 yX5_completeCurveOn, Cond.instanceMethod yX5_completeCurveOn, Cond.selects RX5 yX5_completeCurveOn yX5_completeCurveOn, Cond.code yX5_completeCurveOn cX5_completeCurveOn 3 (some (.object "GaugeBook$Curve")), Cond.methodLink RX5 131 yX5_curveNumberOn, Cond.instanceMethod yX5_curveNumberOn, Cond.selects RX5 yX5_curveNumberOn yX5_curveNumberOn, Cond.code yX5_curveNumberOn cX5_curveNumberOn 6 (some .int), Cond.methodLink RX5 86 yX5_curveAt, Cond.instanceMethod yX5_curveAt, Cond.selects RX5 yX5_curveAt yX5_curveAt, Cond.code yX5_curveAt cX5_curveAt 2 (some (.object "GaugeBook$Curve")), Cond.fieldLink RX5 64 "GaugeBook" "curveTotal" "I", Cond.fieldLink RX5 11 "GaugeBook" "curves" "[LGaugeBook$Curve;", Cond.methodLink RX5 117 yX0_isComplete, Cond.instanceMethod yX0_isComplete, Cond.selects RX0 yX0_isComplete yX0_isComplete, Cond.initialized RX0, Cond.code yX0_isComplete cX0_isComplete 1 (some .boolean), Cond.fieldLink RX0 22 "GaugeBook$Curve" "points" "I", Cond.methodLink RX5 280 yX1_put, Cond.instanceMethod yX1_put, Cond.selects RX1 yX1_put yX1_put]
def wsX5_peaks_r3 : List Cond := [Cond.initialized RX1, Cond.code yX1_put cX1_put 5 none, Cond.fieldLink RX1 9 "GaugeBook$FlowTable" "flows" "[J", Cond.fieldLink RX1 15 "GaugeBook$FlowTable" "states" "[I", Cond.methodLink RX5 136 yX4_on, Cond.instanceMethod yX4_on, Cond.selects RX4 yX4_on yX4_on, Cond.initialized RX4, Cond.code yX4_on cX4_on 4 (some .int), Cond.fieldLink RX4 16 "GaugeBook$Shifts" "told" "I", Cond.fieldLink RX4 9 "GaugeBook$Shifts" "toldDays" "[I", Cond.fieldLink RX4 13 "GaugeBook$Shifts" "toldShifts" "[I", Cond.static yX5_countLower, Cond.code yX5_countLower cX5_countLower 4 (some .int), Cond.static yX5_interpolate, Cond.code yX5_interpolate cX5_interpolate 8 (some .long), Cond.methodLink RX5 123 yX0_flowAt, Cond.instanceMethod yX0_flowAt, Cond.selects RX0 yX0_flowAt yX0_flowAt, Cond.code yX0_flowAt cX0_flowAt 4 (some .long), Cond.fieldLink RX0 15 "GaugeBook$Curve" "pointStages" "[I", Cond.methodLink RX0 37 Lib.Math.max.name, Cond.static Lib.Math.max.name, Cond.initialized "java/lang/Math"]
def wsX5_peaks_r4 : List Cond := [Cond.code Lib.Math.max.name Lib.Math.max.code 2 (some .int), Cond.methodLink RX0 43 Lib.Math.min.name, Cond.static Lib.Math.min.name, Cond.code Lib.Math.min.name Lib.Math.min.code 2 (some .int), Cond.fieldLink RX0 19 "GaugeBook$Curve" "pointFlows" "[I", Cond.methodLink RX5 275 yX1_fillGaps, Cond.instanceMethod yX1_fillGaps, Cond.selects RX1 yX1_fillGaps yX1_fillGaps, Cond.code yX1_fillGaps cX1_fillGaps 4 none, Cond.methodLink RX1 25 yX1_hasFlow, Cond.instanceMethod yX1_hasFlow, Cond.selects RX1 yX1_hasFlow yX1_hasFlow, Cond.code yX1_hasFlow cX1_hasFlow 2 (some .boolean), Cond.methodLink RX1 21 yX1_stateOn, Cond.instanceMethod yX1_stateOn, Cond.selects RX1 yX1_stateOn yX1_stateOn, Cond.code yX1_stateOn cX1_stateOn 2 (some .int), Cond.methodLink RX1 29 yX1_fillBetween, Cond.instanceMethod yX1_fillBetween, Cond.selects RX1 yX1_fillBetween yX1_fillBetween, Cond.code yX1_fillBetween cX1_fillBetween 8 none, Cond.methodLink RX1 33 yX1_flowOn, Cond.instanceMethod yX1_flowOn, Cond.selects RX1 yX1_flowOn yX1_flowOn]
def wsX5_peaks_r5 : List Cond := [Cond.code yX1_flowOn cX1_flowOn 2 (some .long), Cond.constantLong RX1 19 (-1), Cond.methodLink RX1 41 yX1_put, Cond.methodLink RX5 186 yX3_rank, Cond.instanceMethod yX3_rank, Cond.selects RX3 yX3_rank yX3_rank, Cond.initialized RX3, Cond.code yX3_rank cX3_rank 3 none, Cond.fieldLink RX3 22 "GaugeBook$Ranking" "ranked" "I", Cond.fieldLink RX3 9 "GaugeBook$Ranking" "days" "[I", Cond.methodLink RX3 26 yX1_hasFlow, Cond.methodLink RX3 32 yX3_mergeRuns, Cond.instanceMethod yX3_mergeRuns, Cond.selects RX3 yX3_mergeRuns yX3_mergeRuns, Cond.code yX3_mergeRuns cX3_mergeRuns 6 none, Cond.methodLink RX3 51 Lib.Math.min.name, Cond.fieldLink RX3 15 "GaugeBook$Ranking" "merged" "[I", Cond.methodLink RX3 61 arraycopyName, Cond.native arraycopyName, Cond.static arraycopyName, Cond.initialized "java/lang/System", Cond.methodLink RX3 57 yX3_merge, Cond.instanceMethod yX3_merge, Cond.selects RX3 yX3_merge yX3_merge]
def wsX5_peaks_r6 : List Cond := [Cond.code yX3_merge cX3_merge 9 none, Cond.methodLink RX3 43 yX1_flowOn, Cond.methodLink RX5 204 yX3_countPeaks, Cond.instanceMethod yX3_countPeaks, Cond.selects RX3 yX3_countPeaks yX3_countPeaks, Cond.code yX3_countPeaks cX3_countPeaks 8 (some .int), Cond.fieldLink RX3 18 "GaugeBook$Ranking" "isNearPeak" "[Z", Cond.methodLink RX3 36 yX3_clearPeaks, Cond.instanceMethod yX3_clearPeaks, Cond.selects RX3 yX3_clearPeaks yX3_clearPeaks, Cond.code yX3_clearPeaks cX3_clearPeaks 2 none, Cond.methodLink RX3 39 yX3_dayOfRank, Cond.instanceMethod yX3_dayOfRank, Cond.selects RX3 yX3_dayOfRank yX3_dayOfRank, Cond.code yX3_dayOfRank cX3_dayOfRank 2 (some .int), Cond.methodLink RX3 47 yX3_markNear, Cond.instanceMethod yX3_markNear, Cond.selects RX3 yX3_markNear yX3_markNear, Cond.code yX3_markNear cX3_markNear 6 none, Cond.methodLink RX3 67 Lib.Math.max.name]
def wsX5_peaks : List Cond := .code yX5_peaks cX5_peaks 4 (some .int) :: ((wsX5_peaks_r1 ++ (wsX5_peaks_r2 ++ (wsX5_peaks_r3 ++ (wsX5_peaks_r4 ++ (wsX5_peaks_r5 ++ wsX5_peaks_r6))))) ++ wsX50 ++ wsX00 ++ wsX10 ++ wsX40 ++ wsX30 ++ (vx_atS RX5 116 "java/lang/IllegalArgumentException" ["java/lang/RuntimeException", "java/lang/Exception"]).filter goodWord)
def wsX6_init : List Cond := .code yX6_init cX6_init 2 none :: ([.methodLink RX6 1 objectInit, .instanceMethod objectInit, .code objectInit ⟨#[0xb1]⟩ 1 none, .classLink RX6 7 "[[I", .arrayClass .int, .fieldLink RX6 9 "GaugeBookLaw$Book" "curves" "[[I", .fieldLink RX6 14 "GaugeBookLaw$Book" "shifts" "[I", .fieldLink RX6 18 "GaugeBookLaw$Book" "stages" "[I", .arrayClass .boolean, .fieldLink RX6 21 "GaugeBookLaw$Book" "ice" "[Z", .fieldLink RX6 25 "GaugeBookLaw$Book" "n" "[I"] ++ wsX60)
def wsX6_shift : List Cond := .code yX6_shift cX6_shift 5 (some .int) :: ([.fieldLink RX6 14 "GaugeBookLaw$Book" "shifts" "[I"] ++ wsX60)
def wsJ9_max_7cf53 : List Cond := .code yJ9_max_7cf53 cJ9_max_7cf53 2 (some .int) :: ([])
def wsJ9_max_f86c9 : List Cond := .code yJ9_max_f86c9 cJ9_max_f86c9 4 (some .long) :: ([])
def wsJ9_min_7cf53 : List Cond := .code yJ9_min_7cf53 cJ9_min_7cf53 2 (some .int) :: ([])
def wsJ9_min_f86c9 : List Cond := .code yJ9_min_f86c9 cJ9_min_f86c9 4 (some .long) :: ([])
def wsL_below : List Cond := .code yL_below cL_below 2 (some .int) :: ([.constant RL 7 (2147483647)])
def wsL_cell : List Cond := .code yL_cell cL_cell 2 (some .int) :: ([.constant RL 8 (790386105)])
def wsL_build_r1 : List Cond := [Cond.classLink RL 9 RX6, Cond.instantiable RX6 5, Cond.initialized RX6, Cond.fieldLink RL 28 "GaugeBookLaw$Book" "curves" "[[I", Cond.fieldLink RL 32 "GaugeBookLaw$Book" "n" "[I", Cond.fieldLink RL 46 "GaugeBookLaw$Book" "shifts" "[I", Cond.fieldLink RL 49 "GaugeBookLaw$Book" "stages" "[I", Cond.fieldLink RL 59 "GaugeBookLaw$Book" "ice" "[Z", Cond.methodLink RL 11 yX6_init, Cond.instanceMethod yX6_init, Cond.code yX6_init cX6_init 2 none, Cond.methodLink RX6 1 objectInit, Cond.instanceMethod objectInit, Cond.code objectInit ⟨#[0xb1]⟩ 1 none, Cond.classLink RX6 7 "[[I", Cond.arrayClass .int, Cond.fieldLink RX6 9 "GaugeBookLaw$Book" "curves" "[[I", Cond.fieldLink RX6 14 "GaugeBookLaw$Book" "shifts" "[I", Cond.fieldLink RX6 18 "GaugeBookLaw$Book" "stages" "[I", Cond.arrayClass .boolean, Cond.fieldLink RX6 21 "GaugeBookLaw$Book" "ice" "[Z", Cond.fieldLink RX6 25 "GaugeBookLaw$Book" "n" "[I", Cond.methodLink RL 12 yL_cell, Cond.static yL_cell]
def wsL_build_r2 : List Cond := [Cond.initialized RL, Cond.code yL_cell cL_cell 2 (some .int), Cond.constant RL 8 (790386105), Cond.methodLink RL 18 yL_below, Cond.static yL_below, Cond.code yL_below cL_below 2 (some .int), Cond.constant RL 7 (2147483647), Cond.methodLink RL 22 yX5_addCurve, Cond.instanceMethod yX5_addCurve, Cond.selects RX5 yX5_addCurve yX5_addCurve, Cond.initialized RX5, Cond.code yX5_addCurve cX5_addCurve 3 (some .int), Cond.classLink RX5 67 "java/lang/IllegalStateException", Cond.initialized "java/lang/IllegalStateException", Cond.fieldLink RX5 64 "GaugeBook" "curveTotal" "I", Cond.fieldLink RX5 11 "GaugeBook" "curves" "[LGaugeBook$Curve;", Cond.classLink RX5 9 RX0, Cond.instantiable RX0 4, Cond.initialized RX0, Cond.fieldLink RX5 82 "GaugeBook" "isReckoned" "Z", Cond.methodLink RX5 60 yX5_requireDay, Cond.static yX5_requireDay, Cond.code yX5_requireDay cX5_requireDay 1 none, Cond.classLink RX5 112 "java/lang/IllegalArgumentException"]
def wsL_build_r3 : List Cond := [Cond.initialized "java/lang/IllegalArgumentException", Cond.methodLink RX5 74 yX5_hasCurveFrom, Cond.instanceMethod yX5_hasCurveFrom, Cond.selects RX5 yX5_hasCurveFrom yX5_hasCurveFrom, Cond.code yX5_hasCurveFrom cX5_hasCurveFrom 3 (some .boolean), Cond.methodLink RX5 131 yX5_curveNumberOn, Cond.instanceMethod yX5_curveNumberOn, Cond.selects RX5 yX5_curveNumberOn yX5_curveNumberOn, Cond.code yX5_curveNumberOn cX5_curveNumberOn 6 (some .int), Cond.methodLink RX5 86 yX5_curveAt, Cond.instanceMethod yX5_curveAt, Cond.selects RX5 yX5_curveAt yX5_curveAt, Cond.code yX5_curveAt cX5_curveAt 2 (some (.object "GaugeBook$Curve")), Cond.methodLink RX5 80 yX0_init, Cond.instanceMethod yX0_init, Cond.code yX0_init cX0_init 2 none, Cond.methodLink RX0 3 objectInit, Cond.fieldLink RX0 9 "GaugeBook$Curve" "firstDay" "I", Cond.fieldLink RX0 15 "GaugeBook$Curve" "pointStages" "[I", Cond.fieldLink RX0 19 "GaugeBook$Curve" "pointFlows" "[I", Cond.methodLink RL 36 yX5_addPoint, Cond.instanceMethod yX5_addPoint, Cond.selects RX5 yX5_addPoint yX5_addPoint, Cond.code yX5_addPoint cX5_addPoint 5 (some .int)]
def wsL_build_r4 : List Cond := [Cond.classLink RX5 90 "java/lang/IndexOutOfBoundsException", Cond.initialized "java/lang/IndexOutOfBoundsException", Cond.methodLink RX5 95 yX5_requireStage, Cond.static yX5_requireStage, Cond.code yX5_requireStage cX5_requireStage 2 none, Cond.constantLong RX5 258 (-500), Cond.constantLong RX5 260 (2000), Cond.methodLink RX5 99 yX5_requireFlow, Cond.static yX5_requireFlow, Cond.code yX5_requireFlow cX5_requireFlow 1 none, Cond.constant RX5 264 (1000000), Cond.methodLink RX5 102 yX0_insert, Cond.instanceMethod yX0_insert, Cond.selects RX0 yX0_insert yX0_insert, Cond.code yX0_insert cX0_insert 4 (some .boolean), Cond.fieldLink RX0 22 "GaugeBook$Curve" "points" "I", Cond.static yX5_countLower, Cond.code yX5_countLower cX5_countLower 4 (some .int), Cond.methodLink RX0 29 yX0_fits, Cond.instanceMethod yX0_fits, Cond.selects RX0 yX0_fits yX0_fits, Cond.code yX0_fits cX0_fits 6 (some .boolean), Cond.static yX5_insertInto, Cond.code yX5_insertInto cX5_insertInto 5 none]
def wsL_build_r5 : List Cond := [Cond.methodLink RX5 108 yX0_size, Cond.instanceMethod yX0_size, Cond.selects RX0 yX0_size yX0_size, Cond.code yX0_size cX0_size 1 (some .int), Cond.methodLink RL 40 yX5_setShift, Cond.instanceMethod yX5_setShift, Cond.selects RX5 yX5_setShift yX5_setShift, Cond.code yX5_setShift cX5_setShift 4 (some .int), Cond.fieldLink RX5 18 "GaugeBook" "shifts" "LGaugeBook$Shifts;", Cond.methodLink RX5 136 yX4_on, Cond.instanceMethod yX4_on, Cond.selects RX4 yX4_on yX4_on, Cond.initialized RX4, Cond.code yX4_on cX4_on 4 (some .int), Cond.fieldLink RX4 16 "GaugeBook$Shifts" "told" "I", Cond.fieldLink RX4 9 "GaugeBook$Shifts" "toldDays" "[I", Cond.fieldLink RX4 13 "GaugeBook$Shifts" "toldShifts" "[I", Cond.static yX5_interpolate, Cond.code yX5_interpolate cX5_interpolate 8 (some .long), Cond.methodLink RX5 139 yX4_tell, Cond.instanceMethod yX4_tell, Cond.selects RX4 yX4_tell yX4_tell, Cond.code yX4_tell cX4_tell 4 (some .boolean), Cond.methodLink RL 43 yX6_shift]
def wsL_build_r6 : List Cond := [Cond.instanceMethod yX6_shift, Cond.selects RX6 yX6_shift yX6_shift, Cond.code yX6_shift cX6_shift 5 (some .int), Cond.methodLink RL 52 yX5_read, Cond.instanceMethod yX5_read, Cond.selects RX5 yX5_read yX5_read, Cond.code yX5_read cX5_read 7 (some .int), Cond.fieldLink RX5 26 "GaugeBook" "hasStage" "[Z", Cond.fieldLink RX5 22 "GaugeBook" "stages" "[I", Cond.methodLink RX5 144 yX5_requireSpan, Cond.static yX5_requireSpan, Cond.code yX5_requireSpan cX5_requireSpan 2 none, Cond.methodLink RX5 148 yX5_countTrue, Cond.static yX5_countTrue, Cond.code yX5_countTrue cX5_countTrue 5 (some .int), Cond.methodLink RL 56 yX5_erase, Cond.instanceMethod yX5_erase, Cond.selects RX5 yX5_erase yX5_erase, Cond.code yX5_erase cX5_erase 5 (some .int), Cond.methodLink RL 63 yX5_freeze, Cond.instanceMethod yX5_freeze, Cond.selects RX5 yX5_freeze yX5_freeze, Cond.code yX5_freeze cX5_freeze 6 (some .int), Cond.fieldLink RX5 30 "GaugeBook" "ice" "[Z"]
def wsL_build_r7 : List Cond := [Cond.methodLink RL 67 yX5_setRules, Cond.instanceMethod yX5_setRules, Cond.selects RX5 yX5_setRules yX5_setRules, Cond.code yX5_setRules cX5_setRules 4 (some .int), Cond.fieldLink RX5 53 "GaugeBook" "iceFactor" "I", Cond.fieldLink RX5 57 "GaugeBook" "gapLimit" "I"]
def wsL_build : List Cond := .code yL_build cL_build 18 (some (.object "GaugeBookLaw$Book")) :: ((wsL_build_r1 ++ (wsL_build_r2 ++ (wsL_build_r3 ++ (wsL_build_r4 ++ (wsL_build_r5 ++ (wsL_build_r6 ++ wsL_build_r7)))))) ++ wsX60 ++ wsX50 ++ wsX00 ++ wsX40 ++ (vx_atS RX5 71 "java/lang/IllegalStateException" ["java/lang/RuntimeException", "java/lang/Exception"]).filter goodWord ++ (vx_atS RX5 116 "java/lang/IllegalArgumentException" ["java/lang/RuntimeException", "java/lang/Exception"]).filter goodWord ++ (vx_atS RX5 94 "java/lang/IndexOutOfBoundsException" ["java/lang/RuntimeException", "java/lang/Exception"]).filter goodWord)
def wsL_law0_r1 : List Cond := [Cond.classLink RL 23 RX5, Cond.instantiable RX5 13, Cond.initialized RX5, Cond.arrayClass .long, Cond.constantLong RL 75 (-1), Cond.fieldLink RL 59 "GaugeBookLaw$Book" "ice" "[Z", Cond.fieldLink RL 49 "GaugeBookLaw$Book" "stages" "[I", Cond.fieldLink RL 32 "GaugeBookLaw$Book" "n" "[I", Cond.methodLink RL 87 Lib.MathLoose.min_long.x, Cond.static Lib.MathLoose.min_long.x, Cond.initialized "java/lang/Math", Cond.code Lib.MathLoose.min_long.x Lib.MathLoose.min_long.code 4 (some .long), Cond.methodLink RL 93 Lib.MathLoose.max_long.x, Cond.static Lib.MathLoose.max_long.x, Cond.code Lib.MathLoose.max_long.x Lib.MathLoose.max_long.code 4 (some .long), Cond.methodLink RL 108 Lib.Math.max.name, Cond.static Lib.Math.max.name, Cond.code Lib.Math.max.name Lib.Math.max.code 2 (some .int), Cond.methodLink RL 70 yX5_init, Cond.instanceMethod yX5_init, Cond.code yX5_init cX5_init 1 none, Cond.methodLink RX5 1 objectInit, Cond.instanceMethod objectInit, Cond.code objectInit ⟨#[0xb1]⟩ 1 none]
def wsL_law0_r2 : List Cond := [Cond.classLink RX5 9 RX0, Cond.fieldLink RX5 11 "GaugeBook" "curves" "[LGaugeBook$Curve;", Cond.classLink RX5 15 RX4, Cond.instantiable RX4 3, Cond.initialized RX4, Cond.fieldLink RX5 18 "GaugeBook" "shifts" "LGaugeBook$Shifts;", Cond.arrayClass .int, Cond.fieldLink RX5 22 "GaugeBook" "stages" "[I", Cond.arrayClass .boolean, Cond.fieldLink RX5 26 "GaugeBook" "hasStage" "[Z", Cond.fieldLink RX5 30 "GaugeBook" "ice" "[Z", Cond.classLink RX5 33 RX2, Cond.fieldLink RX5 35 "GaugeBook" "measurements" "[LGaugeBook$Measurement;", Cond.classLink RX5 39 RX1, Cond.instantiable RX1 2, Cond.initialized RX1, Cond.fieldLink RX5 42 "GaugeBook" "table" "LGaugeBook$FlowTable;", Cond.classLink RX5 46 RX3, Cond.instantiable RX3 4, Cond.initialized RX3, Cond.fieldLink RX5 49 "GaugeBook" "ranking" "LGaugeBook$Ranking;", Cond.fieldLink RX5 53 "GaugeBook" "iceFactor" "I", Cond.fieldLink RX5 57 "GaugeBook" "gapLimit" "I", Cond.methodLink RX5 17 yX4_init]
def wsL_law0_r3 : List Cond := [Cond.instanceMethod yX4_init, Cond.code yX4_init cX4_init 1 none, Cond.methodLink RX4 1 objectInit, Cond.fieldLink RX4 9 "GaugeBook$Shifts" "toldDays" "[I", Cond.fieldLink RX4 13 "GaugeBook$Shifts" "toldShifts" "[I", Cond.methodLink RX5 41 yX1_init, Cond.instanceMethod yX1_init, Cond.code yX1_init cX1_init 1 none, Cond.methodLink RX1 3 objectInit, Cond.fieldLink RX1 9 "GaugeBook$FlowTable" "flows" "[J", Cond.fieldLink RX1 15 "GaugeBook$FlowTable" "states" "[I", Cond.methodLink RX5 48 yX3_init, Cond.instanceMethod yX3_init, Cond.code yX3_init cX3_init 1 none, Cond.methodLink RX3 3 objectInit, Cond.fieldLink RX3 9 "GaugeBook$Ranking" "days" "[I", Cond.fieldLink RX3 15 "GaugeBook$Ranking" "merged" "[I", Cond.fieldLink RX3 18 "GaugeBook$Ranking" "isNearPeak" "[Z", Cond.methodLink RL 71 yL_build, Cond.static yL_build, Cond.initialized RL, Cond.code yL_build cL_build 18 (some (.object "GaugeBookLaw$Book")), Cond.classLink RL 9 RX6, Cond.instantiable RX6 5]
def wsL_law0_r4 : List Cond := [Cond.initialized RX6, Cond.fieldLink RL 28 "GaugeBookLaw$Book" "curves" "[[I", Cond.fieldLink RL 46 "GaugeBookLaw$Book" "shifts" "[I", Cond.methodLink RL 11 yX6_init, Cond.instanceMethod yX6_init, Cond.code yX6_init cX6_init 2 none, Cond.methodLink RX6 1 objectInit, Cond.classLink RX6 7 "[[I", Cond.fieldLink RX6 9 "GaugeBookLaw$Book" "curves" "[[I", Cond.fieldLink RX6 14 "GaugeBookLaw$Book" "shifts" "[I", Cond.fieldLink RX6 18 "GaugeBookLaw$Book" "stages" "[I", Cond.fieldLink RX6 21 "GaugeBookLaw$Book" "ice" "[Z", Cond.fieldLink RX6 25 "GaugeBookLaw$Book" "n" "[I", Cond.methodLink RL 12 yL_cell, Cond.static yL_cell, Cond.code yL_cell cL_cell 2 (some .int), Cond.constant RL 8 (790386105), Cond.methodLink RL 18 yL_below, Cond.static yL_below, Cond.code yL_below cL_below 2 (some .int), Cond.constant RL 7 (2147483647), Cond.methodLink RL 22 yX5_addCurve, Cond.instanceMethod yX5_addCurve, Cond.selects RX5 yX5_addCurve yX5_addCurve]
def wsL_law0_r5 : List Cond := [Cond.code yX5_addCurve cX5_addCurve 3 (some .int), Cond.classLink RX5 67 "java/lang/IllegalStateException", Cond.initialized "java/lang/IllegalStateException", Cond.fieldLink RX5 64 "GaugeBook" "curveTotal" "I", Cond.instantiable RX0 4, Cond.initialized RX0, Cond.fieldLink RX5 82 "GaugeBook" "isReckoned" "Z", Cond.methodLink RX5 60 yX5_requireDay, Cond.static yX5_requireDay, Cond.code yX5_requireDay cX5_requireDay 1 none, Cond.classLink RX5 112 "java/lang/IllegalArgumentException", Cond.initialized "java/lang/IllegalArgumentException", Cond.methodLink RX5 74 yX5_hasCurveFrom, Cond.instanceMethod yX5_hasCurveFrom, Cond.selects RX5 yX5_hasCurveFrom yX5_hasCurveFrom, Cond.code yX5_hasCurveFrom cX5_hasCurveFrom 3 (some .boolean), Cond.methodLink RX5 131 yX5_curveNumberOn, Cond.instanceMethod yX5_curveNumberOn, Cond.selects RX5 yX5_curveNumberOn yX5_curveNumberOn, Cond.code yX5_curveNumberOn cX5_curveNumberOn 6 (some .int), Cond.methodLink RX5 86 yX5_curveAt, Cond.instanceMethod yX5_curveAt, Cond.selects RX5 yX5_curveAt yX5_curveAt, Cond.code yX5_curveAt cX5_curveAt 2 (some (.object "GaugeBook$Curve"))]
def wsL_law0_r6 : List Cond := [Cond.methodLink RX5 80 yX0_init, Cond.instanceMethod yX0_init, Cond.code yX0_init cX0_init 2 none, Cond.methodLink RX0 3 objectInit, Cond.fieldLink RX0 9 "GaugeBook$Curve" "firstDay" "I", Cond.fieldLink RX0 15 "GaugeBook$Curve" "pointStages" "[I", Cond.fieldLink RX0 19 "GaugeBook$Curve" "pointFlows" "[I", Cond.methodLink RL 36 yX5_addPoint, Cond.instanceMethod yX5_addPoint, Cond.selects RX5 yX5_addPoint yX5_addPoint, Cond.code yX5_addPoint cX5_addPoint 5 (some .int), Cond.classLink RX5 90 "java/lang/IndexOutOfBoundsException", Cond.initialized "java/lang/IndexOutOfBoundsException", Cond.methodLink RX5 95 yX5_requireStage, Cond.static yX5_requireStage, Cond.code yX5_requireStage cX5_requireStage 2 none, Cond.constantLong RX5 258 (-500), Cond.constantLong RX5 260 (2000), Cond.methodLink RX5 99 yX5_requireFlow, Cond.static yX5_requireFlow, Cond.code yX5_requireFlow cX5_requireFlow 1 none, Cond.constant RX5 264 (1000000), Cond.methodLink RX5 102 yX0_insert, Cond.instanceMethod yX0_insert]
def wsL_law0_r7 : List Cond := [Cond.selects RX0 yX0_insert yX0_insert, Cond.code yX0_insert cX0_insert 4 (some .boolean), Cond.fieldLink RX0 22 "GaugeBook$Curve" "points" "I", Cond.static yX5_countLower, Cond.code yX5_countLower cX5_countLower 4 (some .int), Cond.methodLink RX0 29 yX0_fits, Cond.instanceMethod yX0_fits, Cond.selects RX0 yX0_fits yX0_fits, Cond.code yX0_fits cX0_fits 6 (some .boolean), Cond.static yX5_insertInto, Cond.code yX5_insertInto cX5_insertInto 5 none, Cond.methodLink RX5 108 yX0_size, Cond.instanceMethod yX0_size, Cond.selects RX0 yX0_size yX0_size, Cond.code yX0_size cX0_size 1 (some .int), Cond.methodLink RL 40 yX5_setShift, Cond.instanceMethod yX5_setShift, Cond.selects RX5 yX5_setShift yX5_setShift, Cond.code yX5_setShift cX5_setShift 4 (some .int), Cond.methodLink RX5 136 yX4_on, Cond.instanceMethod yX4_on, Cond.selects RX4 yX4_on yX4_on, Cond.code yX4_on cX4_on 4 (some .int), Cond.fieldLink RX4 16 "GaugeBook$Shifts" "told" "I"]
def wsL_law0_r8 : List Cond := [Cond.static yX5_interpolate, Cond.code yX5_interpolate cX5_interpolate 8 (some .long), Cond.methodLink RX5 139 yX4_tell, Cond.instanceMethod yX4_tell, Cond.selects RX4 yX4_tell yX4_tell, Cond.code yX4_tell cX4_tell 4 (some .boolean), Cond.methodLink RL 43 yX6_shift, Cond.instanceMethod yX6_shift, Cond.selects RX6 yX6_shift yX6_shift, Cond.code yX6_shift cX6_shift 5 (some .int), Cond.methodLink RL 52 yX5_read, Cond.instanceMethod yX5_read, Cond.selects RX5 yX5_read yX5_read, Cond.code yX5_read cX5_read 7 (some .int), Cond.methodLink RX5 144 yX5_requireSpan, Cond.static yX5_requireSpan, Cond.code yX5_requireSpan cX5_requireSpan 2 none, Cond.methodLink RX5 148 yX5_countTrue, Cond.static yX5_countTrue, Cond.code yX5_countTrue cX5_countTrue 5 (some .int), Cond.methodLink RL 56 yX5_erase, Cond.instanceMethod yX5_erase, Cond.selects RX5 yX5_erase yX5_erase, Cond.code yX5_erase cX5_erase 5 (some .int)]
def wsL_law0_r9 : List Cond := [Cond.methodLink RL 63 yX5_freeze, Cond.instanceMethod yX5_freeze, Cond.selects RX5 yX5_freeze yX5_freeze, Cond.code yX5_freeze cX5_freeze 6 (some .int), Cond.methodLink RL 67 yX5_setRules, Cond.instanceMethod yX5_setRules, Cond.selects RX5 yX5_setRules yX5_setRules, Cond.code yX5_setRules cX5_setRules 4 (some .int), Cond.methodLink RL 77 yX5_state, Cond.instanceMethod yX5_state, Cond.selects RX5 yX5_state yX5_state, Cond.code yX5_state cX5_state 2 (some .int), Cond.methodLink RX5 156 yX5_reckon, Cond.instanceMethod yX5_reckon, Cond.selects RX5 yX5_reckon yX5_reckon, Cond.code yX5_reckon cX5_reckon 2 none, Cond.methodLink RX5 272 yX5_reckonDay, Cond.instanceMethod yX5_reckonDay, Cond.selects RX5 yX5_reckonDay yX5_reckonDay, Cond.code yX5_reckonDay cX5_reckonDay 5 none, Cond.constantLong RX5 278 (-1), Cond.constantLong RX5 284 (100), Cond.methodLink RX5 229 yX5_completeCurveOn, Cond.instanceMethod yX5_completeCurveOn]
def wsL_law0_r10 : List Cond := [Cond.selects RX5 yX5_completeCurveOn yX5_completeCurveOn, Cond.code yX5_completeCurveOn cX5_completeCurveOn 3 (some (.object "GaugeBook$Curve")), Cond.methodLink RX5 117 yX0_isComplete, Cond.instanceMethod yX0_isComplete, Cond.selects RX0 yX0_isComplete yX0_isComplete, Cond.code yX0_isComplete cX0_isComplete 1 (some .boolean), Cond.methodLink RX5 280 yX1_put, Cond.instanceMethod yX1_put, Cond.selects RX1 yX1_put yX1_put, Cond.code yX1_put cX1_put 5 none, Cond.methodLink RX5 123 yX0_flowAt, Cond.instanceMethod yX0_flowAt, Cond.selects RX0 yX0_flowAt yX0_flowAt, Cond.code yX0_flowAt cX0_flowAt 4 (some .long), Cond.methodLink RX0 37 Lib.Math.max.name, Cond.methodLink RX0 43 Lib.Math.min.name, Cond.static Lib.Math.min.name, Cond.code Lib.Math.min.name Lib.Math.min.code 2 (some .int), Cond.methodLink RX5 275 yX1_fillGaps, Cond.instanceMethod yX1_fillGaps, Cond.selects RX1 yX1_fillGaps yX1_fillGaps, Cond.code yX1_fillGaps cX1_fillGaps 4 none, Cond.methodLink RX1 25 yX1_hasFlow, Cond.instanceMethod yX1_hasFlow]
def wsL_law0_r11 : List Cond := [Cond.selects RX1 yX1_hasFlow yX1_hasFlow, Cond.code yX1_hasFlow cX1_hasFlow 2 (some .boolean), Cond.methodLink RX1 21 yX1_stateOn, Cond.instanceMethod yX1_stateOn, Cond.selects RX1 yX1_stateOn yX1_stateOn, Cond.code yX1_stateOn cX1_stateOn 2 (some .int), Cond.methodLink RX1 29 yX1_fillBetween, Cond.instanceMethod yX1_fillBetween, Cond.selects RX1 yX1_fillBetween yX1_fillBetween, Cond.code yX1_fillBetween cX1_fillBetween 8 none, Cond.methodLink RX1 33 yX1_flowOn, Cond.instanceMethod yX1_flowOn, Cond.selects RX1 yX1_flowOn yX1_flowOn, Cond.code yX1_flowOn cX1_flowOn 2 (some .long), Cond.constantLong RX1 19 (-1), Cond.methodLink RX1 41 yX1_put, Cond.methodLink RX5 159 yX1_stateOn, Cond.methodLink RL 80 yX5_flow, Cond.instanceMethod yX5_flow, Cond.selects RX5 yX5_flow yX5_flow, Cond.code yX5_flow cX5_flow 2 (some .long), Cond.methodLink RX5 162 yX1_flowOn, Cond.methodLink RL 84 yX5_curveOf, Cond.instanceMethod yX5_curveOf]
def wsL_law0_r12 : List Cond := [Cond.selects RX5 yX5_curveOf yX5_curveOf, Cond.code yX5_curveOf cX5_curveOf 2 (some .int), Cond.methodLink RL 96 yX5_shift, Cond.instanceMethod yX5_shift, Cond.selects RX5 yX5_shift yX5_shift, Cond.code yX5_shift cX5_shift 2 (some .int), Cond.methodLink RL 97 yX5_flowBy, Cond.instanceMethod yX5_flowBy, Cond.selects RX5 yX5_flowBy yX5_flowBy, Cond.code yX5_flowBy cX5_flowBy 4 (some .long), Cond.methodLink RL 101 yX5_sum, Cond.instanceMethod yX5_sum, Cond.selects RX5 yX5_sum yX5_sum, Cond.code yX5_sum cX5_sum 4 (some .long), Cond.methodLink RX5 167 yX5_requireRange, Cond.static yX5_requireRange, Cond.code yX5_requireRange cX5_requireRange 2 none, Cond.methodLink RX5 170 yX1_daysWithFlow, Cond.instanceMethod yX1_daysWithFlow, Cond.selects RX1 yX1_daysWithFlow yX1_daysWithFlow, Cond.code yX1_daysWithFlow cX1_daysWithFlow 5 (some .int), Cond.methodLink RX5 174 yX1_total, Cond.instanceMethod yX1_total, Cond.selects RX1 yX1_total yX1_total]
def wsL_law0_r13 : List Cond := [Cond.code yX1_total cX1_total 6 (some .long), Cond.methodLink RX5 178 yX1_greatestDay, Cond.instanceMethod yX1_greatestDay, Cond.selects RX1 yX1_greatestDay yX1_greatestDay, Cond.code yX1_greatestDay cX1_greatestDay 5 (some .int), Cond.methodLink RX5 181 yX1_leastFlow, Cond.instanceMethod yX1_leastFlow, Cond.selects RX1 yX1_leastFlow yX1_leastFlow, Cond.code yX1_leastFlow cX1_leastFlow 6 (some .long), Cond.methodLink RL 105 yX5_reached, Cond.instanceMethod yX5_reached, Cond.selects RX5 yX5_reached yX5_reached, Cond.code yX5_reached cX5_reached 3 (some .long), Cond.methodLink RX5 191 Lib.Math.max.name, Cond.methodLink RX5 186 yX3_rank, Cond.instanceMethod yX3_rank, Cond.selects RX3 yX3_rank yX3_rank, Cond.code yX3_rank cX3_rank 3 none, Cond.fieldLink RX3 22 "GaugeBook$Ranking" "ranked" "I", Cond.methodLink RX3 26 yX1_hasFlow, Cond.methodLink RX3 32 yX3_mergeRuns, Cond.instanceMethod yX3_mergeRuns, Cond.selects RX3 yX3_mergeRuns yX3_mergeRuns, Cond.code yX3_mergeRuns cX3_mergeRuns 6 none]
def wsL_law0_r14 : List Cond := [Cond.methodLink RX3 51 Lib.Math.min.name, Cond.methodLink RX3 61 arraycopyName, Cond.native arraycopyName, Cond.static arraycopyName, Cond.initialized "java/lang/System", Cond.methodLink RX3 57 yX3_merge, Cond.instanceMethod yX3_merge, Cond.selects RX3 yX3_merge yX3_merge, Cond.code yX3_merge cX3_merge 9 none, Cond.methodLink RX3 43 yX1_flowOn, Cond.methodLink RX5 190 yX3_size, Cond.instanceMethod yX3_size, Cond.selects RX3 yX3_size yX3_size, Cond.code yX3_size cX3_size 1 (some .int), Cond.methodLink RX5 196 yX3_dayOfRank, Cond.instanceMethod yX3_dayOfRank, Cond.selects RX3 yX3_dayOfRank yX3_dayOfRank, Cond.code yX3_dayOfRank cX3_dayOfRank 2 (some .int), Cond.methodLink RL 110 yX5_peaks, Cond.instanceMethod yX5_peaks, Cond.selects RX5 yX5_peaks yX5_peaks, Cond.code yX5_peaks cX5_peaks 4 (some .int), Cond.methodLink RX5 199 yX5_requireLimit, Cond.static yX5_requireLimit]
def wsL_law0_r15 : List Cond := [Cond.code yX5_requireLimit cX5_requireLimit 2 none, Cond.methodLink RX5 204 yX3_countPeaks, Cond.instanceMethod yX3_countPeaks, Cond.selects RX3 yX3_countPeaks yX3_countPeaks, Cond.code yX3_countPeaks cX3_countPeaks 8 (some .int), Cond.methodLink RX3 36 yX3_clearPeaks, Cond.instanceMethod yX3_clearPeaks, Cond.selects RX3 yX3_clearPeaks yX3_clearPeaks, Cond.code yX3_clearPeaks cX3_clearPeaks 2 none, Cond.methodLink RX3 39 yX3_dayOfRank, Cond.methodLink RX3 47 yX3_markNear, Cond.instanceMethod yX3_markNear, Cond.selects RX3 yX3_markNear yX3_markNear, Cond.code yX3_markNear cX3_markNear 6 none, Cond.methodLink RX3 67 Lib.Math.max.name]
def wsL_law0 : List Cond := (wsL_law0_r1 ++ (wsL_law0_r2 ++ (wsL_law0_r3 ++ (wsL_law0_r4 ++ (wsL_law0_r5 ++ (wsL_law0_r6 ++ (wsL_law0_r7 ++ (wsL_law0_r8 ++ (wsL_law0_r9 ++ (wsL_law0_r10 ++ (wsL_law0_r11 ++ (wsL_law0_r12 ++ (wsL_law0_r13 ++ (wsL_law0_r14 ++ wsL_law0_r15)))))))))))))) ++ wsX50 ++ wsX60 ++ wsX40 ++ wsX10 ++ wsX30 ++ wsX00 ++ ([] : List Cond)
def wsL_law : List Cond := wsL_law0 ++ (vx_atS RX5 71 "java/lang/IllegalStateException" ["java/lang/RuntimeException", "java/lang/Exception"]).filter goodWord ++ (vx_atS RX5 116 "java/lang/IllegalArgumentException" ["java/lang/RuntimeException", "java/lang/Exception"]).filter goodWord ++ (vx_atS RX5 94 "java/lang/IndexOutOfBoundsException" ["java/lang/RuntimeException", "java/lang/Exception"]).filter goodWord
end
section
set_option maxRecDepth 100000 in
theorem wsL_law0_r1_in : ∀ w ∈ wsL_law0_r1, w ∈ lw_tbl := fun w h => (goodIn_p wsL_law0_r1 [558, 555, 251, 32, 35] rfl (by decide +kernel) w h).1
set_option maxRecDepth 100000 in
theorem wsL_law0_r2_in : ∀ w ∈ wsL_law0_r2, w ∈ lw_tbl := fun w h => (goodIn_p wsL_law0_r2 [] rfl (by decide +kernel) w h).1
set_option maxRecDepth 100000 in
theorem wsL_law0_r3_in : ∀ w ∈ wsL_law0_r3, w ∈ lw_tbl := fun w h => (goodIn_p wsL_law0_r3 [42, 61, 76, 421] rfl (by decide +kernel) w h).1
set_option maxRecDepth 100000 in
theorem wsL_law0_r4_in : ∀ w ∈ wsL_law0_r4, w ∈ lw_tbl := fun w h => (goodIn_p wsL_law0_r4 [426, 417, 413] rfl (by decide +kernel) w h).1
set_option maxRecDepth 100000 in
theorem wsL_law0_r5_in : ∀ w ∈ wsL_law0_r5, w ∈ lw_tbl := fun w h => (goodIn_p wsL_law0_r5 [454, 264, 459, 269, 137] rfl (by decide +kernel) w h).1
set_option maxRecDepth 100000 in
theorem wsL_law0_r6_in : ∀ w ∈ wsL_law0_r6, w ∈ lw_tbl := fun w h => (goodIn_p wsL_law0_r6 [464, 483, 486, 492] rfl (by decide +kernel) w h).1
set_option maxRecDepth 100000 in
theorem wsL_law0_r7_in : ∀ w ∈ wsL_law0_r7, w ∈ lw_tbl := fun w h => (goodIn_p wsL_law0_r7 [498, 248, 502, 505, 510, 514, 277] rfl (by decide +kernel) w h).1
set_option maxRecDepth 100000 in
theorem wsL_law0_r8_in : ∀ w ∈ wsL_law0_r8, w ∈ lw_tbl := fun w h => (goodIn_p wsL_law0_r8 [257, 519, 525, 529, 532, 537, 541] rfl (by decide +kernel) w h).1
set_option maxRecDepth 100000 in
theorem wsL_law0_r9_in : ∀ w ∈ wsL_law0_r9, w ∈ lw_tbl := fun w h => (goodIn_p wsL_law0_r9 [545, 549, 283, 287, 291] rfl (by decide +kernel) w h).1
set_option maxRecDepth 100000 in
theorem wsL_law0_r10_in : ∀ w ∈ wsL_law0_r10, w ∈ lw_tbl := fun w h => (goodIn_p wsL_law0_r10 [295, 225, 300, 245, 254, 305] rfl (by decide +kernel) w h).1
end
section
set_option maxRecDepth 100000 in
theorem wsL_law0_r11_in : ∀ w ∈ wsL_law0_r11, w ∈ lw_tbl := fun w h => (goodIn_p wsL_law0_r11 [309, 313, 317, 321, 329] rfl (by decide +kernel) w h).1
set_option maxRecDepth 100000 in
theorem wsL_law0_r12_in : ∀ w ∈ wsL_law0_r12, w ∈ lw_tbl := fun w h => (goodIn_p wsL_law0_r12 [261, 273, 133, 334, 338, 343] rfl (by decide +kernel) w h).1
set_option maxRecDepth 100000 in
theorem wsL_law0_r13_in : ∀ w ∈ wsL_law0_r13, w ∈ lw_tbl := fun w h => (goodIn_p wsL_law0_r13 [347, 351, 355, 359, 364, 369] rfl (by decide +kernel) w h).1
set_option maxRecDepth 100000 in
theorem wsL_law0_r14_in : ∀ w ∈ wsL_law0_r14, w ∈ lw_tbl := fun w h => (goodIn_p wsL_law0_r14 [374, 382, 387, 391] rfl (by decide +kernel) w h).1
set_option maxRecDepth 100000 in
theorem wsL_law0_r15_in : ∀ w ∈ wsL_law0_r15, w ∈ lw_tbl := fun w h => (goodIn_p wsL_law0_r15 [394, 400, 404, 409] rfl (by decide +kernel) w h).1
end
section
theorem wsX50_tb : ∀ w ∈ wsX50, w ∈ lw_tbl := by decide +kernel
theorem wsX60_tb : ∀ w ∈ wsX60, w ∈ lw_tbl := by decide +kernel
theorem wsX40_tb : ∀ w ∈ wsX40, w ∈ lw_tbl := by decide +kernel
theorem wsX10_tb : ∀ w ∈ wsX10, w ∈ lw_tbl := by decide +kernel
theorem wsX30_tb : ∀ w ∈ wsX30, w ∈ lw_tbl := by decide +kernel
theorem wsX00_tb : ∀ w ∈ wsX00, w ∈ lw_tbl := by decide +kernel
theorem wsL_law_in0 : ∀ w ∈ wsL_law0, w ∈ lw_tbl := fun w h => ((List.mem_append.mp h).elim (fun h => ((List.mem_append.mp h).elim (fun h => ((List.mem_append.mp h).elim (fun h => ((List.mem_append.mp h).elim (fun h => ((List.mem_append.mp h).elim (fun h => ((List.mem_append.mp h).elim (fun h => ((List.mem_append.mp h).elim (fun h => ((List.mem_append.mp h).elim (fun h => (wsL_law0_r1_in w h)) (fun h => ((List.mem_append.mp h).elim (fun h => (wsL_law0_r2_in w h)) (fun h => ((List.mem_append.mp h).elim (fun h => (wsL_law0_r3_in w h)) (fun h => ((List.mem_append.mp h).elim (fun h => (wsL_law0_r4_in w h)) (fun h => ((List.mem_append.mp h).elim (fun h => (wsL_law0_r5_in w h)) (fun h => ((List.mem_append.mp h).elim (fun h => (wsL_law0_r6_in w h)) (fun h => ((List.mem_append.mp h).elim (fun h => (wsL_law0_r7_in w h)) (fun h => ((List.mem_append.mp h).elim (fun h => (wsL_law0_r8_in w h)) (fun h => ((List.mem_append.mp h).elim (fun h => (wsL_law0_r9_in w h)) (fun h => ((List.mem_append.mp h).elim (fun h => (wsL_law0_r10_in w h)) (fun h => ((List.mem_append.mp h).elim (fun h => (wsL_law0_r11_in w h)) (fun h => ((List.mem_append.mp h).elim (fun h => (wsL_law0_r12_in w h)) (fun h => ((List.mem_append.mp h).elim (fun h => (wsL_law0_r13_in w h)) (fun h => ((List.mem_append.mp h).elim (fun h => (wsL_law0_r14_in w h)) (fun h => (wsL_law0_r15_in w h)))))))))))))))))))))))))))))) (fun h => (wsX50_tb w h)))) (fun h => (wsX60_tb w h)))) (fun h => (wsX40_tb w h)))) (fun h => (wsX10_tb w h)))) (fun h => (wsX30_tb w h)))) (fun h => (wsX00_tb w h)))) (fun h => (by cases h)))
theorem wsL_law_x0 : ∀ w ∈ (vx_atS RX5 71 "java/lang/IllegalStateException" ["java/lang/RuntimeException", "java/lang/Exception"]).filter goodWord, w ∈ lw_tbl := by decide +kernel
theorem wsL_law_x1 : ∀ w ∈ (vx_atS RX5 116 "java/lang/IllegalArgumentException" ["java/lang/RuntimeException", "java/lang/Exception"]).filter goodWord, w ∈ lw_tbl := by decide +kernel
theorem wsL_law_x2 : ∀ w ∈ (vx_atS RX5 94 "java/lang/IndexOutOfBoundsException" ["java/lang/RuntimeException", "java/lang/Exception"]).filter goodWord, w ∈ lw_tbl := by decide +kernel
theorem wsL_law_in : ∀ w ∈ wsL_law, w ∈ lw_tbl := fun w h => (List.mem_append.mp h).elim (fun h => (List.mem_append.mp h).elim (fun h => (List.mem_append.mp h).elim (fun h => wsL_law_in0 w h) (fun h => wsL_law_x0 w h)) (fun h => wsL_law_x1 w h)) (fun h => wsL_law_x2 w h)
theorem inlX0 : ∀ w ∈ wsX00, w ∈ wsL_law := fun _ h => List.mem_append_left _ (List.mem_append_left _ (List.mem_append_left _ (List.mem_append_left _ (List.mem_append_right _ h))))
theorem inX0 : ∀ w ∈ wsX00, w ∈ lw_tbl := fun w h => wsL_law_in w (inlX0 w h)
theorem inlX1 : ∀ w ∈ wsX10, w ∈ wsL_law := fun _ h => List.mem_append_left _ (List.mem_append_left _ (List.mem_append_left _ (List.mem_append_left _ (List.mem_append_left _ (List.mem_append_left _ (List.mem_append_right _ h))))))
theorem inX1 : ∀ w ∈ wsX10, w ∈ lw_tbl := fun w h => wsL_law_in w (inlX1 w h)
theorem inX2 : ∀ w ∈ wsX20, w ∈ lw_tbl := by decide +kernel
theorem inlX3 : ∀ w ∈ wsX30, w ∈ wsL_law := fun _ h => List.mem_append_left _ (List.mem_append_left _ (List.mem_append_left _ (List.mem_append_left _ (List.mem_append_left _ (List.mem_append_right _ h)))))
theorem inX3 : ∀ w ∈ wsX30, w ∈ lw_tbl := fun w h => wsL_law_in w (inlX3 w h)
theorem inlX4 : ∀ w ∈ wsX40, w ∈ wsL_law := fun _ h => List.mem_append_left _ (List.mem_append_left _ (List.mem_append_left _ (List.mem_append_left _ (List.mem_append_left _ (List.mem_append_left _ (List.mem_append_left _ (List.mem_append_right _ h)))))))
theorem inX4 : ∀ w ∈ wsX40, w ∈ lw_tbl := fun w h => wsL_law_in w (inlX4 w h)
theorem inlX5 : ∀ w ∈ wsX50, w ∈ wsL_law := fun _ h => List.mem_append_left _ (List.mem_append_left _ (List.mem_append_left _ (List.mem_append_left _ (List.mem_append_left _ (List.mem_append_left _ (List.mem_append_left _ (List.mem_append_left _ (List.mem_append_left _ (List.mem_append_right _ h)))))))))
theorem inX5 : ∀ w ∈ wsX50, w ∈ lw_tbl := fun w h => wsL_law_in w (inlX5 w h)
theorem inlX6 : ∀ w ∈ wsX60, w ∈ wsL_law := fun _ h => List.mem_append_left _ (List.mem_append_left _ (List.mem_append_left _ (List.mem_append_left _ (List.mem_append_left _ (List.mem_append_left _ (List.mem_append_left _ (List.mem_append_left _ (List.mem_append_right _ h))))))))
theorem inX6 : ∀ w ∈ wsX60, w ∈ lw_tbl := fun w h => wsL_law_in w (inlX6 w h)
theorem inX7 : ∀ w ∈ wsX70, w ∈ lw_tbl := by decide +kernel
theorem inJ9 : ∀ w ∈ wsJ90, w ∈ lw_tbl := by decide +kernel
theorem inJ0 : ∀ w ∈ wsJ00, w ∈ lw_tbl := by decide +kernel
theorem inJ10 : ∀ w ∈ wsJ100, w ∈ lw_tbl := by decide +kernel
end
section
theorem dX0_init_0 : decode cX0_init 0 = .ok (.aload_n 0, 1) := by decide +kernel
theorem dX0_init_1 : decode cX0_init 1 = .ok (.invokespecial 3, 3) := by decide +kernel
theorem dX0_init_4 : decode cX0_init 4 = .ok (.aload_n 0, 1) := by decide +kernel
theorem dX0_init_5 : decode cX0_init 5 = .ok (.iload_n 1, 1) := by decide +kernel
theorem dX0_init_6 : decode cX0_init 6 = .ok (.putfield 9, 3) := by decide +kernel
theorem dX0_init_9 : decode cX0_init 9 = .ok (.aload_n 0, 1) := by decide +kernel
theorem dX0_init_10 : decode cX0_init 10 = .ok (.bipush 12, 2) := by decide +kernel
theorem dX0_init_12 : decode cX0_init 12 = .ok (.newarray .int, 2) := by decide +kernel
theorem dX0_init_14 : decode cX0_init 14 = .ok (.putfield 15, 3) := by decide +kernel
theorem dX0_init_17 : decode cX0_init 17 = .ok (.aload_n 0, 1) := by decide +kernel
theorem dX0_init_18 : decode cX0_init 18 = .ok (.bipush 12, 2) := by decide +kernel
theorem dX0_init_20 : decode cX0_init 20 = .ok (.newarray .int, 2) := by decide +kernel
theorem dX0_init_22 : decode cX0_init 22 = .ok (.putfield 19, 3) := by decide +kernel
theorem dX0_init_25 : decode cX0_init 25 = .ok (.return_, 1) := by decide +kernel
theorem dX0_size_0 : decode cX0_size 0 = .ok (.aload_n 0, 1) := by decide +kernel
theorem dX0_size_1 : decode cX0_size 1 = .ok (.getfield 22, 3) := by decide +kernel
theorem dX0_size_4 : decode cX0_size 4 = .ok (.ireturn, 1) := by decide +kernel
theorem dX0_isComplete_0 : decode cX0_isComplete 0 = .ok (.aload_n 0, 1) := by decide +kernel
theorem dX0_isComplete_1 : decode cX0_isComplete 1 = .ok (.getfield 22, 3) := by decide +kernel
theorem dX0_isComplete_4 : decode cX0_isComplete 4 = .ok (.iconst 2, 1) := by decide +kernel
theorem dX0_isComplete_5 : decode cX0_isComplete 5 = .ok (.if_icmp .lt 7, 3) := by decide +kernel
theorem dX0_isComplete_8 : decode cX0_isComplete 8 = .ok (.iconst 1, 1) := by decide +kernel
theorem dX0_isComplete_9 : decode cX0_isComplete 9 = .ok (.goto 4, 3) := by decide +kernel
theorem dX0_isComplete_12 : decode cX0_isComplete 12 = .ok (.iconst 0, 1) := by decide +kernel
theorem dX0_isComplete_13 : decode cX0_isComplete 13 = .ok (.ireturn, 1) := by decide +kernel
set_option maxRecDepth 20000 in
theorem ggX0_insert_X5_countLower : GoodIn wsX0_insert wsX5_countLower := goodIn_r _ [6] (by decide +kernel) (by decide +kernel)
set_option maxRecDepth 20000 in
theorem gX0_insert_X5_countLower_n25 : GoodIn wsX0_insert (wsX5_countLower) := ggX0_insert_X5_countLower
set_option maxRecDepth 20000 in
theorem ggX0_insert_X0_fits : GoodIn wsX0_insert wsX0_fits := goodIn_r _ [11, 3, 2, 1, 14, 15, 16, 17] (by decide +kernel) (by decide +kernel)
set_option maxRecDepth 20000 in
theorem gX0_insert_X0_fits : GoodIn wsX0_insert (wsV RX0 29 RX0 yX0_fits wsX0_fits) := goodIn_app (goodIn_of _ (by decide +kernel)) ggX0_insert_X0_fits
set_option maxRecDepth 20000 in
theorem ggX0_insert_X5_insertInto : GoodIn wsX0_insert wsX5_insertInto := goodIn_r _ [13] (by decide +kernel) (by decide +kernel)
set_option maxRecDepth 20000 in
theorem gX0_insert_X5_insertInto_n33 : GoodIn wsX0_insert (wsX5_insertInto) := ggX0_insert_X5_insertInto
theorem dX0_insert_0 : decode cX0_insert 0 = .ok (.aload_n 0, 1) := by decide +kernel
theorem dX0_insert_1 : decode cX0_insert 1 = .ok (.getfield 15, 3) := by decide +kernel
theorem dX0_insert_4 : decode cX0_insert 4 = .ok (.aload_n 0, 1) := by decide +kernel
theorem dX0_insert_5 : decode cX0_insert 5 = .ok (.getfield 22, 3) := by decide +kernel
theorem dX0_insert_8 : decode cX0_insert 8 = .ok (.iload_n 1, 1) := by decide +kernel
theorem dX0_insert_9 : decode cX0_insert 9 = .ok (.invokestatic 25, 3) := by decide +kernel
theorem dX0_insert_12 : decode cX0_insert 12 = .ok (.istore_n 3, 1) := by decide +kernel
theorem dX0_insert_13 : decode cX0_insert 13 = .ok (.aload_n 0, 1) := by decide +kernel
theorem dX0_insert_14 : decode cX0_insert 14 = .ok (.getfield 22, 3) := by decide +kernel
theorem dX0_insert_17 : decode cX0_insert 17 = .ok (.bipush 12, 2) := by decide +kernel
theorem dX0_insert_19 : decode cX0_insert 19 = .ok (.if_icmp .ge 13, 3) := by decide +kernel
theorem dX0_insert_22 : decode cX0_insert 22 = .ok (.aload_n 0, 1) := by decide +kernel
theorem dX0_insert_23 : decode cX0_insert 23 = .ok (.iload_n 3, 1) := by decide +kernel
theorem dX0_insert_24 : decode cX0_insert 24 = .ok (.iload_n 1, 1) := by decide +kernel
theorem dX0_insert_25 : decode cX0_insert 25 = .ok (.iload_n 2, 1) := by decide +kernel
theorem dX0_insert_26 : decode cX0_insert 26 = .ok (.invokevirtual 29, 3) := by decide +kernel
theorem dX0_insert_29 : decode cX0_insert 29 = .ok (.ifCond .ne 5, 3) := by decide +kernel
theorem dX0_insert_32 : decode cX0_insert 32 = .ok (.iconst 0, 1) := by decide +kernel
theorem dX0_insert_33 : decode cX0_insert 33 = .ok (.ireturn, 1) := by decide +kernel
theorem dX0_insert_34 : decode cX0_insert 34 = .ok (.aload_n 0, 1) := by decide +kernel
theorem dX0_insert_35 : decode cX0_insert 35 = .ok (.getfield 15, 3) := by decide +kernel
theorem dX0_insert_38 : decode cX0_insert 38 = .ok (.aload_n 0, 1) := by decide +kernel
theorem dX0_insert_39 : decode cX0_insert 39 = .ok (.getfield 22, 3) := by decide +kernel
theorem dX0_insert_42 : decode cX0_insert 42 = .ok (.iload_n 3, 1) := by decide +kernel
theorem dX0_insert_43 : decode cX0_insert 43 = .ok (.iload_n 1, 1) := by decide +kernel
theorem dX0_insert_44 : decode cX0_insert 44 = .ok (.invokestatic 33, 3) := by decide +kernel
theorem dX0_insert_47 : decode cX0_insert 47 = .ok (.aload_n 0, 1) := by decide +kernel
theorem dX0_insert_48 : decode cX0_insert 48 = .ok (.getfield 19, 3) := by decide +kernel
theorem dX0_insert_51 : decode cX0_insert 51 = .ok (.aload_n 0, 1) := by decide +kernel
theorem dX0_insert_52 : decode cX0_insert 52 = .ok (.getfield 22, 3) := by decide +kernel
theorem dX0_insert_55 : decode cX0_insert 55 = .ok (.iload_n 3, 1) := by decide +kernel
theorem dX0_insert_56 : decode cX0_insert 56 = .ok (.iload_n 2, 1) := by decide +kernel
theorem dX0_insert_57 : decode cX0_insert 57 = .ok (.invokestatic 33, 3) := by decide +kernel
theorem dX0_insert_60 : decode cX0_insert 60 = .ok (.aload_n 0, 1) := by decide +kernel
theorem dX0_insert_61 : decode cX0_insert 61 = .ok (.dup, 1) := by decide +kernel
theorem dX0_insert_62 : decode cX0_insert 62 = .ok (.getfield 22, 3) := by decide +kernel
theorem dX0_insert_65 : decode cX0_insert 65 = .ok (.iconst 1, 1) := by decide +kernel
theorem dX0_insert_66 : decode cX0_insert 66 = .ok (.iadd, 1) := by decide +kernel
theorem dX0_insert_67 : decode cX0_insert 67 = .ok (.putfield 22, 3) := by decide +kernel
theorem dX0_insert_70 : decode cX0_insert 70 = .ok (.iconst 1, 1) := by decide +kernel
theorem dX0_insert_71 : decode cX0_insert 71 = .ok (.ireturn, 1) := by decide +kernel
set_option maxRecDepth 20000 in
theorem ggX0_flowAt_X5_countLower : GoodIn wsX0_flowAt wsX5_countLower := goodIn_r _ [13] (by decide +kernel) (by decide +kernel)
set_option maxRecDepth 20000 in
theorem gX0_flowAt_X5_countLower_n25 : GoodIn wsX0_flowAt (wsX5_countLower) := ggX0_flowAt_X5_countLower
set_option maxRecDepth 20000 in
theorem ggX0_flowAt_X5_interpolate : GoodIn wsX0_flowAt wsX5_interpolate := goodIn_r _ [15] (by decide +kernel) (by decide +kernel)
set_option maxRecDepth 20000 in
theorem gX0_flowAt_X5_interpolate_n46 : GoodIn wsX0_flowAt (wsX5_interpolate) := ggX0_flowAt_X5_interpolate
theorem dX0_flowAt_0 : decode cX0_flowAt 0 = .ok (.aload_n 0, 1) := by decide +kernel
theorem dX0_flowAt_1 : decode cX0_flowAt 1 = .ok (.getfield 22, 3) := by decide +kernel
theorem dX0_flowAt_4 : decode cX0_flowAt 4 = .ok (.iconst 2, 1) := by decide +kernel
theorem dX0_flowAt_5 : decode cX0_flowAt 5 = .ok (.if_icmp .lt 13, 3) := by decide +kernel
theorem dX0_flowAt_8 : decode cX0_flowAt 8 = .ok (.iload_n 1, 1) := by decide +kernel
theorem dX0_flowAt_9 : decode cX0_flowAt 9 = .ok (.aload_n 0, 1) := by decide +kernel
theorem dX0_flowAt_10 : decode cX0_flowAt 10 = .ok (.getfield 15, 3) := by decide +kernel
theorem dX0_flowAt_13 : decode cX0_flowAt 13 = .ok (.iconst 0, 1) := by decide +kernel
theorem dX0_flowAt_14 : decode cX0_flowAt 14 = .ok (.iaload, 1) := by decide +kernel
theorem dX0_flowAt_15 : decode cX0_flowAt 15 = .ok (.if_icmp .ge 5, 3) := by decide +kernel
theorem dX0_flowAt_18 : decode cX0_flowAt 18 = .ok (.lconst 0, 1) := by decide +kernel
theorem dX0_flowAt_19 : decode cX0_flowAt 19 = .ok (.lreturn, 1) := by decide +kernel
theorem dX0_flowAt_20 : decode cX0_flowAt 20 = .ok (.aload_n 0, 1) := by decide +kernel
theorem dX0_flowAt_21 : decode cX0_flowAt 21 = .ok (.getfield 15, 3) := by decide +kernel
theorem dX0_flowAt_24 : decode cX0_flowAt 24 = .ok (.aload_n 0, 1) := by decide +kernel
theorem dX0_flowAt_25 : decode cX0_flowAt 25 = .ok (.getfield 22, 3) := by decide +kernel
theorem dX0_flowAt_28 : decode cX0_flowAt 28 = .ok (.iload_n 1, 1) := by decide +kernel
theorem dX0_flowAt_29 : decode cX0_flowAt 29 = .ok (.invokestatic 25, 3) := by decide +kernel
theorem dX0_flowAt_32 : decode cX0_flowAt 32 = .ok (.istore_n 2, 1) := by decide +kernel
theorem dX0_flowAt_33 : decode cX0_flowAt 33 = .ok (.iload_n 2, 1) := by decide +kernel
theorem dX0_flowAt_34 : decode cX0_flowAt 34 = .ok (.iconst 1, 1) := by decide +kernel
theorem dX0_flowAt_35 : decode cX0_flowAt 35 = .ok (.invokestatic 37, 3) := by decide +kernel
theorem dX0_flowAt_38 : decode cX0_flowAt 38 = .ok (.aload_n 0, 1) := by decide +kernel
theorem dX0_flowAt_39 : decode cX0_flowAt 39 = .ok (.getfield 22, 3) := by decide +kernel
theorem dX0_flowAt_42 : decode cX0_flowAt 42 = .ok (.iconst 1, 1) := by decide +kernel
theorem dX0_flowAt_43 : decode cX0_flowAt 43 = .ok (.isub, 1) := by decide +kernel
theorem dX0_flowAt_44 : decode cX0_flowAt 44 = .ok (.invokestatic 43, 3) := by decide +kernel
theorem dX0_flowAt_47 : decode cX0_flowAt 47 = .ok (.istore_n 2, 1) := by decide +kernel
theorem dX0_flowAt_48 : decode cX0_flowAt 48 = .ok (.iload_n 2, 1) := by decide +kernel
theorem dX0_flowAt_49 : decode cX0_flowAt 49 = .ok (.iconst 1, 1) := by decide +kernel
theorem dX0_flowAt_50 : decode cX0_flowAt 50 = .ok (.isub, 1) := by decide +kernel
theorem dX0_flowAt_51 : decode cX0_flowAt 51 = .ok (.istore_n 3, 1) := by decide +kernel
theorem dX0_flowAt_52 : decode cX0_flowAt 52 = .ok (.aload_n 0, 1) := by decide +kernel
theorem dX0_flowAt_53 : decode cX0_flowAt 53 = .ok (.getfield 19, 3) := by decide +kernel
theorem dX0_flowAt_56 : decode cX0_flowAt 56 = .ok (.iload_n 3, 1) := by decide +kernel
theorem dX0_flowAt_57 : decode cX0_flowAt 57 = .ok (.iaload, 1) := by decide +kernel
theorem dX0_flowAt_58 : decode cX0_flowAt 58 = .ok (.i2l, 1) := by decide +kernel
theorem dX0_flowAt_59 : decode cX0_flowAt 59 = .ok (.aload_n 0, 1) := by decide +kernel
theorem dX0_flowAt_60 : decode cX0_flowAt 60 = .ok (.getfield 19, 3) := by decide +kernel
theorem dX0_flowAt_63 : decode cX0_flowAt 63 = .ok (.iload_n 2, 1) := by decide +kernel
theorem dX0_flowAt_64 : decode cX0_flowAt 64 = .ok (.iaload, 1) := by decide +kernel
theorem dX0_flowAt_65 : decode cX0_flowAt 65 = .ok (.i2l, 1) := by decide +kernel
theorem dX0_flowAt_66 : decode cX0_flowAt 66 = .ok (.iload_n 1, 1) := by decide +kernel
theorem dX0_flowAt_67 : decode cX0_flowAt 67 = .ok (.aload_n 0, 1) := by decide +kernel
theorem dX0_flowAt_68 : decode cX0_flowAt 68 = .ok (.getfield 15, 3) := by decide +kernel
theorem dX0_flowAt_71 : decode cX0_flowAt 71 = .ok (.iload_n 3, 1) := by decide +kernel
theorem dX0_flowAt_72 : decode cX0_flowAt 72 = .ok (.iaload, 1) := by decide +kernel
theorem dX0_flowAt_73 : decode cX0_flowAt 73 = .ok (.isub, 1) := by decide +kernel
theorem dX0_flowAt_74 : decode cX0_flowAt 74 = .ok (.i2l, 1) := by decide +kernel
theorem dX0_flowAt_75 : decode cX0_flowAt 75 = .ok (.aload_n 0, 1) := by decide +kernel
theorem dX0_flowAt_76 : decode cX0_flowAt 76 = .ok (.getfield 15, 3) := by decide +kernel
theorem dX0_flowAt_79 : decode cX0_flowAt 79 = .ok (.iload_n 2, 1) := by decide +kernel
theorem dX0_flowAt_80 : decode cX0_flowAt 80 = .ok (.iaload, 1) := by decide +kernel
theorem dX0_flowAt_81 : decode cX0_flowAt 81 = .ok (.aload_n 0, 1) := by decide +kernel
theorem dX0_flowAt_82 : decode cX0_flowAt 82 = .ok (.getfield 15, 3) := by decide +kernel
theorem dX0_flowAt_85 : decode cX0_flowAt 85 = .ok (.iload_n 3, 1) := by decide +kernel
theorem dX0_flowAt_86 : decode cX0_flowAt 86 = .ok (.iaload, 1) := by decide +kernel
theorem dX0_flowAt_87 : decode cX0_flowAt 87 = .ok (.isub, 1) := by decide +kernel
theorem dX0_flowAt_88 : decode cX0_flowAt 88 = .ok (.i2l, 1) := by decide +kernel
theorem dX0_flowAt_89 : decode cX0_flowAt 89 = .ok (.invokestatic 46, 3) := by decide +kernel
theorem dX0_flowAt_92 : decode cX0_flowAt 92 = .ok (.lreturn, 1) := by decide +kernel
theorem dX0_fits_0 : decode cX0_fits 0 = .ok (.iload_n 1, 1) := by decide +kernel
theorem dX0_fits_1 : decode cX0_fits 1 = .ok (.ifCond .eq 15, 3) := by decide +kernel
theorem dX0_fits_4 : decode cX0_fits 4 = .ok (.aload_n 0, 1) := by decide +kernel
theorem dX0_fits_5 : decode cX0_fits 5 = .ok (.getfield 19, 3) := by decide +kernel
theorem dX0_fits_8 : decode cX0_fits 8 = .ok (.iload_n 1, 1) := by decide +kernel
theorem dX0_fits_9 : decode cX0_fits 9 = .ok (.iconst 1, 1) := by decide +kernel
theorem dX0_fits_10 : decode cX0_fits 10 = .ok (.isub, 1) := by decide +kernel
theorem dX0_fits_11 : decode cX0_fits 11 = .ok (.iaload, 1) := by decide +kernel
theorem dX0_fits_12 : decode cX0_fits 12 = .ok (.iload_n 3, 1) := by decide +kernel
theorem dX0_fits_13 : decode cX0_fits 13 = .ok (.if_icmp .ge 7, 3) := by decide +kernel
theorem dX0_fits_16 : decode cX0_fits 16 = .ok (.iconst 1, 1) := by decide +kernel
theorem dX0_fits_17 : decode cX0_fits 17 = .ok (.goto 4, 3) := by decide +kernel
theorem dX0_fits_20 : decode cX0_fits 20 = .ok (.iconst 0, 1) := by decide +kernel
theorem dX0_fits_21 : decode cX0_fits 21 = .ok (.istore 4, 2) := by decide +kernel
theorem dX0_fits_23 : decode cX0_fits 23 = .ok (.iload_n 1, 1) := by decide +kernel
theorem dX0_fits_24 : decode cX0_fits 24 = .ok (.aload_n 0, 1) := by decide +kernel
theorem dX0_fits_25 : decode cX0_fits 25 = .ok (.getfield 22, 3) := by decide +kernel
theorem dX0_fits_28 : decode cX0_fits 28 = .ok (.if_icmp .ge 23, 3) := by decide +kernel
theorem dX0_fits_31 : decode cX0_fits 31 = .ok (.aload_n 0, 1) := by decide +kernel
theorem dX0_fits_32 : decode cX0_fits 32 = .ok (.getfield 15, 3) := by decide +kernel
theorem dX0_fits_35 : decode cX0_fits 35 = .ok (.iload_n 1, 1) := by decide +kernel
theorem dX0_fits_36 : decode cX0_fits 36 = .ok (.iaload, 1) := by decide +kernel
theorem dX0_fits_37 : decode cX0_fits 37 = .ok (.iload_n 2, 1) := by decide +kernel
theorem dX0_fits_38 : decode cX0_fits 38 = .ok (.if_icmp .le 17, 3) := by decide +kernel
theorem dX0_fits_41 : decode cX0_fits 41 = .ok (.aload_n 0, 1) := by decide +kernel
theorem dX0_fits_42 : decode cX0_fits 42 = .ok (.getfield 19, 3) := by decide +kernel
theorem dX0_fits_45 : decode cX0_fits 45 = .ok (.iload_n 1, 1) := by decide +kernel
theorem dX0_fits_46 : decode cX0_fits 46 = .ok (.iaload, 1) := by decide +kernel
theorem dX0_fits_47 : decode cX0_fits 47 = .ok (.iload_n 3, 1) := by decide +kernel
theorem dX0_fits_48 : decode cX0_fits 48 = .ok (.if_icmp .le 7, 3) := by decide +kernel
theorem dX0_fits_51 : decode cX0_fits 51 = .ok (.iconst 1, 1) := by decide +kernel
theorem dX0_fits_52 : decode cX0_fits 52 = .ok (.goto 4, 3) := by decide +kernel
theorem dX0_fits_55 : decode cX0_fits 55 = .ok (.iconst 0, 1) := by decide +kernel
theorem dX0_fits_56 : decode cX0_fits 56 = .ok (.istore 5, 2) := by decide +kernel
theorem dX0_fits_58 : decode cX0_fits 58 = .ok (.iload 4, 2) := by decide +kernel
theorem dX0_fits_60 : decode cX0_fits 60 = .ok (.ifCond .eq 12, 3) := by decide +kernel
theorem dX0_fits_63 : decode cX0_fits 63 = .ok (.iload 5, 2) := by decide +kernel
theorem dX0_fits_65 : decode cX0_fits 65 = .ok (.ifCond .eq 7, 3) := by decide +kernel
theorem dX0_fits_68 : decode cX0_fits 68 = .ok (.iconst 1, 1) := by decide +kernel
theorem dX0_fits_69 : decode cX0_fits 69 = .ok (.goto 4, 3) := by decide +kernel
theorem dX0_fits_72 : decode cX0_fits 72 = .ok (.iconst 0, 1) := by decide +kernel
theorem dX0_fits_73 : decode cX0_fits 73 = .ok (.ireturn, 1) := by decide +kernel
theorem dX1_init_0 : decode cX1_init 0 = .ok (.aload_n 0, 1) := by decide +kernel
theorem dX1_init_1 : decode cX1_init 1 = .ok (.invokespecial 3, 3) := by decide +kernel
theorem dX1_init_4 : decode cX1_init 4 = .ok (.aload_n 0, 1) := by decide +kernel
theorem dX1_init_5 : decode cX1_init 5 = .ok (.sipush 400, 3) := by decide +kernel
theorem dX1_init_8 : decode cX1_init 8 = .ok (.newarray .long, 2) := by decide +kernel
theorem dX1_init_10 : decode cX1_init 10 = .ok (.putfield 9, 3) := by decide +kernel
theorem dX1_init_13 : decode cX1_init 13 = .ok (.aload_n 0, 1) := by decide +kernel
theorem dX1_init_14 : decode cX1_init 14 = .ok (.sipush 400, 3) := by decide +kernel
theorem dX1_init_17 : decode cX1_init 17 = .ok (.newarray .int, 2) := by decide +kernel
theorem dX1_init_19 : decode cX1_init 19 = .ok (.putfield 15, 3) := by decide +kernel
theorem dX1_init_22 : decode cX1_init 22 = .ok (.return_, 1) := by decide +kernel
theorem dX1_put_0 : decode cX1_put 0 = .ok (.iload_n 1, 1) := by decide +kernel
theorem dX1_put_1 : decode cX1_put 1 = .ok (.ifCond .lt 25, 3) := by decide +kernel
theorem dX1_put_4 : decode cX1_put 4 = .ok (.iload_n 1, 1) := by decide +kernel
theorem dX1_put_5 : decode cX1_put 5 = .ok (.sipush 400, 3) := by decide +kernel
theorem dX1_put_8 : decode cX1_put 8 = .ok (.if_icmp .ge 18, 3) := by decide +kernel
theorem dX1_put_11 : decode cX1_put 11 = .ok (.aload_n 0, 1) := by decide +kernel
theorem dX1_put_12 : decode cX1_put 12 = .ok (.getfield 9, 3) := by decide +kernel
theorem dX1_put_15 : decode cX1_put 15 = .ok (.iload_n 1, 1) := by decide +kernel
theorem dX1_put_16 : decode cX1_put 16 = .ok (.lload_n 2, 1) := by decide +kernel
theorem dX1_put_17 : decode cX1_put 17 = .ok (.lastore, 1) := by decide +kernel
theorem dX1_put_18 : decode cX1_put 18 = .ok (.aload_n 0, 1) := by decide +kernel
theorem dX1_put_19 : decode cX1_put 19 = .ok (.getfield 15, 3) := by decide +kernel
theorem dX1_put_22 : decode cX1_put 22 = .ok (.iload_n 1, 1) := by decide +kernel
theorem dX1_put_23 : decode cX1_put 23 = .ok (.iload 4, 2) := by decide +kernel
theorem dX1_put_25 : decode cX1_put 25 = .ok (.iastore, 1) := by decide +kernel
theorem dX1_put_26 : decode cX1_put 26 = .ok (.return_, 1) := by decide +kernel
theorem dX1_stateOn_0 : decode cX1_stateOn 0 = .ok (.iload_n 1, 1) := by decide +kernel
theorem dX1_stateOn_1 : decode cX1_stateOn 1 = .ok (.ifCond .lt 10, 3) := by decide +kernel
theorem dX1_stateOn_4 : decode cX1_stateOn 4 = .ok (.iload_n 1, 1) := by decide +kernel
theorem dX1_stateOn_5 : decode cX1_stateOn 5 = .ok (.sipush 400, 3) := by decide +kernel
theorem dX1_stateOn_8 : decode cX1_stateOn 8 = .ok (.if_icmp .lt 7, 3) := by decide +kernel
theorem dX1_stateOn_11 : decode cX1_stateOn 11 = .ok (.iconst 0, 1) := by decide +kernel
theorem dX1_stateOn_12 : decode cX1_stateOn 12 = .ok (.goto 9, 3) := by decide +kernel
theorem dX1_stateOn_15 : decode cX1_stateOn 15 = .ok (.aload_n 0, 1) := by decide +kernel
theorem dX1_stateOn_16 : decode cX1_stateOn 16 = .ok (.getfield 15, 3) := by decide +kernel
theorem dX1_stateOn_19 : decode cX1_stateOn 19 = .ok (.iload_n 1, 1) := by decide +kernel
theorem dX1_stateOn_20 : decode cX1_stateOn 20 = .ok (.iaload, 1) := by decide +kernel
theorem dX1_stateOn_21 : decode cX1_stateOn 21 = .ok (.ireturn, 1) := by decide +kernel
theorem dX1_flowOn_0 : decode cX1_flowOn 0 = .ok (.iload_n 1, 1) := by decide +kernel
theorem dX1_flowOn_1 : decode cX1_flowOn 1 = .ok (.ifCond .lt 10, 3) := by decide +kernel
theorem dX1_flowOn_4 : decode cX1_flowOn 4 = .ok (.iload_n 1, 1) := by decide +kernel
theorem dX1_flowOn_5 : decode cX1_flowOn 5 = .ok (.sipush 400, 3) := by decide +kernel
theorem dX1_flowOn_8 : decode cX1_flowOn 8 = .ok (.if_icmp .lt 9, 3) := by decide +kernel
theorem dX1_flowOn_11 : decode cX1_flowOn 11 = .ok (.ldc2_w 19, 3) := by decide +kernel
theorem dX1_flowOn_14 : decode cX1_flowOn 14 = .ok (.goto 9, 3) := by decide +kernel
theorem dX1_flowOn_17 : decode cX1_flowOn 17 = .ok (.aload_n 0, 1) := by decide +kernel
theorem dX1_flowOn_18 : decode cX1_flowOn 18 = .ok (.getfield 9, 3) := by decide +kernel
theorem dX1_flowOn_21 : decode cX1_flowOn 21 = .ok (.iload_n 1, 1) := by decide +kernel
theorem dX1_flowOn_22 : decode cX1_flowOn 22 = .ok (.laload, 1) := by decide +kernel
theorem dX1_flowOn_23 : decode cX1_flowOn 23 = .ok (.lreturn, 1) := by decide +kernel
set_option maxRecDepth 20000 in
theorem ggX1_hasFlow_X1_stateOn : GoodIn wsX1_hasFlow wsX1_stateOn := goodIn_r _ [5, 6, 7, 8] (by decide +kernel) (by decide +kernel)
set_option maxRecDepth 20000 in
theorem gX1_hasFlow_X1_stateOn : GoodIn wsX1_hasFlow (wsV RX1 21 RX1 yX1_stateOn wsX1_stateOn) := goodIn_app (goodIn_of _ (by decide +kernel)) ggX1_hasFlow_X1_stateOn
theorem dX1_hasFlow_0 : decode cX1_hasFlow 0 = .ok (.aload_n 0, 1) := by decide +kernel
theorem dX1_hasFlow_1 : decode cX1_hasFlow 1 = .ok (.iload_n 1, 1) := by decide +kernel
theorem dX1_hasFlow_2 : decode cX1_hasFlow 2 = .ok (.invokevirtual 21, 3) := by decide +kernel
theorem dX1_hasFlow_5 : decode cX1_hasFlow 5 = .ok (.ifCond .eq 7, 3) := by decide +kernel
theorem dX1_hasFlow_8 : decode cX1_hasFlow 8 = .ok (.iconst 1, 1) := by decide +kernel
theorem dX1_hasFlow_9 : decode cX1_hasFlow 9 = .ok (.goto 4, 3) := by decide +kernel
theorem dX1_hasFlow_12 : decode cX1_hasFlow 12 = .ok (.iconst 0, 1) := by decide +kernel
theorem dX1_hasFlow_13 : decode cX1_hasFlow 13 = .ok (.ireturn, 1) := by decide +kernel
set_option maxRecDepth 20000 in
theorem ggX1_fillGaps_X1_hasFlow : GoodIn wsX1_fillGaps wsX1_hasFlow := goodIn_r _ [5, 6, 7, 8, 4, 9, 10, 28, 29] (by decide +kernel) (by decide +kernel)
set_option maxRecDepth 20000 in
theorem gX1_fillGaps_X1_hasFlow : GoodIn wsX1_fillGaps (wsV RX1 25 RX1 yX1_hasFlow wsX1_hasFlow) := goodIn_app (goodIn_of _ (by decide +kernel)) ggX1_fillGaps_X1_hasFlow
set_option maxRecDepth 20000 in
theorem ggX1_fillGaps_X1_fillBetween : GoodIn wsX1_fillGaps wsX1_fillBetween := goodIn_r _ [14, 15, 16, 17, 4, 18, 19, 20, 21, 22, 23, 24, 25, 26, 27, 10, 28, 29] (by decide +kernel) (by decide +kernel)
set_option maxRecDepth 20000 in
theorem gX1_fillGaps_X1_fillBetween : GoodIn wsX1_fillGaps (wsV RX1 29 RX1 yX1_fillBetween wsX1_fillBetween) := goodIn_app (goodIn_of _ (by decide +kernel)) ggX1_fillGaps_X1_fillBetween
theorem dX1_fillGaps_0 : decode cX1_fillGaps 0 = .ok (.iconst (-1), 1) := by decide +kernel
theorem dX1_fillGaps_1 : decode cX1_fillGaps 1 = .ok (.istore_n 2, 1) := by decide +kernel
theorem dX1_fillGaps_2 : decode cX1_fillGaps 2 = .ok (.iconst 0, 1) := by decide +kernel
theorem dX1_fillGaps_3 : decode cX1_fillGaps 3 = .ok (.istore_n 3, 1) := by decide +kernel
theorem dX1_fillGaps_4 : decode cX1_fillGaps 4 = .ok (.iload_n 3, 1) := by decide +kernel
theorem dX1_fillGaps_5 : decode cX1_fillGaps 5 = .ok (.sipush 400, 3) := by decide +kernel
theorem dX1_fillGaps_8 : decode cX1_fillGaps 8 = .ok (.if_icmp .ge 39, 3) := by decide +kernel
theorem dX1_fillGaps_11 : decode cX1_fillGaps 11 = .ok (.aload_n 0, 1) := by decide +kernel
theorem dX1_fillGaps_12 : decode cX1_fillGaps 12 = .ok (.iload_n 3, 1) := by decide +kernel
theorem dX1_fillGaps_13 : decode cX1_fillGaps 13 = .ok (.invokevirtual 25, 3) := by decide +kernel
theorem dX1_fillGaps_16 : decode cX1_fillGaps 16 = .ok (.ifCond .eq 25, 3) := by decide +kernel
theorem dX1_fillGaps_19 : decode cX1_fillGaps 19 = .ok (.iload_n 2, 1) := by decide +kernel
theorem dX1_fillGaps_20 : decode cX1_fillGaps 20 = .ok (.iconst (-1), 1) := by decide +kernel
theorem dX1_fillGaps_21 : decode cX1_fillGaps 21 = .ok (.if_icmp .eq 18, 3) := by decide +kernel
theorem dX1_fillGaps_24 : decode cX1_fillGaps 24 = .ok (.iload_n 3, 1) := by decide +kernel
theorem dX1_fillGaps_25 : decode cX1_fillGaps 25 = .ok (.iload_n 2, 1) := by decide +kernel
theorem dX1_fillGaps_26 : decode cX1_fillGaps 26 = .ok (.isub, 1) := by decide +kernel
theorem dX1_fillGaps_27 : decode cX1_fillGaps 27 = .ok (.iconst 1, 1) := by decide +kernel
theorem dX1_fillGaps_28 : decode cX1_fillGaps 28 = .ok (.isub, 1) := by decide +kernel
theorem dX1_fillGaps_29 : decode cX1_fillGaps 29 = .ok (.iload_n 1, 1) := by decide +kernel
theorem dX1_fillGaps_30 : decode cX1_fillGaps 30 = .ok (.if_icmp .gt 9, 3) := by decide +kernel
theorem dX1_fillGaps_33 : decode cX1_fillGaps 33 = .ok (.aload_n 0, 1) := by decide +kernel
theorem dX1_fillGaps_34 : decode cX1_fillGaps 34 = .ok (.iload_n 2, 1) := by decide +kernel
theorem dX1_fillGaps_35 : decode cX1_fillGaps 35 = .ok (.iload_n 3, 1) := by decide +kernel
theorem dX1_fillGaps_36 : decode cX1_fillGaps 36 = .ok (.invokevirtual 29, 3) := by decide +kernel
theorem dX1_fillGaps_39 : decode cX1_fillGaps 39 = .ok (.iload_n 3, 1) := by decide +kernel
theorem dX1_fillGaps_40 : decode cX1_fillGaps 40 = .ok (.istore_n 2, 1) := by decide +kernel
theorem dX1_fillGaps_41 : decode cX1_fillGaps 41 = .ok (.iinc 3 1, 3) := by decide +kernel
theorem dX1_fillGaps_44 : decode cX1_fillGaps 44 = .ok (.goto (-40), 3) := by decide +kernel
theorem dX1_fillGaps_47 : decode cX1_fillGaps 47 = .ok (.return_, 1) := by decide +kernel
set_option maxRecDepth 20000 in
theorem ggX1_fillBetween_X1_flowOn : GoodIn wsX1_fillBetween wsX1_flowOn := goodIn_r _ [5, 6, 7, 16, 17] (by decide +kernel) (by decide +kernel)
set_option maxRecDepth 20000 in
theorem gX1_fillBetween_X1_flowOn : GoodIn wsX1_fillBetween (wsV RX1 33 RX1 yX1_flowOn wsX1_flowOn) := goodIn_app (goodIn_of _ (by decide +kernel)) ggX1_fillBetween_X1_flowOn
set_option maxRecDepth 20000 in
theorem ggX1_fillBetween_X5_interpolate : GoodIn wsX1_fillBetween wsX5_interpolate := goodIn_r _ [10] (by decide +kernel) (by decide +kernel)
set_option maxRecDepth 20000 in
theorem gX1_fillBetween_X5_interpolate_n37 : GoodIn wsX1_fillBetween (wsX5_interpolate) := ggX1_fillBetween_X5_interpolate
set_option maxRecDepth 20000 in
theorem ggX1_fillBetween_X1_put : GoodIn wsX1_fillBetween wsX1_put := goodIn_r _ [14, 7, 15, 16, 17] (by decide +kernel) (by decide +kernel)
set_option maxRecDepth 20000 in
theorem gX1_fillBetween_X1_put : GoodIn wsX1_fillBetween (wsV RX1 41 RX1 yX1_put wsX1_put) := goodIn_app (goodIn_of _ (by decide +kernel)) ggX1_fillBetween_X1_put
theorem dX1_fillBetween_0 : decode cX1_fillBetween 0 = .ok (.aload_n 0, 1) := by decide +kernel
theorem dX1_fillBetween_1 : decode cX1_fillBetween 1 = .ok (.iload_n 1, 1) := by decide +kernel
theorem dX1_fillBetween_2 : decode cX1_fillBetween 2 = .ok (.invokevirtual 33, 3) := by decide +kernel
theorem dX1_fillBetween_5 : decode cX1_fillBetween 5 = .ok (.lstore_n 3, 1) := by decide +kernel
theorem dX1_fillBetween_6 : decode cX1_fillBetween 6 = .ok (.aload_n 0, 1) := by decide +kernel
theorem dX1_fillBetween_7 : decode cX1_fillBetween 7 = .ok (.iload_n 2, 1) := by decide +kernel
theorem dX1_fillBetween_8 : decode cX1_fillBetween 8 = .ok (.invokevirtual 33, 3) := by decide +kernel
theorem dX1_fillBetween_11 : decode cX1_fillBetween 11 = .ok (.lstore 5, 2) := by decide +kernel
theorem dX1_fillBetween_13 : decode cX1_fillBetween 13 = .ok (.iload_n 1, 1) := by decide +kernel
theorem dX1_fillBetween_14 : decode cX1_fillBetween 14 = .ok (.iconst 1, 1) := by decide +kernel
theorem dX1_fillBetween_15 : decode cX1_fillBetween 15 = .ok (.iadd, 1) := by decide +kernel
theorem dX1_fillBetween_16 : decode cX1_fillBetween 16 = .ok (.istore 7, 2) := by decide +kernel
theorem dX1_fillBetween_18 : decode cX1_fillBetween 18 = .ok (.iload 7, 2) := by decide +kernel
theorem dX1_fillBetween_20 : decode cX1_fillBetween 20 = .ok (.iload_n 2, 1) := by decide +kernel
theorem dX1_fillBetween_21 : decode cX1_fillBetween 21 = .ok (.if_icmp .ge 31, 3) := by decide +kernel
theorem dX1_fillBetween_24 : decode cX1_fillBetween 24 = .ok (.aload_n 0, 1) := by decide +kernel
theorem dX1_fillBetween_25 : decode cX1_fillBetween 25 = .ok (.iload 7, 2) := by decide +kernel
theorem dX1_fillBetween_27 : decode cX1_fillBetween 27 = .ok (.lload_n 3, 1) := by decide +kernel
theorem dX1_fillBetween_28 : decode cX1_fillBetween 28 = .ok (.lload 5, 2) := by decide +kernel
theorem dX1_fillBetween_30 : decode cX1_fillBetween 30 = .ok (.iload 7, 2) := by decide +kernel
theorem dX1_fillBetween_32 : decode cX1_fillBetween 32 = .ok (.iload_n 1, 1) := by decide +kernel
theorem dX1_fillBetween_33 : decode cX1_fillBetween 33 = .ok (.isub, 1) := by decide +kernel
theorem dX1_fillBetween_34 : decode cX1_fillBetween 34 = .ok (.i2l, 1) := by decide +kernel
theorem dX1_fillBetween_35 : decode cX1_fillBetween 35 = .ok (.iload_n 2, 1) := by decide +kernel
theorem dX1_fillBetween_36 : decode cX1_fillBetween 36 = .ok (.iload_n 1, 1) := by decide +kernel
theorem dX1_fillBetween_37 : decode cX1_fillBetween 37 = .ok (.isub, 1) := by decide +kernel
theorem dX1_fillBetween_38 : decode cX1_fillBetween 38 = .ok (.i2l, 1) := by decide +kernel
theorem dX1_fillBetween_39 : decode cX1_fillBetween 39 = .ok (.invokestatic 37, 3) := by decide +kernel
theorem dX1_fillBetween_42 : decode cX1_fillBetween 42 = .ok (.iconst 3, 1) := by decide +kernel
theorem dX1_fillBetween_43 : decode cX1_fillBetween 43 = .ok (.invokevirtual 41, 3) := by decide +kernel
theorem dX1_fillBetween_46 : decode cX1_fillBetween 46 = .ok (.iinc 7 1, 3) := by decide +kernel
theorem dX1_fillBetween_49 : decode cX1_fillBetween 49 = .ok (.goto (-31), 3) := by decide +kernel
theorem dX1_fillBetween_52 : decode cX1_fillBetween 52 = .ok (.return_, 1) := by decide +kernel
set_option maxRecDepth 20000 in
theorem ggX1_daysWithFlow_X1_hasFlow : GoodIn wsX1_daysWithFlow wsX1_hasFlow := goodIn_r _ [5, 6, 7, 8, 4, 9, 10, 11, 12] (by decide +kernel) (by decide +kernel)
set_option maxRecDepth 20000 in
theorem gX1_daysWithFlow_X1_hasFlow : GoodIn wsX1_daysWithFlow (wsV RX1 25 RX1 yX1_hasFlow wsX1_hasFlow) := goodIn_app (goodIn_of _ (by decide +kernel)) ggX1_daysWithFlow_X1_hasFlow
theorem dX1_daysWithFlow_0 : decode cX1_daysWithFlow 0 = .ok (.iconst 0, 1) := by decide +kernel
theorem dX1_daysWithFlow_1 : decode cX1_daysWithFlow 1 = .ok (.istore_n 3, 1) := by decide +kernel
theorem dX1_daysWithFlow_2 : decode cX1_daysWithFlow 2 = .ok (.iload_n 1, 1) := by decide +kernel
theorem dX1_daysWithFlow_3 : decode cX1_daysWithFlow 3 = .ok (.istore 4, 2) := by decide +kernel
theorem dX1_daysWithFlow_5 : decode cX1_daysWithFlow 5 = .ok (.iload 4, 2) := by decide +kernel
theorem dX1_daysWithFlow_7 : decode cX1_daysWithFlow 7 = .ok (.iload_n 2, 1) := by decide +kernel
theorem dX1_daysWithFlow_8 : decode cX1_daysWithFlow 8 = .ok (.if_icmp .gt 21, 3) := by decide +kernel
theorem dX1_daysWithFlow_11 : decode cX1_daysWithFlow 11 = .ok (.aload_n 0, 1) := by decide +kernel
theorem dX1_daysWithFlow_12 : decode cX1_daysWithFlow 12 = .ok (.iload 4, 2) := by decide +kernel
theorem dX1_daysWithFlow_14 : decode cX1_daysWithFlow 14 = .ok (.invokevirtual 25, 3) := by decide +kernel
theorem dX1_daysWithFlow_17 : decode cX1_daysWithFlow 17 = .ok (.ifCond .eq 6, 3) := by decide +kernel
theorem dX1_daysWithFlow_20 : decode cX1_daysWithFlow 20 = .ok (.iinc 3 1, 3) := by decide +kernel
theorem dX1_daysWithFlow_23 : decode cX1_daysWithFlow 23 = .ok (.iinc 4 1, 3) := by decide +kernel
theorem dX1_daysWithFlow_26 : decode cX1_daysWithFlow 26 = .ok (.goto (-21), 3) := by decide +kernel
theorem dX1_daysWithFlow_29 : decode cX1_daysWithFlow 29 = .ok (.iload_n 3, 1) := by decide +kernel
theorem dX1_daysWithFlow_30 : decode cX1_daysWithFlow 30 = .ok (.ireturn, 1) := by decide +kernel
set_option maxRecDepth 20000 in
theorem ggX1_total_X1_hasFlow : GoodIn wsX1_total wsX1_hasFlow := goodIn_r _ [5, 6, 7, 8, 4, 9, 10, 17, 18] (by decide +kernel) (by decide +kernel)
set_option maxRecDepth 20000 in
theorem gX1_total_X1_hasFlow : GoodIn wsX1_total (wsV RX1 25 RX1 yX1_hasFlow wsX1_hasFlow) := goodIn_app (goodIn_of _ (by decide +kernel)) ggX1_total_X1_hasFlow
set_option maxRecDepth 20000 in
theorem ggX1_total_X1_flowOn : GoodIn wsX1_total wsX1_flowOn := goodIn_r _ [14, 15, 16, 17, 18] (by decide +kernel) (by decide +kernel)
set_option maxRecDepth 20000 in
theorem gX1_total_X1_flowOn : GoodIn wsX1_total (wsV RX1 33 RX1 yX1_flowOn wsX1_flowOn) := goodIn_app (goodIn_of _ (by decide +kernel)) ggX1_total_X1_flowOn
theorem dX1_total_0 : decode cX1_total 0 = .ok (.lconst 0, 1) := by decide +kernel
theorem dX1_total_1 : decode cX1_total 1 = .ok (.lstore_n 3, 1) := by decide +kernel
theorem dX1_total_2 : decode cX1_total 2 = .ok (.iload_n 1, 1) := by decide +kernel
theorem dX1_total_3 : decode cX1_total 3 = .ok (.istore 5, 2) := by decide +kernel
theorem dX1_total_5 : decode cX1_total 5 = .ok (.iload 5, 2) := by decide +kernel
theorem dX1_total_7 : decode cX1_total 7 = .ok (.iload_n 2, 1) := by decide +kernel
theorem dX1_total_8 : decode cX1_total 8 = .ok (.if_icmp .gt 27, 3) := by decide +kernel
theorem dX1_total_11 : decode cX1_total 11 = .ok (.aload_n 0, 1) := by decide +kernel
theorem dX1_total_12 : decode cX1_total 12 = .ok (.iload 5, 2) := by decide +kernel
theorem dX1_total_14 : decode cX1_total 14 = .ok (.invokevirtual 25, 3) := by decide +kernel
theorem dX1_total_17 : decode cX1_total 17 = .ok (.ifCond .eq 12, 3) := by decide +kernel
theorem dX1_total_20 : decode cX1_total 20 = .ok (.lload_n 3, 1) := by decide +kernel
theorem dX1_total_21 : decode cX1_total 21 = .ok (.aload_n 0, 1) := by decide +kernel
theorem dX1_total_22 : decode cX1_total 22 = .ok (.iload 5, 2) := by decide +kernel
theorem dX1_total_24 : decode cX1_total 24 = .ok (.invokevirtual 33, 3) := by decide +kernel
theorem dX1_total_27 : decode cX1_total 27 = .ok (.ladd, 1) := by decide +kernel
theorem dX1_total_28 : decode cX1_total 28 = .ok (.lstore_n 3, 1) := by decide +kernel
theorem dX1_total_29 : decode cX1_total 29 = .ok (.iinc 5 1, 3) := by decide +kernel
theorem dX1_total_32 : decode cX1_total 32 = .ok (.goto (-27), 3) := by decide +kernel
theorem dX1_total_35 : decode cX1_total 35 = .ok (.lload_n 3, 1) := by decide +kernel
theorem dX1_total_36 : decode cX1_total 36 = .ok (.lreturn, 1) := by decide +kernel
set_option maxRecDepth 20000 in
theorem ggX1_greatestDay_X1_hasFlow : GoodIn wsX1_greatestDay wsX1_hasFlow := goodIn_r _ [5, 6, 7, 8, 4, 9, 10, 17, 18] (by decide +kernel) (by decide +kernel)
set_option maxRecDepth 20000 in
theorem gX1_greatestDay_X1_hasFlow : GoodIn wsX1_greatestDay (wsV RX1 25 RX1 yX1_hasFlow wsX1_hasFlow) := goodIn_app (goodIn_of _ (by decide +kernel)) ggX1_greatestDay_X1_hasFlow
set_option maxRecDepth 20000 in
theorem ggX1_greatestDay_X1_flowOn : GoodIn wsX1_greatestDay wsX1_flowOn := goodIn_r _ [14, 15, 16, 17, 18] (by decide +kernel) (by decide +kernel)
set_option maxRecDepth 20000 in
theorem gX1_greatestDay_X1_flowOn : GoodIn wsX1_greatestDay (wsV RX1 33 RX1 yX1_flowOn wsX1_flowOn) := goodIn_app (goodIn_of _ (by decide +kernel)) ggX1_greatestDay_X1_flowOn
theorem dX1_greatestDay_0 : decode cX1_greatestDay 0 = .ok (.iconst (-1), 1) := by decide +kernel
theorem dX1_greatestDay_1 : decode cX1_greatestDay 1 = .ok (.istore_n 3, 1) := by decide +kernel
theorem dX1_greatestDay_2 : decode cX1_greatestDay 2 = .ok (.iload_n 1, 1) := by decide +kernel
theorem dX1_greatestDay_3 : decode cX1_greatestDay 3 = .ok (.istore 4, 2) := by decide +kernel
theorem dX1_greatestDay_5 : decode cX1_greatestDay 5 = .ok (.iload 4, 2) := by decide +kernel
theorem dX1_greatestDay_7 : decode cX1_greatestDay 7 = .ok (.iload_n 2, 1) := by decide +kernel
theorem dX1_greatestDay_8 : decode cX1_greatestDay 8 = .ok (.if_icmp .gt 36, 3) := by decide +kernel
theorem dX1_greatestDay_11 : decode cX1_greatestDay 11 = .ok (.aload_n 0, 1) := by decide +kernel
theorem dX1_greatestDay_12 : decode cX1_greatestDay 12 = .ok (.iload 4, 2) := by decide +kernel
theorem dX1_greatestDay_14 : decode cX1_greatestDay 14 = .ok (.invokevirtual 25, 3) := by decide +kernel
theorem dX1_greatestDay_17 : decode cX1_greatestDay 17 = .ok (.ifCond .eq 21, 3) := by decide +kernel
theorem dX1_greatestDay_20 : decode cX1_greatestDay 20 = .ok (.aload_n 0, 1) := by decide +kernel
theorem dX1_greatestDay_21 : decode cX1_greatestDay 21 = .ok (.iload 4, 2) := by decide +kernel
theorem dX1_greatestDay_23 : decode cX1_greatestDay 23 = .ok (.invokevirtual 33, 3) := by decide +kernel
theorem dX1_greatestDay_26 : decode cX1_greatestDay 26 = .ok (.aload_n 0, 1) := by decide +kernel
theorem dX1_greatestDay_27 : decode cX1_greatestDay 27 = .ok (.iload_n 3, 1) := by decide +kernel
theorem dX1_greatestDay_28 : decode cX1_greatestDay 28 = .ok (.invokevirtual 33, 3) := by decide +kernel
theorem dX1_greatestDay_31 : decode cX1_greatestDay 31 = .ok (.lcmp, 1) := by decide +kernel
theorem dX1_greatestDay_32 : decode cX1_greatestDay 32 = .ok (.ifCond .le 6, 3) := by decide +kernel
theorem dX1_greatestDay_35 : decode cX1_greatestDay 35 = .ok (.iload 4, 2) := by decide +kernel
theorem dX1_greatestDay_37 : decode cX1_greatestDay 37 = .ok (.istore_n 3, 1) := by decide +kernel
theorem dX1_greatestDay_38 : decode cX1_greatestDay 38 = .ok (.iinc 4 1, 3) := by decide +kernel
theorem dX1_greatestDay_41 : decode cX1_greatestDay 41 = .ok (.goto (-36), 3) := by decide +kernel
theorem dX1_greatestDay_44 : decode cX1_greatestDay 44 = .ok (.iload_n 3, 1) := by decide +kernel
theorem dX1_greatestDay_45 : decode cX1_greatestDay 45 = .ok (.ireturn, 1) := by decide +kernel
set_option maxRecDepth 20000 in
theorem ggX1_leastFlow_X1_hasFlow : GoodIn wsX1_leastFlow wsX1_hasFlow := goodIn_r _ [6, 7, 8, 9, 5, 10, 11, 17, 18] (by decide +kernel) (by decide +kernel)
set_option maxRecDepth 20000 in
theorem gX1_leastFlow_X1_hasFlow : GoodIn wsX1_leastFlow (wsV RX1 25 RX1 yX1_hasFlow wsX1_hasFlow) := goodIn_app (goodIn_of _ (by decide +kernel)) ggX1_leastFlow_X1_hasFlow
set_option maxRecDepth 20000 in
theorem ggX1_leastFlow_X1_flowOn : GoodIn wsX1_leastFlow wsX1_flowOn := goodIn_r _ [15, 1, 16, 17, 18] (by decide +kernel) (by decide +kernel)
set_option maxRecDepth 20000 in
theorem gX1_leastFlow_X1_flowOn : GoodIn wsX1_leastFlow (wsV RX1 33 RX1 yX1_flowOn wsX1_flowOn) := goodIn_app (goodIn_of _ (by decide +kernel)) ggX1_leastFlow_X1_flowOn
theorem dX1_leastFlow_0 : decode cX1_leastFlow 0 = .ok (.ldc2_w 19, 3) := by decide +kernel
theorem dX1_leastFlow_3 : decode cX1_leastFlow 3 = .ok (.lstore_n 3, 1) := by decide +kernel
theorem dX1_leastFlow_4 : decode cX1_leastFlow 4 = .ok (.iload_n 1, 1) := by decide +kernel
theorem dX1_leastFlow_5 : decode cX1_leastFlow 5 = .ok (.istore 5, 2) := by decide +kernel
theorem dX1_leastFlow_7 : decode cX1_leastFlow 7 = .ok (.iload 5, 2) := by decide +kernel
theorem dX1_leastFlow_9 : decode cX1_leastFlow 9 = .ok (.iload_n 2, 1) := by decide +kernel
theorem dX1_leastFlow_10 : decode cX1_leastFlow 10 = .ok (.if_icmp .gt 44, 3) := by decide +kernel
theorem dX1_leastFlow_13 : decode cX1_leastFlow 13 = .ok (.aload_n 0, 1) := by decide +kernel
theorem dX1_leastFlow_14 : decode cX1_leastFlow 14 = .ok (.iload 5, 2) := by decide +kernel
theorem dX1_leastFlow_16 : decode cX1_leastFlow 16 = .ok (.invokevirtual 25, 3) := by decide +kernel
theorem dX1_leastFlow_19 : decode cX1_leastFlow 19 = .ok (.ifCond .eq 29, 3) := by decide +kernel
theorem dX1_leastFlow_22 : decode cX1_leastFlow 22 = .ok (.lload_n 3, 1) := by decide +kernel
theorem dX1_leastFlow_23 : decode cX1_leastFlow 23 = .ok (.ldc2_w 19, 3) := by decide +kernel
theorem dX1_leastFlow_26 : decode cX1_leastFlow 26 = .ok (.lcmp, 1) := by decide +kernel
theorem dX1_leastFlow_27 : decode cX1_leastFlow 27 = .ok (.ifCond .eq 14, 3) := by decide +kernel
theorem dX1_leastFlow_30 : decode cX1_leastFlow 30 = .ok (.aload_n 0, 1) := by decide +kernel
theorem dX1_leastFlow_31 : decode cX1_leastFlow 31 = .ok (.iload 5, 2) := by decide +kernel
theorem dX1_leastFlow_33 : decode cX1_leastFlow 33 = .ok (.invokevirtual 33, 3) := by decide +kernel
theorem dX1_leastFlow_36 : decode cX1_leastFlow 36 = .ok (.lload_n 3, 1) := by decide +kernel
theorem dX1_leastFlow_37 : decode cX1_leastFlow 37 = .ok (.lcmp, 1) := by decide +kernel
theorem dX1_leastFlow_38 : decode cX1_leastFlow 38 = .ok (.ifCond .ge 10, 3) := by decide +kernel
theorem dX1_leastFlow_41 : decode cX1_leastFlow 41 = .ok (.aload_n 0, 1) := by decide +kernel
theorem dX1_leastFlow_42 : decode cX1_leastFlow 42 = .ok (.iload 5, 2) := by decide +kernel
theorem dX1_leastFlow_44 : decode cX1_leastFlow 44 = .ok (.invokevirtual 33, 3) := by decide +kernel
theorem dX1_leastFlow_47 : decode cX1_leastFlow 47 = .ok (.lstore_n 3, 1) := by decide +kernel
theorem dX1_leastFlow_48 : decode cX1_leastFlow 48 = .ok (.iinc 5 1, 3) := by decide +kernel
theorem dX1_leastFlow_51 : decode cX1_leastFlow 51 = .ok (.goto (-44), 3) := by decide +kernel
theorem dX1_leastFlow_54 : decode cX1_leastFlow 54 = .ok (.lload_n 3, 1) := by decide +kernel
theorem dX1_leastFlow_55 : decode cX1_leastFlow 55 = .ok (.lreturn, 1) := by decide +kernel
theorem dX3_init_0 : decode cX3_init 0 = .ok (.aload_n 0, 1) := by decide +kernel
theorem dX3_init_1 : decode cX3_init 1 = .ok (.invokespecial 3, 3) := by decide +kernel
theorem dX3_init_4 : decode cX3_init 4 = .ok (.aload_n 0, 1) := by decide +kernel
theorem dX3_init_5 : decode cX3_init 5 = .ok (.sipush 400, 3) := by decide +kernel
theorem dX3_init_8 : decode cX3_init 8 = .ok (.newarray .int, 2) := by decide +kernel
theorem dX3_init_10 : decode cX3_init 10 = .ok (.putfield 9, 3) := by decide +kernel
theorem dX3_init_13 : decode cX3_init 13 = .ok (.aload_n 0, 1) := by decide +kernel
theorem dX3_init_14 : decode cX3_init 14 = .ok (.sipush 400, 3) := by decide +kernel
theorem dX3_init_17 : decode cX3_init 17 = .ok (.newarray .int, 2) := by decide +kernel
theorem dX3_init_19 : decode cX3_init 19 = .ok (.putfield 15, 3) := by decide +kernel
theorem dX3_init_22 : decode cX3_init 22 = .ok (.aload_n 0, 1) := by decide +kernel
theorem dX3_init_23 : decode cX3_init 23 = .ok (.sipush 400, 3) := by decide +kernel
theorem dX3_init_26 : decode cX3_init 26 = .ok (.newarray .boolean, 2) := by decide +kernel
theorem dX3_init_28 : decode cX3_init 28 = .ok (.putfield 18, 3) := by decide +kernel
theorem dX3_init_31 : decode cX3_init 31 = .ok (.return_, 1) := by decide +kernel
theorem dX3_size_0 : decode cX3_size 0 = .ok (.aload_n 0, 1) := by decide +kernel
theorem dX3_size_1 : decode cX3_size 1 = .ok (.getfield 22, 3) := by decide +kernel
theorem dX3_size_4 : decode cX3_size 4 = .ok (.ireturn, 1) := by decide +kernel
theorem dX3_dayOfRank_0 : decode cX3_dayOfRank 0 = .ok (.iload_n 1, 1) := by decide +kernel
theorem dX3_dayOfRank_1 : decode cX3_dayOfRank 1 = .ok (.iconst 1, 1) := by decide +kernel
theorem dX3_dayOfRank_2 : decode cX3_dayOfRank 2 = .ok (.if_icmp .lt 11, 3) := by decide +kernel
theorem dX3_dayOfRank_5 : decode cX3_dayOfRank 5 = .ok (.iload_n 1, 1) := by decide +kernel
theorem dX3_dayOfRank_6 : decode cX3_dayOfRank 6 = .ok (.aload_n 0, 1) := by decide +kernel
theorem dX3_dayOfRank_7 : decode cX3_dayOfRank 7 = .ok (.getfield 22, 3) := by decide +kernel
theorem dX3_dayOfRank_10 : decode cX3_dayOfRank 10 = .ok (.if_icmp .le 7, 3) := by decide +kernel
theorem dX3_dayOfRank_13 : decode cX3_dayOfRank 13 = .ok (.iconst (-1), 1) := by decide +kernel
theorem dX3_dayOfRank_14 : decode cX3_dayOfRank 14 = .ok (.goto 11, 3) := by decide +kernel
theorem dX3_dayOfRank_17 : decode cX3_dayOfRank 17 = .ok (.aload_n 0, 1) := by decide +kernel
theorem dX3_dayOfRank_18 : decode cX3_dayOfRank 18 = .ok (.getfield 9, 3) := by decide +kernel
theorem dX3_dayOfRank_21 : decode cX3_dayOfRank 21 = .ok (.iload_n 1, 1) := by decide +kernel
theorem dX3_dayOfRank_22 : decode cX3_dayOfRank 22 = .ok (.iconst 1, 1) := by decide +kernel
theorem dX3_dayOfRank_23 : decode cX3_dayOfRank 23 = .ok (.isub, 1) := by decide +kernel
theorem dX3_dayOfRank_24 : decode cX3_dayOfRank 24 = .ok (.iaload, 1) := by decide +kernel
theorem dX3_dayOfRank_25 : decode cX3_dayOfRank 25 = .ok (.ireturn, 1) := by decide +kernel
set_option maxRecDepth 20000 in
theorem ggX3_rank_X1_hasFlow : GoodIn wsX3_rank wsX1_hasFlow := goodIn_r _ [7, 8, 9, 10, 6, 11, 12, 41, 42] (by decide +kernel) (by decide +kernel)
set_option maxRecDepth 20000 in
theorem gX3_rank_X1_hasFlow : GoodIn wsX3_rank (wsV RX3 26 RX1 yX1_hasFlow wsX1_hasFlow) := goodIn_app (goodIn_of _ (by decide +kernel)) ggX3_rank_X1_hasFlow
set_option maxRecDepth 20000 in
theorem ggX3_rank_X3_mergeRuns : GoodIn wsX3_rank wsX3_mergeRuns := goodIn_r _ [17, 1, 18, 19, 20, 21, 22, 2, 23, 24, 25, 26, 27, 28, 29, 16, 30, 31, 32, 33, 6, 34, 35, 36, 37, 38, 39, 40, 41, 42] (by decide +kernel) (by decide +kernel)
set_option maxRecDepth 20000 in
theorem gX3_rank_X3_mergeRuns : GoodIn wsX3_rank (wsV RX3 32 RX3 yX3_mergeRuns wsX3_mergeRuns) := goodIn_app (goodIn_of _ (by decide +kernel)) ggX3_rank_X3_mergeRuns
theorem dX3_rank_0 : decode cX3_rank 0 = .ok (.aload_n 0, 1) := by decide +kernel
theorem dX3_rank_1 : decode cX3_rank 1 = .ok (.iconst 0, 1) := by decide +kernel
theorem dX3_rank_2 : decode cX3_rank 2 = .ok (.putfield 22, 3) := by decide +kernel
theorem dX3_rank_5 : decode cX3_rank 5 = .ok (.iconst 0, 1) := by decide +kernel
theorem dX3_rank_6 : decode cX3_rank 6 = .ok (.istore_n 2, 1) := by decide +kernel
theorem dX3_rank_7 : decode cX3_rank 7 = .ok (.iload_n 2, 1) := by decide +kernel
theorem dX3_rank_8 : decode cX3_rank 8 = .ok (.sipush 400, 3) := by decide +kernel
theorem dX3_rank_11 : decode cX3_rank 11 = .ok (.if_icmp .ge 37, 3) := by decide +kernel
theorem dX3_rank_14 : decode cX3_rank 14 = .ok (.aload_n 1, 1) := by decide +kernel
theorem dX3_rank_15 : decode cX3_rank 15 = .ok (.iload_n 2, 1) := by decide +kernel
theorem dX3_rank_16 : decode cX3_rank 16 = .ok (.invokevirtual 26, 3) := by decide +kernel
theorem dX3_rank_19 : decode cX3_rank 19 = .ok (.ifCond .eq 23, 3) := by decide +kernel
theorem dX3_rank_22 : decode cX3_rank 22 = .ok (.aload_n 0, 1) := by decide +kernel
theorem dX3_rank_23 : decode cX3_rank 23 = .ok (.getfield 9, 3) := by decide +kernel
theorem dX3_rank_26 : decode cX3_rank 26 = .ok (.aload_n 0, 1) := by decide +kernel
theorem dX3_rank_27 : decode cX3_rank 27 = .ok (.getfield 22, 3) := by decide +kernel
theorem dX3_rank_30 : decode cX3_rank 30 = .ok (.iload_n 2, 1) := by decide +kernel
theorem dX3_rank_31 : decode cX3_rank 31 = .ok (.iastore, 1) := by decide +kernel
theorem dX3_rank_32 : decode cX3_rank 32 = .ok (.aload_n 0, 1) := by decide +kernel
theorem dX3_rank_33 : decode cX3_rank 33 = .ok (.dup, 1) := by decide +kernel
theorem dX3_rank_34 : decode cX3_rank 34 = .ok (.getfield 22, 3) := by decide +kernel
theorem dX3_rank_37 : decode cX3_rank 37 = .ok (.iconst 1, 1) := by decide +kernel
theorem dX3_rank_38 : decode cX3_rank 38 = .ok (.iadd, 1) := by decide +kernel
theorem dX3_rank_39 : decode cX3_rank 39 = .ok (.putfield 22, 3) := by decide +kernel
theorem dX3_rank_42 : decode cX3_rank 42 = .ok (.iinc 2 1, 3) := by decide +kernel
theorem dX3_rank_45 : decode cX3_rank 45 = .ok (.goto (-38), 3) := by decide +kernel
theorem dX3_rank_48 : decode cX3_rank 48 = .ok (.iconst 1, 1) := by decide +kernel
theorem dX3_rank_49 : decode cX3_rank 49 = .ok (.istore_n 2, 1) := by decide +kernel
theorem dX3_rank_50 : decode cX3_rank 50 = .ok (.iload_n 2, 1) := by decide +kernel
theorem dX3_rank_51 : decode cX3_rank 51 = .ok (.aload_n 0, 1) := by decide +kernel
theorem dX3_rank_52 : decode cX3_rank 52 = .ok (.getfield 22, 3) := by decide +kernel
theorem dX3_rank_55 : decode cX3_rank 55 = .ok (.if_icmp .ge 16, 3) := by decide +kernel
theorem dX3_rank_58 : decode cX3_rank 58 = .ok (.aload_n 0, 1) := by decide +kernel
theorem dX3_rank_59 : decode cX3_rank 59 = .ok (.aload_n 1, 1) := by decide +kernel
theorem dX3_rank_60 : decode cX3_rank 60 = .ok (.iload_n 2, 1) := by decide +kernel
theorem dX3_rank_61 : decode cX3_rank 61 = .ok (.invokevirtual 32, 3) := by decide +kernel
theorem dX3_rank_64 : decode cX3_rank 64 = .ok (.iload_n 2, 1) := by decide +kernel
theorem dX3_rank_65 : decode cX3_rank 65 = .ok (.iconst 2, 1) := by decide +kernel
theorem dX3_rank_66 : decode cX3_rank 66 = .ok (.imul, 1) := by decide +kernel
theorem dX3_rank_67 : decode cX3_rank 67 = .ok (.istore_n 2, 1) := by decide +kernel
theorem dX3_rank_68 : decode cX3_rank 68 = .ok (.goto (-18), 3) := by decide +kernel
theorem dX3_rank_71 : decode cX3_rank 71 = .ok (.return_, 1) := by decide +kernel
set_option maxRecDepth 20000 in
theorem ggX3_countPeaks_X3_clearPeaks : GoodIn wsX3_countPeaks wsX3_clearPeaks := goodIn_r _ [7, 2, 31, 32, 33, 34] (by decide +kernel) (by decide +kernel)
set_option maxRecDepth 20000 in
theorem gX3_countPeaks_X3_clearPeaks : GoodIn wsX3_countPeaks (wsV RX3 36 RX3 yX3_clearPeaks wsX3_clearPeaks) := goodIn_app (goodIn_of _ (by decide +kernel)) ggX3_countPeaks_X3_clearPeaks
set_option maxRecDepth 20000 in
theorem ggX3_countPeaks_X3_dayOfRank : GoodIn wsX3_countPeaks wsX3_dayOfRank := goodIn_r _ [11, 1, 12, 31, 32, 33, 34] (by decide +kernel) (by decide +kernel)
set_option maxRecDepth 20000 in
theorem gX3_countPeaks_X3_dayOfRank : GoodIn wsX3_countPeaks (wsV RX3 39 RX3 yX3_dayOfRank wsX3_dayOfRank) := goodIn_app (goodIn_of _ (by decide +kernel)) ggX3_countPeaks_X3_dayOfRank
set_option maxRecDepth 20000 in
theorem ggX3_countPeaks_X1_flowOn : GoodIn wsX3_countPeaks wsX1_flowOn := goodIn_r _ [17, 18, 19, 35, 36] (by decide +kernel) (by decide +kernel)
set_option maxRecDepth 20000 in
theorem gX3_countPeaks_X1_flowOn : GoodIn wsX3_countPeaks (wsV RX3 43 RX1 yX1_flowOn wsX1_flowOn) := goodIn_app (goodIn_of _ (by decide +kernel)) ggX3_countPeaks_X1_flowOn
set_option maxRecDepth 20000 in
theorem ggX3_countPeaks_X3_markNear : GoodIn wsX3_countPeaks wsX3_markNear := goodIn_r _ [23, 24, 25, 26, 27, 28, 29, 30, 2, 31, 32, 33, 34] (by decide +kernel) (by decide +kernel)
set_option maxRecDepth 20000 in
theorem gX3_countPeaks_X3_markNear : GoodIn wsX3_countPeaks (wsV RX3 47 RX3 yX3_markNear wsX3_markNear) := goodIn_app (goodIn_of _ (by decide +kernel)) ggX3_countPeaks_X3_markNear
theorem dX3_countPeaks_0 : decode cX3_countPeaks 0 = .ok (.aload_n 0, 1) := by decide +kernel
theorem dX3_countPeaks_1 : decode cX3_countPeaks 1 = .ok (.invokevirtual 36, 3) := by decide +kernel
theorem dX3_countPeaks_4 : decode cX3_countPeaks 4 = .ok (.iconst 0, 1) := by decide +kernel
theorem dX3_countPeaks_5 : decode cX3_countPeaks 5 = .ok (.istore 5, 2) := by decide +kernel
theorem dX3_countPeaks_7 : decode cX3_countPeaks 7 = .ok (.iconst 1, 1) := by decide +kernel
theorem dX3_countPeaks_8 : decode cX3_countPeaks 8 = .ok (.istore 6, 2) := by decide +kernel
theorem dX3_countPeaks_10 : decode cX3_countPeaks 10 = .ok (.iload 6, 2) := by decide +kernel
theorem dX3_countPeaks_12 : decode cX3_countPeaks 12 = .ok (.aload_n 0, 1) := by decide +kernel
theorem dX3_countPeaks_13 : decode cX3_countPeaks 13 = .ok (.getfield 22, 3) := by decide +kernel
theorem dX3_countPeaks_16 : decode cX3_countPeaks 16 = .ok (.if_icmp .gt 52, 3) := by decide +kernel
theorem dX3_countPeaks_19 : decode cX3_countPeaks 19 = .ok (.aload_n 0, 1) := by decide +kernel
theorem dX3_countPeaks_20 : decode cX3_countPeaks 20 = .ok (.iload 6, 2) := by decide +kernel
theorem dX3_countPeaks_22 : decode cX3_countPeaks 22 = .ok (.invokevirtual 39, 3) := by decide +kernel
theorem dX3_countPeaks_25 : decode cX3_countPeaks 25 = .ok (.istore 7, 2) := by decide +kernel
theorem dX3_countPeaks_27 : decode cX3_countPeaks 27 = .ok (.aload_n 1, 1) := by decide +kernel
theorem dX3_countPeaks_28 : decode cX3_countPeaks 28 = .ok (.iload 7, 2) := by decide +kernel
theorem dX3_countPeaks_30 : decode cX3_countPeaks 30 = .ok (.invokevirtual 43, 3) := by decide +kernel
theorem dX3_countPeaks_33 : decode cX3_countPeaks 33 = .ok (.lload_n 2, 1) := by decide +kernel
theorem dX3_countPeaks_34 : decode cX3_countPeaks 34 = .ok (.lcmp, 1) := by decide +kernel
theorem dX3_countPeaks_35 : decode cX3_countPeaks 35 = .ok (.ifCond .ge 6, 3) := by decide +kernel
theorem dX3_countPeaks_38 : decode cX3_countPeaks 38 = .ok (.goto 30, 3) := by decide +kernel
theorem dX3_countPeaks_41 : decode cX3_countPeaks 41 = .ok (.aload_n 0, 1) := by decide +kernel
theorem dX3_countPeaks_42 : decode cX3_countPeaks 42 = .ok (.getfield 18, 3) := by decide +kernel
theorem dX3_countPeaks_45 : decode cX3_countPeaks 45 = .ok (.iload 7, 2) := by decide +kernel
theorem dX3_countPeaks_47 : decode cX3_countPeaks 47 = .ok (.baload, 1) := by decide +kernel
theorem dX3_countPeaks_48 : decode cX3_countPeaks 48 = .ok (.ifCond .ne 14, 3) := by decide +kernel
theorem dX3_countPeaks_51 : decode cX3_countPeaks 51 = .ok (.iinc 5 1, 3) := by decide +kernel
theorem dX3_countPeaks_54 : decode cX3_countPeaks 54 = .ok (.aload_n 0, 1) := by decide +kernel
theorem dX3_countPeaks_55 : decode cX3_countPeaks 55 = .ok (.iload 7, 2) := by decide +kernel
theorem dX3_countPeaks_57 : decode cX3_countPeaks 57 = .ok (.iload 4, 2) := by decide +kernel
theorem dX3_countPeaks_59 : decode cX3_countPeaks 59 = .ok (.invokevirtual 47, 3) := by decide +kernel
theorem dX3_countPeaks_62 : decode cX3_countPeaks 62 = .ok (.iinc 6 1, 3) := by decide +kernel
theorem dX3_countPeaks_65 : decode cX3_countPeaks 65 = .ok (.goto (-55), 3) := by decide +kernel
theorem dX3_countPeaks_68 : decode cX3_countPeaks 68 = .ok (.iload 5, 2) := by decide +kernel
theorem dX3_countPeaks_70 : decode cX3_countPeaks 70 = .ok (.ireturn, 1) := by decide +kernel
set_option maxRecDepth 20000 in
theorem ggX3_mergeRuns_X3_merge : GoodIn wsX3_mergeRuns wsX3_merge := goodIn_r _ [16, 7, 6, 17, 18, 19, 20, 21, 22, 23, 24, 25, 26, 27, 28, 29] (by decide +kernel) (by decide +kernel)
set_option maxRecDepth 20000 in
theorem gX3_mergeRuns_X3_merge : GoodIn wsX3_mergeRuns (wsV RX3 57 RX3 yX3_merge wsX3_merge) := goodIn_app (goodIn_of _ (by decide +kernel)) ggX3_mergeRuns_X3_merge
theorem dX3_mergeRuns_0 : decode cX3_mergeRuns 0 = .ok (.iconst 0, 1) := by decide +kernel
theorem dX3_mergeRuns_1 : decode cX3_mergeRuns 1 = .ok (.istore_n 3, 1) := by decide +kernel
theorem dX3_mergeRuns_2 : decode cX3_mergeRuns 2 = .ok (.iload_n 3, 1) := by decide +kernel
theorem dX3_mergeRuns_3 : decode cX3_mergeRuns 3 = .ok (.aload_n 0, 1) := by decide +kernel
theorem dX3_mergeRuns_4 : decode cX3_mergeRuns 4 = .ok (.getfield 22, 3) := by decide +kernel
theorem dX3_mergeRuns_7 : decode cX3_mergeRuns 7 = .ok (.if_icmp .ge 48, 3) := by decide +kernel
theorem dX3_mergeRuns_10 : decode cX3_mergeRuns 10 = .ok (.iload_n 3, 1) := by decide +kernel
theorem dX3_mergeRuns_11 : decode cX3_mergeRuns 11 = .ok (.iload_n 2, 1) := by decide +kernel
theorem dX3_mergeRuns_12 : decode cX3_mergeRuns 12 = .ok (.iadd, 1) := by decide +kernel
theorem dX3_mergeRuns_13 : decode cX3_mergeRuns 13 = .ok (.aload_n 0, 1) := by decide +kernel
theorem dX3_mergeRuns_14 : decode cX3_mergeRuns 14 = .ok (.getfield 22, 3) := by decide +kernel
theorem dX3_mergeRuns_17 : decode cX3_mergeRuns 17 = .ok (.invokestatic 51, 3) := by decide +kernel
theorem dX3_mergeRuns_20 : decode cX3_mergeRuns 20 = .ok (.istore 4, 2) := by decide +kernel
theorem dX3_mergeRuns_22 : decode cX3_mergeRuns 22 = .ok (.iload_n 3, 1) := by decide +kernel
theorem dX3_mergeRuns_23 : decode cX3_mergeRuns 23 = .ok (.iconst 2, 1) := by decide +kernel
theorem dX3_mergeRuns_24 : decode cX3_mergeRuns 24 = .ok (.iload_n 2, 1) := by decide +kernel
theorem dX3_mergeRuns_25 : decode cX3_mergeRuns 25 = .ok (.imul, 1) := by decide +kernel
theorem dX3_mergeRuns_26 : decode cX3_mergeRuns 26 = .ok (.iadd, 1) := by decide +kernel
theorem dX3_mergeRuns_27 : decode cX3_mergeRuns 27 = .ok (.aload_n 0, 1) := by decide +kernel
theorem dX3_mergeRuns_28 : decode cX3_mergeRuns 28 = .ok (.getfield 22, 3) := by decide +kernel
theorem dX3_mergeRuns_31 : decode cX3_mergeRuns 31 = .ok (.invokestatic 51, 3) := by decide +kernel
theorem dX3_mergeRuns_34 : decode cX3_mergeRuns 34 = .ok (.istore 5, 2) := by decide +kernel
theorem dX3_mergeRuns_36 : decode cX3_mergeRuns 36 = .ok (.aload_n 0, 1) := by decide +kernel
theorem dX3_mergeRuns_37 : decode cX3_mergeRuns 37 = .ok (.aload_n 1, 1) := by decide +kernel
theorem dX3_mergeRuns_38 : decode cX3_mergeRuns 38 = .ok (.iload_n 3, 1) := by decide +kernel
theorem dX3_mergeRuns_39 : decode cX3_mergeRuns 39 = .ok (.iload 4, 2) := by decide +kernel
theorem dX3_mergeRuns_41 : decode cX3_mergeRuns 41 = .ok (.iload 5, 2) := by decide +kernel
theorem dX3_mergeRuns_43 : decode cX3_mergeRuns 43 = .ok (.invokevirtual 57, 3) := by decide +kernel
theorem dX3_mergeRuns_46 : decode cX3_mergeRuns 46 = .ok (.iload_n 3, 1) := by decide +kernel
theorem dX3_mergeRuns_47 : decode cX3_mergeRuns 47 = .ok (.iconst 2, 1) := by decide +kernel
theorem dX3_mergeRuns_48 : decode cX3_mergeRuns 48 = .ok (.iload_n 2, 1) := by decide +kernel
theorem dX3_mergeRuns_49 : decode cX3_mergeRuns 49 = .ok (.imul, 1) := by decide +kernel
theorem dX3_mergeRuns_50 : decode cX3_mergeRuns 50 = .ok (.iadd, 1) := by decide +kernel
theorem dX3_mergeRuns_51 : decode cX3_mergeRuns 51 = .ok (.istore_n 3, 1) := by decide +kernel
theorem dX3_mergeRuns_52 : decode cX3_mergeRuns 52 = .ok (.goto (-50), 3) := by decide +kernel
theorem dX3_mergeRuns_55 : decode cX3_mergeRuns 55 = .ok (.aload_n 0, 1) := by decide +kernel
theorem dX3_mergeRuns_56 : decode cX3_mergeRuns 56 = .ok (.getfield 15, 3) := by decide +kernel
theorem dX3_mergeRuns_59 : decode cX3_mergeRuns 59 = .ok (.iconst 0, 1) := by decide +kernel
theorem dX3_mergeRuns_60 : decode cX3_mergeRuns 60 = .ok (.aload_n 0, 1) := by decide +kernel
theorem dX3_mergeRuns_61 : decode cX3_mergeRuns 61 = .ok (.getfield 9, 3) := by decide +kernel
theorem dX3_mergeRuns_64 : decode cX3_mergeRuns 64 = .ok (.iconst 0, 1) := by decide +kernel
theorem dX3_mergeRuns_65 : decode cX3_mergeRuns 65 = .ok (.aload_n 0, 1) := by decide +kernel
theorem dX3_mergeRuns_66 : decode cX3_mergeRuns 66 = .ok (.getfield 22, 3) := by decide +kernel
theorem dX3_mergeRuns_69 : decode cX3_mergeRuns 69 = .ok (.invokestatic 61, 3) := by decide +kernel
theorem dX3_mergeRuns_72 : decode cX3_mergeRuns 72 = .ok (.return_, 1) := by decide +kernel
set_option maxRecDepth 20000 in
theorem ggX3_merge_X1_flowOn : GoodIn wsX3_merge wsX1_flowOn := goodIn_r _ [7, 8, 9, 14, 15] (by decide +kernel) (by decide +kernel)
set_option maxRecDepth 20000 in
theorem gX3_merge_X1_flowOn : GoodIn wsX3_merge (wsV RX3 43 RX1 yX1_flowOn wsX1_flowOn) := goodIn_app (goodIn_of _ (by decide +kernel)) ggX3_merge_X1_flowOn
theorem dX3_merge_0 : decode cX3_merge 0 = .ok (.iload_n 2, 1) := by decide +kernel
theorem dX3_merge_1 : decode cX3_merge 1 = .ok (.istore 5, 2) := by decide +kernel
theorem dX3_merge_3 : decode cX3_merge 3 = .ok (.iload_n 3, 1) := by decide +kernel
theorem dX3_merge_4 : decode cX3_merge 4 = .ok (.istore 6, 2) := by decide +kernel
theorem dX3_merge_6 : decode cX3_merge 6 = .ok (.iload_n 2, 1) := by decide +kernel
theorem dX3_merge_7 : decode cX3_merge 7 = .ok (.istore 7, 2) := by decide +kernel
theorem dX3_merge_9 : decode cX3_merge 9 = .ok (.iload 7, 2) := by decide +kernel
theorem dX3_merge_11 : decode cX3_merge 11 = .ok (.iload 4, 2) := by decide +kernel
theorem dX3_merge_13 : decode cX3_merge 13 = .ok (.if_icmp .ge 104, 3) := by decide +kernel
theorem dX3_merge_16 : decode cX3_merge 16 = .ok (.iload 5, 2) := by decide +kernel
theorem dX3_merge_18 : decode cX3_merge 18 = .ok (.iload_n 3, 1) := by decide +kernel
theorem dX3_merge_19 : decode cX3_merge 19 = .ok (.if_icmp .ge 40, 3) := by decide +kernel
theorem dX3_merge_22 : decode cX3_merge 22 = .ok (.iload 6, 2) := by decide +kernel
theorem dX3_merge_24 : decode cX3_merge 24 = .ok (.iload 4, 2) := by decide +kernel
theorem dX3_merge_26 : decode cX3_merge 26 = .ok (.if_icmp .ge 29, 3) := by decide +kernel
theorem dX3_merge_29 : decode cX3_merge 29 = .ok (.aload_n 1, 1) := by decide +kernel
theorem dX3_merge_30 : decode cX3_merge 30 = .ok (.aload_n 0, 1) := by decide +kernel
theorem dX3_merge_31 : decode cX3_merge 31 = .ok (.getfield 9, 3) := by decide +kernel
theorem dX3_merge_34 : decode cX3_merge 34 = .ok (.iload 5, 2) := by decide +kernel
theorem dX3_merge_36 : decode cX3_merge 36 = .ok (.iaload, 1) := by decide +kernel
theorem dX3_merge_37 : decode cX3_merge 37 = .ok (.invokevirtual 43, 3) := by decide +kernel
theorem dX3_merge_40 : decode cX3_merge 40 = .ok (.aload_n 1, 1) := by decide +kernel
theorem dX3_merge_41 : decode cX3_merge 41 = .ok (.aload_n 0, 1) := by decide +kernel
theorem dX3_merge_42 : decode cX3_merge 42 = .ok (.getfield 9, 3) := by decide +kernel
theorem dX3_merge_45 : decode cX3_merge 45 = .ok (.iload 6, 2) := by decide +kernel
theorem dX3_merge_47 : decode cX3_merge 47 = .ok (.iaload, 1) := by decide +kernel
theorem dX3_merge_48 : decode cX3_merge 48 = .ok (.invokevirtual 43, 3) := by decide +kernel
theorem dX3_merge_51 : decode cX3_merge 51 = .ok (.lcmp, 1) := by decide +kernel
theorem dX3_merge_52 : decode cX3_merge 52 = .ok (.ifCond .lt 7, 3) := by decide +kernel
theorem dX3_merge_55 : decode cX3_merge 55 = .ok (.iconst 1, 1) := by decide +kernel
theorem dX3_merge_56 : decode cX3_merge 56 = .ok (.goto 4, 3) := by decide +kernel
theorem dX3_merge_59 : decode cX3_merge 59 = .ok (.iconst 0, 1) := by decide +kernel
theorem dX3_merge_60 : decode cX3_merge 60 = .ok (.istore 8, 2) := by decide +kernel
theorem dX3_merge_62 : decode cX3_merge 62 = .ok (.iload 8, 2) := by decide +kernel
theorem dX3_merge_64 : decode cX3_merge 64 = .ok (.ifCond .eq 23, 3) := by decide +kernel
theorem dX3_merge_67 : decode cX3_merge 67 = .ok (.aload_n 0, 1) := by decide +kernel
theorem dX3_merge_68 : decode cX3_merge 68 = .ok (.getfield 15, 3) := by decide +kernel
theorem dX3_merge_71 : decode cX3_merge 71 = .ok (.iload 7, 2) := by decide +kernel
theorem dX3_merge_73 : decode cX3_merge 73 = .ok (.aload_n 0, 1) := by decide +kernel
theorem dX3_merge_74 : decode cX3_merge 74 = .ok (.getfield 9, 3) := by decide +kernel
theorem dX3_merge_77 : decode cX3_merge 77 = .ok (.iload 5, 2) := by decide +kernel
theorem dX3_merge_79 : decode cX3_merge 79 = .ok (.iaload, 1) := by decide +kernel
theorem dX3_merge_80 : decode cX3_merge 80 = .ok (.iastore, 1) := by decide +kernel
theorem dX3_merge_81 : decode cX3_merge 81 = .ok (.iinc 5 1, 3) := by decide +kernel
theorem dX3_merge_84 : decode cX3_merge 84 = .ok (.goto 27, 3) := by decide +kernel
theorem dX3_merge_87 : decode cX3_merge 87 = .ok (.iload 6, 2) := by decide +kernel
theorem dX3_merge_89 : decode cX3_merge 89 = .ok (.iload 4, 2) := by decide +kernel
theorem dX3_merge_91 : decode cX3_merge 91 = .ok (.if_icmp .ge 20, 3) := by decide +kernel
theorem dX3_merge_94 : decode cX3_merge 94 = .ok (.aload_n 0, 1) := by decide +kernel
theorem dX3_merge_95 : decode cX3_merge 95 = .ok (.getfield 15, 3) := by decide +kernel
theorem dX3_merge_98 : decode cX3_merge 98 = .ok (.iload 7, 2) := by decide +kernel
theorem dX3_merge_100 : decode cX3_merge 100 = .ok (.aload_n 0, 1) := by decide +kernel
theorem dX3_merge_101 : decode cX3_merge 101 = .ok (.getfield 9, 3) := by decide +kernel
theorem dX3_merge_104 : decode cX3_merge 104 = .ok (.iload 6, 2) := by decide +kernel
theorem dX3_merge_106 : decode cX3_merge 106 = .ok (.iaload, 1) := by decide +kernel
theorem dX3_merge_107 : decode cX3_merge 107 = .ok (.iastore, 1) := by decide +kernel
theorem dX3_merge_108 : decode cX3_merge 108 = .ok (.iinc 6 1, 3) := by decide +kernel
theorem dX3_merge_111 : decode cX3_merge 111 = .ok (.iinc 7 1, 3) := by decide +kernel
theorem dX3_merge_114 : decode cX3_merge 114 = .ok (.goto (-105), 3) := by decide +kernel
theorem dX3_merge_117 : decode cX3_merge 117 = .ok (.return_, 1) := by decide +kernel
theorem dX3_clearPeaks_0 : decode cX3_clearPeaks 0 = .ok (.iconst 0, 1) := by decide +kernel
theorem dX3_clearPeaks_1 : decode cX3_clearPeaks 1 = .ok (.istore_n 1, 1) := by decide +kernel
theorem dX3_clearPeaks_2 : decode cX3_clearPeaks 2 = .ok (.iload_n 1, 1) := by decide +kernel
theorem dX3_clearPeaks_3 : decode cX3_clearPeaks 3 = .ok (.sipush 400, 3) := by decide +kernel
theorem dX3_clearPeaks_6 : decode cX3_clearPeaks 6 = .ok (.if_icmp .ge 16, 3) := by decide +kernel
theorem dX3_clearPeaks_9 : decode cX3_clearPeaks 9 = .ok (.aload_n 0, 1) := by decide +kernel
theorem dX3_clearPeaks_10 : decode cX3_clearPeaks 10 = .ok (.getfield 18, 3) := by decide +kernel
theorem dX3_clearPeaks_13 : decode cX3_clearPeaks 13 = .ok (.iload_n 1, 1) := by decide +kernel
theorem dX3_clearPeaks_14 : decode cX3_clearPeaks 14 = .ok (.iconst 0, 1) := by decide +kernel
theorem dX3_clearPeaks_15 : decode cX3_clearPeaks 15 = .ok (.bastore, 1) := by decide +kernel
theorem dX3_clearPeaks_16 : decode cX3_clearPeaks 16 = .ok (.iinc 1 1, 3) := by decide +kernel
theorem dX3_clearPeaks_19 : decode cX3_clearPeaks 19 = .ok (.goto (-17), 3) := by decide +kernel
theorem dX3_clearPeaks_22 : decode cX3_clearPeaks 22 = .ok (.return_, 1) := by decide +kernel
theorem dX3_markNear_0 : decode cX3_markNear 0 = .ok (.iconst 0, 1) := by decide +kernel
theorem dX3_markNear_1 : decode cX3_markNear 1 = .ok (.iload_n 1, 1) := by decide +kernel
theorem dX3_markNear_2 : decode cX3_markNear 2 = .ok (.iload_n 2, 1) := by decide +kernel
theorem dX3_markNear_3 : decode cX3_markNear 3 = .ok (.isub, 1) := by decide +kernel
theorem dX3_markNear_4 : decode cX3_markNear 4 = .ok (.iconst 1, 1) := by decide +kernel
theorem dX3_markNear_5 : decode cX3_markNear 5 = .ok (.iadd, 1) := by decide +kernel
theorem dX3_markNear_6 : decode cX3_markNear 6 = .ok (.invokestatic 67, 3) := by decide +kernel
theorem dX3_markNear_9 : decode cX3_markNear 9 = .ok (.istore_n 3, 1) := by decide +kernel
theorem dX3_markNear_10 : decode cX3_markNear 10 = .ok (.sipush 399, 3) := by decide +kernel
theorem dX3_markNear_13 : decode cX3_markNear 13 = .ok (.iload_n 1, 1) := by decide +kernel
theorem dX3_markNear_14 : decode cX3_markNear 14 = .ok (.iload_n 2, 1) := by decide +kernel
theorem dX3_markNear_15 : decode cX3_markNear 15 = .ok (.iadd, 1) := by decide +kernel
theorem dX3_markNear_16 : decode cX3_markNear 16 = .ok (.iconst 1, 1) := by decide +kernel
theorem dX3_markNear_17 : decode cX3_markNear 17 = .ok (.isub, 1) := by decide +kernel
theorem dX3_markNear_18 : decode cX3_markNear 18 = .ok (.invokestatic 51, 3) := by decide +kernel
theorem dX3_markNear_21 : decode cX3_markNear 21 = .ok (.istore 4, 2) := by decide +kernel
theorem dX3_markNear_23 : decode cX3_markNear 23 = .ok (.iload_n 3, 1) := by decide +kernel
theorem dX3_markNear_24 : decode cX3_markNear 24 = .ok (.istore 5, 2) := by decide +kernel
theorem dX3_markNear_26 : decode cX3_markNear 26 = .ok (.iload 5, 2) := by decide +kernel
theorem dX3_markNear_28 : decode cX3_markNear 28 = .ok (.iload 4, 2) := by decide +kernel
theorem dX3_markNear_30 : decode cX3_markNear 30 = .ok (.if_icmp .gt 17, 3) := by decide +kernel
theorem dX3_markNear_33 : decode cX3_markNear 33 = .ok (.aload_n 0, 1) := by decide +kernel
theorem dX3_markNear_34 : decode cX3_markNear 34 = .ok (.getfield 18, 3) := by decide +kernel
theorem dX3_markNear_37 : decode cX3_markNear 37 = .ok (.iload 5, 2) := by decide +kernel
theorem dX3_markNear_39 : decode cX3_markNear 39 = .ok (.iconst 1, 1) := by decide +kernel
theorem dX3_markNear_40 : decode cX3_markNear 40 = .ok (.bastore, 1) := by decide +kernel
theorem dX3_markNear_41 : decode cX3_markNear 41 = .ok (.iinc 5 1, 3) := by decide +kernel
theorem dX3_markNear_44 : decode cX3_markNear 44 = .ok (.goto (-18), 3) := by decide +kernel
theorem dX3_markNear_47 : decode cX3_markNear 47 = .ok (.return_, 1) := by decide +kernel
theorem dX4_init_0 : decode cX4_init 0 = .ok (.aload_n 0, 1) := by decide +kernel
theorem dX4_init_1 : decode cX4_init 1 = .ok (.invokespecial 1, 3) := by decide +kernel
theorem dX4_init_4 : decode cX4_init 4 = .ok (.aload_n 0, 1) := by decide +kernel
theorem dX4_init_5 : decode cX4_init 5 = .ok (.bipush 20, 2) := by decide +kernel
theorem dX4_init_7 : decode cX4_init 7 = .ok (.newarray .int, 2) := by decide +kernel
theorem dX4_init_9 : decode cX4_init 9 = .ok (.putfield 9, 3) := by decide +kernel
theorem dX4_init_12 : decode cX4_init 12 = .ok (.aload_n 0, 1) := by decide +kernel
theorem dX4_init_13 : decode cX4_init 13 = .ok (.bipush 20, 2) := by decide +kernel
theorem dX4_init_15 : decode cX4_init 15 = .ok (.newarray .int, 2) := by decide +kernel
theorem dX4_init_17 : decode cX4_init 17 = .ok (.putfield 13, 3) := by decide +kernel
theorem dX4_init_20 : decode cX4_init 20 = .ok (.return_, 1) := by decide +kernel
set_option maxRecDepth 20000 in
theorem ggX4_on_X5_countLower : GoodIn wsX4_on wsX5_countLower := goodIn_r _ [6] (by decide +kernel) (by decide +kernel)
set_option maxRecDepth 20000 in
theorem gX4_on_X5_countLower_n20 : GoodIn wsX4_on (wsX5_countLower) := ggX4_on_X5_countLower
set_option maxRecDepth 20000 in
theorem ggX4_on_X5_interpolate : GoodIn wsX4_on wsX5_interpolate := goodIn_r _ [8] (by decide +kernel) (by decide +kernel)
set_option maxRecDepth 20000 in
theorem gX4_on_X5_interpolate_n26 : GoodIn wsX4_on (wsX5_interpolate) := ggX4_on_X5_interpolate
theorem dX4_on_0 : decode cX4_on 0 = .ok (.aload_n 0, 1) := by decide +kernel
theorem dX4_on_1 : decode cX4_on 1 = .ok (.getfield 16, 3) := by decide +kernel
theorem dX4_on_4 : decode cX4_on 4 = .ok (.ifCond .ne 5, 3) := by decide +kernel
theorem dX4_on_7 : decode cX4_on 7 = .ok (.iconst 0, 1) := by decide +kernel
theorem dX4_on_8 : decode cX4_on 8 = .ok (.ireturn, 1) := by decide +kernel
theorem dX4_on_9 : decode cX4_on 9 = .ok (.aload_n 0, 1) := by decide +kernel
theorem dX4_on_10 : decode cX4_on 10 = .ok (.getfield 9, 3) := by decide +kernel
theorem dX4_on_13 : decode cX4_on 13 = .ok (.aload_n 0, 1) := by decide +kernel
theorem dX4_on_14 : decode cX4_on 14 = .ok (.getfield 16, 3) := by decide +kernel
theorem dX4_on_17 : decode cX4_on 17 = .ok (.iload_n 1, 1) := by decide +kernel
theorem dX4_on_18 : decode cX4_on 18 = .ok (.invokestatic 20, 3) := by decide +kernel
theorem dX4_on_21 : decode cX4_on 21 = .ok (.istore_n 2, 1) := by decide +kernel
theorem dX4_on_22 : decode cX4_on 22 = .ok (.iload_n 2, 1) := by decide +kernel
theorem dX4_on_23 : decode cX4_on 23 = .ok (.aload_n 0, 1) := by decide +kernel
theorem dX4_on_24 : decode cX4_on 24 = .ok (.getfield 16, 3) := by decide +kernel
theorem dX4_on_27 : decode cX4_on 27 = .ok (.if_icmp .lt 15, 3) := by decide +kernel
theorem dX4_on_30 : decode cX4_on 30 = .ok (.aload_n 0, 1) := by decide +kernel
theorem dX4_on_31 : decode cX4_on 31 = .ok (.getfield 13, 3) := by decide +kernel
theorem dX4_on_34 : decode cX4_on 34 = .ok (.aload_n 0, 1) := by decide +kernel
theorem dX4_on_35 : decode cX4_on 35 = .ok (.getfield 16, 3) := by decide +kernel
theorem dX4_on_38 : decode cX4_on 38 = .ok (.iconst 1, 1) := by decide +kernel
theorem dX4_on_39 : decode cX4_on 39 = .ok (.isub, 1) := by decide +kernel
theorem dX4_on_40 : decode cX4_on 40 = .ok (.iaload, 1) := by decide +kernel
theorem dX4_on_41 : decode cX4_on 41 = .ok (.ireturn, 1) := by decide +kernel
theorem dX4_on_42 : decode cX4_on 42 = .ok (.iload_n 2, 1) := by decide +kernel
theorem dX4_on_43 : decode cX4_on 43 = .ok (.ifCond .ne 10, 3) := by decide +kernel
theorem dX4_on_46 : decode cX4_on 46 = .ok (.aload_n 0, 1) := by decide +kernel
theorem dX4_on_47 : decode cX4_on 47 = .ok (.getfield 13, 3) := by decide +kernel
theorem dX4_on_50 : decode cX4_on 50 = .ok (.iconst 0, 1) := by decide +kernel
theorem dX4_on_51 : decode cX4_on 51 = .ok (.iaload, 1) := by decide +kernel
theorem dX4_on_52 : decode cX4_on 52 = .ok (.ireturn, 1) := by decide +kernel
theorem dX4_on_53 : decode cX4_on 53 = .ok (.iload_n 2, 1) := by decide +kernel
theorem dX4_on_54 : decode cX4_on 54 = .ok (.iconst 1, 1) := by decide +kernel
theorem dX4_on_55 : decode cX4_on 55 = .ok (.isub, 1) := by decide +kernel
theorem dX4_on_56 : decode cX4_on 56 = .ok (.istore_n 3, 1) := by decide +kernel
theorem dX4_on_57 : decode cX4_on 57 = .ok (.aload_n 0, 1) := by decide +kernel
theorem dX4_on_58 : decode cX4_on 58 = .ok (.getfield 13, 3) := by decide +kernel
theorem dX4_on_61 : decode cX4_on 61 = .ok (.iload_n 3, 1) := by decide +kernel
theorem dX4_on_62 : decode cX4_on 62 = .ok (.iaload, 1) := by decide +kernel
theorem dX4_on_63 : decode cX4_on 63 = .ok (.i2l, 1) := by decide +kernel
theorem dX4_on_64 : decode cX4_on 64 = .ok (.aload_n 0, 1) := by decide +kernel
theorem dX4_on_65 : decode cX4_on 65 = .ok (.getfield 13, 3) := by decide +kernel
theorem dX4_on_68 : decode cX4_on 68 = .ok (.iload_n 2, 1) := by decide +kernel
theorem dX4_on_69 : decode cX4_on 69 = .ok (.iaload, 1) := by decide +kernel
theorem dX4_on_70 : decode cX4_on 70 = .ok (.i2l, 1) := by decide +kernel
theorem dX4_on_71 : decode cX4_on 71 = .ok (.iload_n 1, 1) := by decide +kernel
theorem dX4_on_72 : decode cX4_on 72 = .ok (.aload_n 0, 1) := by decide +kernel
theorem dX4_on_73 : decode cX4_on 73 = .ok (.getfield 9, 3) := by decide +kernel
theorem dX4_on_76 : decode cX4_on 76 = .ok (.iload_n 3, 1) := by decide +kernel
theorem dX4_on_77 : decode cX4_on 77 = .ok (.iaload, 1) := by decide +kernel
theorem dX4_on_78 : decode cX4_on 78 = .ok (.isub, 1) := by decide +kernel
theorem dX4_on_79 : decode cX4_on 79 = .ok (.i2l, 1) := by decide +kernel
theorem dX4_on_80 : decode cX4_on 80 = .ok (.aload_n 0, 1) := by decide +kernel
theorem dX4_on_81 : decode cX4_on 81 = .ok (.getfield 9, 3) := by decide +kernel
theorem dX4_on_84 : decode cX4_on 84 = .ok (.iload_n 2, 1) := by decide +kernel
theorem dX4_on_85 : decode cX4_on 85 = .ok (.iaload, 1) := by decide +kernel
theorem dX4_on_86 : decode cX4_on 86 = .ok (.aload_n 0, 1) := by decide +kernel
theorem dX4_on_87 : decode cX4_on 87 = .ok (.getfield 9, 3) := by decide +kernel
theorem dX4_on_90 : decode cX4_on 90 = .ok (.iload_n 3, 1) := by decide +kernel
theorem dX4_on_91 : decode cX4_on 91 = .ok (.iaload, 1) := by decide +kernel
theorem dX4_on_92 : decode cX4_on 92 = .ok (.isub, 1) := by decide +kernel
theorem dX4_on_93 : decode cX4_on 93 = .ok (.i2l, 1) := by decide +kernel
theorem dX4_on_94 : decode cX4_on 94 = .ok (.invokestatic 26, 3) := by decide +kernel
theorem dX4_on_97 : decode cX4_on 97 = .ok (.l2i, 1) := by decide +kernel
theorem dX4_on_98 : decode cX4_on 98 = .ok (.ireturn, 1) := by decide +kernel
set_option maxRecDepth 20000 in
theorem ggX4_tell_X5_countLower : GoodIn wsX4_tell wsX5_countLower := goodIn_r _ [6] (by decide +kernel) (by decide +kernel)
set_option maxRecDepth 20000 in
theorem gX4_tell_X5_countLower_n20 : GoodIn wsX4_tell (wsX5_countLower) := ggX4_tell_X5_countLower
set_option maxRecDepth 20000 in
theorem ggX4_tell_X5_insertInto : GoodIn wsX4_tell wsX5_insertInto := goodIn_r _ [8] (by decide +kernel) (by decide +kernel)
set_option maxRecDepth 20000 in
theorem gX4_tell_X5_insertInto_n30 : GoodIn wsX4_tell (wsX5_insertInto) := ggX4_tell_X5_insertInto
theorem dX4_tell_0 : decode cX4_tell 0 = .ok (.aload_n 0, 1) := by decide +kernel
theorem dX4_tell_1 : decode cX4_tell 1 = .ok (.getfield 9, 3) := by decide +kernel
theorem dX4_tell_4 : decode cX4_tell 4 = .ok (.aload_n 0, 1) := by decide +kernel
theorem dX4_tell_5 : decode cX4_tell 5 = .ok (.getfield 16, 3) := by decide +kernel
theorem dX4_tell_8 : decode cX4_tell 8 = .ok (.iload_n 1, 1) := by decide +kernel
theorem dX4_tell_9 : decode cX4_tell 9 = .ok (.invokestatic 20, 3) := by decide +kernel
theorem dX4_tell_12 : decode cX4_tell 12 = .ok (.istore_n 3, 1) := by decide +kernel
theorem dX4_tell_13 : decode cX4_tell 13 = .ok (.iload_n 3, 1) := by decide +kernel
theorem dX4_tell_14 : decode cX4_tell 14 = .ok (.aload_n 0, 1) := by decide +kernel
theorem dX4_tell_15 : decode cX4_tell 15 = .ok (.getfield 16, 3) := by decide +kernel
theorem dX4_tell_18 : decode cX4_tell 18 = .ok (.if_icmp .ge 22, 3) := by decide +kernel
theorem dX4_tell_21 : decode cX4_tell 21 = .ok (.aload_n 0, 1) := by decide +kernel
theorem dX4_tell_22 : decode cX4_tell 22 = .ok (.getfield 9, 3) := by decide +kernel
theorem dX4_tell_25 : decode cX4_tell 25 = .ok (.iload_n 3, 1) := by decide +kernel
theorem dX4_tell_26 : decode cX4_tell 26 = .ok (.iaload, 1) := by decide +kernel
theorem dX4_tell_27 : decode cX4_tell 27 = .ok (.iload_n 1, 1) := by decide +kernel
theorem dX4_tell_28 : decode cX4_tell 28 = .ok (.if_icmp .ne 12, 3) := by decide +kernel
theorem dX4_tell_31 : decode cX4_tell 31 = .ok (.aload_n 0, 1) := by decide +kernel
theorem dX4_tell_32 : decode cX4_tell 32 = .ok (.getfield 13, 3) := by decide +kernel
theorem dX4_tell_35 : decode cX4_tell 35 = .ok (.iload_n 3, 1) := by decide +kernel
theorem dX4_tell_36 : decode cX4_tell 36 = .ok (.iload_n 2, 1) := by decide +kernel
theorem dX4_tell_37 : decode cX4_tell 37 = .ok (.iastore, 1) := by decide +kernel
theorem dX4_tell_38 : decode cX4_tell 38 = .ok (.iconst 1, 1) := by decide +kernel
theorem dX4_tell_39 : decode cX4_tell 39 = .ok (.ireturn, 1) := by decide +kernel
theorem dX4_tell_40 : decode cX4_tell 40 = .ok (.aload_n 0, 1) := by decide +kernel
theorem dX4_tell_41 : decode cX4_tell 41 = .ok (.getfield 16, 3) := by decide +kernel
theorem dX4_tell_44 : decode cX4_tell 44 = .ok (.bipush 20, 2) := by decide +kernel
theorem dX4_tell_46 : decode cX4_tell 46 = .ok (.if_icmp .lt 5, 3) := by decide +kernel
theorem dX4_tell_49 : decode cX4_tell 49 = .ok (.iconst 0, 1) := by decide +kernel
theorem dX4_tell_50 : decode cX4_tell 50 = .ok (.ireturn, 1) := by decide +kernel
theorem dX4_tell_51 : decode cX4_tell 51 = .ok (.aload_n 0, 1) := by decide +kernel
theorem dX4_tell_52 : decode cX4_tell 52 = .ok (.getfield 9, 3) := by decide +kernel
theorem dX4_tell_55 : decode cX4_tell 55 = .ok (.aload_n 0, 1) := by decide +kernel
theorem dX4_tell_56 : decode cX4_tell 56 = .ok (.getfield 16, 3) := by decide +kernel
theorem dX4_tell_59 : decode cX4_tell 59 = .ok (.iload_n 3, 1) := by decide +kernel
theorem dX4_tell_60 : decode cX4_tell 60 = .ok (.iload_n 1, 1) := by decide +kernel
theorem dX4_tell_61 : decode cX4_tell 61 = .ok (.invokestatic 30, 3) := by decide +kernel
theorem dX4_tell_64 : decode cX4_tell 64 = .ok (.aload_n 0, 1) := by decide +kernel
theorem dX4_tell_65 : decode cX4_tell 65 = .ok (.getfield 13, 3) := by decide +kernel
theorem dX4_tell_68 : decode cX4_tell 68 = .ok (.aload_n 0, 1) := by decide +kernel
theorem dX4_tell_69 : decode cX4_tell 69 = .ok (.getfield 16, 3) := by decide +kernel
theorem dX4_tell_72 : decode cX4_tell 72 = .ok (.iload_n 3, 1) := by decide +kernel
theorem dX4_tell_73 : decode cX4_tell 73 = .ok (.iload_n 2, 1) := by decide +kernel
theorem dX4_tell_74 : decode cX4_tell 74 = .ok (.invokestatic 30, 3) := by decide +kernel
theorem dX4_tell_77 : decode cX4_tell 77 = .ok (.aload_n 0, 1) := by decide +kernel
theorem dX4_tell_78 : decode cX4_tell 78 = .ok (.dup, 1) := by decide +kernel
theorem dX4_tell_79 : decode cX4_tell 79 = .ok (.getfield 16, 3) := by decide +kernel
theorem dX4_tell_82 : decode cX4_tell 82 = .ok (.iconst 1, 1) := by decide +kernel
theorem dX4_tell_83 : decode cX4_tell 83 = .ok (.iadd, 1) := by decide +kernel
theorem dX4_tell_84 : decode cX4_tell 84 = .ok (.putfield 16, 3) := by decide +kernel
theorem dX4_tell_87 : decode cX4_tell 87 = .ok (.iconst 1, 1) := by decide +kernel
theorem dX4_tell_88 : decode cX4_tell 88 = .ok (.ireturn, 1) := by decide +kernel
set_option maxRecDepth 20000 in
theorem ggX5_init_X4_init : GoodIn wsX5_init wsX4_init := goodIn_r _ [29, 30, 2, 3, 10, 31, 32, 60, 61, 62] (by decide +kernel) (by decide +kernel)
set_option maxRecDepth 20000 in
theorem gX5_init_X4_init : GoodIn wsX5_init (wsX4_init) := ggX5_init_X4_init
set_option maxRecDepth 20000 in
theorem ggX5_init_X1_init : GoodIn wsX5_init wsX1_init := goodIn_r _ [35, 36, 2, 3, 37, 38, 10, 39, 63, 64] (by decide +kernel) (by decide +kernel)
set_option maxRecDepth 20000 in
theorem gX5_init_X1_init : GoodIn wsX5_init (wsX1_init) := ggX5_init_X1_init
set_option maxRecDepth 20000 in
theorem ggX5_init_X3_init : GoodIn wsX5_init wsX3_init := goodIn_r _ [42, 43, 2, 3, 10, 44, 45, 12, 46, 65, 66, 67, 68] (by decide +kernel) (by decide +kernel)
set_option maxRecDepth 20000 in
theorem gX5_init_X3_init : GoodIn wsX5_init (wsX3_init) := ggX5_init_X3_init
end
section
theorem dX5_init_0 : decode cX5_init 0 = .ok (.aload_n 0, 1) := by decide +kernel
theorem dX5_init_1 : decode cX5_init 1 = .ok (.invokespecial 1, 3) := by decide +kernel
theorem dX5_init_4 : decode cX5_init 4 = .ok (.aload_n 0, 1) := by decide +kernel
theorem dX5_init_5 : decode cX5_init 5 = .ok (.bipush 6, 2) := by decide +kernel
theorem dX5_init_7 : decode cX5_init 7 = .ok (.anewarray 9, 3) := by decide +kernel
theorem dX5_init_10 : decode cX5_init 10 = .ok (.putfield 11, 3) := by decide +kernel
theorem dX5_init_13 : decode cX5_init 13 = .ok (.aload_n 0, 1) := by decide +kernel
theorem dX5_init_14 : decode cX5_init 14 = .ok (.new 15, 3) := by decide +kernel
theorem dX5_init_17 : decode cX5_init 17 = .ok (.dup, 1) := by decide +kernel
theorem dX5_init_18 : decode cX5_init 18 = .ok (.invokespecial 17, 3) := by decide +kernel
theorem dX5_init_21 : decode cX5_init 21 = .ok (.putfield 18, 3) := by decide +kernel
theorem dX5_init_24 : decode cX5_init 24 = .ok (.aload_n 0, 1) := by decide +kernel
theorem dX5_init_25 : decode cX5_init 25 = .ok (.sipush 400, 3) := by decide +kernel
theorem dX5_init_28 : decode cX5_init 28 = .ok (.newarray .int, 2) := by decide +kernel
theorem dX5_init_30 : decode cX5_init 30 = .ok (.putfield 22, 3) := by decide +kernel
theorem dX5_init_33 : decode cX5_init 33 = .ok (.aload_n 0, 1) := by decide +kernel
theorem dX5_init_34 : decode cX5_init 34 = .ok (.sipush 400, 3) := by decide +kernel
theorem dX5_init_37 : decode cX5_init 37 = .ok (.newarray .boolean, 2) := by decide +kernel
theorem dX5_init_39 : decode cX5_init 39 = .ok (.putfield 26, 3) := by decide +kernel
theorem dX5_init_42 : decode cX5_init 42 = .ok (.aload_n 0, 1) := by decide +kernel
theorem dX5_init_43 : decode cX5_init 43 = .ok (.sipush 400, 3) := by decide +kernel
theorem dX5_init_46 : decode cX5_init 46 = .ok (.newarray .boolean, 2) := by decide +kernel
theorem dX5_init_48 : decode cX5_init 48 = .ok (.putfield 30, 3) := by decide +kernel
theorem dX5_init_51 : decode cX5_init 51 = .ok (.aload_n 0, 1) := by decide +kernel
theorem dX5_init_52 : decode cX5_init 52 = .ok (.bipush 40, 2) := by decide +kernel
theorem dX5_init_54 : decode cX5_init 54 = .ok (.anewarray 33, 3) := by decide +kernel
theorem dX5_init_57 : decode cX5_init 57 = .ok (.putfield 35, 3) := by decide +kernel
theorem dX5_init_60 : decode cX5_init 60 = .ok (.aload_n 0, 1) := by decide +kernel
theorem dX5_init_61 : decode cX5_init 61 = .ok (.new 39, 3) := by decide +kernel
theorem dX5_init_64 : decode cX5_init 64 = .ok (.dup, 1) := by decide +kernel
theorem dX5_init_65 : decode cX5_init 65 = .ok (.invokespecial 41, 3) := by decide +kernel
theorem dX5_init_68 : decode cX5_init 68 = .ok (.putfield 42, 3) := by decide +kernel
theorem dX5_init_71 : decode cX5_init 71 = .ok (.aload_n 0, 1) := by decide +kernel
theorem dX5_init_72 : decode cX5_init 72 = .ok (.new 46, 3) := by decide +kernel
theorem dX5_init_75 : decode cX5_init 75 = .ok (.dup, 1) := by decide +kernel
theorem dX5_init_76 : decode cX5_init 76 = .ok (.invokespecial 48, 3) := by decide +kernel
theorem dX5_init_79 : decode cX5_init 79 = .ok (.putfield 49, 3) := by decide +kernel
theorem dX5_init_82 : decode cX5_init 82 = .ok (.aload_n 0, 1) := by decide +kernel
theorem dX5_init_83 : decode cX5_init 83 = .ok (.bipush 60, 2) := by decide +kernel
theorem dX5_init_85 : decode cX5_init 85 = .ok (.putfield 53, 3) := by decide +kernel
theorem dX5_init_88 : decode cX5_init 88 = .ok (.aload_n 0, 1) := by decide +kernel
theorem dX5_init_89 : decode cX5_init 89 = .ok (.iconst 5, 1) := by decide +kernel
theorem dX5_init_90 : decode cX5_init 90 = .ok (.putfield 57, 3) := by decide +kernel
theorem dX5_init_93 : decode cX5_init 93 = .ok (.return_, 1) := by decide +kernel
set_option maxRecDepth 20000 in
theorem ggX5_addCurve_X5_requireDay : GoodIn wsX5_addCurve wsX5_requireDay := goodIn_ca (goodIn_r _ [12, 13, 14] (by decide +kernel) (by decide +kernel)) (goodIn_sub (fun _ h => List.mem_cons_of_mem _ (List.mem_append_right _ h)) (by decide +kernel))
set_option maxRecDepth 20000 in
theorem gX5_addCurve_X5_requireDay : GoodIn wsX5_addCurve (va_wsS RX5 60 yX5_requireDay wsX5_requireDay) := goodIn_app (goodIn_of _ (by decide +kernel)) ggX5_addCurve_X5_requireDay
set_option maxRecDepth 20000 in
theorem ggX5_addCurve_X5_hasCurveFrom : GoodIn wsX5_addCurve wsX5_hasCurveFrom := goodIn_r _ [18, 19, 20, 21, 11, 22, 23, 24, 25, 26, 3, 4, 50, 51, 52, 53, 37, 38, 39, 40, 41, 42, 43, 44, 45, 46, 47, 48, 49] (by decide +kernel) (by decide +kernel)
set_option maxRecDepth 20000 in
theorem gX5_addCurve_X5_hasCurveFrom : GoodIn wsX5_addCurve (wsV RX5 74 RX5 yX5_hasCurveFrom wsX5_hasCurveFrom) := goodIn_app (goodIn_of _ (by decide +kernel)) ggX5_addCurve_X5_hasCurveFrom
set_option maxRecDepth 20000 in
theorem ggX5_addCurve_X0_init : GoodIn wsX5_addCurve wsX0_init := goodIn_r _ [29, 30, 31, 32, 33, 34, 35, 36, 50, 51, 52, 53] (by decide +kernel) (by decide +kernel)
set_option maxRecDepth 20000 in
theorem gX5_addCurve_X0_init : GoodIn wsX5_addCurve (wsX0_init) := ggX5_addCurve_X0_init
theorem dX5_addCurve_0 : decode cX5_addCurve 0 = .ok (.iload_n 1, 1) := by decide +kernel
theorem dX5_addCurve_1 : decode cX5_addCurve 1 = .ok (.invokestatic 60, 3) := by decide +kernel
theorem dX5_addCurve_4 : decode cX5_addCurve 4 = .ok (.aload_n 0, 1) := by decide +kernel
theorem dX5_addCurve_5 : decode cX5_addCurve 5 = .ok (.getfield 64, 3) := by decide +kernel
theorem dX5_addCurve_8 : decode cX5_addCurve 8 = .ok (.bipush 6, 2) := by decide +kernel
theorem dX5_addCurve_10 : decode cX5_addCurve 10 = .ok (.if_icmp .lt 13, 3) := by decide +kernel
theorem dX5_addCurve_13 : decode cX5_addCurve 13 = .ok (.new 67, 3) := by decide +kernel
theorem dX5_addCurve_16 : decode cX5_addCurve 16 = .ok (.dup, 1) := by decide +kernel
theorem dX5_addCurve_17 : decode cX5_addCurve 17 = .ok (.ldc 69, 2) := by decide +kernel
theorem dX5_addCurve_19 : decode cX5_addCurve 19 = .ok (.invokespecial 71, 3) := by decide +kernel
theorem dX5_addCurve_22 : decode cX5_addCurve 22 = .ok (.athrow, 1) := by decide +kernel
theorem dX5_addCurve_23 : decode cX5_addCurve 23 = .ok (.aload_n 0, 1) := by decide +kernel
theorem dX5_addCurve_24 : decode cX5_addCurve 24 = .ok (.iload_n 1, 1) := by decide +kernel
theorem dX5_addCurve_25 : decode cX5_addCurve 25 = .ok (.invokevirtual 74, 3) := by decide +kernel
theorem dX5_addCurve_28 : decode cX5_addCurve 28 = .ok (.ifCond .eq 13, 3) := by decide +kernel
theorem dX5_addCurve_31 : decode cX5_addCurve 31 = .ok (.new 67, 3) := by decide +kernel
theorem dX5_addCurve_34 : decode cX5_addCurve 34 = .ok (.dup, 1) := by decide +kernel
theorem dX5_addCurve_35 : decode cX5_addCurve 35 = .ok (.ldc 78, 2) := by decide +kernel
theorem dX5_addCurve_37 : decode cX5_addCurve 37 = .ok (.invokespecial 71, 3) := by decide +kernel
theorem dX5_addCurve_40 : decode cX5_addCurve 40 = .ok (.athrow, 1) := by decide +kernel
theorem dX5_addCurve_41 : decode cX5_addCurve 41 = .ok (.aload_n 0, 1) := by decide +kernel
theorem dX5_addCurve_42 : decode cX5_addCurve 42 = .ok (.getfield 64, 3) := by decide +kernel
theorem dX5_addCurve_45 : decode cX5_addCurve 45 = .ok (.istore_n 2, 1) := by decide +kernel
theorem dX5_addCurve_46 : decode cX5_addCurve 46 = .ok (.aload_n 0, 1) := by decide +kernel
theorem dX5_addCurve_47 : decode cX5_addCurve 47 = .ok (.getfield 11, 3) := by decide +kernel
theorem dX5_addCurve_50 : decode cX5_addCurve 50 = .ok (.iload_n 2, 1) := by decide +kernel
theorem dX5_addCurve_51 : decode cX5_addCurve 51 = .ok (.new 9, 3) := by decide +kernel
theorem dX5_addCurve_54 : decode cX5_addCurve 54 = .ok (.dup, 1) := by decide +kernel
theorem dX5_addCurve_55 : decode cX5_addCurve 55 = .ok (.iload_n 1, 1) := by decide +kernel
theorem dX5_addCurve_56 : decode cX5_addCurve 56 = .ok (.invokespecial 80, 3) := by decide +kernel
theorem dX5_addCurve_59 : decode cX5_addCurve 59 = .ok (.aastore, 1) := by decide +kernel
theorem dX5_addCurve_60 : decode cX5_addCurve 60 = .ok (.aload_n 0, 1) := by decide +kernel
theorem dX5_addCurve_61 : decode cX5_addCurve 61 = .ok (.iload_n 2, 1) := by decide +kernel
theorem dX5_addCurve_62 : decode cX5_addCurve 62 = .ok (.iconst 1, 1) := by decide +kernel
theorem dX5_addCurve_63 : decode cX5_addCurve 63 = .ok (.iadd, 1) := by decide +kernel
theorem dX5_addCurve_64 : decode cX5_addCurve 64 = .ok (.putfield 64, 3) := by decide +kernel
theorem dX5_addCurve_67 : decode cX5_addCurve 67 = .ok (.aload_n 0, 1) := by decide +kernel
theorem dX5_addCurve_68 : decode cX5_addCurve 68 = .ok (.iconst 0, 1) := by decide +kernel
theorem dX5_addCurve_69 : decode cX5_addCurve 69 = .ok (.putfield 82, 3) := by decide +kernel
theorem dX5_addCurve_72 : decode cX5_addCurve 72 = .ok (.iload_n 2, 1) := by decide +kernel
theorem dX5_addCurve_73 : decode cX5_addCurve 73 = .ok (.ireturn, 1) := by decide +kernel
set_option maxRecDepth 20000 in
theorem ggX5_addPoint_X5_curveAt : GoodIn wsX5_addPoint wsX5_curveAt := goodIn_r _ [10, 11, 12, 44, 45, 46, 47, 48, 49, 50, 51, 52, 53, 54, 55, 56] (by decide +kernel) (by decide +kernel)
set_option maxRecDepth 20000 in
theorem gX5_addPoint_X5_curveAt : GoodIn wsX5_addPoint (wsV RX5 86 RX5 yX5_curveAt wsX5_curveAt) := goodIn_app (goodIn_of _ (by decide +kernel)) ggX5_addPoint_X5_curveAt
set_option maxRecDepth 20000 in
theorem ggX5_addPoint_X5_requireStage : GoodIn wsX5_addPoint wsX5_requireStage := goodIn_ca (goodIn_r _ [15, 16, 17, 18, 19] (by decide +kernel) (by decide +kernel)) (goodIn_sub (fun _ h => List.mem_cons_of_mem _ (List.mem_append_right _ h)) (by decide +kernel))
set_option maxRecDepth 20000 in
theorem gX5_addPoint_X5_requireStage : GoodIn wsX5_addPoint (va_wsS RX5 95 yX5_requireStage wsX5_requireStage) := goodIn_app (goodIn_of _ (by decide +kernel)) ggX5_addPoint_X5_requireStage
set_option maxRecDepth 20000 in
theorem ggX5_addPoint_X5_requireFlow : GoodIn wsX5_addPoint wsX5_requireFlow := goodIn_ca (goodIn_r _ [22, 16, 17, 23] (by decide +kernel) (by decide +kernel)) (goodIn_sub (fun _ h => List.mem_cons_of_mem _ (List.mem_append_right _ h)) (by decide +kernel))
set_option maxRecDepth 20000 in
theorem gX5_addPoint_X5_requireFlow : GoodIn wsX5_addPoint (va_wsS RX5 99 yX5_requireFlow wsX5_requireFlow) := goodIn_app (goodIn_of _ (by decide +kernel)) ggX5_addPoint_X5_requireFlow
set_option maxRecDepth 20000 in
theorem ggX5_addPoint_X0_insert : GoodIn wsX5_addPoint wsX0_insert := goodIn_r _ [28, 29, 30, 31, 32, 9, 33, 34, 35, 36, 27, 37, 38, 39, 57, 58, 59, 60] (by decide +kernel) (by decide +kernel)
set_option maxRecDepth 20000 in
theorem gX5_addPoint_X0_insert : GoodIn wsX5_addPoint (wsV RX5 102 RX0 yX0_insert wsX0_insert) := goodIn_app (goodIn_of _ (by decide +kernel)) ggX5_addPoint_X0_insert
set_option maxRecDepth 20000 in
theorem ggX5_addPoint_X0_size : GoodIn wsX5_addPoint wsX0_size := goodIn_r _ [43, 30, 57, 58, 59, 60] (by decide +kernel) (by decide +kernel)
set_option maxRecDepth 20000 in
theorem gX5_addPoint_X0_size : GoodIn wsX5_addPoint (wsV RX5 108 RX0 yX0_size wsX0_size) := goodIn_app (goodIn_of _ (by decide +kernel)) ggX5_addPoint_X0_size
theorem dX5_addPoint_0 : decode cX5_addPoint 0 = .ok (.aload_n 0, 1) := by decide +kernel
theorem dX5_addPoint_1 : decode cX5_addPoint 1 = .ok (.iload_n 1, 1) := by decide +kernel
theorem dX5_addPoint_2 : decode cX5_addPoint 2 = .ok (.invokevirtual 86, 3) := by decide +kernel
theorem dX5_addPoint_5 : decode cX5_addPoint 5 = .ok (.astore 4, 2) := by decide +kernel
theorem dX5_addPoint_7 : decode cX5_addPoint 7 = .ok (.aload 4, 2) := by decide +kernel
theorem dX5_addPoint_9 : decode cX5_addPoint 9 = .ok (.ifnonnull 13, 3) := by decide +kernel
theorem dX5_addPoint_12 : decode cX5_addPoint 12 = .ok (.new 90, 3) := by decide +kernel
theorem dX5_addPoint_15 : decode cX5_addPoint 15 = .ok (.dup, 1) := by decide +kernel
theorem dX5_addPoint_16 : decode cX5_addPoint 16 = .ok (.ldc 92, 2) := by decide +kernel
theorem dX5_addPoint_18 : decode cX5_addPoint 18 = .ok (.invokespecial 94, 3) := by decide +kernel
theorem dX5_addPoint_21 : decode cX5_addPoint 21 = .ok (.athrow, 1) := by decide +kernel
theorem dX5_addPoint_22 : decode cX5_addPoint 22 = .ok (.iload_n 2, 1) := by decide +kernel
theorem dX5_addPoint_23 : decode cX5_addPoint 23 = .ok (.i2l, 1) := by decide +kernel
theorem dX5_addPoint_24 : decode cX5_addPoint 24 = .ok (.invokestatic 95, 3) := by decide +kernel
theorem dX5_addPoint_27 : decode cX5_addPoint 27 = .ok (.iload_n 3, 1) := by decide +kernel
theorem dX5_addPoint_28 : decode cX5_addPoint 28 = .ok (.invokestatic 99, 3) := by decide +kernel
theorem dX5_addPoint_31 : decode cX5_addPoint 31 = .ok (.aload 4, 2) := by decide +kernel
theorem dX5_addPoint_33 : decode cX5_addPoint 33 = .ok (.iload_n 2, 1) := by decide +kernel
theorem dX5_addPoint_34 : decode cX5_addPoint 34 = .ok (.iload_n 3, 1) := by decide +kernel
theorem dX5_addPoint_35 : decode cX5_addPoint 35 = .ok (.invokevirtual 102, 3) := by decide +kernel
theorem dX5_addPoint_38 : decode cX5_addPoint 38 = .ok (.ifCond .ne 13, 3) := by decide +kernel
theorem dX5_addPoint_41 : decode cX5_addPoint 41 = .ok (.new 67, 3) := by decide +kernel
theorem dX5_addPoint_44 : decode cX5_addPoint 44 = .ok (.dup, 1) := by decide +kernel
theorem dX5_addPoint_45 : decode cX5_addPoint 45 = .ok (.ldc 106, 2) := by decide +kernel
theorem dX5_addPoint_47 : decode cX5_addPoint 47 = .ok (.invokespecial 71, 3) := by decide +kernel
theorem dX5_addPoint_50 : decode cX5_addPoint 50 = .ok (.athrow, 1) := by decide +kernel
theorem dX5_addPoint_51 : decode cX5_addPoint 51 = .ok (.aload_n 0, 1) := by decide +kernel
theorem dX5_addPoint_52 : decode cX5_addPoint 52 = .ok (.iconst 0, 1) := by decide +kernel
theorem dX5_addPoint_53 : decode cX5_addPoint 53 = .ok (.putfield 82, 3) := by decide +kernel
theorem dX5_addPoint_56 : decode cX5_addPoint 56 = .ok (.aload 4, 2) := by decide +kernel
theorem dX5_addPoint_58 : decode cX5_addPoint 58 = .ok (.invokevirtual 108, 3) := by decide +kernel
theorem dX5_addPoint_61 : decode cX5_addPoint 61 = .ok (.ireturn, 1) := by decide +kernel
set_option maxRecDepth 20000 in
theorem ggX5_flowBy_X5_curveAt : GoodIn wsX5_flowBy wsX5_curveAt := goodIn_r _ [11, 12, 13, 37, 38, 39, 40, 41, 42, 43, 44, 45, 46, 47, 48, 49] (by decide +kernel) (by decide +kernel)
set_option maxRecDepth 20000 in
theorem gX5_flowBy_X5_curveAt : GoodIn wsX5_flowBy (wsV RX5 86 RX5 yX5_curveAt wsX5_curveAt) := goodIn_app (goodIn_of _ (by decide +kernel)) ggX5_flowBy_X5_curveAt
set_option maxRecDepth 20000 in
theorem ggX5_flowBy_X0_isComplete : GoodIn wsX5_flowBy wsX0_isComplete := goodIn_r _ [18, 19, 50, 51, 52, 53] (by decide +kernel) (by decide +kernel)
set_option maxRecDepth 20000 in
theorem gX5_flowBy_X0_isComplete : GoodIn wsX5_flowBy (wsV RX5 117 RX0 yX0_isComplete wsX0_isComplete) := goodIn_app (goodIn_of _ (by decide +kernel)) ggX5_flowBy_X0_isComplete
set_option maxRecDepth 20000 in
theorem ggX5_flowBy_X0_flowAt : GoodIn wsX5_flowBy wsX0_flowAt := goodIn_r _ [23, 19, 24, 25, 26, 27, 28, 29, 30, 31, 32, 33, 10, 34, 35, 36, 50, 51, 52, 53] (by decide +kernel) (by decide +kernel)
set_option maxRecDepth 20000 in
theorem gX5_flowBy_X0_flowAt : GoodIn wsX5_flowBy (wsV RX5 123 RX0 yX0_flowAt wsX0_flowAt) := goodIn_app (goodIn_of _ (by decide +kernel)) ggX5_flowBy_X0_flowAt
theorem dX5_flowBy_0 : decode cX5_flowBy 0 = .ok (.aload_n 0, 1) := by decide +kernel
theorem dX5_flowBy_1 : decode cX5_flowBy 1 = .ok (.iload_n 1, 1) := by decide +kernel
theorem dX5_flowBy_2 : decode cX5_flowBy 2 = .ok (.invokevirtual 86, 3) := by decide +kernel
theorem dX5_flowBy_5 : decode cX5_flowBy 5 = .ok (.astore_n 3, 1) := by decide +kernel
theorem dX5_flowBy_6 : decode cX5_flowBy 6 = .ok (.aload_n 3, 1) := by decide +kernel
theorem dX5_flowBy_7 : decode cX5_flowBy 7 = .ok (.ifnonnull 13, 3) := by decide +kernel
theorem dX5_flowBy_10 : decode cX5_flowBy 10 = .ok (.new 90, 3) := by decide +kernel
theorem dX5_flowBy_13 : decode cX5_flowBy 13 = .ok (.dup, 1) := by decide +kernel
theorem dX5_flowBy_14 : decode cX5_flowBy 14 = .ok (.ldc 92, 2) := by decide +kernel
theorem dX5_flowBy_16 : decode cX5_flowBy 16 = .ok (.invokespecial 94, 3) := by decide +kernel
theorem dX5_flowBy_19 : decode cX5_flowBy 19 = .ok (.athrow, 1) := by decide +kernel
theorem dX5_flowBy_20 : decode cX5_flowBy 20 = .ok (.iload_n 2, 1) := by decide +kernel
theorem dX5_flowBy_21 : decode cX5_flowBy 21 = .ok (.sipush (-2000), 3) := by decide +kernel
theorem dX5_flowBy_24 : decode cX5_flowBy 24 = .ok (.if_icmp .lt 10, 3) := by decide +kernel
theorem dX5_flowBy_27 : decode cX5_flowBy 27 = .ok (.iload_n 2, 1) := by decide +kernel
theorem dX5_flowBy_28 : decode cX5_flowBy 28 = .ok (.sipush 4000, 3) := by decide +kernel
theorem dX5_flowBy_31 : decode cX5_flowBy 31 = .ok (.if_icmp .le 13, 3) := by decide +kernel
theorem dX5_flowBy_34 : decode cX5_flowBy 34 = .ok (.new 112, 3) := by decide +kernel
theorem dX5_flowBy_37 : decode cX5_flowBy 37 = .ok (.dup, 1) := by decide +kernel
theorem dX5_flowBy_38 : decode cX5_flowBy 38 = .ok (.ldc 114, 2) := by decide +kernel
theorem dX5_flowBy_40 : decode cX5_flowBy 40 = .ok (.invokespecial 116, 3) := by decide +kernel
theorem dX5_flowBy_43 : decode cX5_flowBy 43 = .ok (.athrow, 1) := by decide +kernel
theorem dX5_flowBy_44 : decode cX5_flowBy 44 = .ok (.aload_n 3, 1) := by decide +kernel
theorem dX5_flowBy_45 : decode cX5_flowBy 45 = .ok (.invokevirtual 117, 3) := by decide +kernel
theorem dX5_flowBy_48 : decode cX5_flowBy 48 = .ok (.ifCond .ne 13, 3) := by decide +kernel
theorem dX5_flowBy_51 : decode cX5_flowBy 51 = .ok (.new 67, 3) := by decide +kernel
theorem dX5_flowBy_54 : decode cX5_flowBy 54 = .ok (.dup, 1) := by decide +kernel
theorem dX5_flowBy_55 : decode cX5_flowBy 55 = .ok (.ldc 121, 2) := by decide +kernel
theorem dX5_flowBy_57 : decode cX5_flowBy 57 = .ok (.invokespecial 71, 3) := by decide +kernel
theorem dX5_flowBy_60 : decode cX5_flowBy 60 = .ok (.athrow, 1) := by decide +kernel
theorem dX5_flowBy_61 : decode cX5_flowBy 61 = .ok (.aload_n 3, 1) := by decide +kernel
theorem dX5_flowBy_62 : decode cX5_flowBy 62 = .ok (.iload_n 2, 1) := by decide +kernel
theorem dX5_flowBy_63 : decode cX5_flowBy 63 = .ok (.invokevirtual 123, 3) := by decide +kernel
theorem dX5_flowBy_66 : decode cX5_flowBy 66 = .ok (.lreturn, 1) := by decide +kernel
set_option maxRecDepth 20000 in
theorem ggX5_curveOf_X5_requireDay : GoodIn wsX5_curveOf wsX5_requireDay := goodIn_ca (goodIn_r _ [4, 5, 6] (by decide +kernel) (by decide +kernel)) (goodIn_sub (fun _ h => List.mem_cons_of_mem _ (List.mem_append_right _ h)) (by decide +kernel))
set_option maxRecDepth 20000 in
theorem gX5_curveOf_X5_requireDay : GoodIn wsX5_curveOf (va_wsS RX5 60 yX5_requireDay wsX5_requireDay) := goodIn_app (goodIn_of _ (by decide +kernel)) ggX5_curveOf_X5_requireDay
set_option maxRecDepth 20000 in
theorem ggX5_curveOf_X5_curveNumberOn : GoodIn wsX5_curveOf wsX5_curveNumberOn := goodIn_r _ [10, 11, 12, 13, 3, 14, 15, 16, 17, 18, 19, 20, 21, 22, 23, 24, 25, 26, 27, 28, 29, 30, 31, 32, 33] (by decide +kernel) (by decide +kernel)
set_option maxRecDepth 20000 in
theorem gX5_curveOf_X5_curveNumberOn : GoodIn wsX5_curveOf (wsV RX5 131 RX5 yX5_curveNumberOn wsX5_curveNumberOn) := goodIn_app (goodIn_of _ (by decide +kernel)) ggX5_curveOf_X5_curveNumberOn
theorem dX5_curveOf_0 : decode cX5_curveOf 0 = .ok (.iload_n 1, 1) := by decide +kernel
theorem dX5_curveOf_1 : decode cX5_curveOf 1 = .ok (.invokestatic 60, 3) := by decide +kernel
theorem dX5_curveOf_4 : decode cX5_curveOf 4 = .ok (.aload_n 0, 1) := by decide +kernel
theorem dX5_curveOf_5 : decode cX5_curveOf 5 = .ok (.iload_n 1, 1) := by decide +kernel
theorem dX5_curveOf_6 : decode cX5_curveOf 6 = .ok (.invokevirtual 131, 3) := by decide +kernel
theorem dX5_curveOf_9 : decode cX5_curveOf 9 = .ok (.ireturn, 1) := by decide +kernel
set_option maxRecDepth 20000 in
theorem ggX5_setShift_X5_requireDay : GoodIn wsX5_setShift wsX5_requireDay := goodIn_ca (goodIn_r _ [10, 1, 2] (by decide +kernel) (by decide +kernel)) (goodIn_sub (fun _ h => List.mem_cons_of_mem _ (List.mem_append_left _ (List.mem_append_right _ h))) (by decide +kernel))
set_option maxRecDepth 20000 in
theorem gX5_setShift_X5_requireDay : GoodIn wsX5_setShift (va_wsS RX5 60 yX5_requireDay wsX5_requireDay) := goodIn_app (goodIn_of _ (by decide +kernel)) ggX5_setShift_X5_requireDay
set_option maxRecDepth 20000 in
theorem ggX5_setShift_X4_on : GoodIn wsX5_setShift wsX4_on := goodIn_r _ [15, 16, 17, 18, 19, 9, 20, 21, 22, 42, 43, 44] (by decide +kernel) (by decide +kernel)
set_option maxRecDepth 20000 in
theorem gX5_setShift_X4_on : GoodIn wsX5_setShift (wsV RX5 136 RX4 yX4_on wsX4_on) := goodIn_app (goodIn_of _ (by decide +kernel)) ggX5_setShift_X4_on
set_option maxRecDepth 20000 in
theorem ggX5_setShift_X4_tell : GoodIn wsX5_setShift wsX4_tell := goodIn_r _ [26, 17, 16, 18, 19, 9, 20, 27, 28, 42, 43, 44] (by decide +kernel) (by decide +kernel)
set_option maxRecDepth 20000 in
theorem gX5_setShift_X4_tell : GoodIn wsX5_setShift (wsV RX5 139 RX4 yX4_tell wsX4_tell) := goodIn_app (goodIn_of _ (by decide +kernel)) ggX5_setShift_X4_tell
theorem dX5_setShift_0 : decode cX5_setShift 0 = .ok (.iload_n 1, 1) := by decide +kernel
theorem dX5_setShift_1 : decode cX5_setShift 1 = .ok (.invokestatic 60, 3) := by decide +kernel
theorem dX5_setShift_4 : decode cX5_setShift 4 = .ok (.iload_n 2, 1) := by decide +kernel
theorem dX5_setShift_5 : decode cX5_setShift 5 = .ok (.sipush (-200), 3) := by decide +kernel
theorem dX5_setShift_8 : decode cX5_setShift 8 = .ok (.if_icmp .lt 10, 3) := by decide +kernel
theorem dX5_setShift_11 : decode cX5_setShift 11 = .ok (.iload_n 2, 1) := by decide +kernel
theorem dX5_setShift_12 : decode cX5_setShift 12 = .ok (.sipush 200, 3) := by decide +kernel
theorem dX5_setShift_15 : decode cX5_setShift 15 = .ok (.if_icmp .le 13, 3) := by decide +kernel
theorem dX5_setShift_18 : decode cX5_setShift 18 = .ok (.new 112, 3) := by decide +kernel
theorem dX5_setShift_21 : decode cX5_setShift 21 = .ok (.dup, 1) := by decide +kernel
theorem dX5_setShift_22 : decode cX5_setShift 22 = .ok (.ldc 134, 2) := by decide +kernel
theorem dX5_setShift_24 : decode cX5_setShift 24 = .ok (.invokespecial 116, 3) := by decide +kernel
theorem dX5_setShift_27 : decode cX5_setShift 27 = .ok (.athrow, 1) := by decide +kernel
theorem dX5_setShift_28 : decode cX5_setShift 28 = .ok (.aload_n 0, 1) := by decide +kernel
theorem dX5_setShift_29 : decode cX5_setShift 29 = .ok (.getfield 18, 3) := by decide +kernel
theorem dX5_setShift_32 : decode cX5_setShift 32 = .ok (.iload_n 1, 1) := by decide +kernel
theorem dX5_setShift_33 : decode cX5_setShift 33 = .ok (.invokevirtual 136, 3) := by decide +kernel
theorem dX5_setShift_36 : decode cX5_setShift 36 = .ok (.istore_n 3, 1) := by decide +kernel
theorem dX5_setShift_37 : decode cX5_setShift 37 = .ok (.aload_n 0, 1) := by decide +kernel
theorem dX5_setShift_38 : decode cX5_setShift 38 = .ok (.getfield 18, 3) := by decide +kernel
theorem dX5_setShift_41 : decode cX5_setShift 41 = .ok (.iload_n 1, 1) := by decide +kernel
theorem dX5_setShift_42 : decode cX5_setShift 42 = .ok (.iload_n 2, 1) := by decide +kernel
theorem dX5_setShift_43 : decode cX5_setShift 43 = .ok (.invokevirtual 139, 3) := by decide +kernel
theorem dX5_setShift_46 : decode cX5_setShift 46 = .ok (.ifCond .ne 13, 3) := by decide +kernel
theorem dX5_setShift_49 : decode cX5_setShift 49 = .ok (.new 67, 3) := by decide +kernel
theorem dX5_setShift_52 : decode cX5_setShift 52 = .ok (.dup, 1) := by decide +kernel
theorem dX5_setShift_53 : decode cX5_setShift 53 = .ok (.ldc 142, 2) := by decide +kernel
theorem dX5_setShift_55 : decode cX5_setShift 55 = .ok (.invokespecial 71, 3) := by decide +kernel
theorem dX5_setShift_58 : decode cX5_setShift 58 = .ok (.athrow, 1) := by decide +kernel
theorem dX5_setShift_59 : decode cX5_setShift 59 = .ok (.aload_n 0, 1) := by decide +kernel
theorem dX5_setShift_60 : decode cX5_setShift 60 = .ok (.iconst 0, 1) := by decide +kernel
theorem dX5_setShift_61 : decode cX5_setShift 61 = .ok (.putfield 82, 3) := by decide +kernel
theorem dX5_setShift_64 : decode cX5_setShift 64 = .ok (.iload_n 3, 1) := by decide +kernel
theorem dX5_setShift_65 : decode cX5_setShift 65 = .ok (.ireturn, 1) := by decide +kernel
set_option maxRecDepth 20000 in
theorem ggX5_shift_X5_requireDay : GoodIn wsX5_shift wsX5_requireDay := goodIn_ca (goodIn_r _ [5, 6, 7] (by decide +kernel) (by decide +kernel)) (goodIn_sub (fun _ h => List.mem_cons_of_mem _ (List.mem_append_right _ h)) (by decide +kernel))
set_option maxRecDepth 20000 in
theorem gX5_shift_X5_requireDay : GoodIn wsX5_shift (va_wsS RX5 60 yX5_requireDay wsX5_requireDay) := goodIn_app (goodIn_of _ (by decide +kernel)) ggX5_shift_X5_requireDay
set_option maxRecDepth 20000 in
theorem ggX5_shift_X4_on : GoodIn wsX5_shift wsX4_on := goodIn_r _ [12, 13, 14, 15, 16, 4, 17, 18, 19, 33, 34, 35] (by decide +kernel) (by decide +kernel)
set_option maxRecDepth 20000 in
theorem gX5_shift_X4_on : GoodIn wsX5_shift (wsV RX5 136 RX4 yX4_on wsX4_on) := goodIn_app (goodIn_of _ (by decide +kernel)) ggX5_shift_X4_on
theorem dX5_shift_0 : decode cX5_shift 0 = .ok (.iload_n 1, 1) := by decide +kernel
theorem dX5_shift_1 : decode cX5_shift 1 = .ok (.invokestatic 60, 3) := by decide +kernel
theorem dX5_shift_4 : decode cX5_shift 4 = .ok (.aload_n 0, 1) := by decide +kernel
theorem dX5_shift_5 : decode cX5_shift 5 = .ok (.getfield 18, 3) := by decide +kernel
theorem dX5_shift_8 : decode cX5_shift 8 = .ok (.iload_n 1, 1) := by decide +kernel
theorem dX5_shift_9 : decode cX5_shift 9 = .ok (.invokevirtual 136, 3) := by decide +kernel
theorem dX5_shift_12 : decode cX5_shift 12 = .ok (.ireturn, 1) := by decide +kernel
set_option maxRecDepth 20000 in
theorem ggX5_read_X5_requireSpan : GoodIn wsX5_read wsX5_requireSpan := goodIn_ca (goodIn_r _ [7, 8, 9, 10, 11, 6, 12] (by decide +kernel) (by decide +kernel)) (goodIn_sub (fun _ h => List.mem_cons_of_mem _ (List.mem_append_right _ h)) (by decide +kernel))
set_option maxRecDepth 20000 in
theorem gX5_read_X5_requireSpan : GoodIn wsX5_read (va_wsS RX5 144 yX5_requireSpan wsX5_requireSpan) := goodIn_app (goodIn_of _ (by decide +kernel)) ggX5_read_X5_requireSpan
set_option maxRecDepth 20000 in
theorem ggX5_read_X5_requireStage : GoodIn wsX5_read wsX5_requireStage := goodIn_ca (goodIn_r _ [15, 8, 9, 16, 17] (by decide +kernel) (by decide +kernel)) (goodIn_sub (fun _ h => List.mem_cons_of_mem _ (List.mem_append_right _ h)) (by decide +kernel))
set_option maxRecDepth 20000 in
theorem gX5_read_X5_requireStage : GoodIn wsX5_read (va_wsS RX5 95 yX5_requireStage wsX5_requireStage) := goodIn_app (goodIn_of _ (by decide +kernel)) ggX5_read_X5_requireStage
set_option maxRecDepth 20000 in
theorem ggX5_read_X5_countTrue : GoodIn wsX5_read wsX5_countTrue := goodIn_r _ [20] (by decide +kernel) (by decide +kernel)
set_option maxRecDepth 20000 in
theorem gX5_read_X5_countTrue : GoodIn wsX5_read (va_wsS RX5 148 yX5_countTrue wsX5_countTrue) := goodIn_app (goodIn_of _ (by decide +kernel)) ggX5_read_X5_countTrue
theorem dX5_read_0 : decode cX5_read 0 = .ok (.iload_n 1, 1) := by decide +kernel
theorem dX5_read_1 : decode cX5_read 1 = .ok (.iload_n 2, 1) := by decide +kernel
theorem dX5_read_2 : decode cX5_read 2 = .ok (.invokestatic 144, 3) := by decide +kernel
theorem dX5_read_5 : decode cX5_read 5 = .ok (.iload_n 3, 1) := by decide +kernel
theorem dX5_read_6 : decode cX5_read 6 = .ok (.i2l, 1) := by decide +kernel
theorem dX5_read_7 : decode cX5_read 7 = .ok (.invokestatic 95, 3) := by decide +kernel
theorem dX5_read_10 : decode cX5_read 10 = .ok (.iload_n 3, 1) := by decide +kernel
theorem dX5_read_11 : decode cX5_read 11 = .ok (.i2l, 1) := by decide +kernel
theorem dX5_read_12 : decode cX5_read 12 = .ok (.iload 4, 2) := by decide +kernel
theorem dX5_read_14 : decode cX5_read 14 = .ok (.i2l, 1) := by decide +kernel
theorem dX5_read_15 : decode cX5_read 15 = .ok (.iload_n 2, 1) := by decide +kernel
theorem dX5_read_16 : decode cX5_read 16 = .ok (.iconst 1, 1) := by decide +kernel
theorem dX5_read_17 : decode cX5_read 17 = .ok (.isub, 1) := by decide +kernel
theorem dX5_read_18 : decode cX5_read 18 = .ok (.i2l, 1) := by decide +kernel
theorem dX5_read_19 : decode cX5_read 19 = .ok (.lmul, 1) := by decide +kernel
theorem dX5_read_20 : decode cX5_read 20 = .ok (.ladd, 1) := by decide +kernel
theorem dX5_read_21 : decode cX5_read 21 = .ok (.invokestatic 95, 3) := by decide +kernel
theorem dX5_read_24 : decode cX5_read 24 = .ok (.aload_n 0, 1) := by decide +kernel
theorem dX5_read_25 : decode cX5_read 25 = .ok (.getfield 26, 3) := by decide +kernel
theorem dX5_read_28 : decode cX5_read 28 = .ok (.iload_n 1, 1) := by decide +kernel
theorem dX5_read_29 : decode cX5_read 29 = .ok (.iload_n 2, 1) := by decide +kernel
theorem dX5_read_30 : decode cX5_read 30 = .ok (.invokestatic 148, 3) := by decide +kernel
theorem dX5_read_33 : decode cX5_read 33 = .ok (.istore 5, 2) := by decide +kernel
theorem dX5_read_35 : decode cX5_read 35 = .ok (.iconst 0, 1) := by decide +kernel
theorem dX5_read_36 : decode cX5_read 36 = .ok (.istore 6, 2) := by decide +kernel
theorem dX5_read_38 : decode cX5_read 38 = .ok (.iload 6, 2) := by decide +kernel
theorem dX5_read_40 : decode cX5_read 40 = .ok (.iload_n 2, 1) := by decide +kernel
theorem dX5_read_41 : decode cX5_read 41 = .ok (.if_icmp .ge 35, 3) := by decide +kernel
theorem dX5_read_44 : decode cX5_read 44 = .ok (.aload_n 0, 1) := by decide +kernel
theorem dX5_read_45 : decode cX5_read 45 = .ok (.getfield 22, 3) := by decide +kernel
theorem dX5_read_48 : decode cX5_read 48 = .ok (.iload_n 1, 1) := by decide +kernel
theorem dX5_read_49 : decode cX5_read 49 = .ok (.iload 6, 2) := by decide +kernel
theorem dX5_read_51 : decode cX5_read 51 = .ok (.iadd, 1) := by decide +kernel
theorem dX5_read_52 : decode cX5_read 52 = .ok (.iload_n 3, 1) := by decide +kernel
theorem dX5_read_53 : decode cX5_read 53 = .ok (.iload 4, 2) := by decide +kernel
theorem dX5_read_55 : decode cX5_read 55 = .ok (.iload 6, 2) := by decide +kernel
theorem dX5_read_57 : decode cX5_read 57 = .ok (.imul, 1) := by decide +kernel
theorem dX5_read_58 : decode cX5_read 58 = .ok (.iadd, 1) := by decide +kernel
theorem dX5_read_59 : decode cX5_read 59 = .ok (.iastore, 1) := by decide +kernel
theorem dX5_read_60 : decode cX5_read 60 = .ok (.aload_n 0, 1) := by decide +kernel
theorem dX5_read_61 : decode cX5_read 61 = .ok (.getfield 26, 3) := by decide +kernel
theorem dX5_read_64 : decode cX5_read 64 = .ok (.iload_n 1, 1) := by decide +kernel
theorem dX5_read_65 : decode cX5_read 65 = .ok (.iload 6, 2) := by decide +kernel
theorem dX5_read_67 : decode cX5_read 67 = .ok (.iadd, 1) := by decide +kernel
theorem dX5_read_68 : decode cX5_read 68 = .ok (.iconst 1, 1) := by decide +kernel
theorem dX5_read_69 : decode cX5_read 69 = .ok (.bastore, 1) := by decide +kernel
theorem dX5_read_70 : decode cX5_read 70 = .ok (.iinc 6 1, 3) := by decide +kernel
theorem dX5_read_73 : decode cX5_read 73 = .ok (.goto (-35), 3) := by decide +kernel
theorem dX5_read_76 : decode cX5_read 76 = .ok (.aload_n 0, 1) := by decide +kernel
theorem dX5_read_77 : decode cX5_read 77 = .ok (.iconst 0, 1) := by decide +kernel
theorem dX5_read_78 : decode cX5_read 78 = .ok (.putfield 82, 3) := by decide +kernel
theorem dX5_read_81 : decode cX5_read 81 = .ok (.iload 5, 2) := by decide +kernel
theorem dX5_read_83 : decode cX5_read 83 = .ok (.ireturn, 1) := by decide +kernel
set_option maxRecDepth 20000 in
theorem ggX5_erase_X5_requireSpan : GoodIn wsX5_erase wsX5_requireSpan := goodIn_ca (goodIn_r _ [6, 7, 8, 9, 10, 5, 11] (by decide +kernel) (by decide +kernel)) (goodIn_sub (fun _ h => List.mem_cons_of_mem _ (List.mem_append_right _ h)) (by decide +kernel))
set_option maxRecDepth 20000 in
theorem gX5_erase_X5_requireSpan : GoodIn wsX5_erase (va_wsS RX5 144 yX5_requireSpan wsX5_requireSpan) := goodIn_app (goodIn_of _ (by decide +kernel)) ggX5_erase_X5_requireSpan
set_option maxRecDepth 20000 in
theorem ggX5_erase_X5_countTrue : GoodIn wsX5_erase wsX5_countTrue := goodIn_r _ [14] (by decide +kernel) (by decide +kernel)
set_option maxRecDepth 20000 in
theorem gX5_erase_X5_countTrue : GoodIn wsX5_erase (va_wsS RX5 148 yX5_countTrue wsX5_countTrue) := goodIn_app (goodIn_of _ (by decide +kernel)) ggX5_erase_X5_countTrue
theorem dX5_erase_0 : decode cX5_erase 0 = .ok (.iload_n 1, 1) := by decide +kernel
theorem dX5_erase_1 : decode cX5_erase 1 = .ok (.iload_n 2, 1) := by decide +kernel
theorem dX5_erase_2 : decode cX5_erase 2 = .ok (.invokestatic 144, 3) := by decide +kernel
theorem dX5_erase_5 : decode cX5_erase 5 = .ok (.aload_n 0, 1) := by decide +kernel
theorem dX5_erase_6 : decode cX5_erase 6 = .ok (.getfield 26, 3) := by decide +kernel
theorem dX5_erase_9 : decode cX5_erase 9 = .ok (.iload_n 1, 1) := by decide +kernel
theorem dX5_erase_10 : decode cX5_erase 10 = .ok (.iload_n 2, 1) := by decide +kernel
theorem dX5_erase_11 : decode cX5_erase 11 = .ok (.invokestatic 148, 3) := by decide +kernel
theorem dX5_erase_14 : decode cX5_erase 14 = .ok (.istore_n 3, 1) := by decide +kernel
theorem dX5_erase_15 : decode cX5_erase 15 = .ok (.iconst 0, 1) := by decide +kernel
theorem dX5_erase_16 : decode cX5_erase 16 = .ok (.istore 4, 2) := by decide +kernel
theorem dX5_erase_18 : decode cX5_erase 18 = .ok (.iload 4, 2) := by decide +kernel
theorem dX5_erase_20 : decode cX5_erase 20 = .ok (.iload_n 2, 1) := by decide +kernel
theorem dX5_erase_21 : decode cX5_erase 21 = .ok (.if_icmp .ge 19, 3) := by decide +kernel
theorem dX5_erase_24 : decode cX5_erase 24 = .ok (.aload_n 0, 1) := by decide +kernel
theorem dX5_erase_25 : decode cX5_erase 25 = .ok (.getfield 26, 3) := by decide +kernel
theorem dX5_erase_28 : decode cX5_erase 28 = .ok (.iload_n 1, 1) := by decide +kernel
theorem dX5_erase_29 : decode cX5_erase 29 = .ok (.iload 4, 2) := by decide +kernel
theorem dX5_erase_31 : decode cX5_erase 31 = .ok (.iadd, 1) := by decide +kernel
theorem dX5_erase_32 : decode cX5_erase 32 = .ok (.iconst 0, 1) := by decide +kernel
theorem dX5_erase_33 : decode cX5_erase 33 = .ok (.bastore, 1) := by decide +kernel
theorem dX5_erase_34 : decode cX5_erase 34 = .ok (.iinc 4 1, 3) := by decide +kernel
theorem dX5_erase_37 : decode cX5_erase 37 = .ok (.goto (-19), 3) := by decide +kernel
theorem dX5_erase_40 : decode cX5_erase 40 = .ok (.aload_n 0, 1) := by decide +kernel
theorem dX5_erase_41 : decode cX5_erase 41 = .ok (.iconst 0, 1) := by decide +kernel
theorem dX5_erase_42 : decode cX5_erase 42 = .ok (.putfield 82, 3) := by decide +kernel
theorem dX5_erase_45 : decode cX5_erase 45 = .ok (.iload_n 3, 1) := by decide +kernel
theorem dX5_erase_46 : decode cX5_erase 46 = .ok (.ireturn, 1) := by decide +kernel
set_option maxRecDepth 20000 in
theorem ggX5_freeze_X5_requireSpan : GoodIn wsX5_freeze wsX5_requireSpan := goodIn_ca (goodIn_r _ [6, 7, 8, 9, 10, 5, 11] (by decide +kernel) (by decide +kernel)) (goodIn_sub (fun _ h => List.mem_cons_of_mem _ (List.mem_append_right _ h)) (by decide +kernel))
set_option maxRecDepth 20000 in
theorem gX5_freeze_X5_requireSpan : GoodIn wsX5_freeze (va_wsS RX5 144 yX5_requireSpan wsX5_requireSpan) := goodIn_app (goodIn_of _ (by decide +kernel)) ggX5_freeze_X5_requireSpan
set_option maxRecDepth 20000 in
theorem ggX5_freeze_X5_countTrue : GoodIn wsX5_freeze wsX5_countTrue := goodIn_r _ [14] (by decide +kernel) (by decide +kernel)
set_option maxRecDepth 20000 in
theorem gX5_freeze_X5_countTrue : GoodIn wsX5_freeze (va_wsS RX5 148 yX5_countTrue wsX5_countTrue) := goodIn_app (goodIn_of _ (by decide +kernel)) ggX5_freeze_X5_countTrue
theorem dX5_freeze_0 : decode cX5_freeze 0 = .ok (.iload_n 1, 1) := by decide +kernel
theorem dX5_freeze_1 : decode cX5_freeze 1 = .ok (.iload_n 2, 1) := by decide +kernel
theorem dX5_freeze_2 : decode cX5_freeze 2 = .ok (.invokestatic 144, 3) := by decide +kernel
theorem dX5_freeze_5 : decode cX5_freeze 5 = .ok (.aload_n 0, 1) := by decide +kernel
theorem dX5_freeze_6 : decode cX5_freeze 6 = .ok (.getfield 30, 3) := by decide +kernel
theorem dX5_freeze_9 : decode cX5_freeze 9 = .ok (.iload_n 1, 1) := by decide +kernel
theorem dX5_freeze_10 : decode cX5_freeze 10 = .ok (.iload_n 2, 1) := by decide +kernel
theorem dX5_freeze_11 : decode cX5_freeze 11 = .ok (.invokestatic 148, 3) := by decide +kernel
theorem dX5_freeze_14 : decode cX5_freeze 14 = .ok (.istore 4, 2) := by decide +kernel
theorem dX5_freeze_16 : decode cX5_freeze 16 = .ok (.iconst 0, 1) := by decide +kernel
theorem dX5_freeze_17 : decode cX5_freeze 17 = .ok (.istore 5, 2) := by decide +kernel
theorem dX5_freeze_19 : decode cX5_freeze 19 = .ok (.iload 5, 2) := by decide +kernel
theorem dX5_freeze_21 : decode cX5_freeze 21 = .ok (.iload_n 2, 1) := by decide +kernel
theorem dX5_freeze_22 : decode cX5_freeze 22 = .ok (.if_icmp .ge 19, 3) := by decide +kernel
theorem dX5_freeze_25 : decode cX5_freeze 25 = .ok (.aload_n 0, 1) := by decide +kernel
theorem dX5_freeze_26 : decode cX5_freeze 26 = .ok (.getfield 30, 3) := by decide +kernel
theorem dX5_freeze_29 : decode cX5_freeze 29 = .ok (.iload_n 1, 1) := by decide +kernel
theorem dX5_freeze_30 : decode cX5_freeze 30 = .ok (.iload 5, 2) := by decide +kernel
theorem dX5_freeze_32 : decode cX5_freeze 32 = .ok (.iadd, 1) := by decide +kernel
theorem dX5_freeze_33 : decode cX5_freeze 33 = .ok (.iload_n 3, 1) := by decide +kernel
theorem dX5_freeze_34 : decode cX5_freeze 34 = .ok (.bastore, 1) := by decide +kernel
theorem dX5_freeze_35 : decode cX5_freeze 35 = .ok (.iinc 5 1, 3) := by decide +kernel
theorem dX5_freeze_38 : decode cX5_freeze 38 = .ok (.goto (-19), 3) := by decide +kernel
theorem dX5_freeze_41 : decode cX5_freeze 41 = .ok (.aload_n 0, 1) := by decide +kernel
theorem dX5_freeze_42 : decode cX5_freeze 42 = .ok (.iconst 0, 1) := by decide +kernel
theorem dX5_freeze_43 : decode cX5_freeze 43 = .ok (.putfield 82, 3) := by decide +kernel
theorem dX5_freeze_46 : decode cX5_freeze 46 = .ok (.iload_n 3, 1) := by decide +kernel
theorem dX5_freeze_47 : decode cX5_freeze 47 = .ok (.ifCond .eq 10, 3) := by decide +kernel
theorem dX5_freeze_50 : decode cX5_freeze 50 = .ok (.iload_n 2, 1) := by decide +kernel
theorem dX5_freeze_51 : decode cX5_freeze 51 = .ok (.iload 4, 2) := by decide +kernel
theorem dX5_freeze_53 : decode cX5_freeze 53 = .ok (.isub, 1) := by decide +kernel
theorem dX5_freeze_54 : decode cX5_freeze 54 = .ok (.goto 5, 3) := by decide +kernel
theorem dX5_freeze_57 : decode cX5_freeze 57 = .ok (.iload 4, 2) := by decide +kernel
theorem dX5_freeze_59 : decode cX5_freeze 59 = .ok (.ireturn, 1) := by decide +kernel
theorem dX5_setRules_0 : decode cX5_setRules 0 = .ok (.iload_n 1, 1) := by decide +kernel
theorem dX5_setRules_1 : decode cX5_setRules 1 = .ok (.ifCond .lt 9, 3) := by decide +kernel
theorem dX5_setRules_4 : decode cX5_setRules 4 = .ok (.iload_n 1, 1) := by decide +kernel
theorem dX5_setRules_5 : decode cX5_setRules 5 = .ok (.bipush 100, 2) := by decide +kernel
theorem dX5_setRules_7 : decode cX5_setRules 7 = .ok (.if_icmp .le 13, 3) := by decide +kernel
theorem dX5_setRules_10 : decode cX5_setRules 10 = .ok (.new 112, 3) := by decide +kernel
theorem dX5_setRules_13 : decode cX5_setRules 13 = .ok (.dup, 1) := by decide +kernel
theorem dX5_setRules_14 : decode cX5_setRules 14 = .ok (.ldc 152, 2) := by decide +kernel
theorem dX5_setRules_16 : decode cX5_setRules 16 = .ok (.invokespecial 116, 3) := by decide +kernel
theorem dX5_setRules_19 : decode cX5_setRules 19 = .ok (.athrow, 1) := by decide +kernel
theorem dX5_setRules_20 : decode cX5_setRules 20 = .ok (.iload_n 2, 1) := by decide +kernel
theorem dX5_setRules_21 : decode cX5_setRules 21 = .ok (.ifCond .lt 9, 3) := by decide +kernel
theorem dX5_setRules_24 : decode cX5_setRules 24 = .ok (.iload_n 2, 1) := by decide +kernel
theorem dX5_setRules_25 : decode cX5_setRules 25 = .ok (.bipush 60, 2) := by decide +kernel
theorem dX5_setRules_27 : decode cX5_setRules 27 = .ok (.if_icmp .le 13, 3) := by decide +kernel
theorem dX5_setRules_30 : decode cX5_setRules 30 = .ok (.new 112, 3) := by decide +kernel
theorem dX5_setRules_33 : decode cX5_setRules 33 = .ok (.dup, 1) := by decide +kernel
theorem dX5_setRules_34 : decode cX5_setRules 34 = .ok (.ldc 154, 2) := by decide +kernel
theorem dX5_setRules_36 : decode cX5_setRules 36 = .ok (.invokespecial 116, 3) := by decide +kernel
theorem dX5_setRules_39 : decode cX5_setRules 39 = .ok (.athrow, 1) := by decide +kernel
theorem dX5_setRules_40 : decode cX5_setRules 40 = .ok (.aload_n 0, 1) := by decide +kernel
theorem dX5_setRules_41 : decode cX5_setRules 41 = .ok (.getfield 53, 3) := by decide +kernel
theorem dX5_setRules_44 : decode cX5_setRules 44 = .ok (.istore_n 3, 1) := by decide +kernel
theorem dX5_setRules_45 : decode cX5_setRules 45 = .ok (.aload_n 0, 1) := by decide +kernel
theorem dX5_setRules_46 : decode cX5_setRules 46 = .ok (.iload_n 1, 1) := by decide +kernel
theorem dX5_setRules_47 : decode cX5_setRules 47 = .ok (.putfield 53, 3) := by decide +kernel
theorem dX5_setRules_50 : decode cX5_setRules 50 = .ok (.aload_n 0, 1) := by decide +kernel
theorem dX5_setRules_51 : decode cX5_setRules 51 = .ok (.iload_n 2, 1) := by decide +kernel
theorem dX5_setRules_52 : decode cX5_setRules 52 = .ok (.putfield 57, 3) := by decide +kernel
theorem dX5_setRules_55 : decode cX5_setRules 55 = .ok (.aload_n 0, 1) := by decide +kernel
theorem dX5_setRules_56 : decode cX5_setRules 56 = .ok (.iconst 0, 1) := by decide +kernel
theorem dX5_setRules_57 : decode cX5_setRules 57 = .ok (.putfield 82, 3) := by decide +kernel
theorem dX5_setRules_60 : decode cX5_setRules 60 = .ok (.iload_n 3, 1) := by decide +kernel
theorem dX5_setRules_61 : decode cX5_setRules 61 = .ok (.ireturn, 1) := by decide +kernel
set_option maxRecDepth 20000 in
theorem ggX5_state_X5_requireDay : GoodIn wsX5_state wsX5_requireDay := goodIn_ca (goodIn_r _ [5, 6, 7] (by decide +kernel) (by decide +kernel)) (goodIn_sub (fun _ h => List.mem_cons_of_mem _ (List.mem_append_right _ h)) (by decide +kernel))
set_option maxRecDepth 20000 in
theorem gX5_state_X5_requireDay : GoodIn wsX5_state (va_wsS RX5 60 yX5_requireDay wsX5_requireDay) := goodIn_app (goodIn_of _ (by decide +kernel)) ggX5_state_X5_requireDay
set_option maxRecDepth 20000 in
theorem ggX5_state_X5_reckon : GoodIn wsX5_state wsX5_reckon := goodIn_r _ [11, 12, 1, 13, 14, 15, 16, 4, 17, 18, 19, 20, 21, 22, 23, 24, 25, 26, 27, 28, 29, 30, 31, 32, 33, 34, 35, 36, 37, 38, 39, 40, 41, 42, 43, 44, 45, 46, 47, 48, 49, 50, 51, 52, 53, 54, 55, 56, 57, 58, 59, 60, 61, 62, 63, 64, 65, 66, 67, 68, 69, 70, 71, 72, 73, 74, 75, 76, 77, 78, 79, 80, 81, 82, 83, 84, 85, 86, 87, 88, 89, 90, 91, 92, 93, 94, 95, 96, 97, 98, 100, 101, 102, 103, 104, 105, 106, 107, 108, 109, 110, 111, 112, 113, 114, 115, 116, 117, 118, 119, 120, 121] (by decide +kernel) (by decide +kernel)
set_option maxRecDepth 20000 in
theorem gX5_state_X5_reckon : GoodIn wsX5_state (wsV RX5 156 RX5 yX5_reckon wsX5_reckon) := goodIn_app (goodIn_of _ (by decide +kernel)) ggX5_state_X5_reckon
set_option maxRecDepth 20000 in
theorem ggX5_state_X1_stateOn : GoodIn wsX5_state wsX1_stateOn := goodIn_r _ [88, 51, 117, 118] (by decide +kernel) (by decide +kernel)
set_option maxRecDepth 20000 in
theorem gX5_state_X1_stateOn : GoodIn wsX5_state (wsV RX5 159 RX1 yX1_stateOn wsX1_stateOn) := goodIn_app (goodIn_of _ (by decide +kernel)) ggX5_state_X1_stateOn
theorem dX5_state_0 : decode cX5_state 0 = .ok (.iload_n 1, 1) := by decide +kernel
theorem dX5_state_1 : decode cX5_state 1 = .ok (.invokestatic 60, 3) := by decide +kernel
theorem dX5_state_4 : decode cX5_state 4 = .ok (.aload_n 0, 1) := by decide +kernel
theorem dX5_state_5 : decode cX5_state 5 = .ok (.invokevirtual 156, 3) := by decide +kernel
theorem dX5_state_8 : decode cX5_state 8 = .ok (.aload_n 0, 1) := by decide +kernel
theorem dX5_state_9 : decode cX5_state 9 = .ok (.getfield 42, 3) := by decide +kernel
theorem dX5_state_12 : decode cX5_state 12 = .ok (.iload_n 1, 1) := by decide +kernel
theorem dX5_state_13 : decode cX5_state 13 = .ok (.invokevirtual 159, 3) := by decide +kernel
theorem dX5_state_16 : decode cX5_state 16 = .ok (.ireturn, 1) := by decide +kernel
set_option maxRecDepth 20000 in
theorem ggX5_flow_X5_requireDay : GoodIn wsX5_flow wsX5_requireDay := goodIn_ca (goodIn_r _ [5, 6, 7] (by decide +kernel) (by decide +kernel)) (goodIn_sub (fun _ h => List.mem_cons_of_mem _ (List.mem_append_right _ h)) (by decide +kernel))
set_option maxRecDepth 20000 in
theorem gX5_flow_X5_requireDay : GoodIn wsX5_flow (va_wsS RX5 60 yX5_requireDay wsX5_requireDay) := goodIn_app (goodIn_of _ (by decide +kernel)) ggX5_flow_X5_requireDay
set_option maxRecDepth 20000 in
theorem ggX5_flow_X5_reckon : GoodIn wsX5_flow wsX5_reckon := goodIn_r _ [11, 12, 1, 13, 14, 15, 16, 4, 17, 18, 19, 20, 21, 22, 23, 24, 25, 26, 27, 28, 29, 30, 31, 32, 33, 34, 35, 36, 37, 38, 39, 40, 41, 42, 43, 44, 45, 46, 47, 48, 49, 50, 51, 52, 53, 54, 55, 56, 57, 58, 59, 60, 61, 62, 63, 64, 65, 66, 67, 68, 69, 70, 71, 72, 73, 74, 75, 76, 77, 78, 79, 80, 81, 82, 83, 84, 85, 86, 87, 88, 89, 90, 91, 92, 93, 94, 95, 96, 97, 98, 100, 101, 102, 103, 104, 105, 106, 107, 108, 109, 110, 111, 112, 113, 114, 115, 116, 117, 118, 119, 120, 121] (by decide +kernel) (by decide +kernel)
set_option maxRecDepth 20000 in
theorem gX5_flow_X5_reckon : GoodIn wsX5_flow (wsV RX5 156 RX5 yX5_reckon wsX5_reckon) := goodIn_app (goodIn_of _ (by decide +kernel)) ggX5_flow_X5_reckon
set_option maxRecDepth 20000 in
theorem ggX5_flow_X1_flowOn : GoodIn wsX5_flow wsX1_flowOn := goodIn_r _ [96, 97, 50, 117, 118] (by decide +kernel) (by decide +kernel)
set_option maxRecDepth 20000 in
theorem gX5_flow_X1_flowOn : GoodIn wsX5_flow (wsV RX5 162 RX1 yX1_flowOn wsX1_flowOn) := goodIn_app (goodIn_of _ (by decide +kernel)) ggX5_flow_X1_flowOn
theorem dX5_flow_0 : decode cX5_flow 0 = .ok (.iload_n 1, 1) := by decide +kernel
theorem dX5_flow_1 : decode cX5_flow 1 = .ok (.invokestatic 60, 3) := by decide +kernel
theorem dX5_flow_4 : decode cX5_flow 4 = .ok (.aload_n 0, 1) := by decide +kernel
theorem dX5_flow_5 : decode cX5_flow 5 = .ok (.invokevirtual 156, 3) := by decide +kernel
theorem dX5_flow_8 : decode cX5_flow 8 = .ok (.aload_n 0, 1) := by decide +kernel
theorem dX5_flow_9 : decode cX5_flow 9 = .ok (.getfield 42, 3) := by decide +kernel
theorem dX5_flow_12 : decode cX5_flow 12 = .ok (.iload_n 1, 1) := by decide +kernel
theorem dX5_flow_13 : decode cX5_flow 13 = .ok (.invokevirtual 162, 3) := by decide +kernel
theorem dX5_flow_16 : decode cX5_flow 16 = .ok (.lreturn, 1) := by decide +kernel
set_option maxRecDepth 20000 in
theorem ggX5_sum_X5_requireRange : GoodIn wsX5_sum wsX5_requireRange := goodIn_ca (goodIn_r _ [7, 8, 9] (by decide +kernel) (by decide +kernel)) (goodIn_sub (fun _ h => List.mem_cons_of_mem _ (List.mem_append_right _ h)) (by decide +kernel))
set_option maxRecDepth 20000 in
theorem gX5_sum_X5_requireRange : GoodIn wsX5_sum (va_wsS RX5 167 yX5_requireRange wsX5_requireRange) := goodIn_app (goodIn_of _ (by decide +kernel)) ggX5_sum_X5_requireRange
set_option maxRecDepth 20000 in
theorem ggX5_sum_X5_reckon : GoodIn wsX5_sum wsX5_reckon := goodIn_r _ [13, 14, 3, 15, 16, 17, 18, 6, 19, 20, 21, 22, 23, 24, 25, 26, 27, 28, 29, 30, 31, 32, 33, 34, 35, 36, 37, 38, 39, 40, 41, 42, 43, 44, 45, 46, 47, 48, 49, 50, 51, 52, 53, 54, 55, 56, 57, 58, 59, 60, 61, 62, 63, 64, 65, 66, 67, 68, 69, 70, 71, 72, 73, 74, 75, 76, 77, 78, 79, 80, 81, 82, 83, 84, 85, 86, 87, 88, 89, 90, 91, 92, 93, 94, 95, 96, 97, 98, 99, 100, 118, 119, 120, 121, 122, 123, 124, 125, 126, 127, 128, 129, 130, 131, 132, 133, 134, 135, 136, 137, 138, 139] (by decide +kernel) (by decide +kernel)
set_option maxRecDepth 20000 in
theorem gX5_sum_X5_reckon : GoodIn wsX5_sum (wsV RX5 156 RX5 yX5_reckon wsX5_reckon) := goodIn_app (goodIn_of _ (by decide +kernel)) ggX5_sum_X5_reckon
set_option maxRecDepth 20000 in
theorem ggX5_sum_X1_daysWithFlow : GoodIn wsX5_sum wsX1_daysWithFlow := goodIn_r _ [104, 83, 84, 85, 50, 86, 87, 88, 89, 90, 53, 135, 136] (by decide +kernel) (by decide +kernel)
set_option maxRecDepth 20000 in
theorem gX5_sum_X1_daysWithFlow : GoodIn wsX5_sum (wsV RX5 170 RX1 yX1_daysWithFlow wsX1_daysWithFlow) := goodIn_app (goodIn_of _ (by decide +kernel)) ggX5_sum_X1_daysWithFlow
set_option maxRecDepth 20000 in
theorem ggX5_sum_X1_total : GoodIn wsX5_sum wsX1_total := goodIn_r _ [108, 83, 84, 85, 50, 86, 87, 88, 89, 90, 53, 95, 96, 97, 98, 99, 52, 135, 136] (by decide +kernel) (by decide +kernel)
set_option maxRecDepth 20000 in
theorem gX5_sum_X1_total : GoodIn wsX5_sum (wsV RX5 174 RX1 yX1_total wsX1_total) := goodIn_app (goodIn_of _ (by decide +kernel)) ggX5_sum_X1_total
set_option maxRecDepth 20000 in
theorem ggX5_sum_X1_greatestDay : GoodIn wsX5_sum wsX1_greatestDay := goodIn_r _ [112, 83, 84, 85, 50, 86, 87, 88, 89, 90, 53, 95, 96, 97, 98, 99, 52, 135, 136] (by decide +kernel) (by decide +kernel)
set_option maxRecDepth 20000 in
theorem gX5_sum_X1_greatestDay : GoodIn wsX5_sum (wsV RX5 178 RX1 yX1_greatestDay wsX1_greatestDay) := goodIn_app (goodIn_of _ (by decide +kernel)) ggX5_sum_X1_greatestDay
set_option maxRecDepth 20000 in
theorem ggX5_sum_X1_flowOn : GoodIn wsX5_sum wsX1_flowOn := goodIn_r _ [98, 99, 52, 135, 136] (by decide +kernel) (by decide +kernel)
set_option maxRecDepth 20000 in
theorem gX5_sum_X1_flowOn : GoodIn wsX5_sum (wsV RX5 162 RX1 yX1_flowOn wsX1_flowOn) := goodIn_app (goodIn_of _ (by decide +kernel)) ggX5_sum_X1_flowOn
set_option maxRecDepth 20000 in
theorem ggX5_sum_X1_leastFlow : GoodIn wsX5_sum wsX1_leastFlow := goodIn_r _ [117, 99, 83, 84, 85, 50, 86, 87, 88, 89, 90, 53, 95, 96, 97, 98, 52, 135, 136] (by decide +kernel) (by decide +kernel)
set_option maxRecDepth 20000 in
theorem gX5_sum_X1_leastFlow : GoodIn wsX5_sum (wsV RX5 181 RX1 yX1_leastFlow wsX1_leastFlow) := goodIn_app (goodIn_of _ (by decide +kernel)) ggX5_sum_X1_leastFlow
theorem dX5_sum_0 : decode cX5_sum 0 = .ok (.iload_n 3, 1) := by decide +kernel
theorem dX5_sum_1 : decode cX5_sum 1 = .ok (.ifCond .lt 8, 3) := by decide +kernel
theorem dX5_sum_4 : decode cX5_sum 4 = .ok (.iload_n 3, 1) := by decide +kernel
theorem dX5_sum_5 : decode cX5_sum 5 = .ok (.iconst 4, 1) := by decide +kernel
theorem dX5_sum_6 : decode cX5_sum 6 = .ok (.if_icmp .le 13, 3) := by decide +kernel
theorem dX5_sum_9 : decode cX5_sum 9 = .ok (.new 90, 3) := by decide +kernel
theorem dX5_sum_12 : decode cX5_sum 12 = .ok (.dup, 1) := by decide +kernel
theorem dX5_sum_13 : decode cX5_sum 13 = .ok (.ldc 165, 2) := by decide +kernel
theorem dX5_sum_15 : decode cX5_sum 15 = .ok (.invokespecial 94, 3) := by decide +kernel
theorem dX5_sum_18 : decode cX5_sum 18 = .ok (.athrow, 1) := by decide +kernel
theorem dX5_sum_19 : decode cX5_sum 19 = .ok (.iload_n 1, 1) := by decide +kernel
theorem dX5_sum_20 : decode cX5_sum 20 = .ok (.iload_n 2, 1) := by decide +kernel
theorem dX5_sum_21 : decode cX5_sum 21 = .ok (.invokestatic 167, 3) := by decide +kernel
theorem dX5_sum_24 : decode cX5_sum 24 = .ok (.aload_n 0, 1) := by decide +kernel
theorem dX5_sum_25 : decode cX5_sum 25 = .ok (.invokevirtual 156, 3) := by decide +kernel
theorem dX5_sum_28 : decode cX5_sum 28 = .ok (.iload_n 3, 1) := by decide +kernel
theorem dX5_sum_29 : decode cX5_sum 29 = .ok (.tableswitch 79 0 3 #[31, 42, 52, 69], 31) := by decide +kernel
theorem dX5_sum_60 : decode cX5_sum 60 = .ok (.aload_n 0, 1) := by decide +kernel
theorem dX5_sum_61 : decode cX5_sum 61 = .ok (.getfield 42, 3) := by decide +kernel
theorem dX5_sum_64 : decode cX5_sum 64 = .ok (.iload_n 1, 1) := by decide +kernel
theorem dX5_sum_65 : decode cX5_sum 65 = .ok (.iload_n 2, 1) := by decide +kernel
theorem dX5_sum_66 : decode cX5_sum 66 = .ok (.invokevirtual 170, 3) := by decide +kernel
theorem dX5_sum_69 : decode cX5_sum 69 = .ok (.i2l, 1) := by decide +kernel
theorem dX5_sum_70 : decode cX5_sum 70 = .ok (.lreturn, 1) := by decide +kernel
theorem dX5_sum_71 : decode cX5_sum 71 = .ok (.aload_n 0, 1) := by decide +kernel
theorem dX5_sum_72 : decode cX5_sum 72 = .ok (.getfield 42, 3) := by decide +kernel
theorem dX5_sum_75 : decode cX5_sum 75 = .ok (.iload_n 1, 1) := by decide +kernel
theorem dX5_sum_76 : decode cX5_sum 76 = .ok (.iload_n 2, 1) := by decide +kernel
theorem dX5_sum_77 : decode cX5_sum 77 = .ok (.invokevirtual 174, 3) := by decide +kernel
theorem dX5_sum_80 : decode cX5_sum 80 = .ok (.lreturn, 1) := by decide +kernel
theorem dX5_sum_81 : decode cX5_sum 81 = .ok (.aload_n 0, 1) := by decide +kernel
theorem dX5_sum_82 : decode cX5_sum 82 = .ok (.getfield 42, 3) := by decide +kernel
theorem dX5_sum_85 : decode cX5_sum 85 = .ok (.aload_n 0, 1) := by decide +kernel
theorem dX5_sum_86 : decode cX5_sum 86 = .ok (.getfield 42, 3) := by decide +kernel
theorem dX5_sum_89 : decode cX5_sum 89 = .ok (.iload_n 1, 1) := by decide +kernel
theorem dX5_sum_90 : decode cX5_sum 90 = .ok (.iload_n 2, 1) := by decide +kernel
theorem dX5_sum_91 : decode cX5_sum 91 = .ok (.invokevirtual 178, 3) := by decide +kernel
theorem dX5_sum_94 : decode cX5_sum 94 = .ok (.invokevirtual 162, 3) := by decide +kernel
theorem dX5_sum_97 : decode cX5_sum 97 = .ok (.lreturn, 1) := by decide +kernel
theorem dX5_sum_98 : decode cX5_sum 98 = .ok (.aload_n 0, 1) := by decide +kernel
theorem dX5_sum_99 : decode cX5_sum 99 = .ok (.getfield 42, 3) := by decide +kernel
theorem dX5_sum_102 : decode cX5_sum 102 = .ok (.iload_n 1, 1) := by decide +kernel
theorem dX5_sum_103 : decode cX5_sum 103 = .ok (.iload_n 2, 1) := by decide +kernel
theorem dX5_sum_104 : decode cX5_sum 104 = .ok (.invokevirtual 181, 3) := by decide +kernel
theorem dX5_sum_107 : decode cX5_sum 107 = .ok (.lreturn, 1) := by decide +kernel
theorem dX5_sum_108 : decode cX5_sum 108 = .ok (.aload_n 0, 1) := by decide +kernel
theorem dX5_sum_109 : decode cX5_sum 109 = .ok (.getfield 42, 3) := by decide +kernel
theorem dX5_sum_112 : decode cX5_sum 112 = .ok (.iload_n 1, 1) := by decide +kernel
theorem dX5_sum_113 : decode cX5_sum 113 = .ok (.iload_n 2, 1) := by decide +kernel
theorem dX5_sum_114 : decode cX5_sum 114 = .ok (.invokevirtual 178, 3) := by decide +kernel
theorem dX5_sum_117 : decode cX5_sum 117 = .ok (.i2l, 1) := by decide +kernel
theorem dX5_sum_118 : decode cX5_sum 118 = .ok (.lreturn, 1) := by decide +kernel
set_option maxRecDepth 20000 in
theorem ggX5_reached_X5_reckon : GoodIn wsX5_reached wsX5_reckon := goodIn_r _ [13, 14, 4, 15, 16, 17, 18, 12, 19, 20, 21, 22, 23, 24, 25, 26, 27, 28, 29, 30, 31, 32, 33, 34, 35, 36, 37, 38, 39, 40, 41, 42, 43, 44, 45, 46, 47, 48, 49, 50, 51, 52, 53, 54, 55, 56, 57, 58, 59, 60, 61, 62, 63, 64, 65, 66, 67, 68, 69, 70, 71, 6, 7, 8, 72, 73, 74, 75, 76, 77, 78, 79, 80, 81, 82, 83, 84, 85, 86, 87, 88, 89, 90, 91, 92, 93, 94, 95, 96, 97, 130, 131, 132, 133, 134, 135, 136, 137, 138, 139, 140, 141, 142, 143, 144, 145, 146, 147, 148, 149, 150, 151] (by decide +kernel) (by decide +kernel)
set_option maxRecDepth 20000 in
theorem gX5_reached_X5_reckon : GoodIn wsX5_reached (wsV RX5 156 RX5 yX5_reckon wsX5_reckon) := goodIn_app (goodIn_of _ (by decide +kernel)) ggX5_reached_X5_reckon
set_option maxRecDepth 20000 in
theorem ggX5_reached_X3_rank : GoodIn wsX5_reached wsX3_rank := goodIn_r _ [102, 103, 104, 105, 81, 82, 50, 83, 84, 85, 86, 87, 53, 106, 107, 108, 101, 109, 110, 73, 7, 74, 111, 112, 113, 114, 115, 116, 117, 118, 119, 120, 93, 94, 95, 96, 52, 152, 153, 154, 155, 147, 148] (by decide +kernel) (by decide +kernel)
set_option maxRecDepth 20000 in
theorem gX5_reached_X3_rank : GoodIn wsX5_reached (wsV RX5 186 RX3 yX3_rank wsX3_rank) := goodIn_app (goodIn_of _ (by decide +kernel)) ggX5_reached_X3_rank
set_option maxRecDepth 20000 in
theorem ggX5_reached_X3_size : GoodIn wsX5_reached wsX3_size := goodIn_r _ [124, 103, 152, 153, 154, 155] (by decide +kernel) (by decide +kernel)
set_option maxRecDepth 20000 in
theorem gX5_reached_X3_size : GoodIn wsX5_reached (wsV RX5 190 RX3 yX3_size wsX3_size) := goodIn_app (goodIn_of _ (by decide +kernel)) ggX5_reached_X3_size
set_option maxRecDepth 20000 in
theorem ggX5_reached_X3_dayOfRank : GoodIn wsX5_reached wsX3_dayOfRank := goodIn_r _ [128, 103, 104, 152, 153, 154, 155] (by decide +kernel) (by decide +kernel)
set_option maxRecDepth 20000 in
theorem gX5_reached_X3_dayOfRank : GoodIn wsX5_reached (wsV RX5 196 RX3 yX3_dayOfRank wsX3_dayOfRank) := goodIn_app (goodIn_of _ (by decide +kernel)) ggX5_reached_X3_dayOfRank
set_option maxRecDepth 20000 in
theorem ggX5_reached_X1_flowOn : GoodIn wsX5_reached wsX1_flowOn := goodIn_r _ [95, 96, 52, 147, 148] (by decide +kernel) (by decide +kernel)
set_option maxRecDepth 20000 in
theorem gX5_reached_X1_flowOn : GoodIn wsX5_reached (wsV RX5 162 RX1 yX1_flowOn wsX1_flowOn) := goodIn_app (goodIn_of _ (by decide +kernel)) ggX5_reached_X1_flowOn
theorem dX5_reached_0 : decode cX5_reached 0 = .ok (.iload_n 1, 1) := by decide +kernel
theorem dX5_reached_1 : decode cX5_reached 1 = .ok (.iconst 1, 1) := by decide +kernel
theorem dX5_reached_2 : decode cX5_reached 2 = .ok (.if_icmp .lt 9, 3) := by decide +kernel
theorem dX5_reached_5 : decode cX5_reached 5 = .ok (.iload_n 1, 1) := by decide +kernel
theorem dX5_reached_6 : decode cX5_reached 6 = .ok (.bipush 100, 2) := by decide +kernel
theorem dX5_reached_8 : decode cX5_reached 8 = .ok (.if_icmp .le 13, 3) := by decide +kernel
theorem dX5_reached_11 : decode cX5_reached 11 = .ok (.new 112, 3) := by decide +kernel
theorem dX5_reached_14 : decode cX5_reached 14 = .ok (.dup, 1) := by decide +kernel
theorem dX5_reached_15 : decode cX5_reached 15 = .ok (.ldc 184, 2) := by decide +kernel
theorem dX5_reached_17 : decode cX5_reached 17 = .ok (.invokespecial 116, 3) := by decide +kernel
theorem dX5_reached_20 : decode cX5_reached 20 = .ok (.athrow, 1) := by decide +kernel
theorem dX5_reached_21 : decode cX5_reached 21 = .ok (.aload_n 0, 1) := by decide +kernel
theorem dX5_reached_22 : decode cX5_reached 22 = .ok (.invokevirtual 156, 3) := by decide +kernel
theorem dX5_reached_25 : decode cX5_reached 25 = .ok (.aload_n 0, 1) := by decide +kernel
theorem dX5_reached_26 : decode cX5_reached 26 = .ok (.getfield 49, 3) := by decide +kernel
theorem dX5_reached_29 : decode cX5_reached 29 = .ok (.aload_n 0, 1) := by decide +kernel
theorem dX5_reached_30 : decode cX5_reached 30 = .ok (.getfield 42, 3) := by decide +kernel
theorem dX5_reached_33 : decode cX5_reached 33 = .ok (.invokevirtual 186, 3) := by decide +kernel
theorem dX5_reached_36 : decode cX5_reached 36 = .ok (.iconst 1, 1) := by decide +kernel
theorem dX5_reached_37 : decode cX5_reached 37 = .ok (.aload_n 0, 1) := by decide +kernel
theorem dX5_reached_38 : decode cX5_reached 38 = .ok (.getfield 49, 3) := by decide +kernel
theorem dX5_reached_41 : decode cX5_reached 41 = .ok (.invokevirtual 190, 3) := by decide +kernel
theorem dX5_reached_44 : decode cX5_reached 44 = .ok (.iload_n 1, 1) := by decide +kernel
theorem dX5_reached_45 : decode cX5_reached 45 = .ok (.imul, 1) := by decide +kernel
theorem dX5_reached_46 : decode cX5_reached 46 = .ok (.bipush 100, 2) := by decide +kernel
theorem dX5_reached_48 : decode cX5_reached 48 = .ok (.idiv, 1) := by decide +kernel
theorem dX5_reached_49 : decode cX5_reached 49 = .ok (.invokestatic 191, 3) := by decide +kernel
theorem dX5_reached_52 : decode cX5_reached 52 = .ok (.istore_n 2, 1) := by decide +kernel
theorem dX5_reached_53 : decode cX5_reached 53 = .ok (.aload_n 0, 1) := by decide +kernel
theorem dX5_reached_54 : decode cX5_reached 54 = .ok (.getfield 42, 3) := by decide +kernel
theorem dX5_reached_57 : decode cX5_reached 57 = .ok (.aload_n 0, 1) := by decide +kernel
theorem dX5_reached_58 : decode cX5_reached 58 = .ok (.getfield 49, 3) := by decide +kernel
theorem dX5_reached_61 : decode cX5_reached 61 = .ok (.iload_n 2, 1) := by decide +kernel
theorem dX5_reached_62 : decode cX5_reached 62 = .ok (.invokevirtual 196, 3) := by decide +kernel
theorem dX5_reached_65 : decode cX5_reached 65 = .ok (.invokevirtual 162, 3) := by decide +kernel
theorem dX5_reached_68 : decode cX5_reached 68 = .ok (.lreturn, 1) := by decide +kernel
set_option maxRecDepth 20000 in
theorem ggX5_peaks_X5_requireLimit : GoodIn wsX5_peaks wsX5_requireLimit := goodIn_ca (goodIn_r _ [8, 1, 2] (by decide +kernel) (by decide +kernel)) (goodIn_sub (fun _ h => List.mem_cons_of_mem _ (List.mem_append_right _ h)) (by decide +kernel))
set_option maxRecDepth 20000 in
theorem gX5_peaks_X5_requireLimit : GoodIn wsX5_peaks (va_wsS RX5 199 yX5_requireLimit wsX5_requireLimit) := goodIn_app (goodIn_of _ (by decide +kernel)) ggX5_peaks_X5_requireLimit
set_option maxRecDepth 20000 in
theorem ggX5_peaks_X5_reckon : GoodIn wsX5_peaks wsX5_reckon := goodIn_r _ [12, 13, 4, 14, 15, 16, 17, 7, 18, 19, 20, 21, 22, 23, 24, 25, 26, 27, 28, 29, 30, 31, 32, 33, 34, 35, 36, 37, 38, 39, 40, 41, 42, 43, 44, 45, 46, 47, 48, 49, 50, 51, 52, 53, 54, 55, 56, 57, 58, 59, 60, 61, 62, 63, 64, 65, 66, 67, 68, 69, 70, 71, 72, 73, 74, 75, 76, 77, 78, 79, 80, 81, 82, 83, 84, 85, 86, 87, 88, 89, 90, 91, 92, 93, 94, 95, 96, 97, 98, 99, 141, 142, 143, 144, 145, 146, 147, 148, 149, 150, 151, 152, 153, 154, 155, 156, 157, 158, 159, 160, 161, 162] (by decide +kernel) (by decide +kernel)
set_option maxRecDepth 20000 in
theorem gX5_peaks_X5_reckon : GoodIn wsX5_peaks (wsV RX5 156 RX5 yX5_reckon wsX5_reckon) := goodIn_app (goodIn_of _ (by decide +kernel)) ggX5_peaks_X5_reckon
set_option maxRecDepth 20000 in
theorem ggX5_peaks_X3_rank : GoodIn wsX5_peaks wsX3_rank := goodIn_r _ [104, 105, 106, 107, 83, 84, 49, 85, 86, 87, 88, 89, 52, 108, 109, 110, 103, 111, 112, 75, 72, 76, 113, 114, 115, 116, 117, 118, 119, 120, 121, 122, 95, 96, 97, 98, 51, 163, 164, 165, 166, 158, 159] (by decide +kernel) (by decide +kernel)
set_option maxRecDepth 20000 in
theorem gX5_peaks_X3_rank : GoodIn wsX5_peaks (wsV RX5 186 RX3 yX3_rank wsX3_rank) := goodIn_app (goodIn_of _ (by decide +kernel)) ggX5_peaks_X3_rank
set_option maxRecDepth 20000 in
theorem ggX5_peaks_X3_countPeaks : GoodIn wsX5_peaks wsX3_countPeaks := goodIn_r _ [126, 105, 127, 128, 129, 130, 103, 131, 132, 133, 134, 135, 106, 122, 95, 96, 49, 97, 98, 51, 136, 137, 138, 139, 140, 71, 72, 73, 112, 75, 76, 163, 164, 165, 166, 158, 159] (by decide +kernel) (by decide +kernel)
set_option maxRecDepth 20000 in
theorem gX5_peaks_X3_countPeaks : GoodIn wsX5_peaks (wsV RX5 204 RX3 yX3_countPeaks wsX3_countPeaks) := goodIn_app (goodIn_of _ (by decide +kernel)) ggX5_peaks_X3_countPeaks
theorem dX5_peaks_0 : decode cX5_peaks 0 = .ok (.lload_n 1, 1) := by decide +kernel
theorem dX5_peaks_1 : decode cX5_peaks 1 = .ok (.invokestatic 199, 3) := by decide +kernel
theorem dX5_peaks_4 : decode cX5_peaks 4 = .ok (.iload_n 3, 1) := by decide +kernel
theorem dX5_peaks_5 : decode cX5_peaks 5 = .ok (.iconst 1, 1) := by decide +kernel
theorem dX5_peaks_6 : decode cX5_peaks 6 = .ok (.if_icmp .lt 9, 3) := by decide +kernel
theorem dX5_peaks_9 : decode cX5_peaks 9 = .ok (.iload_n 3, 1) := by decide +kernel
theorem dX5_peaks_10 : decode cX5_peaks 10 = .ok (.bipush 100, 2) := by decide +kernel
theorem dX5_peaks_12 : decode cX5_peaks 12 = .ok (.if_icmp .le 13, 3) := by decide +kernel
theorem dX5_peaks_15 : decode cX5_peaks 15 = .ok (.new 112, 3) := by decide +kernel
theorem dX5_peaks_18 : decode cX5_peaks 18 = .ok (.dup, 1) := by decide +kernel
theorem dX5_peaks_19 : decode cX5_peaks 19 = .ok (.ldc 202, 2) := by decide +kernel
theorem dX5_peaks_21 : decode cX5_peaks 21 = .ok (.invokespecial 116, 3) := by decide +kernel
theorem dX5_peaks_24 : decode cX5_peaks 24 = .ok (.athrow, 1) := by decide +kernel
theorem dX5_peaks_25 : decode cX5_peaks 25 = .ok (.aload_n 0, 1) := by decide +kernel
theorem dX5_peaks_26 : decode cX5_peaks 26 = .ok (.invokevirtual 156, 3) := by decide +kernel
theorem dX5_peaks_29 : decode cX5_peaks 29 = .ok (.aload_n 0, 1) := by decide +kernel
theorem dX5_peaks_30 : decode cX5_peaks 30 = .ok (.getfield 49, 3) := by decide +kernel
theorem dX5_peaks_33 : decode cX5_peaks 33 = .ok (.aload_n 0, 1) := by decide +kernel
theorem dX5_peaks_34 : decode cX5_peaks 34 = .ok (.getfield 42, 3) := by decide +kernel
theorem dX5_peaks_37 : decode cX5_peaks 37 = .ok (.invokevirtual 186, 3) := by decide +kernel
theorem dX5_peaks_40 : decode cX5_peaks 40 = .ok (.aload_n 0, 1) := by decide +kernel
theorem dX5_peaks_41 : decode cX5_peaks 41 = .ok (.getfield 49, 3) := by decide +kernel
theorem dX5_peaks_44 : decode cX5_peaks 44 = .ok (.aload_n 0, 1) := by decide +kernel
theorem dX5_peaks_45 : decode cX5_peaks 45 = .ok (.getfield 42, 3) := by decide +kernel
theorem dX5_peaks_48 : decode cX5_peaks 48 = .ok (.lload_n 1, 1) := by decide +kernel
theorem dX5_peaks_49 : decode cX5_peaks 49 = .ok (.iload_n 3, 1) := by decide +kernel
theorem dX5_peaks_50 : decode cX5_peaks 50 = .ok (.invokevirtual 204, 3) := by decide +kernel
theorem dX5_peaks_53 : decode cX5_peaks 53 = .ok (.ireturn, 1) := by decide +kernel
theorem dX5_requireDay_0 : decode cX5_requireDay 0 = .ok (.iload_n 0, 1) := by decide +kernel
theorem dX5_requireDay_1 : decode cX5_requireDay 1 = .ok (.ifCond .lt 10, 3) := by decide +kernel
theorem dX5_requireDay_4 : decode cX5_requireDay 4 = .ok (.iload_n 0, 1) := by decide +kernel
theorem dX5_requireDay_5 : decode cX5_requireDay 5 = .ok (.sipush 400, 3) := by decide +kernel
theorem dX5_requireDay_8 : decode cX5_requireDay 8 = .ok (.if_icmp .lt 13, 3) := by decide +kernel
theorem dX5_requireDay_11 : decode cX5_requireDay 11 = .ok (.new 112, 3) := by decide +kernel
theorem dX5_requireDay_14 : decode cX5_requireDay 14 = .ok (.dup, 1) := by decide +kernel
theorem dX5_requireDay_15 : decode cX5_requireDay 15 = .ok (.ldc 250, 2) := by decide +kernel
theorem dX5_requireDay_17 : decode cX5_requireDay 17 = .ok (.invokespecial 116, 3) := by decide +kernel
theorem dX5_requireDay_20 : decode cX5_requireDay 20 = .ok (.athrow, 1) := by decide +kernel
theorem dX5_requireDay_21 : decode cX5_requireDay 21 = .ok (.return_, 1) := by decide +kernel
set_option maxRecDepth 20000 in
theorem ggX5_requireSpan_X5_requireDay : GoodIn wsX5_requireSpan wsX5_requireDay := goodIn_ca (goodIn_r _ [6, 1, 2] (by decide +kernel) (by decide +kernel)) (goodIn_sub (fun _ h => List.mem_cons_of_mem _ (List.mem_append_right _ h)) (by decide +kernel))
set_option maxRecDepth 20000 in
theorem gX5_requireSpan_X5_requireDay : GoodIn wsX5_requireSpan (va_wsS RX5 60 yX5_requireDay wsX5_requireDay) := goodIn_app (goodIn_of _ (by decide +kernel)) ggX5_requireSpan_X5_requireDay
theorem dX5_requireSpan_0 : decode cX5_requireSpan 0 = .ok (.iload_n 0, 1) := by decide +kernel
theorem dX5_requireSpan_1 : decode cX5_requireSpan 1 = .ok (.invokestatic 60, 3) := by decide +kernel
theorem dX5_requireSpan_4 : decode cX5_requireSpan 4 = .ok (.iload_n 1, 1) := by decide +kernel
theorem dX5_requireSpan_5 : decode cX5_requireSpan 5 = .ok (.iconst 1, 1) := by decide +kernel
theorem dX5_requireSpan_6 : decode cX5_requireSpan 6 = .ok (.if_icmp .lt 10, 3) := by decide +kernel
theorem dX5_requireSpan_9 : decode cX5_requireSpan 9 = .ok (.iload_n 1, 1) := by decide +kernel
theorem dX5_requireSpan_10 : decode cX5_requireSpan 10 = .ok (.sipush 400, 3) := by decide +kernel
theorem dX5_requireSpan_13 : decode cX5_requireSpan 13 = .ok (.if_icmp .le 13, 3) := by decide +kernel
theorem dX5_requireSpan_16 : decode cX5_requireSpan 16 = .ok (.new 112, 3) := by decide +kernel
theorem dX5_requireSpan_19 : decode cX5_requireSpan 19 = .ok (.dup, 1) := by decide +kernel
theorem dX5_requireSpan_20 : decode cX5_requireSpan 20 = .ok (.ldc 252, 2) := by decide +kernel
theorem dX5_requireSpan_22 : decode cX5_requireSpan 22 = .ok (.invokespecial 116, 3) := by decide +kernel
theorem dX5_requireSpan_25 : decode cX5_requireSpan 25 = .ok (.athrow, 1) := by decide +kernel
theorem dX5_requireSpan_26 : decode cX5_requireSpan 26 = .ok (.iload_n 0, 1) := by decide +kernel
theorem dX5_requireSpan_27 : decode cX5_requireSpan 27 = .ok (.iload_n 1, 1) := by decide +kernel
theorem dX5_requireSpan_28 : decode cX5_requireSpan 28 = .ok (.iadd, 1) := by decide +kernel
theorem dX5_requireSpan_29 : decode cX5_requireSpan 29 = .ok (.sipush 400, 3) := by decide +kernel
theorem dX5_requireSpan_32 : decode cX5_requireSpan 32 = .ok (.if_icmp .le 13, 3) := by decide +kernel
theorem dX5_requireSpan_35 : decode cX5_requireSpan 35 = .ok (.new 112, 3) := by decide +kernel
theorem dX5_requireSpan_38 : decode cX5_requireSpan 38 = .ok (.dup, 1) := by decide +kernel
theorem dX5_requireSpan_39 : decode cX5_requireSpan 39 = .ok (.ldc 254, 2) := by decide +kernel
theorem dX5_requireSpan_41 : decode cX5_requireSpan 41 = .ok (.invokespecial 116, 3) := by decide +kernel
theorem dX5_requireSpan_44 : decode cX5_requireSpan 44 = .ok (.athrow, 1) := by decide +kernel
theorem dX5_requireSpan_45 : decode cX5_requireSpan 45 = .ok (.return_, 1) := by decide +kernel
theorem dX5_requireRange_0 : decode cX5_requireRange 0 = .ok (.iload_n 0, 1) := by decide +kernel
theorem dX5_requireRange_1 : decode cX5_requireRange 1 = .ok (.ifCond .lt 15, 3) := by decide +kernel
theorem dX5_requireRange_4 : decode cX5_requireRange 4 = .ok (.iload_n 0, 1) := by decide +kernel
theorem dX5_requireRange_5 : decode cX5_requireRange 5 = .ok (.iload_n 1, 1) := by decide +kernel
theorem dX5_requireRange_6 : decode cX5_requireRange 6 = .ok (.if_icmp .gt 10, 3) := by decide +kernel
theorem dX5_requireRange_9 : decode cX5_requireRange 9 = .ok (.iload_n 1, 1) := by decide +kernel
theorem dX5_requireRange_10 : decode cX5_requireRange 10 = .ok (.sipush 400, 3) := by decide +kernel
theorem dX5_requireRange_13 : decode cX5_requireRange 13 = .ok (.if_icmp .lt 14, 3) := by decide +kernel
theorem dX5_requireRange_16 : decode cX5_requireRange 16 = .ok (.new 112, 3) := by decide +kernel
theorem dX5_requireRange_19 : decode cX5_requireRange 19 = .ok (.dup, 1) := by decide +kernel
theorem dX5_requireRange_20 : decode cX5_requireRange 20 = .ok (.ldc_w 256, 3) := by decide +kernel
theorem dX5_requireRange_23 : decode cX5_requireRange 23 = .ok (.invokespecial 116, 3) := by decide +kernel
theorem dX5_requireRange_26 : decode cX5_requireRange 26 = .ok (.athrow, 1) := by decide +kernel
theorem dX5_requireRange_27 : decode cX5_requireRange 27 = .ok (.return_, 1) := by decide +kernel
theorem dX5_requireStage_0 : decode cX5_requireStage 0 = .ok (.lload_n 0, 1) := by decide +kernel
theorem dX5_requireStage_1 : decode cX5_requireStage 1 = .ok (.ldc2_w 258, 3) := by decide +kernel
theorem dX5_requireStage_4 : decode cX5_requireStage 4 = .ok (.lcmp, 1) := by decide +kernel
theorem dX5_requireStage_5 : decode cX5_requireStage 5 = .ok (.ifCond .lt 11, 3) := by decide +kernel
theorem dX5_requireStage_8 : decode cX5_requireStage 8 = .ok (.lload_n 0, 1) := by decide +kernel
theorem dX5_requireStage_9 : decode cX5_requireStage 9 = .ok (.ldc2_w 260, 3) := by decide +kernel
theorem dX5_requireStage_12 : decode cX5_requireStage 12 = .ok (.lcmp, 1) := by decide +kernel
theorem dX5_requireStage_13 : decode cX5_requireStage 13 = .ok (.ifCond .le 14, 3) := by decide +kernel
theorem dX5_requireStage_16 : decode cX5_requireStage 16 = .ok (.new 112, 3) := by decide +kernel
theorem dX5_requireStage_19 : decode cX5_requireStage 19 = .ok (.dup, 1) := by decide +kernel
theorem dX5_requireStage_20 : decode cX5_requireStage 20 = .ok (.ldc_w 262, 3) := by decide +kernel
theorem dX5_requireStage_23 : decode cX5_requireStage 23 = .ok (.invokespecial 116, 3) := by decide +kernel
theorem dX5_requireStage_26 : decode cX5_requireStage 26 = .ok (.athrow, 1) := by decide +kernel
theorem dX5_requireStage_27 : decode cX5_requireStage 27 = .ok (.return_, 1) := by decide +kernel
theorem dX5_requireFlow_0 : decode cX5_requireFlow 0 = .ok (.iload_n 0, 1) := by decide +kernel
theorem dX5_requireFlow_1 : decode cX5_requireFlow 1 = .ok (.ifCond .lt 10, 3) := by decide +kernel
theorem dX5_requireFlow_4 : decode cX5_requireFlow 4 = .ok (.iload_n 0, 1) := by decide +kernel
theorem dX5_requireFlow_5 : decode cX5_requireFlow 5 = .ok (.ldc_w 264, 3) := by decide +kernel
theorem dX5_requireFlow_8 : decode cX5_requireFlow 8 = .ok (.if_icmp .le 14, 3) := by decide +kernel
theorem dX5_requireFlow_11 : decode cX5_requireFlow 11 = .ok (.new 112, 3) := by decide +kernel
theorem dX5_requireFlow_14 : decode cX5_requireFlow 14 = .ok (.dup, 1) := by decide +kernel
theorem dX5_requireFlow_15 : decode cX5_requireFlow 15 = .ok (.ldc_w 265, 3) := by decide +kernel
theorem dX5_requireFlow_18 : decode cX5_requireFlow 18 = .ok (.invokespecial 116, 3) := by decide +kernel
theorem dX5_requireFlow_21 : decode cX5_requireFlow 21 = .ok (.athrow, 1) := by decide +kernel
theorem dX5_requireFlow_22 : decode cX5_requireFlow 22 = .ok (.return_, 1) := by decide +kernel
theorem dX5_requireLimit_0 : decode cX5_requireLimit 0 = .ok (.lload_n 0, 1) := by decide +kernel
theorem dX5_requireLimit_1 : decode cX5_requireLimit 1 = .ok (.lconst 0, 1) := by decide +kernel
theorem dX5_requireLimit_2 : decode cX5_requireLimit 2 = .ok (.lcmp, 1) := by decide +kernel
theorem dX5_requireLimit_3 : decode cX5_requireLimit 3 = .ok (.ifCond .ge 14, 3) := by decide +kernel
theorem dX5_requireLimit_6 : decode cX5_requireLimit 6 = .ok (.new 112, 3) := by decide +kernel
theorem dX5_requireLimit_9 : decode cX5_requireLimit 9 = .ok (.dup, 1) := by decide +kernel
theorem dX5_requireLimit_10 : decode cX5_requireLimit 10 = .ok (.ldc_w 267, 3) := by decide +kernel
theorem dX5_requireLimit_13 : decode cX5_requireLimit 13 = .ok (.invokespecial 116, 3) := by decide +kernel
theorem dX5_requireLimit_16 : decode cX5_requireLimit 16 = .ok (.athrow, 1) := by decide +kernel
theorem dX5_requireLimit_17 : decode cX5_requireLimit 17 = .ok (.return_, 1) := by decide +kernel
theorem dX5_countTrue_0 : decode cX5_countTrue 0 = .ok (.iconst 0, 1) := by decide +kernel
theorem dX5_countTrue_1 : decode cX5_countTrue 1 = .ok (.istore_n 3, 1) := by decide +kernel
theorem dX5_countTrue_2 : decode cX5_countTrue 2 = .ok (.iload_n 1, 1) := by decide +kernel
theorem dX5_countTrue_3 : decode cX5_countTrue 3 = .ok (.istore 4, 2) := by decide +kernel
theorem dX5_countTrue_5 : decode cX5_countTrue 5 = .ok (.iload 4, 2) := by decide +kernel
theorem dX5_countTrue_7 : decode cX5_countTrue 7 = .ok (.iload_n 1, 1) := by decide +kernel
theorem dX5_countTrue_8 : decode cX5_countTrue 8 = .ok (.iload_n 2, 1) := by decide +kernel
theorem dX5_countTrue_9 : decode cX5_countTrue 9 = .ok (.iadd, 1) := by decide +kernel
theorem dX5_countTrue_10 : decode cX5_countTrue 10 = .ok (.if_icmp .ge 26, 3) := by decide +kernel
theorem dX5_countTrue_13 : decode cX5_countTrue 13 = .ok (.iload 4, 2) := by decide +kernel
theorem dX5_countTrue_15 : decode cX5_countTrue 15 = .ok (.aload_n 0, 1) := by decide +kernel
theorem dX5_countTrue_16 : decode cX5_countTrue 16 = .ok (.arraylength, 1) := by decide +kernel
theorem dX5_countTrue_17 : decode cX5_countTrue 17 = .ok (.if_icmp .ge 19, 3) := by decide +kernel
theorem dX5_countTrue_20 : decode cX5_countTrue 20 = .ok (.aload_n 0, 1) := by decide +kernel
theorem dX5_countTrue_21 : decode cX5_countTrue 21 = .ok (.iload 4, 2) := by decide +kernel
theorem dX5_countTrue_23 : decode cX5_countTrue 23 = .ok (.baload, 1) := by decide +kernel
theorem dX5_countTrue_24 : decode cX5_countTrue 24 = .ok (.ifCond .eq 6, 3) := by decide +kernel
theorem dX5_countTrue_27 : decode cX5_countTrue 27 = .ok (.iinc 3 1, 3) := by decide +kernel
theorem dX5_countTrue_30 : decode cX5_countTrue 30 = .ok (.iinc 4 1, 3) := by decide +kernel
theorem dX5_countTrue_33 : decode cX5_countTrue 33 = .ok (.goto (-28), 3) := by decide +kernel
theorem dX5_countTrue_36 : decode cX5_countTrue 36 = .ok (.iload_n 3, 1) := by decide +kernel
theorem dX5_countTrue_37 : decode cX5_countTrue 37 = .ok (.ireturn, 1) := by decide +kernel
theorem dX5_countLower_0 : decode cX5_countLower 0 = .ok (.iconst 0, 1) := by decide +kernel
theorem dX5_countLower_1 : decode cX5_countLower 1 = .ok (.istore_n 3, 1) := by decide +kernel
theorem dX5_countLower_2 : decode cX5_countLower 2 = .ok (.iload_n 3, 1) := by decide +kernel
theorem dX5_countLower_3 : decode cX5_countLower 3 = .ok (.iload_n 1, 1) := by decide +kernel
theorem dX5_countLower_4 : decode cX5_countLower 4 = .ok (.if_icmp .ge 22, 3) := by decide +kernel
theorem dX5_countLower_7 : decode cX5_countLower 7 = .ok (.iload_n 3, 1) := by decide +kernel
theorem dX5_countLower_8 : decode cX5_countLower 8 = .ok (.aload_n 0, 1) := by decide +kernel
theorem dX5_countLower_9 : decode cX5_countLower 9 = .ok (.arraylength, 1) := by decide +kernel
theorem dX5_countLower_10 : decode cX5_countLower 10 = .ok (.if_icmp .ge 16, 3) := by decide +kernel
theorem dX5_countLower_13 : decode cX5_countLower 13 = .ok (.aload_n 0, 1) := by decide +kernel
theorem dX5_countLower_14 : decode cX5_countLower 14 = .ok (.iload_n 3, 1) := by decide +kernel
theorem dX5_countLower_15 : decode cX5_countLower 15 = .ok (.iaload, 1) := by decide +kernel
theorem dX5_countLower_16 : decode cX5_countLower 16 = .ok (.iload_n 2, 1) := by decide +kernel
theorem dX5_countLower_17 : decode cX5_countLower 17 = .ok (.if_icmp .ge 9, 3) := by decide +kernel
theorem dX5_countLower_20 : decode cX5_countLower 20 = .ok (.iinc 3 1, 3) := by decide +kernel
theorem dX5_countLower_23 : decode cX5_countLower 23 = .ok (.goto (-21), 3) := by decide +kernel
theorem dX5_countLower_26 : decode cX5_countLower 26 = .ok (.iload_n 3, 1) := by decide +kernel
theorem dX5_countLower_27 : decode cX5_countLower 27 = .ok (.ireturn, 1) := by decide +kernel
theorem dX5_insertInto_0 : decode cX5_insertInto 0 = .ok (.iload_n 2, 1) := by decide +kernel
theorem dX5_insertInto_1 : decode cX5_insertInto 1 = .ok (.ifCond .lt 14, 3) := by decide +kernel
theorem dX5_insertInto_4 : decode cX5_insertInto 4 = .ok (.iload_n 2, 1) := by decide +kernel
theorem dX5_insertInto_5 : decode cX5_insertInto 5 = .ok (.iload_n 1, 1) := by decide +kernel
theorem dX5_insertInto_6 : decode cX5_insertInto 6 = .ok (.if_icmp .gt 9, 3) := by decide +kernel
theorem dX5_insertInto_9 : decode cX5_insertInto 9 = .ok (.iload_n 1, 1) := by decide +kernel
theorem dX5_insertInto_10 : decode cX5_insertInto 10 = .ok (.aload_n 0, 1) := by decide +kernel
theorem dX5_insertInto_11 : decode cX5_insertInto 11 = .ok (.arraylength, 1) := by decide +kernel
theorem dX5_insertInto_12 : decode cX5_insertInto 12 = .ok (.if_icmp .lt 4, 3) := by decide +kernel
theorem dX5_insertInto_15 : decode cX5_insertInto 15 = .ok (.return_, 1) := by decide +kernel
theorem dX5_insertInto_16 : decode cX5_insertInto 16 = .ok (.iload_n 1, 1) := by decide +kernel
theorem dX5_insertInto_17 : decode cX5_insertInto 17 = .ok (.istore 4, 2) := by decide +kernel
theorem dX5_insertInto_19 : decode cX5_insertInto 19 = .ok (.iload 4, 2) := by decide +kernel
theorem dX5_insertInto_21 : decode cX5_insertInto 21 = .ok (.iload_n 2, 1) := by decide +kernel
theorem dX5_insertInto_22 : decode cX5_insertInto 22 = .ok (.if_icmp .le 19, 3) := by decide +kernel
theorem dX5_insertInto_25 : decode cX5_insertInto 25 = .ok (.aload_n 0, 1) := by decide +kernel
theorem dX5_insertInto_26 : decode cX5_insertInto 26 = .ok (.iload 4, 2) := by decide +kernel
theorem dX5_insertInto_28 : decode cX5_insertInto 28 = .ok (.aload_n 0, 1) := by decide +kernel
theorem dX5_insertInto_29 : decode cX5_insertInto 29 = .ok (.iload 4, 2) := by decide +kernel
theorem dX5_insertInto_31 : decode cX5_insertInto 31 = .ok (.iconst 1, 1) := by decide +kernel
theorem dX5_insertInto_32 : decode cX5_insertInto 32 = .ok (.isub, 1) := by decide +kernel
theorem dX5_insertInto_33 : decode cX5_insertInto 33 = .ok (.iaload, 1) := by decide +kernel
theorem dX5_insertInto_34 : decode cX5_insertInto 34 = .ok (.iastore, 1) := by decide +kernel
theorem dX5_insertInto_35 : decode cX5_insertInto 35 = .ok (.iinc 4 (-1), 3) := by decide +kernel
theorem dX5_insertInto_38 : decode cX5_insertInto 38 = .ok (.goto (-19), 3) := by decide +kernel
theorem dX5_insertInto_41 : decode cX5_insertInto 41 = .ok (.aload_n 0, 1) := by decide +kernel
theorem dX5_insertInto_42 : decode cX5_insertInto 42 = .ok (.iload_n 2, 1) := by decide +kernel
theorem dX5_insertInto_43 : decode cX5_insertInto 43 = .ok (.iload_n 3, 1) := by decide +kernel
theorem dX5_insertInto_44 : decode cX5_insertInto 44 = .ok (.iastore, 1) := by decide +kernel
theorem dX5_insertInto_45 : decode cX5_insertInto 45 = .ok (.return_, 1) := by decide +kernel
theorem dX5_interpolate_0 : decode cX5_interpolate 0 = .ok (.lload 6, 2) := by decide +kernel
theorem dX5_interpolate_2 : decode cX5_interpolate 2 = .ok (.lconst 0, 1) := by decide +kernel
theorem dX5_interpolate_3 : decode cX5_interpolate 3 = .ok (.lcmp, 1) := by decide +kernel
theorem dX5_interpolate_4 : decode cX5_interpolate 4 = .ok (.ifCond .ne 7, 3) := by decide +kernel
theorem dX5_interpolate_7 : decode cX5_interpolate 7 = .ok (.lload_n 0, 1) := by decide +kernel
theorem dX5_interpolate_8 : decode cX5_interpolate 8 = .ok (.goto 14, 3) := by decide +kernel
theorem dX5_interpolate_11 : decode cX5_interpolate 11 = .ok (.lload_n 0, 1) := by decide +kernel
theorem dX5_interpolate_12 : decode cX5_interpolate 12 = .ok (.lload_n 2, 1) := by decide +kernel
theorem dX5_interpolate_13 : decode cX5_interpolate 13 = .ok (.lload_n 0, 1) := by decide +kernel
theorem dX5_interpolate_14 : decode cX5_interpolate 14 = .ok (.lsub, 1) := by decide +kernel
theorem dX5_interpolate_15 : decode cX5_interpolate 15 = .ok (.lload 4, 2) := by decide +kernel
theorem dX5_interpolate_17 : decode cX5_interpolate 17 = .ok (.lmul, 1) := by decide +kernel
theorem dX5_interpolate_18 : decode cX5_interpolate 18 = .ok (.lload 6, 2) := by decide +kernel
theorem dX5_interpolate_20 : decode cX5_interpolate 20 = .ok (.ldiv, 1) := by decide +kernel
theorem dX5_interpolate_21 : decode cX5_interpolate 21 = .ok (.ladd, 1) := by decide +kernel
theorem dX5_interpolate_22 : decode cX5_interpolate 22 = .ok (.lreturn, 1) := by decide +kernel
theorem dX5_curveAt_0 : decode cX5_curveAt 0 = .ok (.iload_n 1, 1) := by decide +kernel
theorem dX5_curveAt_1 : decode cX5_curveAt 1 = .ok (.ifCond .lt 17, 3) := by decide +kernel
theorem dX5_curveAt_4 : decode cX5_curveAt 4 = .ok (.iload_n 1, 1) := by decide +kernel
theorem dX5_curveAt_5 : decode cX5_curveAt 5 = .ok (.aload_n 0, 1) := by decide +kernel
theorem dX5_curveAt_6 : decode cX5_curveAt 6 = .ok (.getfield 64, 3) := by decide +kernel
theorem dX5_curveAt_9 : decode cX5_curveAt 9 = .ok (.if_icmp .ge 9, 3) := by decide +kernel
theorem dX5_curveAt_12 : decode cX5_curveAt 12 = .ok (.iload_n 1, 1) := by decide +kernel
theorem dX5_curveAt_13 : decode cX5_curveAt 13 = .ok (.bipush 6, 2) := by decide +kernel
theorem dX5_curveAt_15 : decode cX5_curveAt 15 = .ok (.if_icmp .lt 7, 3) := by decide +kernel
theorem dX5_curveAt_18 : decode cX5_curveAt 18 = .ok (.aconst_null, 1) := by decide +kernel
theorem dX5_curveAt_19 : decode cX5_curveAt 19 = .ok (.goto 9, 3) := by decide +kernel
theorem dX5_curveAt_22 : decode cX5_curveAt 22 = .ok (.aload_n 0, 1) := by decide +kernel
theorem dX5_curveAt_23 : decode cX5_curveAt 23 = .ok (.getfield 11, 3) := by decide +kernel
theorem dX5_curveAt_26 : decode cX5_curveAt 26 = .ok (.iload_n 1, 1) := by decide +kernel
theorem dX5_curveAt_27 : decode cX5_curveAt 27 = .ok (.aaload, 1) := by decide +kernel
theorem dX5_curveAt_28 : decode cX5_curveAt 28 = .ok (.areturn, 1) := by decide +kernel
set_option maxRecDepth 20000 in
theorem ggX5_hasCurveFrom_X5_curveNumberOn : GoodIn wsX5_hasCurveFrom wsX5_curveNumberOn := goodIn_r _ [5, 6, 7, 8, 4, 9, 10, 11, 12, 13, 14, 15, 16, 17, 18, 19, 20, 21, 22, 23, 24, 25, 26, 27, 28] (by decide +kernel) (by decide +kernel)
set_option maxRecDepth 20000 in
theorem gX5_hasCurveFrom_X5_curveNumberOn : GoodIn wsX5_hasCurveFrom (wsV RX5 131 RX5 yX5_curveNumberOn wsX5_curveNumberOn) := goodIn_app (goodIn_of _ (by decide +kernel)) ggX5_hasCurveFrom_X5_curveNumberOn
set_option maxRecDepth 20000 in
theorem ggX5_hasCurveFrom_X5_curveAt : GoodIn wsX5_hasCurveFrom wsX5_curveAt := goodIn_r _ [9, 10, 11, 16, 17, 18, 19, 20, 21, 22, 23, 24, 25, 26, 27, 28] (by decide +kernel) (by decide +kernel)
set_option maxRecDepth 20000 in
theorem gX5_hasCurveFrom_X5_curveAt : GoodIn wsX5_hasCurveFrom (wsV RX5 86 RX5 yX5_curveAt wsX5_curveAt) := goodIn_app (goodIn_of _ (by decide +kernel)) ggX5_hasCurveFrom_X5_curveAt
theorem dX5_hasCurveFrom_0 : decode cX5_hasCurveFrom 0 = .ok (.aload_n 0, 1) := by decide +kernel
theorem dX5_hasCurveFrom_1 : decode cX5_hasCurveFrom 1 = .ok (.aload_n 0, 1) := by decide +kernel
theorem dX5_hasCurveFrom_2 : decode cX5_hasCurveFrom 2 = .ok (.iload_n 1, 1) := by decide +kernel
theorem dX5_hasCurveFrom_3 : decode cX5_hasCurveFrom 3 = .ok (.invokevirtual 131, 3) := by decide +kernel
theorem dX5_hasCurveFrom_6 : decode cX5_hasCurveFrom 6 = .ok (.invokevirtual 86, 3) := by decide +kernel
theorem dX5_hasCurveFrom_9 : decode cX5_hasCurveFrom 9 = .ok (.astore_n 2, 1) := by decide +kernel
theorem dX5_hasCurveFrom_10 : decode cX5_hasCurveFrom 10 = .ok (.aload_n 2, 1) := by decide +kernel
theorem dX5_hasCurveFrom_11 : decode cX5_hasCurveFrom 11 = .ok (.ifnull 15, 3) := by decide +kernel
theorem dX5_hasCurveFrom_14 : decode cX5_hasCurveFrom 14 = .ok (.aload_n 2, 1) := by decide +kernel
theorem dX5_hasCurveFrom_15 : decode cX5_hasCurveFrom 15 = .ok (.getfield 269, 3) := by decide +kernel
theorem dX5_hasCurveFrom_18 : decode cX5_hasCurveFrom 18 = .ok (.iload_n 1, 1) := by decide +kernel
theorem dX5_hasCurveFrom_19 : decode cX5_hasCurveFrom 19 = .ok (.if_icmp .ne 7, 3) := by decide +kernel
theorem dX5_hasCurveFrom_22 : decode cX5_hasCurveFrom 22 = .ok (.iconst 1, 1) := by decide +kernel
theorem dX5_hasCurveFrom_23 : decode cX5_hasCurveFrom 23 = .ok (.goto 4, 3) := by decide +kernel
theorem dX5_hasCurveFrom_26 : decode cX5_hasCurveFrom 26 = .ok (.iconst 0, 1) := by decide +kernel
theorem dX5_hasCurveFrom_27 : decode cX5_hasCurveFrom 27 = .ok (.ireturn, 1) := by decide +kernel
set_option maxRecDepth 20000 in
theorem ggX5_curveNumberOn_X5_curveAt : GoodIn wsX5_curveNumberOn wsX5_curveAt := goodIn_r _ [5, 6, 7, 12, 13, 14, 15, 16, 17, 18, 19, 20, 21, 22, 23, 24] (by decide +kernel) (by decide +kernel)
set_option maxRecDepth 20000 in
theorem gX5_curveNumberOn_X5_curveAt : GoodIn wsX5_curveNumberOn (wsV RX5 86 RX5 yX5_curveAt wsX5_curveAt) := goodIn_app (goodIn_of _ (by decide +kernel)) ggX5_curveNumberOn_X5_curveAt
theorem dX5_curveNumberOn_0 : decode cX5_curveNumberOn 0 = .ok (.iconst (-1), 1) := by decide +kernel
theorem dX5_curveNumberOn_1 : decode cX5_curveNumberOn 1 = .ok (.istore_n 2, 1) := by decide +kernel
theorem dX5_curveNumberOn_2 : decode cX5_curveNumberOn 2 = .ok (.iconst (-1), 1) := by decide +kernel
theorem dX5_curveNumberOn_3 : decode cX5_curveNumberOn 3 = .ok (.istore_n 3, 1) := by decide +kernel
theorem dX5_curveNumberOn_4 : decode cX5_curveNumberOn 4 = .ok (.iconst 0, 1) := by decide +kernel
theorem dX5_curveNumberOn_5 : decode cX5_curveNumberOn 5 = .ok (.istore 4, 2) := by decide +kernel
theorem dX5_curveNumberOn_7 : decode cX5_curveNumberOn 7 = .ok (.iload 4, 2) := by decide +kernel
theorem dX5_curveNumberOn_9 : decode cX5_curveNumberOn 9 = .ok (.bipush 6, 2) := by decide +kernel
theorem dX5_curveNumberOn_11 : decode cX5_curveNumberOn 11 = .ok (.if_icmp .ge 49, 3) := by decide +kernel
theorem dX5_curveNumberOn_14 : decode cX5_curveNumberOn 14 = .ok (.aload_n 0, 1) := by decide +kernel
theorem dX5_curveNumberOn_15 : decode cX5_curveNumberOn 15 = .ok (.iload 4, 2) := by decide +kernel
theorem dX5_curveNumberOn_17 : decode cX5_curveNumberOn 17 = .ok (.invokevirtual 86, 3) := by decide +kernel
theorem dX5_curveNumberOn_20 : decode cX5_curveNumberOn 20 = .ok (.astore 5, 2) := by decide +kernel
theorem dX5_curveNumberOn_22 : decode cX5_curveNumberOn 22 = .ok (.aload 5, 2) := by decide +kernel
theorem dX5_curveNumberOn_24 : decode cX5_curveNumberOn 24 = .ok (.ifnull 30, 3) := by decide +kernel
theorem dX5_curveNumberOn_27 : decode cX5_curveNumberOn 27 = .ok (.aload 5, 2) := by decide +kernel
theorem dX5_curveNumberOn_29 : decode cX5_curveNumberOn 29 = .ok (.getfield 269, 3) := by decide +kernel
theorem dX5_curveNumberOn_32 : decode cX5_curveNumberOn 32 = .ok (.iload_n 1, 1) := by decide +kernel
theorem dX5_curveNumberOn_33 : decode cX5_curveNumberOn 33 = .ok (.if_icmp .gt 21, 3) := by decide +kernel
theorem dX5_curveNumberOn_36 : decode cX5_curveNumberOn 36 = .ok (.aload 5, 2) := by decide +kernel
theorem dX5_curveNumberOn_38 : decode cX5_curveNumberOn 38 = .ok (.getfield 269, 3) := by decide +kernel
theorem dX5_curveNumberOn_41 : decode cX5_curveNumberOn 41 = .ok (.iload_n 3, 1) := by decide +kernel
theorem dX5_curveNumberOn_42 : decode cX5_curveNumberOn 42 = .ok (.if_icmp .le 12, 3) := by decide +kernel
theorem dX5_curveNumberOn_45 : decode cX5_curveNumberOn 45 = .ok (.iload 4, 2) := by decide +kernel
theorem dX5_curveNumberOn_47 : decode cX5_curveNumberOn 47 = .ok (.istore_n 2, 1) := by decide +kernel
theorem dX5_curveNumberOn_48 : decode cX5_curveNumberOn 48 = .ok (.aload 5, 2) := by decide +kernel
theorem dX5_curveNumberOn_50 : decode cX5_curveNumberOn 50 = .ok (.getfield 269, 3) := by decide +kernel
theorem dX5_curveNumberOn_53 : decode cX5_curveNumberOn 53 = .ok (.istore_n 3, 1) := by decide +kernel
theorem dX5_curveNumberOn_54 : decode cX5_curveNumberOn 54 = .ok (.iinc 4 1, 3) := by decide +kernel
theorem dX5_curveNumberOn_57 : decode cX5_curveNumberOn 57 = .ok (.goto (-50), 3) := by decide +kernel
theorem dX5_curveNumberOn_60 : decode cX5_curveNumberOn 60 = .ok (.iload_n 2, 1) := by decide +kernel
theorem dX5_curveNumberOn_61 : decode cX5_curveNumberOn 61 = .ok (.ireturn, 1) := by decide +kernel
set_option maxRecDepth 20000 in
theorem ggX5_completeCurveOn_X5_curveNumberOn : GoodIn wsX5_completeCurveOn wsX5_curveNumberOn := goodIn_r _ [5, 6, 7, 8, 4, 9, 10, 11, 18, 19, 20, 21, 22, 23, 24, 25, 26, 27, 28, 29, 30, 31, 32, 33, 34] (by decide +kernel) (by decide +kernel)
set_option maxRecDepth 20000 in
theorem gX5_completeCurveOn_X5_curveNumberOn : GoodIn wsX5_completeCurveOn (wsV RX5 131 RX5 yX5_curveNumberOn wsX5_curveNumberOn) := goodIn_app (goodIn_of _ (by decide +kernel)) ggX5_completeCurveOn_X5_curveNumberOn
set_option maxRecDepth 20000 in
theorem ggX5_completeCurveOn_X5_curveAt : GoodIn wsX5_completeCurveOn wsX5_curveAt := goodIn_r _ [9, 10, 11, 22, 23, 24, 25, 26, 27, 28, 29, 30, 31, 32, 33, 34] (by decide +kernel) (by decide +kernel)
set_option maxRecDepth 20000 in
theorem gX5_completeCurveOn_X5_curveAt : GoodIn wsX5_completeCurveOn (wsV RX5 86 RX5 yX5_curveAt wsX5_curveAt) := goodIn_app (goodIn_of _ (by decide +kernel)) ggX5_completeCurveOn_X5_curveAt
set_option maxRecDepth 20000 in
theorem ggX5_completeCurveOn_X0_isComplete : GoodIn wsX5_completeCurveOn wsX0_isComplete := goodIn_r _ [16, 17, 18, 19, 20, 21] (by decide +kernel) (by decide +kernel)
set_option maxRecDepth 20000 in
theorem gX5_completeCurveOn_X0_isComplete : GoodIn wsX5_completeCurveOn (wsV RX5 117 RX0 yX0_isComplete wsX0_isComplete) := goodIn_app (goodIn_of _ (by decide +kernel)) ggX5_completeCurveOn_X0_isComplete
theorem dX5_completeCurveOn_0 : decode cX5_completeCurveOn 0 = .ok (.aload_n 0, 1) := by decide +kernel
theorem dX5_completeCurveOn_1 : decode cX5_completeCurveOn 1 = .ok (.aload_n 0, 1) := by decide +kernel
theorem dX5_completeCurveOn_2 : decode cX5_completeCurveOn 2 = .ok (.iload_n 1, 1) := by decide +kernel
theorem dX5_completeCurveOn_3 : decode cX5_completeCurveOn 3 = .ok (.invokevirtual 131, 3) := by decide +kernel
theorem dX5_completeCurveOn_6 : decode cX5_completeCurveOn 6 = .ok (.invokevirtual 86, 3) := by decide +kernel
theorem dX5_completeCurveOn_9 : decode cX5_completeCurveOn 9 = .ok (.astore_n 2, 1) := by decide +kernel
theorem dX5_completeCurveOn_10 : decode cX5_completeCurveOn 10 = .ok (.aload_n 2, 1) := by decide +kernel
theorem dX5_completeCurveOn_11 : decode cX5_completeCurveOn 11 = .ok (.ifnull 14, 3) := by decide +kernel
theorem dX5_completeCurveOn_14 : decode cX5_completeCurveOn 14 = .ok (.aload_n 2, 1) := by decide +kernel
theorem dX5_completeCurveOn_15 : decode cX5_completeCurveOn 15 = .ok (.invokevirtual 117, 3) := by decide +kernel
theorem dX5_completeCurveOn_18 : decode cX5_completeCurveOn 18 = .ok (.ifCond .eq 7, 3) := by decide +kernel
theorem dX5_completeCurveOn_21 : decode cX5_completeCurveOn 21 = .ok (.aload_n 2, 1) := by decide +kernel
theorem dX5_completeCurveOn_22 : decode cX5_completeCurveOn 22 = .ok (.goto 4, 3) := by decide +kernel
theorem dX5_completeCurveOn_25 : decode cX5_completeCurveOn 25 = .ok (.aconst_null, 1) := by decide +kernel
theorem dX5_completeCurveOn_26 : decode cX5_completeCurveOn 26 = .ok (.areturn, 1) := by decide +kernel
set_option maxRecDepth 20000 in
theorem ggX5_reckon_X5_reckonDay : GoodIn wsX5_reckon wsX5_reckonDay := goodIn_r _ [8, 9, 2, 10, 11, 12, 13, 14, 15, 16, 17, 18, 7, 19, 20, 21, 22, 23, 24, 25, 26, 27, 28, 29, 30, 31, 32, 33, 34, 35, 36, 37, 38, 39, 40, 41, 42, 43, 44, 45, 46, 47, 48, 49, 50, 51, 52, 53, 54, 55, 56, 57, 58, 59, 60, 61, 62, 63, 64, 65, 66, 67, 90, 91, 92, 93, 94, 95, 96, 97, 98, 99, 100, 101, 102, 103, 104, 105, 106, 107, 108, 109, 110, 111] (by decide +kernel) (by decide +kernel)
set_option maxRecDepth 20000 in
theorem gX5_reckon_X5_reckonDay : GoodIn wsX5_reckon (wsV RX5 272 RX5 yX5_reckonDay wsX5_reckonDay) := goodIn_app (goodIn_of _ (by decide +kernel)) ggX5_reckon_X5_reckonDay
set_option maxRecDepth 20000 in
theorem ggX5_reckon_X1_fillGaps : GoodIn wsX5_reckon wsX1_fillGaps := goodIn_r _ [71, 72, 73, 74, 39, 75, 76, 77, 78, 79, 42, 80, 81, 82, 83, 84, 85, 86, 87, 88, 41, 53, 7, 54, 89, 37, 38, 40, 107, 108] (by decide +kernel) (by decide +kernel)
set_option maxRecDepth 20000 in
theorem gX5_reckon_X1_fillGaps : GoodIn wsX5_reckon (wsV RX5 275 RX1 yX1_fillGaps wsX1_fillGaps) := goodIn_app (goodIn_of _ (by decide +kernel)) ggX5_reckon_X1_fillGaps
theorem dX5_reckon_0 : decode cX5_reckon 0 = .ok (.aload_n 0, 1) := by decide +kernel
theorem dX5_reckon_1 : decode cX5_reckon 1 = .ok (.getfield 82, 3) := by decide +kernel
theorem dX5_reckon_4 : decode cX5_reckon 4 = .ok (.ifCond .eq 4, 3) := by decide +kernel
theorem dX5_reckon_7 : decode cX5_reckon 7 = .ok (.return_, 1) := by decide +kernel
theorem dX5_reckon_8 : decode cX5_reckon 8 = .ok (.iconst 0, 1) := by decide +kernel
theorem dX5_reckon_9 : decode cX5_reckon 9 = .ok (.istore_n 1, 1) := by decide +kernel
theorem dX5_reckon_10 : decode cX5_reckon 10 = .ok (.iload_n 1, 1) := by decide +kernel
theorem dX5_reckon_11 : decode cX5_reckon 11 = .ok (.sipush 400, 3) := by decide +kernel
theorem dX5_reckon_14 : decode cX5_reckon 14 = .ok (.if_icmp .ge 14, 3) := by decide +kernel
theorem dX5_reckon_17 : decode cX5_reckon 17 = .ok (.aload_n 0, 1) := by decide +kernel
theorem dX5_reckon_18 : decode cX5_reckon 18 = .ok (.iload_n 1, 1) := by decide +kernel
theorem dX5_reckon_19 : decode cX5_reckon 19 = .ok (.invokevirtual 272, 3) := by decide +kernel
theorem dX5_reckon_22 : decode cX5_reckon 22 = .ok (.iinc 1 1, 3) := by decide +kernel
theorem dX5_reckon_25 : decode cX5_reckon 25 = .ok (.goto (-15), 3) := by decide +kernel
theorem dX5_reckon_28 : decode cX5_reckon 28 = .ok (.aload_n 0, 1) := by decide +kernel
theorem dX5_reckon_29 : decode cX5_reckon 29 = .ok (.getfield 42, 3) := by decide +kernel
theorem dX5_reckon_32 : decode cX5_reckon 32 = .ok (.aload_n 0, 1) := by decide +kernel
theorem dX5_reckon_33 : decode cX5_reckon 33 = .ok (.getfield 57, 3) := by decide +kernel
theorem dX5_reckon_36 : decode cX5_reckon 36 = .ok (.invokevirtual 275, 3) := by decide +kernel
theorem dX5_reckon_39 : decode cX5_reckon 39 = .ok (.aload_n 0, 1) := by decide +kernel
theorem dX5_reckon_40 : decode cX5_reckon 40 = .ok (.iconst 1, 1) := by decide +kernel
theorem dX5_reckon_41 : decode cX5_reckon 41 = .ok (.putfield 82, 3) := by decide +kernel
theorem dX5_reckon_44 : decode cX5_reckon 44 = .ok (.return_, 1) := by decide +kernel
set_option maxRecDepth 20000 in
theorem ggX5_reckonDay_X5_completeCurveOn : GoodIn wsX5_reckonDay wsX5_completeCurveOn := goodIn_r _ [13, 14, 15, 16, 12, 17, 18, 19, 20, 21, 22, 23, 24, 25, 26, 27, 28, 29, 75, 76, 77, 78, 62, 63, 64, 65, 66, 67, 68, 69, 70, 71, 72, 73, 74] (by decide +kernel) (by decide +kernel)
set_option maxRecDepth 20000 in
theorem gX5_reckonDay_X5_completeCurveOn : GoodIn wsX5_reckonDay (wsV RX5 229 RX5 yX5_completeCurveOn wsX5_completeCurveOn) := goodIn_app (goodIn_of _ (by decide +kernel)) ggX5_reckonDay_X5_completeCurveOn
set_option maxRecDepth 20000 in
theorem ggX5_reckonDay_X1_put : GoodIn wsX5_reckonDay wsX1_put := goodIn_r _ [34, 35, 36, 79, 80] (by decide +kernel) (by decide +kernel)
set_option maxRecDepth 20000 in
theorem gX5_reckonDay_X1_put : GoodIn wsX5_reckonDay (wsV RX5 280 RX1 yX1_put wsX1_put) := goodIn_app (goodIn_of _ (by decide +kernel)) ggX5_reckonDay_X1_put
set_option maxRecDepth 20000 in
theorem ggX5_reckonDay_X4_on : GoodIn wsX5_reckonDay wsX4_on := goodIn_r _ [41, 42, 43, 44, 45, 12, 46, 47, 48, 81, 82, 83] (by decide +kernel) (by decide +kernel)
set_option maxRecDepth 20000 in
theorem gX5_reckonDay_X4_on : GoodIn wsX5_reckonDay (wsV RX5 136 RX4 yX4_on wsX4_on) := goodIn_app (goodIn_of _ (by decide +kernel)) ggX5_reckonDay_X4_on
set_option maxRecDepth 20000 in
theorem ggX5_reckonDay_X0_flowAt : GoodIn wsX5_reckonDay wsX0_flowAt := goodIn_r _ [52, 29, 53, 54, 55, 56, 57, 58, 59, 60, 61, 45, 12, 46, 47, 48, 75, 76, 77, 78] (by decide +kernel) (by decide +kernel)
set_option maxRecDepth 20000 in
theorem gX5_reckonDay_X0_flowAt : GoodIn wsX5_reckonDay (wsV RX5 123 RX0 yX0_flowAt wsX0_flowAt) := goodIn_app (goodIn_of _ (by decide +kernel)) ggX5_reckonDay_X0_flowAt
theorem dX5_reckonDay_0 : decode cX5_reckonDay 0 = .ok (.aload_n 0, 1) := by decide +kernel
theorem dX5_reckonDay_1 : decode cX5_reckonDay 1 = .ok (.getfield 26, 3) := by decide +kernel
theorem dX5_reckonDay_4 : decode cX5_reckonDay 4 = .ok (.iload_n 1, 1) := by decide +kernel
theorem dX5_reckonDay_5 : decode cX5_reckonDay 5 = .ok (.baload, 1) := by decide +kernel
theorem dX5_reckonDay_6 : decode cX5_reckonDay 6 = .ok (.ifCond .eq 11, 3) := by decide +kernel
theorem dX5_reckonDay_9 : decode cX5_reckonDay 9 = .ok (.aload_n 0, 1) := by decide +kernel
theorem dX5_reckonDay_10 : decode cX5_reckonDay 10 = .ok (.iload_n 1, 1) := by decide +kernel
theorem dX5_reckonDay_11 : decode cX5_reckonDay 11 = .ok (.invokevirtual 229, 3) := by decide +kernel
theorem dX5_reckonDay_14 : decode cX5_reckonDay 14 = .ok (.goto 4, 3) := by decide +kernel
theorem dX5_reckonDay_17 : decode cX5_reckonDay 17 = .ok (.aconst_null, 1) := by decide +kernel
theorem dX5_reckonDay_18 : decode cX5_reckonDay 18 = .ok (.astore_n 2, 1) := by decide +kernel
theorem dX5_reckonDay_19 : decode cX5_reckonDay 19 = .ok (.aload_n 2, 1) := by decide +kernel
theorem dX5_reckonDay_20 : decode cX5_reckonDay 20 = .ok (.ifnonnull 16, 3) := by decide +kernel
theorem dX5_reckonDay_23 : decode cX5_reckonDay 23 = .ok (.aload_n 0, 1) := by decide +kernel
theorem dX5_reckonDay_24 : decode cX5_reckonDay 24 = .ok (.getfield 42, 3) := by decide +kernel
theorem dX5_reckonDay_27 : decode cX5_reckonDay 27 = .ok (.iload_n 1, 1) := by decide +kernel
theorem dX5_reckonDay_28 : decode cX5_reckonDay 28 = .ok (.ldc2_w 278, 3) := by decide +kernel
theorem dX5_reckonDay_31 : decode cX5_reckonDay 31 = .ok (.iconst 0, 1) := by decide +kernel
theorem dX5_reckonDay_32 : decode cX5_reckonDay 32 = .ok (.invokevirtual 280, 3) := by decide +kernel
theorem dX5_reckonDay_35 : decode cX5_reckonDay 35 = .ok (.return_, 1) := by decide +kernel
theorem dX5_reckonDay_36 : decode cX5_reckonDay 36 = .ok (.aload_n 2, 1) := by decide +kernel
theorem dX5_reckonDay_37 : decode cX5_reckonDay 37 = .ok (.aload_n 0, 1) := by decide +kernel
theorem dX5_reckonDay_38 : decode cX5_reckonDay 38 = .ok (.getfield 22, 3) := by decide +kernel
theorem dX5_reckonDay_41 : decode cX5_reckonDay 41 = .ok (.iload_n 1, 1) := by decide +kernel
theorem dX5_reckonDay_42 : decode cX5_reckonDay 42 = .ok (.iaload, 1) := by decide +kernel
theorem dX5_reckonDay_43 : decode cX5_reckonDay 43 = .ok (.aload_n 0, 1) := by decide +kernel
theorem dX5_reckonDay_44 : decode cX5_reckonDay 44 = .ok (.getfield 18, 3) := by decide +kernel
theorem dX5_reckonDay_47 : decode cX5_reckonDay 47 = .ok (.iload_n 1, 1) := by decide +kernel
theorem dX5_reckonDay_48 : decode cX5_reckonDay 48 = .ok (.invokevirtual 136, 3) := by decide +kernel
theorem dX5_reckonDay_51 : decode cX5_reckonDay 51 = .ok (.isub, 1) := by decide +kernel
theorem dX5_reckonDay_52 : decode cX5_reckonDay 52 = .ok (.invokevirtual 123, 3) := by decide +kernel
theorem dX5_reckonDay_55 : decode cX5_reckonDay 55 = .ok (.lstore_n 3, 1) := by decide +kernel
theorem dX5_reckonDay_56 : decode cX5_reckonDay 56 = .ok (.aload_n 0, 1) := by decide +kernel
theorem dX5_reckonDay_57 : decode cX5_reckonDay 57 = .ok (.getfield 30, 3) := by decide +kernel
theorem dX5_reckonDay_60 : decode cX5_reckonDay 60 = .ok (.iload_n 1, 1) := by decide +kernel
theorem dX5_reckonDay_61 : decode cX5_reckonDay 61 = .ok (.baload, 1) := by decide +kernel
theorem dX5_reckonDay_62 : decode cX5_reckonDay 62 = .ok (.ifCond .eq 26, 3) := by decide +kernel
theorem dX5_reckonDay_65 : decode cX5_reckonDay 65 = .ok (.aload_n 0, 1) := by decide +kernel
theorem dX5_reckonDay_66 : decode cX5_reckonDay 66 = .ok (.getfield 42, 3) := by decide +kernel
theorem dX5_reckonDay_69 : decode cX5_reckonDay 69 = .ok (.iload_n 1, 1) := by decide +kernel
theorem dX5_reckonDay_70 : decode cX5_reckonDay 70 = .ok (.lload_n 3, 1) := by decide +kernel
theorem dX5_reckonDay_71 : decode cX5_reckonDay 71 = .ok (.aload_n 0, 1) := by decide +kernel
theorem dX5_reckonDay_72 : decode cX5_reckonDay 72 = .ok (.getfield 53, 3) := by decide +kernel
theorem dX5_reckonDay_75 : decode cX5_reckonDay 75 = .ok (.i2l, 1) := by decide +kernel
theorem dX5_reckonDay_76 : decode cX5_reckonDay 76 = .ok (.lmul, 1) := by decide +kernel
theorem dX5_reckonDay_77 : decode cX5_reckonDay 77 = .ok (.ldc2_w 284, 3) := by decide +kernel
theorem dX5_reckonDay_80 : decode cX5_reckonDay 80 = .ok (.ldiv, 1) := by decide +kernel
theorem dX5_reckonDay_81 : decode cX5_reckonDay 81 = .ok (.iconst 2, 1) := by decide +kernel
theorem dX5_reckonDay_82 : decode cX5_reckonDay 82 = .ok (.invokevirtual 280, 3) := by decide +kernel
theorem dX5_reckonDay_85 : decode cX5_reckonDay 85 = .ok (.goto 13, 3) := by decide +kernel
theorem dX5_reckonDay_88 : decode cX5_reckonDay 88 = .ok (.aload_n 0, 1) := by decide +kernel
theorem dX5_reckonDay_89 : decode cX5_reckonDay 89 = .ok (.getfield 42, 3) := by decide +kernel
theorem dX5_reckonDay_92 : decode cX5_reckonDay 92 = .ok (.iload_n 1, 1) := by decide +kernel
theorem dX5_reckonDay_93 : decode cX5_reckonDay 93 = .ok (.lload_n 3, 1) := by decide +kernel
theorem dX5_reckonDay_94 : decode cX5_reckonDay 94 = .ok (.iconst 1, 1) := by decide +kernel
theorem dX5_reckonDay_95 : decode cX5_reckonDay 95 = .ok (.invokevirtual 280, 3) := by decide +kernel
theorem dX5_reckonDay_98 : decode cX5_reckonDay 98 = .ok (.return_, 1) := by decide +kernel
end
section
theorem dX6_init_0 : decode cX6_init 0 = .ok (.aload_n 0, 1) := by decide +kernel
theorem dX6_init_1 : decode cX6_init 1 = .ok (.invokespecial 1, 3) := by decide +kernel
theorem dX6_init_4 : decode cX6_init 4 = .ok (.aload_n 0, 1) := by decide +kernel
theorem dX6_init_5 : decode cX6_init 5 = .ok (.bipush 6, 2) := by decide +kernel
theorem dX6_init_7 : decode cX6_init 7 = .ok (.bipush 30, 2) := by decide +kernel
theorem dX6_init_9 : decode cX6_init 9 = .ok (.multianewarray 7 2, 4) := by decide +kernel
theorem dX6_init_13 : decode cX6_init 13 = .ok (.putfield 9, 3) := by decide +kernel
theorem dX6_init_16 : decode cX6_init 16 = .ok (.aload_n 0, 1) := by decide +kernel
theorem dX6_init_17 : decode cX6_init 17 = .ok (.sipush 400, 3) := by decide +kernel
theorem dX6_init_20 : decode cX6_init 20 = .ok (.newarray .int, 2) := by decide +kernel
theorem dX6_init_22 : decode cX6_init 22 = .ok (.putfield 14, 3) := by decide +kernel
theorem dX6_init_25 : decode cX6_init 25 = .ok (.aload_n 0, 1) := by decide +kernel
theorem dX6_init_26 : decode cX6_init 26 = .ok (.sipush 400, 3) := by decide +kernel
theorem dX6_init_29 : decode cX6_init 29 = .ok (.newarray .int, 2) := by decide +kernel
theorem dX6_init_31 : decode cX6_init 31 = .ok (.putfield 18, 3) := by decide +kernel
theorem dX6_init_34 : decode cX6_init 34 = .ok (.aload_n 0, 1) := by decide +kernel
theorem dX6_init_35 : decode cX6_init 35 = .ok (.sipush 400, 3) := by decide +kernel
theorem dX6_init_38 : decode cX6_init 38 = .ok (.newarray .boolean, 2) := by decide +kernel
theorem dX6_init_40 : decode cX6_init 40 = .ok (.putfield 21, 3) := by decide +kernel
theorem dX6_init_43 : decode cX6_init 43 = .ok (.aload_n 0, 1) := by decide +kernel
theorem dX6_init_44 : decode cX6_init 44 = .ok (.iconst 4, 1) := by decide +kernel
theorem dX6_init_45 : decode cX6_init 45 = .ok (.newarray .int, 2) := by decide +kernel
theorem dX6_init_47 : decode cX6_init 47 = .ok (.dup, 1) := by decide +kernel
theorem dX6_init_48 : decode cX6_init 48 = .ok (.iconst 0, 1) := by decide +kernel
theorem dX6_init_49 : decode cX6_init 49 = .ok (.bipush 60, 2) := by decide +kernel
theorem dX6_init_51 : decode cX6_init 51 = .ok (.iastore, 1) := by decide +kernel
theorem dX6_init_52 : decode cX6_init 52 = .ok (.dup, 1) := by decide +kernel
theorem dX6_init_53 : decode cX6_init 53 = .ok (.iconst 1, 1) := by decide +kernel
theorem dX6_init_54 : decode cX6_init 54 = .ok (.iconst 5, 1) := by decide +kernel
theorem dX6_init_55 : decode cX6_init 55 = .ok (.iastore, 1) := by decide +kernel
theorem dX6_init_56 : decode cX6_init 56 = .ok (.dup, 1) := by decide +kernel
theorem dX6_init_57 : decode cX6_init 57 = .ok (.iconst 2, 1) := by decide +kernel
theorem dX6_init_58 : decode cX6_init 58 = .ok (.iconst 0, 1) := by decide +kernel
theorem dX6_init_59 : decode cX6_init 59 = .ok (.iastore, 1) := by decide +kernel
theorem dX6_init_60 : decode cX6_init 60 = .ok (.dup, 1) := by decide +kernel
theorem dX6_init_61 : decode cX6_init 61 = .ok (.iconst 3, 1) := by decide +kernel
theorem dX6_init_62 : decode cX6_init 62 = .ok (.iconst 0, 1) := by decide +kernel
theorem dX6_init_63 : decode cX6_init 63 = .ok (.iastore, 1) := by decide +kernel
theorem dX6_init_64 : decode cX6_init 64 = .ok (.putfield 25, 3) := by decide +kernel
theorem dX6_init_67 : decode cX6_init 67 = .ok (.iconst 0, 1) := by decide +kernel
theorem dX6_init_68 : decode cX6_init 68 = .ok (.istore_n 1, 1) := by decide +kernel
theorem dX6_init_69 : decode cX6_init 69 = .ok (.iload_n 1, 1) := by decide +kernel
theorem dX6_init_70 : decode cX6_init 70 = .ok (.sipush 400, 3) := by decide +kernel
theorem dX6_init_73 : decode cX6_init 73 = .ok (.if_icmp .ge 27, 3) := by decide +kernel
theorem dX6_init_76 : decode cX6_init 76 = .ok (.aload_n 0, 1) := by decide +kernel
theorem dX6_init_77 : decode cX6_init 77 = .ok (.getfield 14, 3) := by decide +kernel
theorem dX6_init_80 : decode cX6_init 80 = .ok (.iload_n 1, 1) := by decide +kernel
theorem dX6_init_81 : decode cX6_init 81 = .ok (.sipush 9999, 3) := by decide +kernel
theorem dX6_init_84 : decode cX6_init 84 = .ok (.iastore, 1) := by decide +kernel
theorem dX6_init_85 : decode cX6_init 85 = .ok (.aload_n 0, 1) := by decide +kernel
theorem dX6_init_86 : decode cX6_init 86 = .ok (.getfield 18, 3) := by decide +kernel
theorem dX6_init_89 : decode cX6_init 89 = .ok (.iload_n 1, 1) := by decide +kernel
theorem dX6_init_90 : decode cX6_init 90 = .ok (.sipush 9999, 3) := by decide +kernel
theorem dX6_init_93 : decode cX6_init 93 = .ok (.iastore, 1) := by decide +kernel
theorem dX6_init_94 : decode cX6_init 94 = .ok (.iinc 1 1, 3) := by decide +kernel
theorem dX6_init_97 : decode cX6_init 97 = .ok (.goto (-28), 3) := by decide +kernel
theorem dX6_init_100 : decode cX6_init 100 = .ok (.return_, 1) := by decide +kernel
theorem dX6_shift_0 : decode cX6_shift 0 = .ok (.iconst (-1), 1) := by decide +kernel
theorem dX6_shift_1 : decode cX6_shift 1 = .ok (.istore_n 2, 1) := by decide +kernel
theorem dX6_shift_2 : decode cX6_shift 2 = .ok (.iconst (-1), 1) := by decide +kernel
theorem dX6_shift_3 : decode cX6_shift 3 = .ok (.istore_n 3, 1) := by decide +kernel
theorem dX6_shift_4 : decode cX6_shift 4 = .ok (.iconst 0, 1) := by decide +kernel
theorem dX6_shift_5 : decode cX6_shift 5 = .ok (.istore 4, 2) := by decide +kernel
theorem dX6_shift_7 : decode cX6_shift 7 = .ok (.iload 4, 2) := by decide +kernel
theorem dX6_shift_9 : decode cX6_shift 9 = .ok (.sipush 400, 3) := by decide +kernel
theorem dX6_shift_12 : decode cX6_shift 12 = .ok (.if_icmp .ge 47, 3) := by decide +kernel
theorem dX6_shift_15 : decode cX6_shift 15 = .ok (.aload_n 0, 1) := by decide +kernel
theorem dX6_shift_16 : decode cX6_shift 16 = .ok (.getfield 14, 3) := by decide +kernel
theorem dX6_shift_19 : decode cX6_shift 19 = .ok (.iload 4, 2) := by decide +kernel
theorem dX6_shift_21 : decode cX6_shift 21 = .ok (.iaload, 1) := by decide +kernel
theorem dX6_shift_22 : decode cX6_shift 22 = .ok (.sipush 9999, 3) := by decide +kernel
theorem dX6_shift_25 : decode cX6_shift 25 = .ok (.if_icmp .ne 6, 3) := by decide +kernel
theorem dX6_shift_28 : decode cX6_shift 28 = .ok (.goto 25, 3) := by decide +kernel
theorem dX6_shift_31 : decode cX6_shift 31 = .ok (.iload 4, 2) := by decide +kernel
theorem dX6_shift_33 : decode cX6_shift 33 = .ok (.iload_n 1, 1) := by decide +kernel
theorem dX6_shift_34 : decode cX6_shift 34 = .ok (.if_icmp .gt 6, 3) := by decide +kernel
theorem dX6_shift_37 : decode cX6_shift 37 = .ok (.iload 4, 2) := by decide +kernel
theorem dX6_shift_39 : decode cX6_shift 39 = .ok (.istore_n 2, 1) := by decide +kernel
theorem dX6_shift_40 : decode cX6_shift 40 = .ok (.iload 4, 2) := by decide +kernel
theorem dX6_shift_42 : decode cX6_shift 42 = .ok (.iload_n 1, 1) := by decide +kernel
theorem dX6_shift_43 : decode cX6_shift 43 = .ok (.if_icmp .lt 10, 3) := by decide +kernel
theorem dX6_shift_46 : decode cX6_shift 46 = .ok (.iload_n 3, 1) := by decide +kernel
theorem dX6_shift_47 : decode cX6_shift 47 = .ok (.ifCond .ge 6, 3) := by decide +kernel
theorem dX6_shift_50 : decode cX6_shift 50 = .ok (.iload 4, 2) := by decide +kernel
theorem dX6_shift_52 : decode cX6_shift 52 = .ok (.istore_n 3, 1) := by decide +kernel
theorem dX6_shift_53 : decode cX6_shift 53 = .ok (.iinc 4 1, 3) := by decide +kernel
theorem dX6_shift_56 : decode cX6_shift 56 = .ok (.goto (-49), 3) := by decide +kernel
theorem dX6_shift_59 : decode cX6_shift 59 = .ok (.iload_n 2, 1) := by decide +kernel
theorem dX6_shift_60 : decode cX6_shift 60 = .ok (.ifCond .lt 7, 3) := by decide +kernel
theorem dX6_shift_63 : decode cX6_shift 63 = .ok (.iload_n 3, 1) := by decide +kernel
theorem dX6_shift_64 : decode cX6_shift 64 = .ok (.ifCond .ge 31, 3) := by decide +kernel
theorem dX6_shift_67 : decode cX6_shift 67 = .ok (.iload_n 2, 1) := by decide +kernel
theorem dX6_shift_68 : decode cX6_shift 68 = .ok (.ifCond .lt 12, 3) := by decide +kernel
theorem dX6_shift_71 : decode cX6_shift 71 = .ok (.aload_n 0, 1) := by decide +kernel
theorem dX6_shift_72 : decode cX6_shift 72 = .ok (.getfield 14, 3) := by decide +kernel
theorem dX6_shift_75 : decode cX6_shift 75 = .ok (.iload_n 2, 1) := by decide +kernel
theorem dX6_shift_76 : decode cX6_shift 76 = .ok (.iaload, 1) := by decide +kernel
theorem dX6_shift_77 : decode cX6_shift 77 = .ok (.goto 17, 3) := by decide +kernel
theorem dX6_shift_80 : decode cX6_shift 80 = .ok (.iload_n 3, 1) := by decide +kernel
theorem dX6_shift_81 : decode cX6_shift 81 = .ok (.ifCond .lt 12, 3) := by decide +kernel
theorem dX6_shift_84 : decode cX6_shift 84 = .ok (.aload_n 0, 1) := by decide +kernel
theorem dX6_shift_85 : decode cX6_shift 85 = .ok (.getfield 14, 3) := by decide +kernel
theorem dX6_shift_88 : decode cX6_shift 88 = .ok (.iload_n 3, 1) := by decide +kernel
theorem dX6_shift_89 : decode cX6_shift 89 = .ok (.iaload, 1) := by decide +kernel
theorem dX6_shift_90 : decode cX6_shift 90 = .ok (.goto 4, 3) := by decide +kernel
theorem dX6_shift_93 : decode cX6_shift 93 = .ok (.iconst 0, 1) := by decide +kernel
theorem dX6_shift_94 : decode cX6_shift 94 = .ok (.ireturn, 1) := by decide +kernel
theorem dX6_shift_95 : decode cX6_shift 95 = .ok (.iload_n 2, 1) := by decide +kernel
theorem dX6_shift_96 : decode cX6_shift 96 = .ok (.iload_n 3, 1) := by decide +kernel
theorem dX6_shift_97 : decode cX6_shift 97 = .ok (.if_icmp .ne 12, 3) := by decide +kernel
theorem dX6_shift_100 : decode cX6_shift 100 = .ok (.aload_n 0, 1) := by decide +kernel
theorem dX6_shift_101 : decode cX6_shift 101 = .ok (.getfield 14, 3) := by decide +kernel
theorem dX6_shift_104 : decode cX6_shift 104 = .ok (.iload_n 2, 1) := by decide +kernel
theorem dX6_shift_105 : decode cX6_shift 105 = .ok (.iaload, 1) := by decide +kernel
theorem dX6_shift_106 : decode cX6_shift 106 = .ok (.goto 31, 3) := by decide +kernel
theorem dX6_shift_109 : decode cX6_shift 109 = .ok (.aload_n 0, 1) := by decide +kernel
theorem dX6_shift_110 : decode cX6_shift 110 = .ok (.getfield 14, 3) := by decide +kernel
theorem dX6_shift_113 : decode cX6_shift 113 = .ok (.iload_n 2, 1) := by decide +kernel
theorem dX6_shift_114 : decode cX6_shift 114 = .ok (.iaload, 1) := by decide +kernel
theorem dX6_shift_115 : decode cX6_shift 115 = .ok (.aload_n 0, 1) := by decide +kernel
theorem dX6_shift_116 : decode cX6_shift 116 = .ok (.getfield 14, 3) := by decide +kernel
theorem dX6_shift_119 : decode cX6_shift 119 = .ok (.iload_n 3, 1) := by decide +kernel
theorem dX6_shift_120 : decode cX6_shift 120 = .ok (.iaload, 1) := by decide +kernel
theorem dX6_shift_121 : decode cX6_shift 121 = .ok (.aload_n 0, 1) := by decide +kernel
theorem dX6_shift_122 : decode cX6_shift 122 = .ok (.getfield 14, 3) := by decide +kernel
theorem dX6_shift_125 : decode cX6_shift 125 = .ok (.iload_n 2, 1) := by decide +kernel
theorem dX6_shift_126 : decode cX6_shift 126 = .ok (.iaload, 1) := by decide +kernel
theorem dX6_shift_127 : decode cX6_shift 127 = .ok (.isub, 1) := by decide +kernel
theorem dX6_shift_128 : decode cX6_shift 128 = .ok (.iload_n 1, 1) := by decide +kernel
theorem dX6_shift_129 : decode cX6_shift 129 = .ok (.iload_n 2, 1) := by decide +kernel
theorem dX6_shift_130 : decode cX6_shift 130 = .ok (.isub, 1) := by decide +kernel
theorem dX6_shift_131 : decode cX6_shift 131 = .ok (.imul, 1) := by decide +kernel
theorem dX6_shift_132 : decode cX6_shift 132 = .ok (.iload_n 3, 1) := by decide +kernel
theorem dX6_shift_133 : decode cX6_shift 133 = .ok (.iload_n 2, 1) := by decide +kernel
theorem dX6_shift_134 : decode cX6_shift 134 = .ok (.isub, 1) := by decide +kernel
theorem dX6_shift_135 : decode cX6_shift 135 = .ok (.idiv, 1) := by decide +kernel
theorem dX6_shift_136 : decode cX6_shift 136 = .ok (.iadd, 1) := by decide +kernel
theorem dX6_shift_137 : decode cX6_shift 137 = .ok (.ireturn, 1) := by decide +kernel
theorem dJ9_max_7cf53_0 : decode cJ9_max_7cf53 0 = .ok (.iload_n 0, 1) := by decide +kernel
theorem dJ9_max_7cf53_1 : decode cJ9_max_7cf53 1 = .ok (.iload_n 1, 1) := by decide +kernel
theorem dJ9_max_7cf53_2 : decode cJ9_max_7cf53 2 = .ok (.if_icmp .lt 7, 3) := by decide +kernel
theorem dJ9_max_7cf53_5 : decode cJ9_max_7cf53 5 = .ok (.iload_n 0, 1) := by decide +kernel
theorem dJ9_max_7cf53_6 : decode cJ9_max_7cf53 6 = .ok (.goto 4, 3) := by decide +kernel
theorem dJ9_max_7cf53_9 : decode cJ9_max_7cf53 9 = .ok (.iload_n 1, 1) := by decide +kernel
theorem dJ9_max_7cf53_10 : decode cJ9_max_7cf53 10 = .ok (.ireturn, 1) := by decide +kernel
theorem dJ9_max_f86c9_0 : decode cJ9_max_f86c9 0 = .ok (.lload_n 0, 1) := by decide +kernel
theorem dJ9_max_f86c9_1 : decode cJ9_max_f86c9 1 = .ok (.lload_n 2, 1) := by decide +kernel
theorem dJ9_max_f86c9_2 : decode cJ9_max_f86c9 2 = .ok (.lcmp, 1) := by decide +kernel
theorem dJ9_max_f86c9_3 : decode cJ9_max_f86c9 3 = .ok (.ifCond .lt 7, 3) := by decide +kernel
theorem dJ9_max_f86c9_6 : decode cJ9_max_f86c9 6 = .ok (.lload_n 0, 1) := by decide +kernel
theorem dJ9_max_f86c9_7 : decode cJ9_max_f86c9 7 = .ok (.goto 4, 3) := by decide +kernel
theorem dJ9_max_f86c9_10 : decode cJ9_max_f86c9 10 = .ok (.lload_n 2, 1) := by decide +kernel
theorem dJ9_max_f86c9_11 : decode cJ9_max_f86c9 11 = .ok (.lreturn, 1) := by decide +kernel
theorem dJ9_min_7cf53_0 : decode cJ9_min_7cf53 0 = .ok (.iload_n 0, 1) := by decide +kernel
theorem dJ9_min_7cf53_1 : decode cJ9_min_7cf53 1 = .ok (.iload_n 1, 1) := by decide +kernel
theorem dJ9_min_7cf53_2 : decode cJ9_min_7cf53 2 = .ok (.if_icmp .gt 7, 3) := by decide +kernel
theorem dJ9_min_7cf53_5 : decode cJ9_min_7cf53 5 = .ok (.iload_n 0, 1) := by decide +kernel
theorem dJ9_min_7cf53_6 : decode cJ9_min_7cf53 6 = .ok (.goto 4, 3) := by decide +kernel
theorem dJ9_min_7cf53_9 : decode cJ9_min_7cf53 9 = .ok (.iload_n 1, 1) := by decide +kernel
theorem dJ9_min_7cf53_10 : decode cJ9_min_7cf53 10 = .ok (.ireturn, 1) := by decide +kernel
theorem dJ9_min_f86c9_0 : decode cJ9_min_f86c9 0 = .ok (.lload_n 0, 1) := by decide +kernel
theorem dJ9_min_f86c9_1 : decode cJ9_min_f86c9 1 = .ok (.lload_n 2, 1) := by decide +kernel
theorem dJ9_min_f86c9_2 : decode cJ9_min_f86c9 2 = .ok (.lcmp, 1) := by decide +kernel
theorem dJ9_min_f86c9_3 : decode cJ9_min_f86c9 3 = .ok (.ifCond .gt 7, 3) := by decide +kernel
theorem dJ9_min_f86c9_6 : decode cJ9_min_f86c9 6 = .ok (.lload_n 0, 1) := by decide +kernel
theorem dJ9_min_f86c9_7 : decode cJ9_min_f86c9 7 = .ok (.goto 4, 3) := by decide +kernel
theorem dJ9_min_f86c9_10 : decode cJ9_min_f86c9 10 = .ok (.lload_n 2, 1) := by decide +kernel
theorem dJ9_min_f86c9_11 : decode cJ9_min_f86c9 11 = .ok (.lreturn, 1) := by decide +kernel
end
section
theorem dL_below_0 : decode cL_below 0 = .ok (.iload_n 0, 1) := by decide +kernel
theorem dL_below_1 : decode cL_below 1 = .ok (.ldc 7, 2) := by decide +kernel
theorem dL_below_3 : decode cL_below 3 = .ok (.iand, 1) := by decide +kernel
theorem dL_below_4 : decode cL_below 4 = .ok (.iload_n 1, 1) := by decide +kernel
theorem dL_below_5 : decode cL_below 5 = .ok (.irem, 1) := by decide +kernel
theorem dL_below_6 : decode cL_below 6 = .ok (.ireturn, 1) := by decide +kernel
theorem dL_cell_0 : decode cL_cell 0 = .ok (.iload_n 1, 1) := by decide +kernel
theorem dL_cell_1 : decode cL_cell 1 = .ok (.aload_n 0, 1) := by decide +kernel
theorem dL_cell_2 : decode cL_cell 2 = .ok (.arraylength, 1) := by decide +kernel
theorem dL_cell_3 : decode cL_cell 3 = .ok (.if_icmp .ge 9, 3) := by decide +kernel
theorem dL_cell_6 : decode cL_cell 6 = .ok (.aload_n 0, 1) := by decide +kernel
theorem dL_cell_7 : decode cL_cell 7 = .ok (.iload_n 1, 1) := by decide +kernel
theorem dL_cell_8 : decode cL_cell 8 = .ok (.iaload, 1) := by decide +kernel
theorem dL_cell_9 : decode cL_cell 9 = .ok (.goto 9, 3) := by decide +kernel
theorem dL_cell_12 : decode cL_cell 12 = .ok (.ldc 8, 2) := by decide +kernel
theorem dL_cell_14 : decode cL_cell 14 = .ok (.iload_n 1, 1) := by decide +kernel
theorem dL_cell_15 : decode cL_cell 15 = .ok (.iconst 3, 1) := by decide +kernel
theorem dL_cell_16 : decode cL_cell 16 = .ok (.iadd, 1) := by decide +kernel
theorem dL_cell_17 : decode cL_cell 17 = .ok (.imul, 1) := by decide +kernel
theorem dL_cell_18 : decode cL_cell 18 = .ok (.ireturn, 1) := by decide +kernel
set_option maxRecDepth 20000 in
theorem ggL_build_X6_init : GoodIn wsL_build wsX6_init := goodIn_r _ [11, 12, 13, 14, 15, 16, 17, 18, 19, 20, 21, 22, 151, 152, 153, 154, 155] (by decide +kernel) (by decide +kernel)
set_option maxRecDepth 20000 in
theorem gL_build_X6_init : GoodIn wsL_build (wsX6_init) := ggL_build_X6_init
set_option maxRecDepth 20000 in
theorem ggL_build_L_cell : GoodIn wsL_build wsL_cell := goodIn_r _ [26, 27] (by decide +kernel) (by decide +kernel)
set_option maxRecDepth 20000 in
theorem gL_build_L_cell : GoodIn wsL_build (va_wsS RL 12 yL_cell wsL_cell) := goodIn_app (goodIn_of _ (by decide +kernel)) ggL_build_L_cell
set_option maxRecDepth 20000 in
theorem ggL_build_L_below : GoodIn wsL_build wsL_below := goodIn_r _ [30, 31] (by decide +kernel) (by decide +kernel)
set_option maxRecDepth 20000 in
theorem gL_build_L_below : GoodIn wsL_build (va_wsS RL 18 yL_below wsL_below) := goodIn_app (goodIn_of _ (by decide +kernel)) ggL_build_L_below
set_option maxRecDepth 20000 in
theorem ggL_build_X5_addCurve : GoodIn wsL_build wsX5_addCurve := goodIn_ca (goodIn_ca (goodIn_r _ [36, 37, 38, 39, 40, 41, 42, 43, 44, 45, 46, 35, 47, 48, 49, 50, 51, 52, 53, 54, 55, 56, 57, 58, 59, 60, 61, 62, 63, 64, 65, 13, 14, 66, 16, 67, 68, 156, 157, 158, 159, 160, 161, 162, 163, 164, 165, 166, 167, 168, 169, 170, 171, 172] (by decide +kernel) (by decide +kernel)) (goodIn_sub (fun _ h => List.mem_cons_of_mem _ (List.mem_append_left _ (List.mem_append_left _ (List.mem_append_right _ h)))) (by decide +kernel))) (goodIn_sub (fun _ h => List.mem_cons_of_mem _ (List.mem_append_left _ (List.mem_append_right _ h))) (by decide +kernel))
set_option maxRecDepth 20000 in
theorem gL_build_X5_addCurve : GoodIn wsL_build (wsV RL 22 RX5 yX5_addCurve wsX5_addCurve) := goodIn_app (goodIn_of _ (by decide +kernel)) ggL_build_X5_addCurve
set_option maxRecDepth 20000 in
theorem ggL_build_X5_addPoint : GoodIn wsL_build wsX5_addPoint := goodIn_ca (goodIn_ca (goodIn_ca (goodIn_r _ [72, 73, 74, 37, 38, 44, 58, 59, 60, 35, 61, 39, 40, 75, 76, 77, 48, 49, 78, 79, 80, 81, 82, 83, 84, 85, 86, 43, 87, 67, 88, 68, 89, 90, 91, 92, 93, 94, 95, 96, 97, 98, 99, 100, 156, 157, 158, 159, 160, 161, 162, 163, 164, 165, 166, 167, 168, 169, 170, 171, 172] (by decide +kernel) (by decide +kernel)) (goodIn_sub (fun _ h => List.mem_cons_of_mem _ (List.mem_append_right _ h)) (by decide +kernel))) (goodIn_sub (fun _ h => List.mem_cons_of_mem _ (List.mem_append_left _ (List.mem_append_left _ (List.mem_append_right _ h)))) (by decide +kernel))) (goodIn_sub (fun _ h => List.mem_cons_of_mem _ (List.mem_append_left _ (List.mem_append_right _ h))) (by decide +kernel))
set_option maxRecDepth 20000 in
theorem gL_build_X5_addPoint : GoodIn wsL_build (wsV RL 36 RX5 yX5_addPoint wsX5_addPoint) := goodIn_app (goodIn_of _ (by decide +kernel)) ggL_build_X5_addPoint
set_option maxRecDepth 20000 in
theorem ggL_build_X5_setShift : GoodIn wsL_build wsX5_setShift := goodIn_ca (goodIn_ca (goodIn_r _ [104, 48, 49, 37, 38, 105, 44, 45, 46, 35, 47, 106, 107, 108, 109, 110, 111, 112, 113, 89, 90, 114, 115, 116, 117, 118, 119, 95, 96, 156, 157, 158, 159, 160, 161, 162, 163, 164, 165, 166, 167, 168, 173, 174, 175] (by decide +kernel) (by decide +kernel)) (goodIn_sub (fun _ h => List.mem_cons_of_mem _ (List.mem_append_left _ (List.mem_append_right _ h))) (by decide +kernel))) (goodIn_sub (fun _ h => List.mem_cons_of_mem _ (List.mem_append_left _ (List.mem_append_left _ (List.mem_append_right _ h)))) (by decide +kernel))
set_option maxRecDepth 20000 in
theorem gL_build_X5_setShift : GoodIn wsL_build (wsV RL 40 RX5 yX5_setShift wsX5_setShift) := goodIn_app (goodIn_of _ (by decide +kernel)) ggL_build_X5_setShift
set_option maxRecDepth 20000 in
theorem ggL_build_X6_shift : GoodIn wsL_build wsX6_shift := goodIn_r _ [123, 18, 151, 152, 153, 154, 155] (by decide +kernel) (by decide +kernel)
set_option maxRecDepth 20000 in
theorem gL_build_X6_shift : GoodIn wsL_build (wsV RL 43 RX6 yX6_shift wsX6_shift) := goodIn_app (goodIn_of _ (by decide +kernel)) ggL_build_X6_shift
set_option maxRecDepth 20000 in
theorem ggL_build_X5_read : GoodIn wsL_build wsX5_read := goodIn_ca (goodIn_r _ [127, 128, 129, 44, 130, 131, 35, 132, 48, 49, 45, 46, 47, 75, 76, 77, 78, 79, 133, 134, 135, 156, 157, 158, 159, 160, 161, 162, 163, 164, 165, 166, 167, 168] (by decide +kernel) (by decide +kernel)) (goodIn_sub (fun _ h => List.mem_cons_of_mem _ (List.mem_append_left _ (List.mem_append_right _ h))) (by decide +kernel))
set_option maxRecDepth 20000 in
theorem gL_build_X5_read : GoodIn wsL_build (wsV RL 52 RX5 yX5_read wsX5_read) := goodIn_app (goodIn_of _ (by decide +kernel)) ggL_build_X5_read
set_option maxRecDepth 20000 in
theorem ggL_build_X5_erase : GoodIn wsL_build wsX5_erase := goodIn_ca (goodIn_r _ [139, 128, 44, 130, 131, 35, 132, 48, 49, 45, 46, 47, 133, 134, 135, 156, 157, 158, 159, 160, 161, 162, 163, 164, 165, 166, 167, 168] (by decide +kernel) (by decide +kernel)) (goodIn_sub (fun _ h => List.mem_cons_of_mem _ (List.mem_append_left _ (List.mem_append_right _ h))) (by decide +kernel))
set_option maxRecDepth 20000 in
theorem gL_build_X5_erase : GoodIn wsL_build (wsV RL 56 RX5 yX5_erase wsX5_erase) := goodIn_app (goodIn_of _ (by decide +kernel)) ggL_build_X5_erase
set_option maxRecDepth 20000 in
theorem ggL_build_X5_freeze : GoodIn wsL_build wsX5_freeze := goodIn_ca (goodIn_r _ [143, 144, 44, 130, 131, 35, 132, 48, 49, 45, 46, 47, 133, 134, 135, 156, 157, 158, 159, 160, 161, 162, 163, 164, 165, 166, 167, 168] (by decide +kernel) (by decide +kernel)) (goodIn_sub (fun _ h => List.mem_cons_of_mem _ (List.mem_append_left _ (List.mem_append_right _ h))) (by decide +kernel))
set_option maxRecDepth 20000 in
theorem gL_build_X5_freeze : GoodIn wsL_build (wsV RL 63 RX5 yX5_freeze wsX5_freeze) := goodIn_app (goodIn_of _ (by decide +kernel)) ggL_build_X5_freeze
set_option maxRecDepth 20000 in
theorem ggL_build_X5_setRules : GoodIn wsL_build wsX5_setRules := goodIn_ca (goodIn_r _ [148, 48, 49, 149, 150, 44, 156, 157, 158, 159, 160, 161, 162, 163, 164, 165, 166, 167, 168] (by decide +kernel) (by decide +kernel)) (goodIn_sub (fun _ h => List.mem_cons_of_mem _ (List.mem_append_left _ (List.mem_append_right _ h))) (by decide +kernel))
set_option maxRecDepth 20000 in
theorem gL_build_X5_setRules : GoodIn wsL_build (wsV RL 67 RX5 yX5_setRules wsX5_setRules) := goodIn_app (goodIn_of _ (by decide +kernel)) ggL_build_X5_setRules
theorem dL_build_0 : decode cL_build 0 = .ok (.new 9, 3) := by decide +kernel
theorem dL_build_3 : decode cL_build 3 = .ok (.dup, 1) := by decide +kernel
theorem dL_build_4 : decode cL_build 4 = .ok (.invokespecial 11, 3) := by decide +kernel
theorem dL_build_7 : decode cL_build 7 = .ok (.astore_n 3, 1) := by decide +kernel
theorem dL_build_8 : decode cL_build 8 = .ok (.aload_n 1, 1) := by decide +kernel
theorem dL_build_9 : decode cL_build 9 = .ok (.iload_n 2, 1) := by decide +kernel
theorem dL_build_10 : decode cL_build 10 = .ok (.invokestatic 12, 3) := by decide +kernel
theorem dL_build_13 : decode cL_build 13 = .ok (.iconst 4, 1) := by decide +kernel
theorem dL_build_14 : decode cL_build 14 = .ok (.invokestatic 18, 3) := by decide +kernel
theorem dL_build_17 : decode cL_build 17 = .ok (.istore 4, 2) := by decide +kernel
theorem dL_build_19 : decode cL_build 19 = .ok (.iconst 0, 1) := by decide +kernel
theorem dL_build_20 : decode cL_build 20 = .ok (.istore 5, 2) := by decide +kernel
theorem dL_build_22 : decode cL_build 22 = .ok (.iload 5, 2) := by decide +kernel
theorem dL_build_24 : decode cL_build 24 = .ok (.iload 4, 2) := by decide +kernel
theorem dL_build_26 : decode cL_build 26 = .ok (.if_icmp .ge 355, 3) := by decide +kernel
theorem dL_build_29 : decode cL_build 29 = .ok (.aload_n 1, 1) := by decide +kernel
theorem dL_build_30 : decode cL_build 30 = .ok (.iload_n 2, 1) := by decide +kernel
theorem dL_build_31 : decode cL_build 31 = .ok (.iconst 1, 1) := by decide +kernel
theorem dL_build_32 : decode cL_build 32 = .ok (.iadd, 1) := by decide +kernel
theorem dL_build_33 : decode cL_build 33 = .ok (.iload 5, 2) := by decide +kernel
theorem dL_build_35 : decode cL_build 35 = .ok (.iadd, 1) := by decide +kernel
theorem dL_build_36 : decode cL_build 36 = .ok (.invokestatic 12, 3) := by decide +kernel
theorem dL_build_39 : decode cL_build 39 = .ok (.istore 6, 2) := by decide +kernel
theorem dL_build_41 : decode cL_build 41 = .ok (.iload 6, 2) := by decide +kernel
theorem dL_build_43 : decode cL_build 43 = .ok (.iconst 3, 1) := by decide +kernel
theorem dL_build_44 : decode cL_build 44 = .ok (.invokestatic 18, 3) := by decide +kernel
theorem dL_build_47 : decode cL_build 47 = .ok (.bipush 50, 2) := by decide +kernel
theorem dL_build_49 : decode cL_build 49 = .ok (.imul, 1) := by decide +kernel
theorem dL_build_50 : decode cL_build 50 = .ok (.iload 5, 2) := by decide +kernel
theorem dL_build_52 : decode cL_build 52 = .ok (.bipush 7, 2) := by decide +kernel
theorem dL_build_54 : decode cL_build 54 = .ok (.imul, 1) := by decide +kernel
theorem dL_build_55 : decode cL_build 55 = .ok (.iadd, 1) := by decide +kernel
theorem dL_build_56 : decode cL_build 56 = .ok (.istore 7, 2) := by decide +kernel
theorem dL_build_58 : decode cL_build 58 = .ok (.aload_n 0, 1) := by decide +kernel
theorem dL_build_59 : decode cL_build 59 = .ok (.iload 7, 2) := by decide +kernel
theorem dL_build_61 : decode cL_build 61 = .ok (.invokevirtual 22, 3) := by decide +kernel
theorem dL_build_64 : decode cL_build 64 = .ok (.iload 5, 2) := by decide +kernel
theorem dL_build_66 : decode cL_build 66 = .ok (.if_icmp .eq 5, 3) := by decide +kernel
theorem dL_build_69 : decode cL_build 69 = .ok (.aconst_null, 1) := by decide +kernel
theorem dL_build_70 : decode cL_build 70 = .ok (.areturn, 1) := by decide +kernel
theorem dL_build_71 : decode cL_build 71 = .ok (.aload_n 3, 1) := by decide +kernel
theorem dL_build_72 : decode cL_build 72 = .ok (.getfield 28, 3) := by decide +kernel
theorem dL_build_75 : decode cL_build 75 = .ok (.iload 5, 2) := by decide +kernel
theorem dL_build_77 : decode cL_build 77 = .ok (.aaload, 1) := by decide +kernel
theorem dL_build_78 : decode cL_build 78 = .ok (.iconst 0, 1) := by decide +kernel
theorem dL_build_79 : decode cL_build 79 = .ok (.iload 7, 2) := by decide +kernel
theorem dL_build_81 : decode cL_build 81 = .ok (.iastore, 1) := by decide +kernel
theorem dL_build_82 : decode cL_build 82 = .ok (.aload_n 3, 1) := by decide +kernel
theorem dL_build_83 : decode cL_build 83 = .ok (.getfield 32, 3) := by decide +kernel
theorem dL_build_86 : decode cL_build 86 = .ok (.iconst 2, 1) := by decide +kernel
theorem dL_build_87 : decode cL_build 87 = .ok (.dup2, 1) := by decide +kernel
theorem dL_build_88 : decode cL_build 88 = .ok (.iaload, 1) := by decide +kernel
theorem dL_build_89 : decode cL_build 89 = .ok (.iconst 1, 1) := by decide +kernel
theorem dL_build_90 : decode cL_build 90 = .ok (.iadd, 1) := by decide +kernel
theorem dL_build_91 : decode cL_build 91 = .ok (.iastore, 1) := by decide +kernel
theorem dL_build_92 : decode cL_build 92 = .ok (.iload 6, 2) := by decide +kernel
theorem dL_build_94 : decode cL_build 94 = .ok (.iconst 2, 1) := by decide +kernel
theorem dL_build_95 : decode cL_build 95 = .ok (.ishr, 1) := by decide +kernel
theorem dL_build_96 : decode cL_build 96 = .ok (.bipush 9, 2) := by decide +kernel
theorem dL_build_98 : decode cL_build 98 = .ok (.invokestatic 18, 3) := by decide +kernel
theorem dL_build_101 : decode cL_build 101 = .ok (.ifCond .ne 7, 3) := by decide +kernel
theorem dL_build_104 : decode cL_build 104 = .ok (.iconst 1, 1) := by decide +kernel
theorem dL_build_105 : decode cL_build 105 = .ok (.goto 13, 3) := by decide +kernel
theorem dL_build_108 : decode cL_build 108 = .ok (.iconst 2, 1) := by decide +kernel
theorem dL_build_109 : decode cL_build 109 = .ok (.iload 6, 2) := by decide +kernel
theorem dL_build_111 : decode cL_build 111 = .ok (.iconst 2, 1) := by decide +kernel
theorem dL_build_112 : decode cL_build 112 = .ok (.ishr, 1) := by decide +kernel
theorem dL_build_113 : decode cL_build 113 = .ok (.iconst 4, 1) := by decide +kernel
theorem dL_build_114 : decode cL_build 114 = .ok (.invokestatic 18, 3) := by decide +kernel
theorem dL_build_117 : decode cL_build 117 = .ok (.iadd, 1) := by decide +kernel
theorem dL_build_118 : decode cL_build 118 = .ok (.istore 8, 2) := by decide +kernel
theorem dL_build_120 : decode cL_build 120 = .ok (.iload 6, 2) := by decide +kernel
theorem dL_build_122 : decode cL_build 122 = .ok (.iconst 4, 1) := by decide +kernel
theorem dL_build_123 : decode cL_build 123 = .ok (.ishr, 1) := by decide +kernel
theorem dL_build_124 : decode cL_build 124 = .ok (.sipush 300, 3) := by decide +kernel
theorem dL_build_127 : decode cL_build 127 = .ok (.invokestatic 18, 3) := by decide +kernel
theorem dL_build_130 : decode cL_build 130 = .ok (.sipush 200, 3) := by decide +kernel
theorem dL_build_133 : decode cL_build 133 = .ok (.isub, 1) := by decide +kernel
theorem dL_build_134 : decode cL_build 134 = .ok (.istore 9, 2) := by decide +kernel
theorem dL_build_136 : decode cL_build 136 = .ok (.iload 6, 2) := by decide +kernel
theorem dL_build_138 : decode cL_build 138 = .ok (.iconst 5, 1) := by decide +kernel
theorem dL_build_139 : decode cL_build 139 = .ok (.ishr, 1) := by decide +kernel
theorem dL_build_140 : decode cL_build 140 = .ok (.bipush 60, 2) := by decide +kernel
theorem dL_build_142 : decode cL_build 142 = .ok (.invokestatic 18, 3) := by decide +kernel
theorem dL_build_145 : decode cL_build 145 = .ok (.istore 10, 2) := by decide +kernel
theorem dL_build_147 : decode cL_build 147 = .ok (.iconst 0, 1) := by decide +kernel
theorem dL_build_148 : decode cL_build 148 = .ok (.istore 11, 2) := by decide +kernel
theorem dL_build_150 : decode cL_build 150 = .ok (.iload 11, 2) := by decide +kernel
theorem dL_build_152 : decode cL_build 152 = .ok (.iload 8, 2) := by decide +kernel
theorem dL_build_154 : decode cL_build 154 = .ok (.if_icmp .ge 81, 3) := by decide +kernel
theorem dL_build_157 : decode cL_build 157 = .ok (.aload_n 3, 1) := by decide +kernel
theorem dL_build_158 : decode cL_build 158 = .ok (.getfield 28, 3) := by decide +kernel
theorem dL_build_161 : decode cL_build 161 = .ok (.iload 5, 2) := by decide +kernel
theorem dL_build_163 : decode cL_build 163 = .ok (.aaload, 1) := by decide +kernel
theorem dL_build_164 : decode cL_build 164 = .ok (.iconst 2, 1) := by decide +kernel
theorem dL_build_165 : decode cL_build 165 = .ok (.iconst 2, 1) := by decide +kernel
theorem dL_build_166 : decode cL_build 166 = .ok (.iload 11, 2) := by decide +kernel
theorem dL_build_168 : decode cL_build 168 = .ok (.imul, 1) := by decide +kernel
theorem dL_build_169 : decode cL_build 169 = .ok (.iadd, 1) := by decide +kernel
theorem dL_build_170 : decode cL_build 170 = .ok (.iload 9, 2) := by decide +kernel
theorem dL_build_172 : decode cL_build 172 = .ok (.iastore, 1) := by decide +kernel
theorem dL_build_173 : decode cL_build 173 = .ok (.aload_n 3, 1) := by decide +kernel
theorem dL_build_174 : decode cL_build 174 = .ok (.getfield 28, 3) := by decide +kernel
theorem dL_build_177 : decode cL_build 177 = .ok (.iload 5, 2) := by decide +kernel
theorem dL_build_179 : decode cL_build 179 = .ok (.aaload, 1) := by decide +kernel
theorem dL_build_180 : decode cL_build 180 = .ok (.iconst 3, 1) := by decide +kernel
theorem dL_build_181 : decode cL_build 181 = .ok (.iconst 2, 1) := by decide +kernel
theorem dL_build_182 : decode cL_build 182 = .ok (.iload 11, 2) := by decide +kernel
theorem dL_build_184 : decode cL_build 184 = .ok (.imul, 1) := by decide +kernel
theorem dL_build_185 : decode cL_build 185 = .ok (.iadd, 1) := by decide +kernel
theorem dL_build_186 : decode cL_build 186 = .ok (.iload 10, 2) := by decide +kernel
theorem dL_build_188 : decode cL_build 188 = .ok (.iastore, 1) := by decide +kernel
theorem dL_build_189 : decode cL_build 189 = .ok (.iload 9, 2) := by decide +kernel
theorem dL_build_191 : decode cL_build 191 = .ok (.iconst 1, 1) := by decide +kernel
theorem dL_build_192 : decode cL_build 192 = .ok (.iload 6, 2) := by decide +kernel
theorem dL_build_194 : decode cL_build 194 = .ok (.bipush 6, 2) := by decide +kernel
theorem dL_build_196 : decode cL_build 196 = .ok (.iload 11, 2) := by decide +kernel
theorem dL_build_198 : decode cL_build 198 = .ok (.iadd, 1) := by decide +kernel
theorem dL_build_199 : decode cL_build 199 = .ok (.ishr, 1) := by decide +kernel
theorem dL_build_200 : decode cL_build 200 = .ok (.bipush 120, 2) := by decide +kernel
theorem dL_build_202 : decode cL_build 202 = .ok (.invokestatic 18, 3) := by decide +kernel
theorem dL_build_205 : decode cL_build 205 = .ok (.iadd, 1) := by decide +kernel
theorem dL_build_206 : decode cL_build 206 = .ok (.iadd, 1) := by decide +kernel
theorem dL_build_207 : decode cL_build 207 = .ok (.istore 9, 2) := by decide +kernel
theorem dL_build_209 : decode cL_build 209 = .ok (.iload 10, 2) := by decide +kernel
theorem dL_build_211 : decode cL_build 211 = .ok (.iconst 1, 1) := by decide +kernel
theorem dL_build_212 : decode cL_build 212 = .ok (.iload 6, 2) := by decide +kernel
theorem dL_build_214 : decode cL_build 214 = .ok (.iconst 3, 1) := by decide +kernel
theorem dL_build_215 : decode cL_build 215 = .ok (.iload 11, 2) := by decide +kernel
theorem dL_build_217 : decode cL_build 217 = .ok (.iadd, 1) := by decide +kernel
theorem dL_build_218 : decode cL_build 218 = .ok (.ishr, 1) := by decide +kernel
theorem dL_build_219 : decode cL_build 219 = .ok (.sipush 4000, 3) := by decide +kernel
theorem dL_build_222 : decode cL_build 222 = .ok (.invokestatic 18, 3) := by decide +kernel
theorem dL_build_225 : decode cL_build 225 = .ok (.iadd, 1) := by decide +kernel
theorem dL_build_226 : decode cL_build 226 = .ok (.iadd, 1) := by decide +kernel
theorem dL_build_227 : decode cL_build 227 = .ok (.istore 10, 2) := by decide +kernel
theorem dL_build_229 : decode cL_build 229 = .ok (.iinc 11 1, 3) := by decide +kernel
theorem dL_build_232 : decode cL_build 232 = .ok (.goto (-82), 3) := by decide +kernel
theorem dL_build_235 : decode cL_build 235 = .ok (.aload_n 3, 1) := by decide +kernel
theorem dL_build_236 : decode cL_build 236 = .ok (.getfield 28, 3) := by decide +kernel
theorem dL_build_239 : decode cL_build 239 = .ok (.iload 5, 2) := by decide +kernel
theorem dL_build_241 : decode cL_build 241 = .ok (.aaload, 1) := by decide +kernel
theorem dL_build_242 : decode cL_build 242 = .ok (.iconst 1, 1) := by decide +kernel
theorem dL_build_243 : decode cL_build 243 = .ok (.iload 8, 2) := by decide +kernel
theorem dL_build_245 : decode cL_build 245 = .ok (.iastore, 1) := by decide +kernel
theorem dL_build_246 : decode cL_build 246 = .ok (.iconst 0, 1) := by decide +kernel
theorem dL_build_247 : decode cL_build 247 = .ok (.istore 11, 2) := by decide +kernel
theorem dL_build_249 : decode cL_build 249 = .ok (.iload 8, 2) := by decide +kernel
theorem dL_build_251 : decode cL_build 251 = .ok (.iconst 2, 1) := by decide +kernel
theorem dL_build_252 : decode cL_build 252 = .ok (.idiv, 1) := by decide +kernel
theorem dL_build_253 : decode cL_build 253 = .ok (.istore 12, 2) := by decide +kernel
theorem dL_build_255 : decode cL_build 255 = .ok (.iload 12, 2) := by decide +kernel
theorem dL_build_257 : decode cL_build 257 = .ok (.iload 8, 2) := by decide +kernel
theorem dL_build_259 : decode cL_build 259 = .ok (.if_icmp .ge 53, 3) := by decide +kernel
theorem dL_build_262 : decode cL_build 262 = .ok (.iinc 11 1, 3) := by decide +kernel
theorem dL_build_265 : decode cL_build 265 = .ok (.aload_n 0, 1) := by decide +kernel
theorem dL_build_266 : decode cL_build 266 = .ok (.iload 5, 2) := by decide +kernel
theorem dL_build_268 : decode cL_build 268 = .ok (.aload_n 3, 1) := by decide +kernel
theorem dL_build_269 : decode cL_build 269 = .ok (.getfield 28, 3) := by decide +kernel
theorem dL_build_272 : decode cL_build 272 = .ok (.iload 5, 2) := by decide +kernel
theorem dL_build_274 : decode cL_build 274 = .ok (.aaload, 1) := by decide +kernel
theorem dL_build_275 : decode cL_build 275 = .ok (.iconst 2, 1) := by decide +kernel
theorem dL_build_276 : decode cL_build 276 = .ok (.iconst 2, 1) := by decide +kernel
theorem dL_build_277 : decode cL_build 277 = .ok (.iload 12, 2) := by decide +kernel
theorem dL_build_279 : decode cL_build 279 = .ok (.imul, 1) := by decide +kernel
theorem dL_build_280 : decode cL_build 280 = .ok (.iadd, 1) := by decide +kernel
theorem dL_build_281 : decode cL_build 281 = .ok (.iaload, 1) := by decide +kernel
theorem dL_build_282 : decode cL_build 282 = .ok (.aload_n 3, 1) := by decide +kernel
theorem dL_build_283 : decode cL_build 283 = .ok (.getfield 28, 3) := by decide +kernel
theorem dL_build_286 : decode cL_build 286 = .ok (.iload 5, 2) := by decide +kernel
theorem dL_build_288 : decode cL_build 288 = .ok (.aaload, 1) := by decide +kernel
theorem dL_build_289 : decode cL_build 289 = .ok (.iconst 3, 1) := by decide +kernel
theorem dL_build_290 : decode cL_build 290 = .ok (.iconst 2, 1) := by decide +kernel
theorem dL_build_291 : decode cL_build 291 = .ok (.iload 12, 2) := by decide +kernel
theorem dL_build_293 : decode cL_build 293 = .ok (.imul, 1) := by decide +kernel
theorem dL_build_294 : decode cL_build 294 = .ok (.iadd, 1) := by decide +kernel
theorem dL_build_295 : decode cL_build 295 = .ok (.iaload, 1) := by decide +kernel
theorem dL_build_296 : decode cL_build 296 = .ok (.invokevirtual 36, 3) := by decide +kernel
theorem dL_build_299 : decode cL_build 299 = .ok (.iload 11, 2) := by decide +kernel
theorem dL_build_301 : decode cL_build 301 = .ok (.if_icmp .eq 5, 3) := by decide +kernel
theorem dL_build_304 : decode cL_build 304 = .ok (.aconst_null, 1) := by decide +kernel
theorem dL_build_305 : decode cL_build 305 = .ok (.areturn, 1) := by decide +kernel
theorem dL_build_306 : decode cL_build 306 = .ok (.iinc 12 1, 3) := by decide +kernel
theorem dL_build_309 : decode cL_build 309 = .ok (.goto (-54), 3) := by decide +kernel
theorem dL_build_312 : decode cL_build 312 = .ok (.iload 8, 2) := by decide +kernel
theorem dL_build_314 : decode cL_build 314 = .ok (.iconst 2, 1) := by decide +kernel
theorem dL_build_315 : decode cL_build 315 = .ok (.idiv, 1) := by decide +kernel
theorem dL_build_316 : decode cL_build 316 = .ok (.iconst 1, 1) := by decide +kernel
theorem dL_build_317 : decode cL_build 317 = .ok (.isub, 1) := by decide +kernel
theorem dL_build_318 : decode cL_build 318 = .ok (.istore 12, 2) := by decide +kernel
theorem dL_build_320 : decode cL_build 320 = .ok (.iload 12, 2) := by decide +kernel
theorem dL_build_322 : decode cL_build 322 = .ok (.ifCond .lt 53, 3) := by decide +kernel
theorem dL_build_325 : decode cL_build 325 = .ok (.iinc 11 1, 3) := by decide +kernel
theorem dL_build_328 : decode cL_build 328 = .ok (.aload_n 0, 1) := by decide +kernel
theorem dL_build_329 : decode cL_build 329 = .ok (.iload 5, 2) := by decide +kernel
theorem dL_build_331 : decode cL_build 331 = .ok (.aload_n 3, 1) := by decide +kernel
theorem dL_build_332 : decode cL_build 332 = .ok (.getfield 28, 3) := by decide +kernel
theorem dL_build_335 : decode cL_build 335 = .ok (.iload 5, 2) := by decide +kernel
theorem dL_build_337 : decode cL_build 337 = .ok (.aaload, 1) := by decide +kernel
theorem dL_build_338 : decode cL_build 338 = .ok (.iconst 2, 1) := by decide +kernel
theorem dL_build_339 : decode cL_build 339 = .ok (.iconst 2, 1) := by decide +kernel
theorem dL_build_340 : decode cL_build 340 = .ok (.iload 12, 2) := by decide +kernel
theorem dL_build_342 : decode cL_build 342 = .ok (.imul, 1) := by decide +kernel
theorem dL_build_343 : decode cL_build 343 = .ok (.iadd, 1) := by decide +kernel
theorem dL_build_344 : decode cL_build 344 = .ok (.iaload, 1) := by decide +kernel
theorem dL_build_345 : decode cL_build 345 = .ok (.aload_n 3, 1) := by decide +kernel
theorem dL_build_346 : decode cL_build 346 = .ok (.getfield 28, 3) := by decide +kernel
theorem dL_build_349 : decode cL_build 349 = .ok (.iload 5, 2) := by decide +kernel
theorem dL_build_351 : decode cL_build 351 = .ok (.aaload, 1) := by decide +kernel
theorem dL_build_352 : decode cL_build 352 = .ok (.iconst 3, 1) := by decide +kernel
theorem dL_build_353 : decode cL_build 353 = .ok (.iconst 2, 1) := by decide +kernel
theorem dL_build_354 : decode cL_build 354 = .ok (.iload 12, 2) := by decide +kernel
theorem dL_build_356 : decode cL_build 356 = .ok (.imul, 1) := by decide +kernel
theorem dL_build_357 : decode cL_build 357 = .ok (.iadd, 1) := by decide +kernel
theorem dL_build_358 : decode cL_build 358 = .ok (.iaload, 1) := by decide +kernel
theorem dL_build_359 : decode cL_build 359 = .ok (.invokevirtual 36, 3) := by decide +kernel
theorem dL_build_362 : decode cL_build 362 = .ok (.iload 11, 2) := by decide +kernel
theorem dL_build_364 : decode cL_build 364 = .ok (.if_icmp .eq 5, 3) := by decide +kernel
theorem dL_build_367 : decode cL_build 367 = .ok (.aconst_null, 1) := by decide +kernel
theorem dL_build_368 : decode cL_build 368 = .ok (.areturn, 1) := by decide +kernel
theorem dL_build_369 : decode cL_build 369 = .ok (.iinc 12 (-1), 3) := by decide +kernel
theorem dL_build_372 : decode cL_build 372 = .ok (.goto (-52), 3) := by decide +kernel
theorem dL_build_375 : decode cL_build 375 = .ok (.iinc 5 1, 3) := by decide +kernel
theorem dL_build_378 : decode cL_build 378 = .ok (.goto (-356), 3) := by decide +kernel
theorem dL_build_381 : decode cL_build 381 = .ok (.aload_n 1, 1) := by decide +kernel
theorem dL_build_382 : decode cL_build 382 = .ok (.iload_n 2, 1) := by decide +kernel
theorem dL_build_383 : decode cL_build 383 = .ok (.invokestatic 12, 3) := by decide +kernel
theorem dL_build_386 : decode cL_build 386 = .ok (.iconst 4, 1) := by decide +kernel
theorem dL_build_387 : decode cL_build 387 = .ok (.ishr, 1) := by decide +kernel
theorem dL_build_388 : decode cL_build 388 = .ok (.iconst 5, 1) := by decide +kernel
theorem dL_build_389 : decode cL_build 389 = .ok (.invokestatic 18, 3) := by decide +kernel
theorem dL_build_392 : decode cL_build 392 = .ok (.istore 5, 2) := by decide +kernel
theorem dL_build_394 : decode cL_build 394 = .ok (.iconst 0, 1) := by decide +kernel
theorem dL_build_395 : decode cL_build 395 = .ok (.istore 6, 2) := by decide +kernel
theorem dL_build_397 : decode cL_build 397 = .ok (.iload 6, 2) := by decide +kernel
theorem dL_build_399 : decode cL_build 399 = .ok (.iload 5, 2) := by decide +kernel
theorem dL_build_401 : decode cL_build 401 = .ok (.if_icmp .ge 109, 3) := by decide +kernel
theorem dL_build_404 : decode cL_build 404 = .ok (.aload_n 1, 1) := by decide +kernel
theorem dL_build_405 : decode cL_build 405 = .ok (.iload_n 2, 1) := by decide +kernel
theorem dL_build_406 : decode cL_build 406 = .ok (.iconst 5, 1) := by decide +kernel
theorem dL_build_407 : decode cL_build 407 = .ok (.iadd, 1) := by decide +kernel
theorem dL_build_408 : decode cL_build 408 = .ok (.invokestatic 12, 3) := by decide +kernel
theorem dL_build_411 : decode cL_build 411 = .ok (.iconst 5, 1) := by decide +kernel
theorem dL_build_412 : decode cL_build 412 = .ok (.iload 6, 2) := by decide +kernel
theorem dL_build_414 : decode cL_build 414 = .ok (.imul, 1) := by decide +kernel
theorem dL_build_415 : decode cL_build 415 = .ok (.ishr, 1) := by decide +kernel
theorem dL_build_416 : decode cL_build 416 = .ok (.sipush 200, 3) := by decide +kernel
theorem dL_build_419 : decode cL_build 419 = .ok (.invokestatic 18, 3) := by decide +kernel
theorem dL_build_422 : decode cL_build 422 = .ok (.istore 7, 2) := by decide +kernel
theorem dL_build_424 : decode cL_build 424 = .ok (.aload_n 1, 1) := by decide +kernel
theorem dL_build_425 : decode cL_build 425 = .ok (.iload_n 2, 1) := by decide +kernel
theorem dL_build_426 : decode cL_build 426 = .ok (.bipush 6, 2) := by decide +kernel
theorem dL_build_428 : decode cL_build 428 = .ok (.iadd, 1) := by decide +kernel
theorem dL_build_429 : decode cL_build 429 = .ok (.invokestatic 12, 3) := by decide +kernel
theorem dL_build_432 : decode cL_build 432 = .ok (.iconst 4, 1) := by decide +kernel
theorem dL_build_433 : decode cL_build 433 = .ok (.iload 6, 2) := by decide +kernel
theorem dL_build_435 : decode cL_build 435 = .ok (.imul, 1) := by decide +kernel
theorem dL_build_436 : decode cL_build 436 = .ok (.ishr, 1) := by decide +kernel
theorem dL_build_437 : decode cL_build 437 = .ok (.sipush 401, 3) := by decide +kernel
theorem dL_build_440 : decode cL_build 440 = .ok (.invokestatic 18, 3) := by decide +kernel
theorem dL_build_443 : decode cL_build 443 = .ok (.sipush 200, 3) := by decide +kernel
theorem dL_build_446 : decode cL_build 446 = .ok (.isub, 1) := by decide +kernel
theorem dL_build_447 : decode cL_build 447 = .ok (.istore 8, 2) := by decide +kernel
theorem dL_build_449 : decode cL_build 449 = .ok (.aload_n 0, 1) := by decide +kernel
theorem dL_build_450 : decode cL_build 450 = .ok (.iload 7, 2) := by decide +kernel
theorem dL_build_452 : decode cL_build 452 = .ok (.iload 8, 2) := by decide +kernel
theorem dL_build_454 : decode cL_build 454 = .ok (.invokevirtual 40, 3) := by decide +kernel
theorem dL_build_457 : decode cL_build 457 = .ok (.aload_n 3, 1) := by decide +kernel
theorem dL_build_458 : decode cL_build 458 = .ok (.iload 7, 2) := by decide +kernel
theorem dL_build_460 : decode cL_build 460 = .ok (.invokevirtual 43, 3) := by decide +kernel
theorem dL_build_463 : decode cL_build 463 = .ok (.if_icmp .eq 5, 3) := by decide +kernel
theorem dL_build_466 : decode cL_build 466 = .ok (.aconst_null, 1) := by decide +kernel
theorem dL_build_467 : decode cL_build 467 = .ok (.areturn, 1) := by decide +kernel
theorem dL_build_468 : decode cL_build 468 = .ok (.aload_n 3, 1) := by decide +kernel
theorem dL_build_469 : decode cL_build 469 = .ok (.getfield 32, 3) := by decide +kernel
theorem dL_build_472 : decode cL_build 472 = .ok (.iconst 3, 1) := by decide +kernel
theorem dL_build_473 : decode cL_build 473 = .ok (.dup2, 1) := by decide +kernel
theorem dL_build_474 : decode cL_build 474 = .ok (.iaload, 1) := by decide +kernel
theorem dL_build_475 : decode cL_build 475 = .ok (.aload_n 3, 1) := by decide +kernel
theorem dL_build_476 : decode cL_build 476 = .ok (.getfield 46, 3) := by decide +kernel
theorem dL_build_479 : decode cL_build 479 = .ok (.iload 7, 2) := by decide +kernel
theorem dL_build_481 : decode cL_build 481 = .ok (.iaload, 1) := by decide +kernel
theorem dL_build_482 : decode cL_build 482 = .ok (.sipush 9999, 3) := by decide +kernel
theorem dL_build_485 : decode cL_build 485 = .ok (.if_icmp .ne 7, 3) := by decide +kernel
theorem dL_build_488 : decode cL_build 488 = .ok (.iconst 1, 1) := by decide +kernel
theorem dL_build_489 : decode cL_build 489 = .ok (.goto 4, 3) := by decide +kernel
theorem dL_build_492 : decode cL_build 492 = .ok (.iconst 0, 1) := by decide +kernel
theorem dL_build_493 : decode cL_build 493 = .ok (.iadd, 1) := by decide +kernel
theorem dL_build_494 : decode cL_build 494 = .ok (.iastore, 1) := by decide +kernel
theorem dL_build_495 : decode cL_build 495 = .ok (.aload_n 3, 1) := by decide +kernel
theorem dL_build_496 : decode cL_build 496 = .ok (.getfield 46, 3) := by decide +kernel
theorem dL_build_499 : decode cL_build 499 = .ok (.iload 7, 2) := by decide +kernel
theorem dL_build_501 : decode cL_build 501 = .ok (.iload 8, 2) := by decide +kernel
theorem dL_build_503 : decode cL_build 503 = .ok (.iastore, 1) := by decide +kernel
theorem dL_build_504 : decode cL_build 504 = .ok (.iinc 6 1, 3) := by decide +kernel
theorem dL_build_507 : decode cL_build 507 = .ok (.goto (-110), 3) := by decide +kernel
theorem dL_build_510 : decode cL_build 510 = .ok (.iconst 0, 1) := by decide +kernel
theorem dL_build_511 : decode cL_build 511 = .ok (.istore 6, 2) := by decide +kernel
theorem dL_build_513 : decode cL_build 513 = .ok (.iload 6, 2) := by decide +kernel
theorem dL_build_515 : decode cL_build 515 = .ok (.bipush 6, 2) := by decide +kernel
theorem dL_build_517 : decode cL_build 517 = .ok (.if_icmp .ge 380, 3) := by decide +kernel
theorem dL_build_520 : decode cL_build 520 = .ok (.aload_n 1, 1) := by decide +kernel
theorem dL_build_521 : decode cL_build 521 = .ok (.iload_n 2, 1) := by decide +kernel
theorem dL_build_522 : decode cL_build 522 = .ok (.bipush 7, 2) := by decide +kernel
theorem dL_build_524 : decode cL_build 524 = .ok (.iadd, 1) := by decide +kernel
theorem dL_build_525 : decode cL_build 525 = .ok (.iload 6, 2) := by decide +kernel
theorem dL_build_527 : decode cL_build 527 = .ok (.iconst 4, 1) := by decide +kernel
theorem dL_build_528 : decode cL_build 528 = .ok (.irem, 1) := by decide +kernel
theorem dL_build_529 : decode cL_build 529 = .ok (.iadd, 1) := by decide +kernel
theorem dL_build_530 : decode cL_build 530 = .ok (.invokestatic 12, 3) := by decide +kernel
theorem dL_build_533 : decode cL_build 533 = .ok (.iload 6, 2) := by decide +kernel
theorem dL_build_535 : decode cL_build 535 = .ok (.iconst 4, 1) := by decide +kernel
theorem dL_build_536 : decode cL_build 536 = .ok (.idiv, 1) := by decide +kernel
theorem dL_build_537 : decode cL_build 537 = .ok (.bipush 9, 2) := by decide +kernel
theorem dL_build_539 : decode cL_build 539 = .ok (.imul, 1) := by decide +kernel
theorem dL_build_540 : decode cL_build 540 = .ok (.ishr, 1) := by decide +kernel
theorem dL_build_541 : decode cL_build 541 = .ok (.istore 7, 2) := by decide +kernel
theorem dL_build_543 : decode cL_build 543 = .ok (.iload 7, 2) := by decide +kernel
theorem dL_build_545 : decode cL_build 545 = .ok (.sipush 190, 3) := by decide +kernel
theorem dL_build_548 : decode cL_build 548 = .ok (.invokestatic 18, 3) := by decide +kernel
theorem dL_build_551 : decode cL_build 551 = .ok (.istore 8, 2) := by decide +kernel
theorem dL_build_553 : decode cL_build 553 = .ok (.iconst 1, 1) := by decide +kernel
theorem dL_build_554 : decode cL_build 554 = .ok (.iload 7, 2) := by decide +kernel
theorem dL_build_556 : decode cL_build 556 = .ok (.iconst 4, 1) := by decide +kernel
theorem dL_build_557 : decode cL_build 557 = .ok (.ishr, 1) := by decide +kernel
theorem dL_build_558 : decode cL_build 558 = .ok (.bipush 40, 2) := by decide +kernel
theorem dL_build_560 : decode cL_build 560 = .ok (.invokestatic 18, 3) := by decide +kernel
theorem dL_build_563 : decode cL_build 563 = .ok (.iadd, 1) := by decide +kernel
theorem dL_build_564 : decode cL_build 564 = .ok (.istore 9, 2) := by decide +kernel
theorem dL_build_566 : decode cL_build 566 = .ok (.iload 7, 2) := by decide +kernel
theorem dL_build_568 : decode cL_build 568 = .ok (.bipush 6, 2) := by decide +kernel
theorem dL_build_570 : decode cL_build 570 = .ok (.ishr, 1) := by decide +kernel
theorem dL_build_571 : decode cL_build 571 = .ok (.sipush 400, 3) := by decide +kernel
theorem dL_build_574 : decode cL_build 574 = .ok (.invokestatic 18, 3) := by decide +kernel
theorem dL_build_577 : decode cL_build 577 = .ok (.sipush 200, 3) := by decide +kernel
theorem dL_build_580 : decode cL_build 580 = .ok (.isub, 1) := by decide +kernel
theorem dL_build_581 : decode cL_build 581 = .ok (.istore 10, 2) := by decide +kernel
theorem dL_build_583 : decode cL_build 583 = .ok (.iload 7, 2) := by decide +kernel
theorem dL_build_585 : decode cL_build 585 = .ok (.bipush 8, 2) := by decide +kernel
theorem dL_build_587 : decode cL_build 587 = .ok (.ishr, 1) := by decide +kernel
theorem dL_build_588 : decode cL_build 588 = .ok (.bipush 21, 2) := by decide +kernel
theorem dL_build_590 : decode cL_build 590 = .ok (.invokestatic 18, 3) := by decide +kernel
theorem dL_build_593 : decode cL_build 593 = .ok (.bipush 7, 2) := by decide +kernel
theorem dL_build_595 : decode cL_build 595 = .ok (.isub, 1) := by decide +kernel
theorem dL_build_596 : decode cL_build 596 = .ok (.istore 11, 2) := by decide +kernel
theorem dL_build_598 : decode cL_build 598 = .ok (.iconst 0, 1) := by decide +kernel
theorem dL_build_599 : decode cL_build 599 = .ok (.istore 12, 2) := by decide +kernel
theorem dL_build_601 : decode cL_build 601 = .ok (.iload 8, 2) := by decide +kernel
theorem dL_build_603 : decode cL_build 603 = .ok (.istore 13, 2) := by decide +kernel
theorem dL_build_605 : decode cL_build 605 = .ok (.iload 13, 2) := by decide +kernel
theorem dL_build_607 : decode cL_build 607 = .ok (.iload 8, 2) := by decide +kernel
theorem dL_build_609 : decode cL_build 609 = .ok (.iload 9, 2) := by decide +kernel
theorem dL_build_611 : decode cL_build 611 = .ok (.iadd, 1) := by decide +kernel
theorem dL_build_612 : decode cL_build 612 = .ok (.if_icmp .ge 50, 3) := by decide +kernel
theorem dL_build_615 : decode cL_build 615 = .ok (.iload 12, 2) := by decide +kernel
theorem dL_build_617 : decode cL_build 617 = .ok (.aload_n 3, 1) := by decide +kernel
theorem dL_build_618 : decode cL_build 618 = .ok (.getfield 49, 3) := by decide +kernel
theorem dL_build_621 : decode cL_build 621 = .ok (.iload 13, 2) := by decide +kernel
theorem dL_build_623 : decode cL_build 623 = .ok (.iaload, 1) := by decide +kernel
theorem dL_build_624 : decode cL_build 624 = .ok (.sipush 9999, 3) := by decide +kernel
theorem dL_build_627 : decode cL_build 627 = .ok (.if_icmp .ne 7, 3) := by decide +kernel
theorem dL_build_630 : decode cL_build 630 = .ok (.iconst 0, 1) := by decide +kernel
theorem dL_build_631 : decode cL_build 631 = .ok (.goto 4, 3) := by decide +kernel
theorem dL_build_634 : decode cL_build 634 = .ok (.iconst 1, 1) := by decide +kernel
theorem dL_build_635 : decode cL_build 635 = .ok (.iadd, 1) := by decide +kernel
theorem dL_build_636 : decode cL_build 636 = .ok (.istore 12, 2) := by decide +kernel
theorem dL_build_638 : decode cL_build 638 = .ok (.aload_n 3, 1) := by decide +kernel
theorem dL_build_639 : decode cL_build 639 = .ok (.getfield 49, 3) := by decide +kernel
theorem dL_build_642 : decode cL_build 642 = .ok (.iload 13, 2) := by decide +kernel
theorem dL_build_644 : decode cL_build 644 = .ok (.iload 10, 2) := by decide +kernel
theorem dL_build_646 : decode cL_build 646 = .ok (.iload 11, 2) := by decide +kernel
theorem dL_build_648 : decode cL_build 648 = .ok (.iload 13, 2) := by decide +kernel
theorem dL_build_650 : decode cL_build 650 = .ok (.iload 8, 2) := by decide +kernel
theorem dL_build_652 : decode cL_build 652 = .ok (.isub, 1) := by decide +kernel
theorem dL_build_653 : decode cL_build 653 = .ok (.imul, 1) := by decide +kernel
theorem dL_build_654 : decode cL_build 654 = .ok (.iadd, 1) := by decide +kernel
theorem dL_build_655 : decode cL_build 655 = .ok (.iastore, 1) := by decide +kernel
theorem dL_build_656 : decode cL_build 656 = .ok (.iinc 13 1, 3) := by decide +kernel
theorem dL_build_659 : decode cL_build 659 = .ok (.goto (-54), 3) := by decide +kernel
theorem dL_build_662 : decode cL_build 662 = .ok (.aload_n 0, 1) := by decide +kernel
theorem dL_build_663 : decode cL_build 663 = .ok (.iload 8, 2) := by decide +kernel
theorem dL_build_665 : decode cL_build 665 = .ok (.iload 9, 2) := by decide +kernel
theorem dL_build_667 : decode cL_build 667 = .ok (.iload 10, 2) := by decide +kernel
theorem dL_build_669 : decode cL_build 669 = .ok (.iload 11, 2) := by decide +kernel
theorem dL_build_671 : decode cL_build 671 = .ok (.invokevirtual 52, 3) := by decide +kernel
theorem dL_build_674 : decode cL_build 674 = .ok (.iload 12, 2) := by decide +kernel
theorem dL_build_676 : decode cL_build 676 = .ok (.if_icmp .eq 5, 3) := by decide +kernel
theorem dL_build_679 : decode cL_build 679 = .ok (.aconst_null, 1) := by decide +kernel
theorem dL_build_680 : decode cL_build 680 = .ok (.areturn, 1) := by decide +kernel
theorem dL_build_681 : decode cL_build 681 = .ok (.iconst 0, 1) := by decide +kernel
theorem dL_build_682 : decode cL_build 682 = .ok (.istore 13, 2) := by decide +kernel
theorem dL_build_684 : decode cL_build 684 = .ok (.iload 7, 2) := by decide +kernel
theorem dL_build_686 : decode cL_build 686 = .ok (.iconst 3, 1) := by decide +kernel
theorem dL_build_687 : decode cL_build 687 = .ok (.ishr, 1) := by decide +kernel
theorem dL_build_688 : decode cL_build 688 = .ok (.sipush 200, 3) := by decide +kernel
theorem dL_build_691 : decode cL_build 691 = .ok (.invokestatic 18, 3) := by decide +kernel
theorem dL_build_694 : decode cL_build 694 = .ok (.istore 14, 2) := by decide +kernel
theorem dL_build_696 : decode cL_build 696 = .ok (.iconst 1, 1) := by decide +kernel
theorem dL_build_697 : decode cL_build 697 = .ok (.iload 7, 2) := by decide +kernel
theorem dL_build_699 : decode cL_build 699 = .ok (.iconst 5, 1) := by decide +kernel
theorem dL_build_700 : decode cL_build 700 = .ok (.ishr, 1) := by decide +kernel
theorem dL_build_701 : decode cL_build 701 = .ok (.bipush 12, 2) := by decide +kernel
theorem dL_build_703 : decode cL_build 703 = .ok (.invokestatic 18, 3) := by decide +kernel
theorem dL_build_706 : decode cL_build 706 = .ok (.iadd, 1) := by decide +kernel
theorem dL_build_707 : decode cL_build 707 = .ok (.istore 15, 2) := by decide +kernel
theorem dL_build_709 : decode cL_build 709 = .ok (.iload 14, 2) := by decide +kernel
theorem dL_build_711 : decode cL_build 711 = .ok (.istore 16, 2) := by decide +kernel
theorem dL_build_713 : decode cL_build 713 = .ok (.iload 16, 2) := by decide +kernel
theorem dL_build_715 : decode cL_build 715 = .ok (.iload 14, 2) := by decide +kernel
theorem dL_build_717 : decode cL_build 717 = .ok (.iload 15, 2) := by decide +kernel
theorem dL_build_719 : decode cL_build 719 = .ok (.iadd, 1) := by decide +kernel
theorem dL_build_720 : decode cL_build 720 = .ok (.if_icmp .ge 42, 3) := by decide +kernel
theorem dL_build_723 : decode cL_build 723 = .ok (.iload 13, 2) := by decide +kernel
theorem dL_build_725 : decode cL_build 725 = .ok (.aload_n 3, 1) := by decide +kernel
theorem dL_build_726 : decode cL_build 726 = .ok (.getfield 49, 3) := by decide +kernel
theorem dL_build_729 : decode cL_build 729 = .ok (.iload 16, 2) := by decide +kernel
theorem dL_build_731 : decode cL_build 731 = .ok (.iaload, 1) := by decide +kernel
theorem dL_build_732 : decode cL_build 732 = .ok (.sipush 9999, 3) := by decide +kernel
theorem dL_build_735 : decode cL_build 735 = .ok (.if_icmp .ne 7, 3) := by decide +kernel
theorem dL_build_738 : decode cL_build 738 = .ok (.iconst 0, 1) := by decide +kernel
theorem dL_build_739 : decode cL_build 739 = .ok (.goto 4, 3) := by decide +kernel
theorem dL_build_742 : decode cL_build 742 = .ok (.iconst 1, 1) := by decide +kernel
theorem dL_build_743 : decode cL_build 743 = .ok (.iadd, 1) := by decide +kernel
theorem dL_build_744 : decode cL_build 744 = .ok (.istore 13, 2) := by decide +kernel
theorem dL_build_746 : decode cL_build 746 = .ok (.aload_n 3, 1) := by decide +kernel
theorem dL_build_747 : decode cL_build 747 = .ok (.getfield 49, 3) := by decide +kernel
theorem dL_build_750 : decode cL_build 750 = .ok (.iload 16, 2) := by decide +kernel
theorem dL_build_752 : decode cL_build 752 = .ok (.sipush 9999, 3) := by decide +kernel
theorem dL_build_755 : decode cL_build 755 = .ok (.iastore, 1) := by decide +kernel
theorem dL_build_756 : decode cL_build 756 = .ok (.iinc 16 1, 3) := by decide +kernel
theorem dL_build_759 : decode cL_build 759 = .ok (.goto (-46), 3) := by decide +kernel
theorem dL_build_762 : decode cL_build 762 = .ok (.aload_n 0, 1) := by decide +kernel
theorem dL_build_763 : decode cL_build 763 = .ok (.iload 14, 2) := by decide +kernel
theorem dL_build_765 : decode cL_build 765 = .ok (.iload 15, 2) := by decide +kernel
theorem dL_build_767 : decode cL_build 767 = .ok (.invokevirtual 56, 3) := by decide +kernel
theorem dL_build_770 : decode cL_build 770 = .ok (.iload 13, 2) := by decide +kernel
theorem dL_build_772 : decode cL_build 772 = .ok (.if_icmp .eq 5, 3) := by decide +kernel
theorem dL_build_775 : decode cL_build 775 = .ok (.aconst_null, 1) := by decide +kernel
theorem dL_build_776 : decode cL_build 776 = .ok (.areturn, 1) := by decide +kernel
theorem dL_build_777 : decode cL_build 777 = .ok (.iconst 0, 1) := by decide +kernel
theorem dL_build_778 : decode cL_build 778 = .ok (.istore 16, 2) := by decide +kernel
theorem dL_build_780 : decode cL_build 780 = .ok (.iload 7, 2) := by decide +kernel
theorem dL_build_782 : decode cL_build 782 = .ok (.bipush 7, 2) := by decide +kernel
theorem dL_build_784 : decode cL_build 784 = .ok (.ishr, 1) := by decide +kernel
theorem dL_build_785 : decode cL_build 785 = .ok (.sipush 200, 3) := by decide +kernel
theorem dL_build_788 : decode cL_build 788 = .ok (.invokestatic 18, 3) := by decide +kernel
theorem dL_build_791 : decode cL_build 791 = .ok (.istore 14, 2) := by decide +kernel
theorem dL_build_793 : decode cL_build 793 = .ok (.iload 14, 2) := by decide +kernel
theorem dL_build_795 : decode cL_build 795 = .ok (.istore 17, 2) := by decide +kernel
theorem dL_build_797 : decode cL_build 797 = .ok (.iload 17, 2) := by decide +kernel
theorem dL_build_799 : decode cL_build 799 = .ok (.iload 14, 2) := by decide +kernel
theorem dL_build_801 : decode cL_build 801 = .ok (.iload 15, 2) := by decide +kernel
theorem dL_build_803 : decode cL_build 803 = .ok (.iadd, 1) := by decide +kernel
theorem dL_build_804 : decode cL_build 804 = .ok (.if_icmp .ge 60, 3) := by decide +kernel
theorem dL_build_807 : decode cL_build 807 = .ok (.iload 16, 2) := by decide +kernel
theorem dL_build_809 : decode cL_build 809 = .ok (.aload_n 3, 1) := by decide +kernel
theorem dL_build_810 : decode cL_build 810 = .ok (.getfield 59, 3) := by decide +kernel
theorem dL_build_813 : decode cL_build 813 = .ok (.iload 17, 2) := by decide +kernel
theorem dL_build_815 : decode cL_build 815 = .ok (.baload, 1) := by decide +kernel
theorem dL_build_816 : decode cL_build 816 = .ok (.iload 6, 2) := by decide +kernel
theorem dL_build_818 : decode cL_build 818 = .ok (.iconst 3, 1) := by decide +kernel
theorem dL_build_819 : decode cL_build 819 = .ok (.irem, 1) := by decide +kernel
theorem dL_build_820 : decode cL_build 820 = .ok (.ifCond .le 7, 3) := by decide +kernel
theorem dL_build_823 : decode cL_build 823 = .ok (.iconst 1, 1) := by decide +kernel
theorem dL_build_824 : decode cL_build 824 = .ok (.goto 4, 3) := by decide +kernel
theorem dL_build_827 : decode cL_build 827 = .ok (.iconst 0, 1) := by decide +kernel
theorem dL_build_828 : decode cL_build 828 = .ok (.if_icmp .ne 7, 3) := by decide +kernel
theorem dL_build_831 : decode cL_build 831 = .ok (.iconst 0, 1) := by decide +kernel
theorem dL_build_832 : decode cL_build 832 = .ok (.goto 4, 3) := by decide +kernel
theorem dL_build_835 : decode cL_build 835 = .ok (.iconst 1, 1) := by decide +kernel
theorem dL_build_836 : decode cL_build 836 = .ok (.iadd, 1) := by decide +kernel
theorem dL_build_837 : decode cL_build 837 = .ok (.istore 16, 2) := by decide +kernel
theorem dL_build_839 : decode cL_build 839 = .ok (.aload_n 3, 1) := by decide +kernel
theorem dL_build_840 : decode cL_build 840 = .ok (.getfield 59, 3) := by decide +kernel
theorem dL_build_843 : decode cL_build 843 = .ok (.iload 17, 2) := by decide +kernel
theorem dL_build_845 : decode cL_build 845 = .ok (.iload 6, 2) := by decide +kernel
theorem dL_build_847 : decode cL_build 847 = .ok (.iconst 3, 1) := by decide +kernel
theorem dL_build_848 : decode cL_build 848 = .ok (.irem, 1) := by decide +kernel
theorem dL_build_849 : decode cL_build 849 = .ok (.ifCond .le 7, 3) := by decide +kernel
theorem dL_build_852 : decode cL_build 852 = .ok (.iconst 1, 1) := by decide +kernel
theorem dL_build_853 : decode cL_build 853 = .ok (.goto 4, 3) := by decide +kernel
theorem dL_build_856 : decode cL_build 856 = .ok (.iconst 0, 1) := by decide +kernel
theorem dL_build_857 : decode cL_build 857 = .ok (.bastore, 1) := by decide +kernel
theorem dL_build_858 : decode cL_build 858 = .ok (.iinc 17 1, 3) := by decide +kernel
theorem dL_build_861 : decode cL_build 861 = .ok (.goto (-64), 3) := by decide +kernel
theorem dL_build_864 : decode cL_build 864 = .ok (.aload_n 0, 1) := by decide +kernel
theorem dL_build_865 : decode cL_build 865 = .ok (.iload 14, 2) := by decide +kernel
theorem dL_build_867 : decode cL_build 867 = .ok (.iload 15, 2) := by decide +kernel
theorem dL_build_869 : decode cL_build 869 = .ok (.iload 6, 2) := by decide +kernel
theorem dL_build_871 : decode cL_build 871 = .ok (.iconst 3, 1) := by decide +kernel
theorem dL_build_872 : decode cL_build 872 = .ok (.irem, 1) := by decide +kernel
theorem dL_build_873 : decode cL_build 873 = .ok (.ifCond .le 7, 3) := by decide +kernel
theorem dL_build_876 : decode cL_build 876 = .ok (.iconst 1, 1) := by decide +kernel
theorem dL_build_877 : decode cL_build 877 = .ok (.goto 4, 3) := by decide +kernel
theorem dL_build_880 : decode cL_build 880 = .ok (.iconst 0, 1) := by decide +kernel
theorem dL_build_881 : decode cL_build 881 = .ok (.invokevirtual 63, 3) := by decide +kernel
theorem dL_build_884 : decode cL_build 884 = .ok (.iload 16, 2) := by decide +kernel
theorem dL_build_886 : decode cL_build 886 = .ok (.if_icmp .eq 5, 3) := by decide +kernel
theorem dL_build_889 : decode cL_build 889 = .ok (.aconst_null, 1) := by decide +kernel
theorem dL_build_890 : decode cL_build 890 = .ok (.areturn, 1) := by decide +kernel
theorem dL_build_891 : decode cL_build 891 = .ok (.iinc 6 1, 3) := by decide +kernel
theorem dL_build_894 : decode cL_build 894 = .ok (.goto (-381), 3) := by decide +kernel
theorem dL_build_897 : decode cL_build 897 = .ok (.aload_n 1, 1) := by decide +kernel
theorem dL_build_898 : decode cL_build 898 = .ok (.iload_n 2, 1) := by decide +kernel
theorem dL_build_899 : decode cL_build 899 = .ok (.bipush 11, 2) := by decide +kernel
theorem dL_build_901 : decode cL_build 901 = .ok (.iadd, 1) := by decide +kernel
theorem dL_build_902 : decode cL_build 902 = .ok (.invokestatic 12, 3) := by decide +kernel
theorem dL_build_905 : decode cL_build 905 = .ok (.istore 6, 2) := by decide +kernel
theorem dL_build_907 : decode cL_build 907 = .ok (.iload 6, 2) := by decide +kernel
theorem dL_build_909 : decode cL_build 909 = .ok (.iconst 3, 1) := by decide +kernel
theorem dL_build_910 : decode cL_build 910 = .ok (.invokestatic 18, 3) := by decide +kernel
theorem dL_build_913 : decode cL_build 913 = .ok (.ifCond .le 56, 3) := by decide +kernel
theorem dL_build_916 : decode cL_build 916 = .ok (.aload_n 3, 1) := by decide +kernel
theorem dL_build_917 : decode cL_build 917 = .ok (.getfield 32, 3) := by decide +kernel
theorem dL_build_920 : decode cL_build 920 = .ok (.iconst 0, 1) := by decide +kernel
theorem dL_build_921 : decode cL_build 921 = .ok (.iload 6, 2) := by decide +kernel
theorem dL_build_923 : decode cL_build 923 = .ok (.iconst 2, 1) := by decide +kernel
theorem dL_build_924 : decode cL_build 924 = .ok (.ishr, 1) := by decide +kernel
theorem dL_build_925 : decode cL_build 925 = .ok (.bipush 101, 2) := by decide +kernel
theorem dL_build_927 : decode cL_build 927 = .ok (.invokestatic 18, 3) := by decide +kernel
theorem dL_build_930 : decode cL_build 930 = .ok (.iastore, 1) := by decide +kernel
theorem dL_build_931 : decode cL_build 931 = .ok (.aload_n 3, 1) := by decide +kernel
theorem dL_build_932 : decode cL_build 932 = .ok (.getfield 32, 3) := by decide +kernel
theorem dL_build_935 : decode cL_build 935 = .ok (.iconst 1, 1) := by decide +kernel
theorem dL_build_936 : decode cL_build 936 = .ok (.iload 6, 2) := by decide +kernel
theorem dL_build_938 : decode cL_build 938 = .ok (.iconst 5, 1) := by decide +kernel
theorem dL_build_939 : decode cL_build 939 = .ok (.ishr, 1) := by decide +kernel
theorem dL_build_940 : decode cL_build 940 = .ok (.bipush 61, 2) := by decide +kernel
theorem dL_build_942 : decode cL_build 942 = .ok (.invokestatic 18, 3) := by decide +kernel
theorem dL_build_945 : decode cL_build 945 = .ok (.iastore, 1) := by decide +kernel
theorem dL_build_946 : decode cL_build 946 = .ok (.aload_n 0, 1) := by decide +kernel
theorem dL_build_947 : decode cL_build 947 = .ok (.aload_n 3, 1) := by decide +kernel
theorem dL_build_948 : decode cL_build 948 = .ok (.getfield 32, 3) := by decide +kernel
theorem dL_build_951 : decode cL_build 951 = .ok (.iconst 0, 1) := by decide +kernel
theorem dL_build_952 : decode cL_build 952 = .ok (.iaload, 1) := by decide +kernel
theorem dL_build_953 : decode cL_build 953 = .ok (.aload_n 3, 1) := by decide +kernel
theorem dL_build_954 : decode cL_build 954 = .ok (.getfield 32, 3) := by decide +kernel
theorem dL_build_957 : decode cL_build 957 = .ok (.iconst 1, 1) := by decide +kernel
theorem dL_build_958 : decode cL_build 958 = .ok (.iaload, 1) := by decide +kernel
theorem dL_build_959 : decode cL_build 959 = .ok (.invokevirtual 67, 3) := by decide +kernel
theorem dL_build_962 : decode cL_build 962 = .ok (.bipush 60, 2) := by decide +kernel
theorem dL_build_964 : decode cL_build 964 = .ok (.if_icmp .eq 5, 3) := by decide +kernel
theorem dL_build_967 : decode cL_build 967 = .ok (.aconst_null, 1) := by decide +kernel
theorem dL_build_968 : decode cL_build 968 = .ok (.areturn, 1) := by decide +kernel
theorem dL_build_969 : decode cL_build 969 = .ok (.aload_n 3, 1) := by decide +kernel
theorem dL_build_970 : decode cL_build 970 = .ok (.areturn, 1) := by decide +kernel
end
section
set_option maxRecDepth 20000 in
theorem ggL_law_X5_init : GoodIn wsL_law wsX5_init := goodIn_r _ [20, 21, 22, 23, 24, 25, 26, 27, 28, 29, 30, 31, 32, 33, 34, 35, 36, 37, 38, 39, 40, 41, 42, 43, 44, 45, 46, 47, 48, 49, 50, 51, 52, 53, 54, 55, 56, 3, 57, 58, 59, 60, 61, 62, 63, 64, 65, 351, 352, 353, 354, 355, 356, 357, 358, 359, 360, 361, 362, 363, 369, 370, 371, 372, 373, 374, 375, 376, 377] (by decide +kernel) (by decide +kernel)
set_option maxRecDepth 20000 in
theorem gL_law_X5_init : GoodIn wsL_law (wsX5_init) := ggL_law_X5_init
end
section
theorem goodIn_co {big : List Cond} {c : Cond} {b : List Cond} (ha : GoodIn big [c]) (hb : GoodIn big b) : GoodIn big (c :: b) := fun w h => (List.mem_cons.mp h).elim (fun e => ha w (List.mem_cons.mpr (Or.inl e))) (fun h => hb w h)
set_option maxRecDepth 20000 in
theorem ggB_0 : GoodIn wsL_law [.code yL_build cL_build 18 (some (.object "GaugeBookLaw$Book"))] := fun w hw => by
  rw [List.mem_singleton.mp hw]
  exact ⟨List.mem_of_getElem? (i := 69) rfl, good_of_word rfl⟩
set_option maxRecDepth 20000 in
theorem gg_wsL_build_r1 : GoodIn wsL_law wsL_build_r1 := goodIn_r _ [70, 71, 72, 73, 7, 74, 6, 5, 75, 76, 77, 78, 22, 23, 79, 30, 80, 81, 82, 32, 83, 84, 85, 86] (by decide +kernel) (by decide +kernel)
set_option maxRecDepth 20000 in
theorem gg_wsL_build_r2 : GoodIn wsL_law wsL_build_r2 := goodIn_r _ [68, 87, 88, 89, 90, 91, 92, 93, 94, 95, 2, 96, 97, 98, 99, 25, 24, 100, 101, 102, 103, 104, 105, 106] (by decide +kernel) (by decide +kernel)
set_option maxRecDepth 20000 in
theorem gg_wsL_build_r3 : GoodIn wsL_law wsL_build_r3 := goodIn_r _ [107, 108, 109, 110, 111, 112, 113, 114, 115, 116, 117, 118, 119, 120, 121, 122, 123, 124, 125, 126, 127, 128, 129, 130] (by decide +kernel) (by decide +kernel)
set_option maxRecDepth 20000 in
theorem gg_wsL_build_r4 : GoodIn wsL_law wsL_build_r4 := goodIn_r _ [131, 132, 133, 134, 135, 136, 137, 138, 139, 140, 141, 142, 143, 144, 145, 146, 147, 148, 149, 150, 151, 152, 153, 154] (by decide +kernel) (by decide +kernel)
set_option maxRecDepth 20000 in
theorem gg_wsL_build_r5 : GoodIn wsL_law wsL_build_r5 := goodIn_r _ [155, 156, 157, 158, 159, 160, 161, 162, 29, 163, 164, 165, 28, 166, 167, 51, 52, 168, 169, 170, 171, 172, 173, 174] (by decide +kernel) (by decide +kernel)
set_option maxRecDepth 20000 in
theorem gg_wsL_build_r6 : GoodIn wsL_law wsL_build_r6 := goodIn_r _ [175, 176, 177, 178, 179, 180, 181, 33, 31, 182, 183, 184, 185, 186, 187, 188, 189, 190, 191, 192, 193, 194, 195, 34] (by decide +kernel) (by decide +kernel)
set_option maxRecDepth 20000 in
theorem gg_wsL_build_r7 : GoodIn wsL_law wsL_build_r7 := goodIn_r _ [196, 197, 198, 199, 45, 46] (by decide +kernel) (by decide +kernel)
set_option maxRecDepth 20000 in
theorem ggB_wsX60 : GoodIn wsL_law wsX60 := goodIn_r _ [364, 365, 366, 367, 368] (by decide +kernel) (by decide +kernel)
set_option maxRecDepth 20000 in
theorem ggB_wsX50 : GoodIn wsL_law wsX50 := goodIn_r _ [351, 352, 353, 354, 355, 356, 357, 358, 359, 360, 361, 362, 363] (by decide +kernel) (by decide +kernel)
set_option maxRecDepth 20000 in
theorem ggB_wsX00 : GoodIn wsL_law wsX00 := goodIn_r _ [378, 379, 380, 381] (by decide +kernel) (by decide +kernel)
set_option maxRecDepth 20000 in
theorem ggB_wsX40 : GoodIn wsL_law wsX40 := goodIn_r _ [369, 370, 371] (by decide +kernel) (by decide +kernel)
set_option maxRecDepth 20000 in
theorem ggB_e0 : GoodIn wsL_law ((vx_atS RX5 71 "java/lang/IllegalStateException" ["java/lang/RuntimeException", "java/lang/Exception"]).filter goodWord) := goodIn_sub (fun _ h => List.mem_append_left _ (List.mem_append_left _ (List.mem_append_right _ h))) (by decide +kernel)
set_option maxRecDepth 20000 in
theorem ggB_e1 : GoodIn wsL_law ((vx_atS RX5 116 "java/lang/IllegalArgumentException" ["java/lang/RuntimeException", "java/lang/Exception"]).filter goodWord) := goodIn_sub (fun _ h => List.mem_append_left _ (List.mem_append_right _ h)) (by decide +kernel)
set_option maxRecDepth 20000 in
theorem ggB_e2 : GoodIn wsL_law ((vx_atS RX5 94 "java/lang/IndexOutOfBoundsException" ["java/lang/RuntimeException", "java/lang/Exception"]).filter goodWord) := goodIn_sub (fun _ h => List.mem_append_right _ h) (by decide +kernel)
theorem ggL_law_L_build : GoodIn wsL_law wsL_build := goodIn_co ggB_0 (goodIn_app (goodIn_app (goodIn_app (goodIn_app (goodIn_app (goodIn_app (goodIn_app (goodIn_app gg_wsL_build_r1 (goodIn_app gg_wsL_build_r2 (goodIn_app gg_wsL_build_r3 (goodIn_app gg_wsL_build_r4 (goodIn_app gg_wsL_build_r5 (goodIn_app gg_wsL_build_r6 (gg_wsL_build_r7))))))) ggB_wsX60) ggB_wsX50) ggB_wsX00) ggB_wsX40) ggB_e0) ggB_e1) ggB_e2)
end
section
set_option maxRecDepth 20000 in
theorem gL_law_L_build : GoodIn wsL_law (va_wsS RL 71 yL_build wsL_build) := goodIn_app (goodIn_of _ (by decide +kernel)) ggL_law_L_build
set_option maxRecDepth 20000 in
theorem ggL_law_X5_state : GoodIn wsL_law wsX5_state := goodIn_ca (goodIn_r _ [203, 40, 103, 104, 2, 105, 106, 107, 204, 205, 206, 207, 102, 46, 208, 209, 210, 211, 33, 212, 31, 29, 34, 45, 213, 214, 215, 216, 217, 112, 113, 114, 115, 116, 117, 118, 119, 99, 25, 218, 219, 220, 101, 221, 146, 222, 223, 224, 39, 225, 57, 58, 163, 164, 165, 28, 166, 167, 51, 52, 147, 148, 168, 169, 226, 227, 228, 229, 125, 230, 16, 10, 17, 231, 232, 233, 126, 234, 235, 236, 237, 238, 239, 240, 241, 242, 243, 244, 245, 246, 247, 248, 249, 250, 251, 252, 253, 254, 255, 256, 351, 352, 353, 354, 355, 356, 357, 358, 359, 360, 361, 362, 363, 378, 379, 380, 381, 372, 373, 369, 370, 371] (by decide +kernel) (by decide +kernel)) (goodIn_sub (fun _ h => List.mem_append_left _ (List.mem_append_right _ h)) (by decide +kernel))
set_option maxRecDepth 20000 in
theorem gL_law_X5_state : GoodIn wsL_law (wsV RL 77 RX5 yX5_state wsX5_state) := goodIn_app (goodIn_of _ (by decide +kernel)) ggL_law_X5_state
set_option maxRecDepth 20000 in
theorem ggL_law_X5_flow : GoodIn wsL_law wsX5_flow := goodIn_ca (goodIn_r _ [260, 40, 103, 104, 2, 105, 106, 107, 204, 205, 206, 207, 102, 46, 208, 209, 210, 211, 33, 212, 31, 29, 34, 45, 213, 214, 215, 216, 217, 112, 113, 114, 115, 116, 117, 118, 119, 99, 25, 218, 219, 220, 101, 221, 146, 222, 223, 224, 39, 225, 57, 58, 163, 164, 165, 28, 166, 167, 51, 52, 147, 148, 168, 169, 226, 227, 228, 229, 125, 230, 16, 10, 17, 231, 232, 233, 126, 234, 235, 236, 237, 238, 239, 240, 241, 242, 243, 244, 245, 246, 247, 248, 249, 250, 251, 252, 253, 254, 255, 261, 351, 352, 353, 354, 355, 356, 357, 358, 359, 360, 361, 362, 363, 378, 379, 380, 381, 372, 373, 369, 370, 371] (by decide +kernel) (by decide +kernel)) (goodIn_sub (fun _ h => List.mem_append_left _ (List.mem_append_right _ h)) (by decide +kernel))
set_option maxRecDepth 20000 in
theorem gL_law_X5_flow : GoodIn wsL_law (wsV RL 80 RX5 yX5_flow wsX5_flow) := goodIn_app (goodIn_of _ (by decide +kernel)) ggL_law_X5_flow
set_option maxRecDepth 20000 in
theorem ggL_law_X5_curveOf : GoodIn wsL_law wsX5_curveOf := goodIn_ca (goodIn_r _ [265, 103, 104, 2, 105, 106, 107, 112, 113, 114, 115, 116, 117, 118, 119, 99, 25, 378, 379, 380, 381, 351, 352, 353, 354, 355, 356, 357, 358, 359, 360, 361, 362, 363] (by decide +kernel) (by decide +kernel)) (goodIn_sub (fun _ h => List.mem_append_left _ (List.mem_append_right _ h)) (by decide +kernel))
end
section
set_option maxRecDepth 20000 in
theorem gL_law_X5_curveOf : GoodIn wsL_law (wsV RL 84 RX5 yX5_curveOf wsX5_curveOf) := goodIn_app (goodIn_of _ (by decide +kernel)) ggL_law_X5_curveOf
set_option maxRecDepth 20000 in
theorem ggL_law_X5_shift : GoodIn wsL_law wsX5_shift := goodIn_ca (goodIn_r _ [269, 29, 103, 104, 2, 105, 106, 107, 163, 164, 165, 28, 166, 167, 51, 52, 147, 148, 168, 169, 351, 352, 353, 354, 355, 356, 357, 358, 359, 360, 361, 362, 363, 369, 370, 371] (by decide +kernel) (by decide +kernel)) (goodIn_sub (fun _ h => List.mem_append_left _ (List.mem_append_right _ h)) (by decide +kernel))
set_option maxRecDepth 20000 in
theorem gL_law_X5_shift : GoodIn wsL_law (wsV RL 96 RX5 yX5_shift wsX5_shift) := goodIn_app (goodIn_of _ (by decide +kernel)) ggL_law_X5_shift
set_option maxRecDepth 20000 in
theorem ggL_law_X5_flowBy : GoodIn wsL_law wsX5_flowBy := goodIn_ca (goodIn_ca (goodIn_ca (goodIn_r _ [273, 131, 132, 106, 107, 97, 98, 116, 117, 118, 2, 119, 99, 25, 218, 219, 220, 101, 221, 146, 226, 227, 228, 229, 125, 230, 16, 10, 17, 231, 232, 233, 126, 147, 148, 168, 169, 351, 352, 353, 354, 355, 356, 357, 358, 359, 360, 361, 362, 363, 378, 379, 380, 381] (by decide +kernel) (by decide +kernel)) (goodIn_sub (fun _ h => List.mem_append_right _ h) (by decide +kernel))) (goodIn_sub (fun _ h => List.mem_append_left _ (List.mem_append_right _ h)) (by decide +kernel))) (goodIn_sub (fun _ h => List.mem_append_left _ (List.mem_append_left _ (List.mem_append_right _ h))) (by decide +kernel))
set_option maxRecDepth 20000 in
theorem gL_law_X5_flowBy : GoodIn wsL_law (wsV RL 97 RX5 yX5_flowBy wsX5_flowBy) := goodIn_app (goodIn_of _ (by decide +kernel)) ggL_law_X5_flowBy
set_option maxRecDepth 20000 in
theorem ggL_law_L_cell : GoodIn wsL_law wsL_cell := goodIn_r _ [87, 88] (by decide +kernel) (by decide +kernel)
end
section
set_option maxRecDepth 20000 in
theorem gL_law_L_cell : GoodIn wsL_law (va_wsS RL 12 yL_cell wsL_cell) := goodIn_app (goodIn_of _ (by decide +kernel)) ggL_law_L_cell
set_option maxRecDepth 20000 in
theorem ggL_law_L_below : GoodIn wsL_law wsL_below := goodIn_r _ [91, 92] (by decide +kernel) (by decide +kernel)
set_option maxRecDepth 20000 in
theorem gL_law_L_below : GoodIn wsL_law (va_wsS RL 18 yL_below wsL_below) := goodIn_app (goodIn_of _ (by decide +kernel)) ggL_law_L_below
set_option maxRecDepth 20000 in
theorem ggL_law_X5_sum : GoodIn wsL_law wsX5_sum := goodIn_ca (goodIn_ca (goodIn_r _ [277, 131, 132, 40, 278, 279, 2, 280, 106, 107, 204, 205, 206, 207, 102, 46, 208, 209, 210, 211, 33, 212, 31, 29, 34, 45, 213, 214, 215, 216, 217, 112, 113, 114, 115, 116, 117, 118, 119, 99, 25, 218, 219, 220, 101, 221, 146, 222, 223, 224, 39, 225, 57, 58, 163, 164, 165, 28, 166, 167, 51, 52, 147, 148, 168, 169, 226, 227, 228, 229, 125, 230, 16, 10, 17, 231, 232, 233, 126, 234, 235, 236, 237, 238, 239, 240, 241, 242, 243, 244, 245, 246, 247, 248, 249, 250, 251, 252, 253, 254, 255, 281, 282, 283, 284, 285, 286, 287, 288, 289, 290, 291, 292, 261, 293, 294, 295, 296, 351, 352, 353, 354, 355, 356, 357, 358, 359, 360, 361, 362, 363, 378, 379, 380, 381, 372, 373, 369, 370, 371] (by decide +kernel) (by decide +kernel)) (goodIn_sub (fun _ h => List.mem_append_right _ h) (by decide +kernel))) (goodIn_sub (fun _ h => List.mem_append_left _ (List.mem_append_right _ h)) (by decide +kernel))
set_option maxRecDepth 20000 in
theorem gL_law_X5_sum : GoodIn wsL_law (wsV RL 101 RX5 yX5_sum wsX5_sum) := goodIn_app (goodIn_of _ (by decide +kernel)) ggL_law_X5_sum
set_option maxRecDepth 20000 in
theorem ggL_law_X5_reached : GoodIn wsL_law wsX5_reached := goodIn_ca (goodIn_r _ [300, 106, 107, 44, 40, 301, 16, 10, 17, 204, 205, 206, 2, 207, 102, 46, 208, 209, 210, 211, 33, 212, 31, 29, 34, 45, 213, 214, 215, 216, 217, 112, 113, 114, 115, 116, 117, 118, 119, 99, 25, 218, 219, 220, 101, 221, 146, 222, 223, 224, 39, 225, 57, 58, 163, 164, 165, 28, 166, 167, 51, 52, 147, 148, 168, 169, 226, 227, 228, 229, 125, 230, 231, 232, 233, 126, 234, 235, 236, 237, 238, 239, 240, 241, 242, 243, 244, 245, 246, 247, 248, 249, 250, 251, 252, 253, 254, 255, 302, 303, 304, 43, 305, 306, 63, 307, 308, 309, 310, 311, 312, 64, 313, 314, 315, 316, 317, 318, 319, 320, 321, 322, 323, 324, 325, 326, 327, 328, 329, 261, 351, 352, 353, 354, 355, 356, 357, 358, 359, 360, 361, 362, 363, 378, 379, 380, 381, 372, 373, 369, 370, 371, 374, 375, 376, 377] (by decide +kernel) (by decide +kernel)) (goodIn_sub (fun _ h => List.mem_append_left _ (List.mem_append_right _ h)) (by decide +kernel))
end
section
set_option maxRecDepth 20000 in
theorem gL_law_X5_reached : GoodIn wsL_law (wsV RL 105 RX5 yX5_reached wsX5_reached) := goodIn_app (goodIn_of _ (by decide +kernel)) ggL_law_X5_reached
set_option maxRecDepth 20000 in
theorem ggL_law_X5_peaks : GoodIn wsL_law wsX5_peaks := goodIn_ca (goodIn_r _ [333, 106, 107, 44, 40, 334, 335, 2, 336, 204, 205, 206, 207, 102, 46, 208, 209, 210, 211, 33, 212, 31, 29, 34, 45, 213, 214, 215, 216, 217, 112, 113, 114, 115, 116, 117, 118, 119, 99, 25, 218, 219, 220, 101, 221, 146, 222, 223, 224, 39, 225, 57, 58, 163, 164, 165, 28, 166, 167, 51, 52, 147, 148, 168, 169, 226, 227, 228, 229, 125, 230, 16, 10, 17, 231, 232, 233, 126, 234, 235, 236, 237, 238, 239, 240, 241, 242, 243, 244, 245, 246, 247, 248, 249, 250, 251, 252, 253, 254, 255, 302, 303, 304, 43, 305, 306, 63, 307, 308, 309, 310, 311, 312, 64, 313, 314, 315, 316, 317, 318, 319, 320, 321, 337, 338, 339, 340, 65, 341, 342, 343, 344, 345, 327, 328, 329, 346, 347, 348, 349, 350, 351, 352, 353, 354, 355, 356, 357, 358, 359, 360, 361, 362, 363, 378, 379, 380, 381, 372, 373, 369, 370, 371, 374, 375, 376, 377] (by decide +kernel) (by decide +kernel)) (goodIn_sub (fun _ h => List.mem_append_left _ (List.mem_append_right _ h)) (by decide +kernel))
set_option maxRecDepth 20000 in
theorem gL_law_X5_peaks : GoodIn wsL_law (wsV RL 110 RX5 yX5_peaks wsX5_peaks) := goodIn_app (goodIn_of _ (by decide +kernel)) ggL_law_X5_peaks
end
section
theorem dL_law_0 : decode cL_law 0 = .ok (.new 23, 3) := by decide +kernel
theorem dL_law_3 : decode cL_law 3 = .ok (.dup, 1) := by decide +kernel
theorem dL_law_4 : decode cL_law 4 = .ok (.invokespecial 70, 3) := by decide +kernel
theorem dL_law_7 : decode cL_law 7 = .ok (.astore_n 1, 1) := by decide +kernel
theorem dL_law_8 : decode cL_law 8 = .ok (.aload_n 1, 1) := by decide +kernel
theorem dL_law_9 : decode cL_law 9 = .ok (.aload_n 0, 1) := by decide +kernel
theorem dL_law_10 : decode cL_law 10 = .ok (.iconst 0, 1) := by decide +kernel
theorem dL_law_11 : decode cL_law 11 = .ok (.invokestatic 71, 3) := by decide +kernel
theorem dL_law_14 : decode cL_law 14 = .ok (.astore_n 2, 1) := by decide +kernel
theorem dL_law_15 : decode cL_law 15 = .ok (.aload_n 2, 1) := by decide +kernel
theorem dL_law_16 : decode cL_law 16 = .ok (.ifnonnull 5, 3) := by decide +kernel
theorem dL_law_19 : decode cL_law 19 = .ok (.iconst 0, 1) := by decide +kernel
theorem dL_law_20 : decode cL_law 20 = .ok (.ireturn, 1) := by decide +kernel
theorem dL_law_21 : decode cL_law 21 = .ok (.iconst 2, 1) := by decide +kernel
theorem dL_law_22 : decode cL_law 22 = .ok (.newarray .long, 2) := by decide +kernel
theorem dL_law_24 : decode cL_law 24 = .ok (.dup, 1) := by decide +kernel
theorem dL_law_25 : decode cL_law 25 = .ok (.iconst 0, 1) := by decide +kernel
theorem dL_law_26 : decode cL_law 26 = .ok (.lconst 0, 1) := by decide +kernel
theorem dL_law_27 : decode cL_law 27 = .ok (.lastore, 1) := by decide +kernel
theorem dL_law_28 : decode cL_law 28 = .ok (.dup, 1) := by decide +kernel
theorem dL_law_29 : decode cL_law 29 = .ok (.iconst 1, 1) := by decide +kernel
theorem dL_law_30 : decode cL_law 30 = .ok (.lconst 0, 1) := by decide +kernel
theorem dL_law_31 : decode cL_law 31 = .ok (.lastore, 1) := by decide +kernel
theorem dL_law_32 : decode cL_law 32 = .ok (.astore_n 3, 1) := by decide +kernel
theorem dL_law_33 : decode cL_law 33 = .ok (.iconst 0, 1) := by decide +kernel
theorem dL_law_34 : decode cL_law 34 = .ok (.istore 4, 2) := by decide +kernel
theorem dL_law_36 : decode cL_law 36 = .ok (.iconst 0, 1) := by decide +kernel
theorem dL_law_37 : decode cL_law 37 = .ok (.istore 5, 2) := by decide +kernel
theorem dL_law_39 : decode cL_law 39 = .ok (.ldc2_w 75, 3) := by decide +kernel
theorem dL_law_42 : decode cL_law 42 = .ok (.lstore 6, 2) := by decide +kernel
theorem dL_law_44 : decode cL_law 44 = .ok (.iconst 0, 1) := by decide +kernel
theorem dL_law_45 : decode cL_law 45 = .ok (.istore 8, 2) := by decide +kernel
theorem dL_law_47 : decode cL_law 47 = .ok (.iload 8, 2) := by decide +kernel
theorem dL_law_49 : decode cL_law 49 = .ok (.sipush 400, 3) := by decide +kernel
theorem dL_law_52 : decode cL_law 52 = .ok (.if_icmp .ge 337, 3) := by decide +kernel
theorem dL_law_55 : decode cL_law 55 = .ok (.aload_n 1, 1) := by decide +kernel
theorem dL_law_56 : decode cL_law 56 = .ok (.iload 8, 2) := by decide +kernel
theorem dL_law_58 : decode cL_law 58 = .ok (.invokevirtual 77, 3) := by decide +kernel
theorem dL_law_61 : decode cL_law 61 = .ok (.istore 9, 2) := by decide +kernel
theorem dL_law_63 : decode cL_law 63 = .ok (.aload_n 1, 1) := by decide +kernel
theorem dL_law_64 : decode cL_law 64 = .ok (.iload 8, 2) := by decide +kernel
theorem dL_law_66 : decode cL_law 66 = .ok (.invokevirtual 80, 3) := by decide +kernel
theorem dL_law_69 : decode cL_law 69 = .ok (.lstore 10, 2) := by decide +kernel
theorem dL_law_71 : decode cL_law 71 = .ok (.lload 10, 2) := by decide +kernel
theorem dL_law_73 : decode cL_law 73 = .ok (.ldc2_w 75, 3) := by decide +kernel
theorem dL_law_76 : decode cL_law 76 = .ok (.lcmp, 1) := by decide +kernel
theorem dL_law_77 : decode cL_law 77 = .ok (.ifCond .lt 30, 3) := by decide +kernel
theorem dL_law_80 : decode cL_law 80 = .ok (.lload 10, 2) := by decide +kernel
theorem dL_law_82 : decode cL_law 82 = .ok (.ldc2_w 75, 3) := by decide +kernel
theorem dL_law_85 : decode cL_law 85 = .ok (.lcmp, 1) := by decide +kernel
theorem dL_law_86 : decode cL_law 86 = .ok (.ifCond .ne 7, 3) := by decide +kernel
theorem dL_law_89 : decode cL_law 89 = .ok (.iconst 1, 1) := by decide +kernel
theorem dL_law_90 : decode cL_law 90 = .ok (.goto 4, 3) := by decide +kernel
theorem dL_law_93 : decode cL_law 93 = .ok (.iconst 0, 1) := by decide +kernel
theorem dL_law_94 : decode cL_law 94 = .ok (.iload 9, 2) := by decide +kernel
theorem dL_law_96 : decode cL_law 96 = .ok (.ifCond .ne 7, 3) := by decide +kernel
theorem dL_law_99 : decode cL_law 99 = .ok (.iconst 1, 1) := by decide +kernel
theorem dL_law_100 : decode cL_law 100 = .ok (.goto 4, 3) := by decide +kernel
theorem dL_law_103 : decode cL_law 103 = .ok (.iconst 0, 1) := by decide +kernel
theorem dL_law_104 : decode cL_law 104 = .ok (.if_icmp .eq 5, 3) := by decide +kernel
theorem dL_law_107 : decode cL_law 107 = .ok (.iconst 0, 1) := by decide +kernel
theorem dL_law_108 : decode cL_law 108 = .ok (.ireturn, 1) := by decide +kernel
theorem dL_law_109 : decode cL_law 109 = .ok (.iload 9, 2) := by decide +kernel
theorem dL_law_111 : decode cL_law 111 = .ok (.iconst 2, 1) := by decide +kernel
theorem dL_law_112 : decode cL_law 112 = .ok (.if_icmp .ne 7, 3) := by decide +kernel
theorem dL_law_115 : decode cL_law 115 = .ok (.iconst 1, 1) := by decide +kernel
theorem dL_law_116 : decode cL_law 116 = .ok (.goto 4, 3) := by decide +kernel
theorem dL_law_119 : decode cL_law 119 = .ok (.iconst 0, 1) := by decide +kernel
theorem dL_law_120 : decode cL_law 120 = .ok (.iload 9, 2) := by decide +kernel
theorem dL_law_122 : decode cL_law 122 = .ok (.ifCond .le 23, 3) := by decide +kernel
theorem dL_law_125 : decode cL_law 125 = .ok (.iload 9, 2) := by decide +kernel
theorem dL_law_127 : decode cL_law 127 = .ok (.iconst 3, 1) := by decide +kernel
theorem dL_law_128 : decode cL_law 128 = .ok (.if_icmp .ge 17, 3) := by decide +kernel
theorem dL_law_131 : decode cL_law 131 = .ok (.aload_n 2, 1) := by decide +kernel
theorem dL_law_132 : decode cL_law 132 = .ok (.getfield 59, 3) := by decide +kernel
theorem dL_law_135 : decode cL_law 135 = .ok (.iload 8, 2) := by decide +kernel
theorem dL_law_137 : decode cL_law 137 = .ok (.baload, 1) := by decide +kernel
theorem dL_law_138 : decode cL_law 138 = .ok (.ifCond .eq 7, 3) := by decide +kernel
theorem dL_law_141 : decode cL_law 141 = .ok (.iconst 1, 1) := by decide +kernel
theorem dL_law_142 : decode cL_law 142 = .ok (.goto 4, 3) := by decide +kernel
theorem dL_law_145 : decode cL_law 145 = .ok (.iconst 0, 1) := by decide +kernel
theorem dL_law_146 : decode cL_law 146 = .ok (.if_icmp .eq 5, 3) := by decide +kernel
theorem dL_law_149 : decode cL_law 149 = .ok (.iconst 0, 1) := by decide +kernel
theorem dL_law_150 : decode cL_law 150 = .ok (.ireturn, 1) := by decide +kernel
theorem dL_law_151 : decode cL_law 151 = .ok (.iload 9, 2) := by decide +kernel
theorem dL_law_153 : decode cL_law 153 = .ok (.iconst 1, 1) := by decide +kernel
theorem dL_law_154 : decode cL_law 154 = .ok (.if_icmp .eq 9, 3) := by decide +kernel
theorem dL_law_157 : decode cL_law 157 = .ok (.iload 9, 2) := by decide +kernel
theorem dL_law_159 : decode cL_law 159 = .ok (.iconst 2, 1) := by decide +kernel
theorem dL_law_160 : decode cL_law 160 = .ok (.if_icmp .ne 27, 3) := by decide +kernel
theorem dL_law_163 : decode cL_law 163 = .ok (.aload_n 2, 1) := by decide +kernel
theorem dL_law_164 : decode cL_law 164 = .ok (.getfield 49, 3) := by decide +kernel
theorem dL_law_167 : decode cL_law 167 = .ok (.iload 8, 2) := by decide +kernel
theorem dL_law_169 : decode cL_law 169 = .ok (.iaload, 1) := by decide +kernel
theorem dL_law_170 : decode cL_law 170 = .ok (.sipush 9999, 3) := by decide +kernel
theorem dL_law_173 : decode cL_law 173 = .ok (.if_icmp .eq 12, 3) := by decide +kernel
theorem dL_law_176 : decode cL_law 176 = .ok (.aload_n 1, 1) := by decide +kernel
theorem dL_law_177 : decode cL_law 177 = .ok (.iload 8, 2) := by decide +kernel
theorem dL_law_179 : decode cL_law 179 = .ok (.invokevirtual 84, 3) := by decide +kernel
theorem dL_law_182 : decode cL_law 182 = .ok (.ifCond .ge 5, 3) := by decide +kernel
theorem dL_law_185 : decode cL_law 185 = .ok (.iconst 0, 1) := by decide +kernel
theorem dL_law_186 : decode cL_law 186 = .ok (.ireturn, 1) := by decide +kernel
theorem dL_law_187 : decode cL_law 187 = .ok (.iload 9, 2) := by decide +kernel
theorem dL_law_189 : decode cL_law 189 = .ok (.ifCond .le 14, 3) := by decide +kernel
theorem dL_law_192 : decode cL_law 192 = .ok (.iinc 5 1, 3) := by decide +kernel
theorem dL_law_195 : decode cL_law 195 = .ok (.aload_n 3, 1) := by decide +kernel
theorem dL_law_196 : decode cL_law 196 = .ok (.iconst 1, 1) := by decide +kernel
theorem dL_law_197 : decode cL_law 197 = .ok (.dup2, 1) := by decide +kernel
theorem dL_law_198 : decode cL_law 198 = .ok (.laload, 1) := by decide +kernel
theorem dL_law_199 : decode cL_law 199 = .ok (.lload 10, 2) := by decide +kernel
theorem dL_law_201 : decode cL_law 201 = .ok (.ladd, 1) := by decide +kernel
theorem dL_law_202 : decode cL_law 202 = .ok (.lastore, 1) := by decide +kernel
theorem dL_law_203 : decode cL_law 203 = .ok (.iload 9, 2) := by decide +kernel
theorem dL_law_205 : decode cL_law 205 = .ok (.iconst 3, 1) := by decide +kernel
theorem dL_law_206 : decode cL_law 206 = .ok (.if_icmp .ne 101, 3) := by decide +kernel
theorem dL_law_209 : decode cL_law 209 = .ok (.iinc 4 1, 3) := by decide +kernel
theorem dL_law_212 : decode cL_law 212 = .ok (.iload 8, 2) := by decide +kernel
theorem dL_law_214 : decode cL_law 214 = .ok (.istore 12, 2) := by decide +kernel
theorem dL_law_216 : decode cL_law 216 = .ok (.iload 12, 2) := by decide +kernel
theorem dL_law_218 : decode cL_law 218 = .ok (.sipush 400, 3) := by decide +kernel
theorem dL_law_221 : decode cL_law 221 = .ok (.if_icmp .ge 19, 3) := by decide +kernel
theorem dL_law_224 : decode cL_law 224 = .ok (.aload_n 1, 1) := by decide +kernel
theorem dL_law_225 : decode cL_law 225 = .ok (.iload 12, 2) := by decide +kernel
theorem dL_law_227 : decode cL_law 227 = .ok (.invokevirtual 77, 3) := by decide +kernel
theorem dL_law_230 : decode cL_law 230 = .ok (.iconst 3, 1) := by decide +kernel
theorem dL_law_231 : decode cL_law 231 = .ok (.if_icmp .ne 9, 3) := by decide +kernel
theorem dL_law_234 : decode cL_law 234 = .ok (.iinc 12 1, 3) := by decide +kernel
theorem dL_law_237 : decode cL_law 237 = .ok (.goto (-21), 3) := by decide +kernel
theorem dL_law_240 : decode cL_law 240 = .ok (.iload 12, 2) := by decide +kernel
theorem dL_law_242 : decode cL_law 242 = .ok (.sipush 400, 3) := by decide +kernel
theorem dL_law_245 : decode cL_law 245 = .ok (.if_icmp .eq 21, 3) := by decide +kernel
theorem dL_law_248 : decode cL_law 248 = .ok (.lload 6, 2) := by decide +kernel
theorem dL_law_250 : decode cL_law 250 = .ok (.lconst 0, 1) := by decide +kernel
theorem dL_law_251 : decode cL_law 251 = .ok (.lcmp, 1) := by decide +kernel
theorem dL_law_252 : decode cL_law 252 = .ok (.ifCond .lt 14, 3) := by decide +kernel
theorem dL_law_255 : decode cL_law 255 = .ok (.iload 4, 2) := by decide +kernel
theorem dL_law_257 : decode cL_law 257 = .ok (.aload_n 2, 1) := by decide +kernel
theorem dL_law_258 : decode cL_law 258 = .ok (.getfield 32, 3) := by decide +kernel
theorem dL_law_261 : decode cL_law 261 = .ok (.iconst 1, 1) := by decide +kernel
theorem dL_law_262 : decode cL_law 262 = .ok (.iaload, 1) := by decide +kernel
theorem dL_law_263 : decode cL_law 263 = .ok (.if_icmp .le 5, 3) := by decide +kernel
theorem dL_law_266 : decode cL_law 266 = .ok (.iconst 0, 1) := by decide +kernel
theorem dL_law_267 : decode cL_law 267 = .ok (.ireturn, 1) := by decide +kernel
theorem dL_law_268 : decode cL_law 268 = .ok (.aload_n 1, 1) := by decide +kernel
theorem dL_law_269 : decode cL_law 269 = .ok (.iload 12, 2) := by decide +kernel
theorem dL_law_271 : decode cL_law 271 = .ok (.invokevirtual 80, 3) := by decide +kernel
theorem dL_law_274 : decode cL_law 274 = .ok (.lstore 13, 2) := by decide +kernel
theorem dL_law_276 : decode cL_law 276 = .ok (.lload 10, 2) := by decide +kernel
theorem dL_law_278 : decode cL_law 278 = .ok (.lload 6, 2) := by decide +kernel
theorem dL_law_280 : decode cL_law 280 = .ok (.lload 13, 2) := by decide +kernel
theorem dL_law_282 : decode cL_law 282 = .ok (.invokestatic 87, 3) := by decide +kernel
theorem dL_law_285 : decode cL_law 285 = .ok (.lcmp, 1) := by decide +kernel
theorem dL_law_286 : decode cL_law 286 = .ok (.ifCond .lt 16, 3) := by decide +kernel
theorem dL_law_289 : decode cL_law 289 = .ok (.lload 10, 2) := by decide +kernel
theorem dL_law_291 : decode cL_law 291 = .ok (.lload 6, 2) := by decide +kernel
theorem dL_law_293 : decode cL_law 293 = .ok (.lload 13, 2) := by decide +kernel
theorem dL_law_295 : decode cL_law 295 = .ok (.invokestatic 93, 3) := by decide +kernel
theorem dL_law_298 : decode cL_law 298 = .ok (.lcmp, 1) := by decide +kernel
theorem dL_law_299 : decode cL_law 299 = .ok (.ifCond .le 5, 3) := by decide +kernel
theorem dL_law_302 : decode cL_law 302 = .ok (.iconst 0, 1) := by decide +kernel
theorem dL_law_303 : decode cL_law 303 = .ok (.ireturn, 1) := by decide +kernel
theorem dL_law_304 : decode cL_law 304 = .ok (.goto 10, 3) := by decide +kernel
theorem dL_law_307 : decode cL_law 307 = .ok (.iconst 0, 1) := by decide +kernel
theorem dL_law_308 : decode cL_law 308 = .ok (.istore 4, 2) := by decide +kernel
theorem dL_law_310 : decode cL_law 310 = .ok (.lload 10, 2) := by decide +kernel
theorem dL_law_312 : decode cL_law 312 = .ok (.lstore 6, 2) := by decide +kernel
theorem dL_law_314 : decode cL_law 314 = .ok (.iload 9, 2) := by decide +kernel
theorem dL_law_316 : decode cL_law 316 = .ok (.iconst 1, 1) := by decide +kernel
theorem dL_law_317 : decode cL_law 317 = .ok (.if_icmp .ne 66, 3) := by decide +kernel
theorem dL_law_320 : decode cL_law 320 = .ok (.iload 8, 2) := by decide +kernel
theorem dL_law_322 : decode cL_law 322 = .ok (.iconst 5, 1) := by decide +kernel
theorem dL_law_323 : decode cL_law 323 = .ok (.irem, 1) := by decide +kernel
theorem dL_law_324 : decode cL_law 324 = .ok (.ifCond .ne 59, 3) := by decide +kernel
theorem dL_law_327 : decode cL_law 327 = .ok (.aload_n 1, 1) := by decide +kernel
theorem dL_law_328 : decode cL_law 328 = .ok (.iload 8, 2) := by decide +kernel
end
section
theorem dL_law_330 : decode cL_law 330 = .ok (.invokevirtual 84, 3) := by decide +kernel
theorem dL_law_333 : decode cL_law 333 = .ok (.istore 12, 2) := by decide +kernel
theorem dL_law_335 : decode cL_law 335 = .ok (.aload_n 2, 1) := by decide +kernel
theorem dL_law_336 : decode cL_law 336 = .ok (.getfield 49, 3) := by decide +kernel
theorem dL_law_339 : decode cL_law 339 = .ok (.iload 8, 2) := by decide +kernel
theorem dL_law_341 : decode cL_law 341 = .ok (.iaload, 1) := by decide +kernel
theorem dL_law_342 : decode cL_law 342 = .ok (.aload_n 1, 1) := by decide +kernel
theorem dL_law_343 : decode cL_law 343 = .ok (.iload 8, 2) := by decide +kernel
theorem dL_law_345 : decode cL_law 345 = .ok (.invokevirtual 96, 3) := by decide +kernel
theorem dL_law_348 : decode cL_law 348 = .ok (.isub, 1) := by decide +kernel
theorem dL_law_349 : decode cL_law 349 = .ok (.istore 13, 2) := by decide +kernel
theorem dL_law_351 : decode cL_law 351 = .ok (.aload_n 1, 1) := by decide +kernel
theorem dL_law_352 : decode cL_law 352 = .ok (.iload 12, 2) := by decide +kernel
theorem dL_law_354 : decode cL_law 354 = .ok (.iload 13, 2) := by decide +kernel
theorem dL_law_356 : decode cL_law 356 = .ok (.invokevirtual 97, 3) := by decide +kernel
theorem dL_law_359 : decode cL_law 359 = .ok (.lload 10, 2) := by decide +kernel
theorem dL_law_361 : decode cL_law 361 = .ok (.lcmp, 1) := by decide +kernel
theorem dL_law_362 : decode cL_law 362 = .ok (.ifCond .ne 19, 3) := by decide +kernel
theorem dL_law_365 : decode cL_law 365 = .ok (.aload_n 1, 1) := by decide +kernel
theorem dL_law_366 : decode cL_law 366 = .ok (.iload 12, 2) := by decide +kernel
theorem dL_law_368 : decode cL_law 368 = .ok (.iload 13, 2) := by decide +kernel
theorem dL_law_370 : decode cL_law 370 = .ok (.iconst 1, 1) := by decide +kernel
theorem dL_law_371 : decode cL_law 371 = .ok (.iadd, 1) := by decide +kernel
theorem dL_law_372 : decode cL_law 372 = .ok (.invokevirtual 97, 3) := by decide +kernel
theorem dL_law_375 : decode cL_law 375 = .ok (.lload 10, 2) := by decide +kernel
theorem dL_law_377 : decode cL_law 377 = .ok (.lcmp, 1) := by decide +kernel
theorem dL_law_378 : decode cL_law 378 = .ok (.ifCond .ge 5, 3) := by decide +kernel
theorem dL_law_381 : decode cL_law 381 = .ok (.iconst 0, 1) := by decide +kernel
theorem dL_law_382 : decode cL_law 382 = .ok (.ireturn, 1) := by decide +kernel
theorem dL_law_383 : decode cL_law 383 = .ok (.iinc 8 1, 3) := by decide +kernel
theorem dL_law_386 : decode cL_law 386 = .ok (.goto (-339), 3) := by decide +kernel
theorem dL_law_389 : decode cL_law 389 = .ok (.aload_n 0, 1) := by decide +kernel
theorem dL_law_390 : decode cL_law 390 = .ok (.bipush 15, 2) := by decide +kernel
theorem dL_law_392 : decode cL_law 392 = .ok (.invokestatic 12, 3) := by decide +kernel
theorem dL_law_395 : decode cL_law 395 = .ok (.sipush 399, 3) := by decide +kernel
theorem dL_law_398 : decode cL_law 398 = .ok (.invokestatic 18, 3) := by decide +kernel
theorem dL_law_401 : decode cL_law 401 = .ok (.istore 8, 2) := by decide +kernel
theorem dL_law_403 : decode cL_law 403 = .ok (.aload_n 1, 1) := by decide +kernel
theorem dL_law_404 : decode cL_law 404 = .ok (.iconst 0, 1) := by decide +kernel
theorem dL_law_405 : decode cL_law 405 = .ok (.sipush 399, 3) := by decide +kernel
theorem dL_law_408 : decode cL_law 408 = .ok (.iconst 0, 1) := by decide +kernel
theorem dL_law_409 : decode cL_law 409 = .ok (.invokevirtual 101, 3) := by decide +kernel
theorem dL_law_412 : decode cL_law 412 = .ok (.iload 5, 2) := by decide +kernel
theorem dL_law_414 : decode cL_law 414 = .ok (.i2l, 1) := by decide +kernel
theorem dL_law_415 : decode cL_law 415 = .ok (.lcmp, 1) := by decide +kernel
theorem dL_law_416 : decode cL_law 416 = .ok (.ifCond .ne 83, 3) := by decide +kernel
theorem dL_law_419 : decode cL_law 419 = .ok (.aload_n 1, 1) := by decide +kernel
theorem dL_law_420 : decode cL_law 420 = .ok (.iconst 0, 1) := by decide +kernel
theorem dL_law_421 : decode cL_law 421 = .ok (.sipush 399, 3) := by decide +kernel
theorem dL_law_424 : decode cL_law 424 = .ok (.iconst 1, 1) := by decide +kernel
theorem dL_law_425 : decode cL_law 425 = .ok (.invokevirtual 101, 3) := by decide +kernel
theorem dL_law_428 : decode cL_law 428 = .ok (.aload_n 3, 1) := by decide +kernel
theorem dL_law_429 : decode cL_law 429 = .ok (.iconst 1, 1) := by decide +kernel
theorem dL_law_430 : decode cL_law 430 = .ok (.laload, 1) := by decide +kernel
theorem dL_law_431 : decode cL_law 431 = .ok (.lcmp, 1) := by decide +kernel
theorem dL_law_432 : decode cL_law 432 = .ok (.ifCond .ne 67, 3) := by decide +kernel
theorem dL_law_435 : decode cL_law 435 = .ok (.aload_n 1, 1) := by decide +kernel
theorem dL_law_436 : decode cL_law 436 = .ok (.iconst 0, 1) := by decide +kernel
theorem dL_law_437 : decode cL_law 437 = .ok (.iload 8, 2) := by decide +kernel
theorem dL_law_439 : decode cL_law 439 = .ok (.iconst 1, 1) := by decide +kernel
theorem dL_law_440 : decode cL_law 440 = .ok (.invokevirtual 101, 3) := by decide +kernel
theorem dL_law_443 : decode cL_law 443 = .ok (.aload_n 1, 1) := by decide +kernel
theorem dL_law_444 : decode cL_law 444 = .ok (.iload 8, 2) := by decide +kernel
theorem dL_law_446 : decode cL_law 446 = .ok (.iconst 1, 1) := by decide +kernel
theorem dL_law_447 : decode cL_law 447 = .ok (.iadd, 1) := by decide +kernel
theorem dL_law_448 : decode cL_law 448 = .ok (.sipush 399, 3) := by decide +kernel
theorem dL_law_451 : decode cL_law 451 = .ok (.iconst 1, 1) := by decide +kernel
theorem dL_law_452 : decode cL_law 452 = .ok (.invokevirtual 101, 3) := by decide +kernel
theorem dL_law_455 : decode cL_law 455 = .ok (.ladd, 1) := by decide +kernel
theorem dL_law_456 : decode cL_law 456 = .ok (.aload_n 3, 1) := by decide +kernel
theorem dL_law_457 : decode cL_law 457 = .ok (.iconst 1, 1) := by decide +kernel
theorem dL_law_458 : decode cL_law 458 = .ok (.laload, 1) := by decide +kernel
theorem dL_law_459 : decode cL_law 459 = .ok (.lcmp, 1) := by decide +kernel
theorem dL_law_460 : decode cL_law 460 = .ok (.ifCond .ne 39, 3) := by decide +kernel
theorem dL_law_463 : decode cL_law 463 = .ok (.aload_n 1, 1) := by decide +kernel
theorem dL_law_464 : decode cL_law 464 = .ok (.iconst 0, 1) := by decide +kernel
theorem dL_law_465 : decode cL_law 465 = .ok (.iload 8, 2) := by decide +kernel
theorem dL_law_467 : decode cL_law 467 = .ok (.iconst 2, 1) := by decide +kernel
theorem dL_law_468 : decode cL_law 468 = .ok (.invokevirtual 101, 3) := by decide +kernel
theorem dL_law_471 : decode cL_law 471 = .ok (.aload_n 1, 1) := by decide +kernel
theorem dL_law_472 : decode cL_law 472 = .ok (.iload 8, 2) := by decide +kernel
theorem dL_law_474 : decode cL_law 474 = .ok (.iconst 1, 1) := by decide +kernel
theorem dL_law_475 : decode cL_law 475 = .ok (.iadd, 1) := by decide +kernel
theorem dL_law_476 : decode cL_law 476 = .ok (.sipush 399, 3) := by decide +kernel
theorem dL_law_479 : decode cL_law 479 = .ok (.iconst 2, 1) := by decide +kernel
theorem dL_law_480 : decode cL_law 480 = .ok (.invokevirtual 101, 3) := by decide +kernel
theorem dL_law_483 : decode cL_law 483 = .ok (.invokestatic 93, 3) := by decide +kernel
theorem dL_law_486 : decode cL_law 486 = .ok (.aload_n 1, 1) := by decide +kernel
theorem dL_law_487 : decode cL_law 487 = .ok (.iconst 0, 1) := by decide +kernel
theorem dL_law_488 : decode cL_law 488 = .ok (.sipush 399, 3) := by decide +kernel
theorem dL_law_491 : decode cL_law 491 = .ok (.iconst 2, 1) := by decide +kernel
theorem dL_law_492 : decode cL_law 492 = .ok (.invokevirtual 101, 3) := by decide +kernel
theorem dL_law_495 : decode cL_law 495 = .ok (.lcmp, 1) := by decide +kernel
theorem dL_law_496 : decode cL_law 496 = .ok (.ifCond .eq 5, 3) := by decide +kernel
theorem dL_law_499 : decode cL_law 499 = .ok (.iconst 0, 1) := by decide +kernel
theorem dL_law_500 : decode cL_law 500 = .ok (.ireturn, 1) := by decide +kernel
theorem dL_law_501 : decode cL_law 501 = .ok (.iconst 1, 1) := by decide +kernel
theorem dL_law_502 : decode cL_law 502 = .ok (.istore 9, 2) := by decide +kernel
theorem dL_law_504 : decode cL_law 504 = .ok (.iload 9, 2) := by decide +kernel
theorem dL_law_506 : decode cL_law 506 = .ok (.bipush 100, 2) := by decide +kernel
theorem dL_law_508 : decode cL_law 508 = .ok (.if_icmp .gt 143, 3) := by decide +kernel
theorem dL_law_511 : decode cL_law 511 = .ok (.aload_n 1, 1) := by decide +kernel
theorem dL_law_512 : decode cL_law 512 = .ok (.iload 9, 2) := by decide +kernel
theorem dL_law_514 : decode cL_law 514 = .ok (.invokevirtual 105, 3) := by decide +kernel
theorem dL_law_517 : decode cL_law 517 = .ok (.lstore 10, 2) := by decide +kernel
theorem dL_law_519 : decode cL_law 519 = .ok (.iconst 0, 1) := by decide +kernel
theorem dL_law_520 : decode cL_law 520 = .ok (.istore 12, 2) := by decide +kernel
theorem dL_law_522 : decode cL_law 522 = .ok (.iconst 0, 1) := by decide +kernel
theorem dL_law_523 : decode cL_law 523 = .ok (.istore 13, 2) := by decide +kernel
theorem dL_law_525 : decode cL_law 525 = .ok (.iconst 0, 1) := by decide +kernel
theorem dL_law_526 : decode cL_law 526 = .ok (.istore 14, 2) := by decide +kernel
theorem dL_law_528 : decode cL_law 528 = .ok (.iload 14, 2) := by decide +kernel
theorem dL_law_530 : decode cL_law 530 = .ok (.sipush 400, 3) := by decide +kernel
theorem dL_law_533 : decode cL_law 533 = .ok (.if_icmp .ge 65, 3) := by decide +kernel
theorem dL_law_536 : decode cL_law 536 = .ok (.aload_n 1, 1) := by decide +kernel
theorem dL_law_537 : decode cL_law 537 = .ok (.iload 14, 2) := by decide +kernel
theorem dL_law_539 : decode cL_law 539 = .ok (.invokevirtual 77, 3) := by decide +kernel
theorem dL_law_542 : decode cL_law 542 = .ok (.ifCond .ne 6, 3) := by decide +kernel
theorem dL_law_545 : decode cL_law 545 = .ok (.goto 47, 3) := by decide +kernel
theorem dL_law_548 : decode cL_law 548 = .ok (.iload 12, 2) := by decide +kernel
theorem dL_law_550 : decode cL_law 550 = .ok (.aload_n 1, 1) := by decide +kernel
theorem dL_law_551 : decode cL_law 551 = .ok (.iload 14, 2) := by decide +kernel
theorem dL_law_553 : decode cL_law 553 = .ok (.invokevirtual 80, 3) := by decide +kernel
theorem dL_law_556 : decode cL_law 556 = .ok (.lload 10, 2) := by decide +kernel
theorem dL_law_558 : decode cL_law 558 = .ok (.lcmp, 1) := by decide +kernel
theorem dL_law_559 : decode cL_law 559 = .ok (.ifCond .lt 7, 3) := by decide +kernel
theorem dL_law_562 : decode cL_law 562 = .ok (.iconst 1, 1) := by decide +kernel
theorem dL_law_563 : decode cL_law 563 = .ok (.goto 4, 3) := by decide +kernel
theorem dL_law_566 : decode cL_law 566 = .ok (.iconst 0, 1) := by decide +kernel
theorem dL_law_567 : decode cL_law 567 = .ok (.iadd, 1) := by decide +kernel
theorem dL_law_568 : decode cL_law 568 = .ok (.istore 12, 2) := by decide +kernel
theorem dL_law_570 : decode cL_law 570 = .ok (.iload 13, 2) := by decide +kernel
theorem dL_law_572 : decode cL_law 572 = .ok (.aload_n 1, 1) := by decide +kernel
theorem dL_law_573 : decode cL_law 573 = .ok (.iload 14, 2) := by decide +kernel
theorem dL_law_575 : decode cL_law 575 = .ok (.invokevirtual 80, 3) := by decide +kernel
theorem dL_law_578 : decode cL_law 578 = .ok (.lload 10, 2) := by decide +kernel
theorem dL_law_580 : decode cL_law 580 = .ok (.lcmp, 1) := by decide +kernel
theorem dL_law_581 : decode cL_law 581 = .ok (.ifCond .le 7, 3) := by decide +kernel
theorem dL_law_584 : decode cL_law 584 = .ok (.iconst 1, 1) := by decide +kernel
theorem dL_law_585 : decode cL_law 585 = .ok (.goto 4, 3) := by decide +kernel
theorem dL_law_588 : decode cL_law 588 = .ok (.iconst 0, 1) := by decide +kernel
theorem dL_law_589 : decode cL_law 589 = .ok (.iadd, 1) := by decide +kernel
theorem dL_law_590 : decode cL_law 590 = .ok (.istore 13, 2) := by decide +kernel
theorem dL_law_592 : decode cL_law 592 = .ok (.iinc 14 1, 3) := by decide +kernel
theorem dL_law_595 : decode cL_law 595 = .ok (.goto (-67), 3) := by decide +kernel
theorem dL_law_598 : decode cL_law 598 = .ok (.iconst 1, 1) := by decide +kernel
theorem dL_law_599 : decode cL_law 599 = .ok (.iload 5, 2) := by decide +kernel
theorem dL_law_601 : decode cL_law 601 = .ok (.iload 9, 2) := by decide +kernel
theorem dL_law_603 : decode cL_law 603 = .ok (.imul, 1) := by decide +kernel
theorem dL_law_604 : decode cL_law 604 = .ok (.bipush 100, 2) := by decide +kernel
theorem dL_law_606 : decode cL_law 606 = .ok (.idiv, 1) := by decide +kernel
theorem dL_law_607 : decode cL_law 607 = .ok (.invokestatic 108, 3) := by decide +kernel
theorem dL_law_610 : decode cL_law 610 = .ok (.istore 14, 2) := by decide +kernel
theorem dL_law_612 : decode cL_law 612 = .ok (.iload 5, 2) := by decide +kernel
theorem dL_law_614 : decode cL_law 614 = .ok (.ifCond .ne 15, 3) := by decide +kernel
theorem dL_law_617 : decode cL_law 617 = .ok (.lload 10, 2) := by decide +kernel
theorem dL_law_619 : decode cL_law 619 = .ok (.ldc2_w 75, 3) := by decide +kernel
theorem dL_law_622 : decode cL_law 622 = .ok (.lcmp, 1) := by decide +kernel
theorem dL_law_623 : decode cL_law 623 = .ok (.ifCond .eq 22, 3) := by decide +kernel
theorem dL_law_626 : decode cL_law 626 = .ok (.goto 17, 3) := by decide +kernel
theorem dL_law_629 : decode cL_law 629 = .ok (.iload 12, 2) := by decide +kernel
theorem dL_law_631 : decode cL_law 631 = .ok (.iload 14, 2) := by decide +kernel
theorem dL_law_633 : decode cL_law 633 = .ok (.if_icmp .lt 10, 3) := by decide +kernel
theorem dL_law_636 : decode cL_law 636 = .ok (.iload 13, 2) := by decide +kernel
theorem dL_law_638 : decode cL_law 638 = .ok (.iload 14, 2) := by decide +kernel
theorem dL_law_640 : decode cL_law 640 = .ok (.if_icmp .lt 5, 3) := by decide +kernel
theorem dL_law_643 : decode cL_law 643 = .ok (.iconst 0, 1) := by decide +kernel
theorem dL_law_644 : decode cL_law 644 = .ok (.ireturn, 1) := by decide +kernel
theorem dL_law_645 : decode cL_law 645 = .ok (.iinc 9 11, 3) := by decide +kernel
theorem dL_law_648 : decode cL_law 648 = .ok (.goto (-144), 3) := by decide +kernel
theorem dL_law_651 : decode cL_law 651 = .ok (.iload 5, 2) := by decide +kernel
theorem dL_law_653 : decode cL_law 653 = .ok (.ifCond .eq 14, 3) := by decide +kernel
theorem dL_law_656 : decode cL_law 656 = .ok (.aload_n 1, 1) := by decide +kernel
theorem dL_law_657 : decode cL_law 657 = .ok (.lconst 0, 1) := by decide +kernel
theorem dL_law_658 : decode cL_law 658 = .ok (.iconst 1, 1) := by decide +kernel
end
section
theorem dL_law_659 : decode cL_law 659 = .ok (.invokevirtual 110, 3) := by decide +kernel
theorem dL_law_662 : decode cL_law 662 = .ok (.iload 5, 2) := by decide +kernel
theorem dL_law_664 : decode cL_law 664 = .ok (.if_icmp .ne 7, 3) := by decide +kernel
theorem dL_law_667 : decode cL_law 667 = .ok (.iconst 1, 1) := by decide +kernel
theorem dL_law_668 : decode cL_law 668 = .ok (.goto 4, 3) := by decide +kernel
theorem dL_law_671 : decode cL_law 671 = .ok (.iconst 0, 1) := by decide +kernel
theorem dL_law_672 : decode cL_law 672 = .ok (.ireturn, 1) := by decide +kernel
/-- the classes of the worlds, by the numbers of their names (2, measurements, is never made: the place is filled with another) -/
abbrev vwCl : List vw_C := [(RX0, TX0, 4), (RX1, TX1, 2), (RX0, TX0, 4), (RX3, TX3, 4), (RX4, TX4, 3), (RX5, TX5, 13), (RX6, TX6, 5)]
end
section
/-! contract forms over worlds by roles, and one call lemma each -/
/-- the array classes of the worlds, by their places: 0 int, 1 boolean, 2 long, 3 double, 4 curves, 5 measurements, 6 rows of rows -/
def gT (cA : Nat → ClassId) : List (ClassId × FieldType) := [(cA 0, .int), (cA 1, .boolean), (cA 2, .long), (cA 3, .double), (cA 4, .object RX0), (cA 5, .object RX2), (cA 6, .array .int)]
/-- links to private members of nest mates -/
def gMl : List (String × Nat × MethodName × String) := [(RX0, 25, yX5_countLower, RX5), (RX0, 33, yX5_insertInto, RX5), (RX0, 46, yX5_interpolate, RX5), (RX1, 37, yX5_interpolate, RX5), (RX4, 20, yX5_countLower, RX5), (RX4, 26, yX5_interpolate, RX5), (RX4, 30, yX5_insertInto, RX5)]
def gFl : List (String × Nat × String × String × String × String) := [(RX5, 269, RX0, "firstDay", "I", RX5)]
def xIA : String := "java/lang/IllegalArgumentException"
def xIS : String := "java/lang/IllegalStateException"
def xIX : String := "java/lang/IndexOutOfBoundsException"
def gCa : List (String × String) := [(xIA, xIA), (xIS, xIS), (xIX, xIX)]
def gNc : List (String × String) := []
def gDe : List MethodName := [Bundle.initS "java/lang/RuntimeException", Bundle.initS "java/lang/Exception", Bundle.initS Bundle.tN]
def gStr : List (String × Nat × String) := [(RX5, 106, "the curve cannot take this point"), (RX5, 114, "stage is not -2000 to 4000"), (RX5, 121, "the curve is not complete"), (RX5, 134, "shift is not -200 to 200"), (RX5, 142, "there are 20 shifts, and none for this day"), (RX5, 152, "factor is not 0 to 100"), (RX5, 154, "limit is not 0 to 60"), (RX5, 165, "what is not 0 to 4"), (RX5, 184, "percent is not 1 to 100"), (RX5, 202, "apart is not 1 to 100"), (RX5, 250, "day is not 0 to 399"), (RX5, 252, "days is not 1 to 400"), (RX5, 254, "the last day is greater than 399"), (RX5, 256, "from and to are not days in their order"), (RX5, 262, "stage is not -500 to 2000"), (RX5, 265, "flow is not 0 to 1000000"), (RX5, 267, "limit is less than 0"), (RX5, 69, "there are 6 curves"), (RX5, 78, "a curve holds from this day on"), (RX5, 92, "no such curve")]
/-- the words that no word list hands on -/
def gB (U : State) : Prop := (∀ q ∈ gMl, va_Nw (.methodLinkNest q.1 q.2.1 q.2.2.1 q.2.2.2) U) ∧ (∀ q ∈ gFl, va_Nw (.fieldLinkNest q.1 q.2.1 q.2.2.1 q.2.2.2.1 q.2.2.2.2.1 q.2.2.2.2.2) U) ∧ (∀ q ∈ gCa, va_Nw (.castable q.1 q.2) U) ∧ (∀ q ∈ gNc, va_Nc q.1 q.2 U) ∧ (∀ q ∈ gStr, ∃ a, vk_R q.1 q.2.1 q.2.2 a U) ∧ (∀ q ∈ gDe, va_Nw (.declares q) U) ∧ va_AO RX0 U ∧ va_AO RX2 U
theorem gB.warm {s U : State} (hW : s.WarmedH U.vm) (h : gB s) : gB U :=
  ⟨fun q hq => va_Nw.warmM hW (h.1 q hq), fun q hq => va_Nw.warmF hW (h.2.1 q hq), fun q hq => va_Nw.warmC hW (h.2.2.1 q hq), fun q hq => va_Nc.moved hW.alike (h.2.2.2.1 q hq), fun q hq => (h.2.2.2.2.1 q hq).imp fun a ha => vk_R.warm hW ha, fun q hq => va_Nw.warmD hW (h.2.2.2.2.2.1 q hq), va_AO.moved hW.alike h.2.2.2.2.2.2.1, va_AO.moved hW.alike h.2.2.2.2.2.2.2⟩
theorem gB.same {u U : State} (hv : U.vm = u.vm) (h : gB u) : gB U :=
  ⟨fun q hq => va_Nw.same rfl hv.symm (h.1 q hq), fun q hq => va_Nw.same rfl hv.symm (h.2.1 q hq), fun q hq => va_Nw.same rfl hv.symm (h.2.2.1 q hq), fun q hq => va_Nc.moved (by rw [hv]; exact Vm.Alike.refl _) (h.2.2.2.1 q hq), fun q hq => (h.2.2.2.2.1 q hq).imp fun a ha => vk_R.same hv ha, fun q hq => va_Nw.same rfl hv.symm (h.2.2.2.2.2.1 q hq), va_AO.moved (by rw [hv]; exact Vm.Alike.refl _) h.2.2.2.2.2.2.1, va_AO.moved (by rw [hv]; exact Vm.Alike.refl _) h.2.2.2.2.2.2.2⟩
/-- the two statics that an exception's constructor reads -/
def gZ (A : Nat → Prop) (U : State) (H : Heap) : Prop := vx_Zq Bundle.tN "UNASSIGNED_STACK" Bundle.steD A U H ∧ vx_Zq Bundle.tN "SUPPRESSED_SENTINEL" Bundle.listD A U H
theorem gZ.moved {A : Nat → Prop} {u U : State} {H : Heap} (hvm : u.vm.Alike U.vm) (h : gZ A u H) : gZ A U H := ⟨vx_Zq.moved hvm h.1, vx_Zq.moved hvm h.2⟩
theorem gZ.kept {A : Nat → Prop} {U : State} {H H1 : Heap} (h : gZ A U H) (hq : ∀ a : Nat, a < H.size → ¬ A a → H1[a]? = H[a]?) : gZ A U H1 := ⟨h.1.kept hq, h.2.kept hq⟩
theorem gZ.narrow {A B : Nat → Prop} {U : State} {H : Heap} (h : gZ A U H) (hAB : ∀ q, B q → A q) : gZ B U H := ⟨h.1.narrow hAB, h.2.narrow hAB⟩
/-- a start: of a method that reads alone; of one that writes or throws -/
def gR (D : va_G) (cA : Nat → ClassId) (ad : Nat → Nat) (w : Nat → Option va_E) (av : List Value) : Array Value → State → Prop := va_Pc av (fun U => gP D vwCl ad w U.heap ∧ va_K D vwCl (gT cA) U ∧ gB U)
def gV (D : va_G) (cA : Nat → ClassId) (ad : Nat → Nat) (w : Nat → Option va_E) (sz : Nat) (av : List Value) : Array Value → State → Prop := va_Pc av (fun U => U.heap.size = sz ∧ gP D vwCl ad w U.heap ∧ gD (fun _ => True) ad w ∧ va_K D vwCl (gT cA) U ∧ gB U ∧ gZ (gA ad w sz) U U.heap)
/-- an end: nothing written; a new world; an exception and the old world -/
def gR0 (post : Option Value → Prop) : Array Value → State → Outcome → State → Prop := fun _ st oc t => ∃ v : Option Value, oc = .returned v ∧ post v ∧ t.heap = st.heap
def gW (D : va_G) (post : Option Value → (Nat → Nat) → (Nat → Option va_E) → Prop) (A : Nat → Prop) : Array Value → State → Outcome → State → Prop := fun _ st oc t => (∃ (v : Option Value) (ad1 : Nat → Nat) (w1 : Nat → Option va_E), oc = .returned v ∧ post v ad1 w1 ∧ gP D vwCl ad1 w1 t.heap ∧ gD A ad1 w1) ∧ va_F A st t
def gX (D : va_G) (px : String → Prop) (ad : Nat → Nat) (w : Nat → Option va_E) (A : Nat → Prop) : String → State → State → Prop := fun E st t => px E ∧ gP D vwCl ad w t.heap ∧ gD A ad w ∧ va_F A st t
theorem gR_blind {D : va_G} {cA : Nat → ClassId} {ad : Nat → Nat} {w : Nat → Option va_E} {av : List Value} : FrameBlind (gR D cA ad w av) := fun a U g mk q => by
  obtain ⟨q0, qP, qK, qB⟩ := q
  exact ⟨q0, qP, va_K.moved (u := U) (U := U.calling g mk a) (Vm.Alike.refl U.vm) qK, gB.same (u := U) (U := U.calling g mk a) rfl qB⟩
theorem gV_blind {D : va_G} {cA : Nat → ClassId} {ad : Nat → Nat} {w : Nat → Option va_E} {sz : Nat} {av : List Value} : FrameBlind (gV D cA ad w sz av) := fun a U g mk q => by
  obtain ⟨q0, q1, qP, qD, qK, qB, qZ⟩ := q
  exact ⟨q0, q1, qP, qD, va_K.moved (u := U) (U := U.calling g mk a) (Vm.Alike.refl U.vm) qK, gB.same (u := U) (U := U.calling g mk a) rfl qB, gZ.moved (u := U) (U := U.calling g mk a) (Vm.Alike.refl U.vm) qZ⟩
section GPR
variable {s : State} {H : Heap} {D : va_G} {cA : Nat → ClassId} {ad : Nat → Nat} {w : Nat → Option va_E} {As : List Value} {A : Nat → Prop} {locs : List Loc}
theorem g_recv (hK : va_K D vwCl (gT cA) s) (hP : gP D vwCl ad w H) {r ci : Nat} {q : vw_C} {fs : List Value} (hc : vwCl[ci]? = some q) (he : w r = some (.inr (ci, fs))) : ∃ cell : Cell, H[ad r]? = some cell ∧ cell.vm.isStatics = false ∧ s.vm.findClass q.1 = some cell.cls := va_recv (ws := [(ad r, .inr (ci, fs))]) hK (hP.one he) hc (q0 := 0) rfl
theorem gR_S (hP : gP D vwCl ad w H) (hK : va_K D vwCl (gT cA) s) (hB : gB s) : PreS s H (gR D cA ad w As) As := ⟨gR_blind, fun U hU hW => ⟨rfl, by rw [hU]; exact hP, va_K.moved hW.alike hK, gB.warm hW hB⟩⟩
theorem gR_V (hP : gP D vwCl ad w H) (hK : va_K D vwCl (gT cA) s) (hB : gB s) (r : Nat) {ci : Nat} {q : vw_C} {fs : List Value} (hc : vwCl[ci]? = some q) (he : w r = some (.inr (ci, fs))) : PreV s H q.1 (ad r) (gR D cA ad w (.ref (ad r) :: As)) As := ⟨gR_blind, g_recv hK hP hc he, fun U hU hW => ⟨rfl, by rw [hU]; exact hP, va_K.moved hW.alike hK, gB.warm hW hB⟩⟩
theorem gV_S (hP : gP D vwCl ad w H) (hD : gD A ad w) (hK : va_K D vwCl (gT cA) s) (hB : gB s) (hS : va_S A s.heap H locs) (hA : ∀ q, s.heap.size ≤ q → A q) (hZ : gZ A s s.heap) : PreS s H (gV D cA ad w H.size As) As :=
  ⟨gV_blind, fun U hU hW => ⟨rfl, by rw [hU], by rw [hU]; exact hP, hD.weaken (fun _ _ => trivial), va_K.moved hW.alike hK, gB.warm hW hB, by rw [hU]; exact ((hZ.kept hS.2.1).narrow (gA_sub hD hS hA)).moved hW.alike⟩⟩
theorem gV_V (hP : gP D vwCl ad w H) (hD : gD A ad w) (hK : va_K D vwCl (gT cA) s) (hB : gB s) (hS : va_S A s.heap H locs) (hA : ∀ q, s.heap.size ≤ q → A q) (hZ : gZ A s s.heap) (r : Nat) {ci : Nat} {q : vw_C} {fs : List Value} (hc : vwCl[ci]? = some q) (he : w r = some (.inr (ci, fs))) : PreV s H q.1 (ad r) (gV D cA ad w H.size (.ref (ad r) :: As)) As :=
  ⟨gV_blind, g_recv hK hP hc he, fun U hU hW => ⟨rfl, by rw [hU], by rw [hU]; exact hP, hD.weaken (fun _ _ => trivial), va_K.moved hW.alike hK, gB.warm hW hB, by rw [hU]; exact ((hZ.kept hS.2.1).narrow (gA_sub hD hS hA)).moved hW.alike⟩⟩
end GPR
section GCALL
variable {p : Program} {l : Launch} {e : Env} {R : Room} {s : State} {m : MethodId} {args : Array Value} {below : List Frame} {meth : Method} {c : Code} {H : Heap} {locs : List Loc} {cells slots : Nat} {Q : State → Prop}
variable {pc : Nat} {ls : Array Slot} {rest st0 : List Value} {a : Array Value} {A0 A1 : Nat → Prop} {H0 : Heap} {mc ms : Nat} {D : va_G}
/-- behind a call that wrote nothing -/
theorem k_call0 {post : Option Value → Prop} (hr : va_Run p l e R s m args below meth c H locs cells slots 0 0 (F0 m pc ls st0) rest (gR0 post a) (fun _ => False))
    (kk : ∀ v : Option Value, post v → W p l e R s m args below meth c H locs cells slots Q (F0 m (pc + 3) ls (v.toList ++ rest))) : W p l e R s m args below meth c H locs cells slots Q (F0 m pc ls st0) := by
  intro T hT X
  obtain ⟨v, st₀, t, T', L, h0, X', hL, e1, e2, ⟨v1, hv, hp, hh⟩, st⟩ := hr T hT X
  cases hv
  obtain ⟨t2, a1, b1⟩ := kk v hp T' (by rw [e1, hh, h0]) (Stand.forget X' (fun q h => (hL q h).elim))
  exact ⟨t2, st t2 a1, b1⟩
theorem k_call1 {post : Option Value → (Nat → Nat) → (Nat → Option va_E) → Prop} (hr : va_Run p l e R s m args below meth c H locs cells slots mc ms (F0 m pc ls st0) rest (gW D post A1 a) A1) (hS : va_S A0 H0 H locs) (hf : ∀ q, A1 q → A0 q)
    (kk : ∀ (v : Option Value) (ad1 : Nat → Nat) (w1 : Nat → Option va_E) (H1 : Heap) (locs1 : List Loc), post v ad1 w1 → gP D vwCl ad1 w1 H1 → gD A0 ad1 w1 → va_S A0 H0 H1 locs1 → W p l e R s m args below meth c H1 locs1 (cells + mc) (slots + ms) Q (F0 m (pc + 3) ls (v.toList ++ rest))) : W p l e R s m args below meth c H locs cells slots Q (F0 m pc ls st0) := by
  intro T hT X
  obtain ⟨v, st₀, t, T', L, h0, X', hL, e1, e2, ⟨⟨v1, ad1, w1, hv, hp, hP, hD⟩, hF⟩, st⟩ := hr T hT X
  cases hv
  obtain ⟨k1, k2, k3⟩ := vx_keep h0 e1 hS (fun q _ h => hf q h) hf hL hF
  obtain ⟨t2, a1, b1⟩ := kk v ad1 w1 T'.heap (locs ++ L) hp (by rw [e1]; exact hP) (hD.weaken hf) k3 T' rfl X'
  exact ⟨t2, st t2 a1, b1⟩
theorem k_callx {post : Option Value → (Nat → Nat) → (Nat → Option va_E) → Prop} {px : String → Prop} {ad : Nat → Nat} {w : Nat → Option va_E} (hr : vx_Run p l e R s m args below meth c H locs cells slots mc ms (F0 m pc ls st0) rest (gW D post A1 a) (gX D px ad w A1) A1) (hS : va_S A0 H0 H locs) (hf : ∀ q, A1 q → A0 q)
    (kx : ∀ (E : String) (ce : Cell) (q9 : Addr) (H1 : Heap) (locs1 : List Loc), px E → gP D vwCl ad w H1 → gD A0 ad w → va_S A0 H0 H1 locs1 → H1[q9]? = some ce → ce.vm = .none → s.vm.findClass E = some ce.cls → vx_W p l e R s m args below meth c H1 locs1 (cells + mc) (slots + ms) Q (F0 m pc ls rest) q9)
    (kk : ∀ (v : Option Value) (ad1 : Nat → Nat) (w1 : Nat → Option va_E) (H1 : Heap) (locs1 : List Loc), post v ad1 w1 → gP D vwCl ad1 w1 H1 → gD A0 ad1 w1 → va_S A0 H0 H1 locs1 → W p l e R s m args below meth c H1 locs1 (cells + mc) (slots + ms) Q (F0 m (pc + 3) ls (v.toList ++ rest))) : W p l e R s m args below meth c H locs cells slots Q (F0 m pc ls st0) := by
  intro T hT X
  rcases hr T hT X with ⟨v, st₀, t, T', L, h0, X', hL, e1, e2, ⟨⟨v1, ad1, w1, hv, hp, hP, hD⟩, hF⟩, st⟩ | ⟨q, st₀, t, T', L, E, ce, h0, X', hL, e1, e2, ⟨hp, hP, hD, hF⟩, hce, hcv, hcl, st⟩
  · cases hv
    obtain ⟨k1, k2, k3⟩ := vx_keep h0 e1 hS (fun q _ h => hf q h) hf hL hF
    obtain ⟨t2, a1, b1⟩ := kk v ad1 w1 T'.heap (locs ++ L) hp (by rw [e1]; exact hP) (hD.weaken hf) k3 T' rfl X'
    exact ⟨t2, st t2 a1, b1⟩
  · obtain ⟨k1, k2, k3⟩ := vx_keep h0 e1 hS (fun q _ h => hf q h) hf hL hF
    obtain ⟨t2, a1, b1⟩ := kx E ce q T'.heap (locs ++ L) hp (by rw [e1]; exact hP) (hD.weaken hf) k3 (by rw [e1]; exact hce) hcv hcl T' rfl X'
    exact ⟨t2, Steps.trans st a1, b1⟩
end GCALL
end
