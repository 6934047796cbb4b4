/-! THE CLAIM OUT OF ONE WALK OF THE LAW'S BODY. Your part is whole_start (and what it stands on); all else here is the same for every law, but numbers. -/
def R_law : String := "GaugeBookLaw"
def lw_P (b : Addr) (xs : List Int32) (args : Array Value) (s : State) : Prop := args = #[.ref b] ∧ s.IntsAt b xs ∧ xs.length ≤ 260 ∧ (Jvm.Cond.and given_1 narrow_1).before args s = true
def lw_Q (_ : Array Value) (s : State) (o : Outcome) (t : State) : Prop := o = .returned (some (.int 1)) ∧ Framed s o t [] 600104 7301314
def lw_Z (below : List Frame) (a : Array Value) (s : State) : State → Prop := fun t => ∃ o, t.status = .running ∧ Ended t below o ∧ lw_Q a s o t
/-- the law's own end, with 1 on the stack, nothing written that was there before, its room as the claim has it -/
theorem lw_ret {p : Program} {l : Launch} {e : Env} {s : State} {m : MethodId} {below : List Frame} {meth : Method} {c : Code} {b : Nat} (hx : p.tables.exec = Jvm.exec) (hb : c.code = code) (hr : meth.sig.returnType = ret) (hlocks : meth.locks = false) {pc : Nat} {H : Heap} {ls : Array Slot} (hdg : decode code pc = .ok (.ireturn, 1)) : W p l e room_1 s m #[Value.ref b] below meth c H [] 600104 7301314 (lw_Z below #[Value.ref b] s) (F0 m pc ls [.int 1]) := by
  intro T hT X
  obtain ⟨fs, hret, hrun, hended, hW, hframe⟩ := X.leave (v := some (.int 1)) (hlocks := hlocks) (fun h => by rw [hr] at h; cases h)
  have hmeth' : T.vm.method? m = some meth := X.method'
  refine ⟨T.setFrames fs, ?_, .returned (some (.int 1)), hrun, hended, rfl, ⟨_, rfl⟩, hW, hframe⟩
  jvm_step X.here [X.here.top, hx, hb, hdg, hmeth', hr, ret, narrow_b1]
  (try refine ⟨rfl, ?_⟩); (try refine ⟨rfl, ?_⟩)
  first | (intro acts; rw [hret _ acts rfl rfl rfl]) | rw [hret _ _ rfl rfl rfl]
  exact Steps.refl _
/-- what holds at the law's entry: the machine, the code, the tables' words (any of lw_tbl by 'hts w (by decide +kernel)'), the script of L ints xs at the cell b, what the Statement gives of the start (any of its parts by flat_of_before) -/
def lw_At (p : Program) (s : State) (m : MethodId) (meth : Method) (c : Code) (b L : Nat) (xs : Nat → Int32) : Prop :=
  p.tables.exec = Jvm.exec ∧ c.code = code ∧ meth.sig.returnType = ret ∧ c.maxLocals = 15 ∧ s.vm.findClass R_law = some m.cls ∧ (∀ w ∈ lw_tbl, w.before #[Value.ref b] s = true) ∧ va_X b L xs s s.heap ∧ b < s.heap.size ∧ meth.locks = false ∧ (Jvm.Cond.and given_1 narrow_1).before #[Value.ref b] s = true

theorem lw_ret9 {p : Program} {l : Launch} {e : Env} {s : State} {m : MethodId} {below : List Frame} {meth : Method} {c : Code} {b : Nat} (hx : p.tables.exec = Jvm.exec) (hb : c.code = code) (hr : meth.sig.returnType = ret) (hlocks : meth.locks = false) {pc : Nat} {H : Heap} {ls : Array Slot} (hdg : decode code pc = .ok (.ireturn, 1)) : W p l e room_1 s m #[Value.ref b] below meth c H [] 600104 7301314 (lw_Z below #[Value.ref b] s) (F0 m pc ls [.int (iI 1)]) := by
  rw [← iI_1]
  exact lw_ret hx hb hr hlocks hdg
/-- the law's world behind build: its book's rows that it reads, and its sums -/
def lwS (cA : Nat → ClassId) (ad : Nat → Nat) (w : Nat → Option va_E) (st ic nn al : Int → Int) : Prop :=
  w 200 = some (oB 6 [.ref (ad 201), .ref (ad 208), .ref (ad 209), .ref (ad 210), .ref (ad 211)]) ∧ w 209 = some (eI (cA 0) 400 st) ∧ w 210 = some (eI (cA 1) 400 ic) ∧ w 211 = some (eI (cA 0) 4 nn) ∧ w 212 = some (eJ (cA 2) 2 al)
theorem lwS_keep {cA : Nat → ClassId} {ad ad1 : Nat → Nat} {w w1 : Nat → Option va_E} {st ic nn al : Int → Int} (hk : keepR ad ad1 w w1) (h : lwS cA ad w st ic nn al) : lwS cA ad1 w1 st ic nn al := by
  obtain ⟨h0, h1, h2, h3, h4⟩ := h
  refine ⟨?_, ?_, ?_, ?_, ?_⟩
  · rw [(hk.2 200 (by omega)).1, h0, (hk.2 201 (by omega)).2, (hk.2 208 (by omega)).2, (hk.2 209 (by omega)).2, (hk.2 210 (by omega)).2, (hk.2 211 (by omega)).2]
  · rw [(hk.2 209 (by omega)).1]; exact h1
  · rw [(hk.2 210 (by omega)).1]; exact h2
  · rw [(hk.2 211 (by omega)).1]; exact h3
  · rw [(hk.2 212 (by omega)).1]; exact h4
theorem lwS_al {cA : Nat → ClassId} {ad : Nat → Nat} {w : Nat → Option va_E} {st ic nn al : Int → Int} (g : Int → Int) (h : lwS cA ad w st ic nn al) : lwS cA ad (up w 212 (eJ (cA 2) 2 g)) st ic nn g := by
  obtain ⟨h0, h1, h2, h3, h4⟩ := h
  exact ⟨up_n (by omega) h0, up_n (by omega) h1, up_n (by omega) h2, up_n (by omega) h3, up_s _ _ _⟩
theorem sumV_0 {F S : Int → Int} {fr to_ v : Int} (h : sumV F S fr to_ 0 v) : v = cntT S fr (to_ + 1 - fr).toNat := by
  rcases h with ⟨e, h⟩ | ⟨e, h⟩ | ⟨e, h⟩ | ⟨e, h⟩ | ⟨e, h⟩
  · exact h
  all_goals (exfalso; omega)
theorem sumV_1 {F S : Int → Int} {fr to_ v : Int} (h : sumV F S fr to_ 1 v) : v = sumT F S fr (to_ + 1 - fr).toNat := by
  rcases h with ⟨e, h⟩ | ⟨e, h⟩ | ⟨e, h⟩ | ⟨e, h⟩ | ⟨e, h⟩
  · exfalso; omega
  · exact h
  all_goals (exfalso; omega)
theorem sumV_2 {F S : Int → Int} {fr to_ v : Int} (h : sumV F S fr to_ 2 v) : ∃ g : Int, gdP F S fr (to_ + 1) g ∧ ((g = -1 ∧ v = -1) ∨ (g ≠ -1 ∧ v = F g)) := by
  rcases h with ⟨e, h⟩ | ⟨e, h⟩ | ⟨e, h⟩ | ⟨e, h⟩ | ⟨e, h⟩
  · exfalso; omega
  · exfalso; omega
  · exact h
  all_goals (exfalso; omega)
def lwC (p : Program) (l : Launch) (s : State) (m : MethodId) (c : Code) (D : va_G) (cA : Nat → ClassId) (A : Nat → Prop) (b L : Nat) (xs : Nat → Int32) : Prop := p.tables.exec = Jvm.exec ∧ c.code = cL_law ∧ c.maxLocals = 15 ∧ s.vm.findClass RL = some m.cls ∧ (∀ w ∈ wsL_law, w.before #[Value.ref b] s = true) ∧ va_K D vwCl (gT cA) s ∧ gB s ∧ gZ A s s.heap ∧ (∀ q, s.heap.size ≤ q → A q) ∧ va_X b L xs s s.heap ∧ b < s.heap.size ∧ ¬ A b ∧ L ≤ 260

theorem hiL_law_5 : ∀ w ∈ wsX50, w ∈ wsL_law := inlX5
theorem hiL_law_6 : ∀ w ∈ wsX60, w ∈ wsL_law := inlX6
set_option maxHeartbeats 8000000 in
set_option maxRecDepth 100000 in
theorem lw_days {p : Program} {e : Env} {s : State} {m : MethodId} {below : List Frame} {meth : Method} {c : Code} {l : Launch} {D : va_G} {cA : Nat → ClassId} {A : Nat → Prop} {b L : Nat} {xs : Nat → Int32} {g0 : Nat} (C : lwC p l s m c D cA A b L xs) (Q9 : State → Prop) {sc : Nat → Int} {fn : Nat → Int → Int} {st ic nn : Int → Int} (hd : rlD fn st) (hi : rlI fn ic) (hn : nn 1 = sc 3) 
  (kk : ∀ (wi : Int) (ad : Nat → Nat) (w : Nat → Option va_E) (al : Int → Int) (H : Heap) (locs : List Loc) (ls : Array Slot), bookS cA ad w sc fn → bkInv sc fn → lwS cA ad w st ic nn al → ad 0 = g0 → (wi = cntT (tbS sc fn) 0 400) → (al 1 = sumT (tbF sc fn) (tbS sc fn) 0 400) → gP D vwCl ad w H → gD A ad w → va_S A s.heap H locs → lv_has ls 15 [(0, .ref b), (1, .ref (ad 0)), (2, .ref (ad 200)), (3, .ref (ad 212)), (5, .int (iI wi))] → W p l e room_1 s m #[Value.ref b] below meth c H locs 48 6315 Q9 (F0 m 389 ls []))
  (ad : Nat → Nat) (w : Nat → Option va_E) (al : Int → Int) (H : Heap) (locs : List Loc) (ls : Array Slot) (hbk : bookS cA ad w sc fn) (hI : bkInv sc fn) (hlb : lwS cA ad w st ic nn al) (hg0 : ad 0 = g0) (h1 : al 1 = 0) (hP : gP D vwCl ad w H) (hD : gD A ad w) (hS : va_S A s.heap H locs) (hl : lv_has ls 15 [(0, .ref b), (1, .ref (ad 0)), (2, .ref (ad 200)), (3, .ref (ad 212)), (4, .int (iI 0)), (5, .int (iI 0)), (6, .long (lI (-1))), (8, .int (iI 0))]) : W p l e room_1 s m #[Value.ref b] below meth c H locs 48 6315 Q9 (F0 m 47 ls []) := by
  obtain ⟨hx, hb, hml, hown, hts, hK, hB, hZ, hA, hX, hbl, hbA, hL⟩ := C
  obtain ⟨fs0, hq0⟩ := bookS_0 hbk
  have hi6 := hiL_law_6
  have hf32 := hts (.fieldLink RL 32 "GaugeBookLaw$Book" "n" "[I") (by decide +kernel)
  have hf49 := hts (.fieldLink RL 49 "GaugeBookLaw$Book" "stages" "[I") (by decide +kernel)
  have hf59 := hts (.fieldLink RL 59 "GaugeBookLaw$Book" "ice" "[Z") (by decide +kernel)
  have lp_h47 : ∀ (N9 : Nat) (ad_h47 : Nat → Nat) (w_h47 : Nat → Option va_E) (al_h47 : Int → Int) (run : Int) (wi : Int) (bf : Int) (d : Int), (bookS cA ad_h47 w_h47 sc fn) → (lwS cA ad_h47 w_h47 st ic nn al_h47) → (ad_h47 0 = g0) → (al_h47 1 = sumT (tbF sc fn) (tbS sc fn) 0 d.toNat) → (wi = cntT (tbS sc fn) 0 d.toNat) → (runP (tbF sc fn) (tbS sc fn) d run bf) → (0 ≤ d ∧ d ≤ 400) → (0 ≤ run ∧ run ≤ d) → (-1 ≤ bf ∧ bf ≤ 1000000000000) → (400 - d).toNat < N9 → ∀ (H : Heap) (locs : List Loc), gP D vwCl ad_h47 w_h47 H → gD A ad_h47 w_h47 → va_S A s.heap H locs → ∀ (ls : Array Slot), lv_has ls 15 [(0, .ref b), (1, .ref (ad_h47 0)), (2, .ref (ad_h47 200)), (3, .ref (ad_h47 212)), (4, .int (iI run)), (5, .int (iI wi)), (6, .long (lI bf)), (8, .int (iI d))] → W p l e room_1 s m #[Value.ref b] below meth c H locs 48 6315 Q9 (F0 m 47 ls []) := by
    intro N9
    induction N9 with
    | zero => intro ad_h47 w_h47 al_h47 run wi bf d hbk_h47 hlb_h47 hg0_h47 hal hwi hrun i0 i1 i2 hmu; exact absurd hmu (Nat.not_lt_zero _)
    | succ N9 ih_h47 =>
      intro ad_h47 w_h47 al_h47 run wi bf d hbk_h47 hlb_h47 hg0_h47 hal hwi hrun i0 i1 i2 hmu_47 H locs hP hD hS ls hl
      obtain ⟨fs_h47, hq_h47⟩ := bookS_0 hbk_h47
      have iv_ := hI.1
      have tok_ := tbOk_tb hI
      have f1_ := tok_.1 d
      have f2_ := tok_.2.1 d
      have f3_ := tok_.2.2.1 d
      have f4_ := tok_.2.2.2 d
      have s4_ := tb_s (sc := sc) (fn := fn) d
      have cw_ := cntT_b (tbS sc fn) 0 d.toNat
      refine lv_iload (pc := 47) hx hb dL_law_47 (lv_at hl 7 rfl) ?_
      refine k_sipush (pc := 49) hx hb dL_law_49 (by decide +kernel) ?_
      refine k_icmp_ge (pc := 52) (tgt := 389) hx hb ⟨by omega, by omega⟩ ⟨by omega, by omega⟩ dL_law_52 (by decide) (fun hc_52 => ?_) (fun hc_52 => ?_)
      · skip
        exact kk wi ad_h47 w_h47 al_h47 H locs ls hbk_h47 hI hlb_h47 hg0_h47 (by rw [hwi, show d = 400 by omega]; rfl) (by rw [hal, show d = 400 by omega]; rfl) hP hD hS (lv_sub hl [0, 1, 2, 3, 5] rfl)
      · skip
        refine lv_aload_n (pc := 55) hx hb dL_law_55 rfl (lv_at hl 1 rfl) ?_
        refine lv_iload (pc := 56) hx hb dL_law_56 (lv_at hl 7 rfl) ?_
        refine k_call1 (pc := 58) (va_runV (As := [.int (iI d)]) (rest := []) ⟨hx, hb, hml, hown, hts⟩ (c_X5_state_b l D cA ad_h47 w_h47 H.size sc fn hI hbk_h47 d (by omega) (by omega)) (cwV 1 hts gL_law_X5_state rfl rfl rfl (by decide +kernel) ⟨Nat.le_of_ble_eq_true rfl, Nat.le_of_ble_eq_true rfl⟩) (gV_V hP hD hK hB hS hA hZ 0 (ci := 5) rfl hq_h47) rfl rfl hl.1 rfl (lv_room (Nat.le_of_ble_eq_true rfl)) dL_law_58 ⟨Nat.le_of_ble_eq_true rfl, Nat.le_of_ble_eq_true rfl⟩) hS (gA_sub hD hS hA) (fun v_58 ad_58 w_58 H locs hv_58 hP hD hS => ?_)
        obtain ⟨sc_58, fn_58, hb_58, hI_58, hk_58, hs_58⟩ := hv_58
        obtain ⟨e1_58, e2_58, -, -, hr_58⟩ := hs_58
        rw [e1_58, e2_58] at hb_58
        subst hr_58
        have hl_58 := lwS_keep hk_58 hlb_h47
        have hg_58 : ad_58 0 = g0 := hk_58.1.trans hg0_h47
        obtain ⟨fs_58, hq_58⟩ := bookS_0 hb_58
        rw [← hk_58.1] at hl
        rw [← (hk_58.2 200 (by omega)).2] at hl
        rw [← (hk_58.2 212 (by omega)).2] at hl
        refine W.eq (g2 := F0 m 61 ls [.int (iI (tbS sc fn d))]) rfl ?_
        refine W.cs (cells' := 48) (slots' := 6315) rfl rfl ?_
        refine lv_istore (pc := 61) (lv' := [(9, .int (iI (tbS sc fn d))), (0, .ref b), (1, .ref (ad_58 0)), (2, .ref (ad_58 200)), (3, .ref (ad_58 212)), (4, .int (iI run)), (5, .int (iI wi)), (6, .long (lI bf)), (8, .int (iI d))]) hx hb dL_law_61 hl (by decide) rfl (fun ls hl => ?_)
        refine lv_aload_n (pc := 63) hx hb dL_law_63 rfl (lv_at hl 2 rfl) ?_
        refine lv_iload (pc := 64) hx hb dL_law_64 (lv_at hl 8 rfl) ?_
        refine k_call1 (pc := 66) (va_runV (As := [.int (iI d)]) (rest := []) ⟨hx, hb, hml, hown, hts⟩ (c_X5_flow_b l D cA ad_58 w_58 H.size sc fn hI hb_58 d (by omega) (by omega)) (cwV 1 hts gL_law_X5_flow rfl rfl rfl (by decide +kernel) ⟨Nat.le_of_ble_eq_true rfl, Nat.le_of_ble_eq_true rfl⟩) (gV_V hP hD hK hB hS hA hZ 0 (ci := 5) rfl hq_58) rfl rfl hl.1 rfl (lv_room (Nat.le_of_ble_eq_true rfl)) dL_law_66 ⟨Nat.le_of_ble_eq_true rfl, Nat.le_of_ble_eq_true rfl⟩) hS (gA_sub hD hS hA) (fun v_66 ad_66 w_66 H locs hv_66 hP hD hS => ?_)
        obtain ⟨sc_66, fn_66, hb_66, hI_66, hk_66, hs_66⟩ := hv_66
        obtain ⟨e1_66, e2_66, -, -, hr_66⟩ := hs_66
        rw [e1_66, e2_66] at hb_66
        subst hr_66
        have hl_66 := lwS_keep hk_66 hl_58
        have hg_66 : ad_66 0 = g0 := hk_66.1.trans hg_58
        obtain ⟨fs_66, hq_66⟩ := bookS_0 hb_66
        rw [← hk_66.1] at hl
        rw [← (hk_66.2 200 (by omega)).2] at hl
        rw [← (hk_66.2 212 (by omega)).2] at hl
        refine W.eq (g2 := F0 m 69 ls [.long (lI (tbF sc fn d))]) rfl ?_
        refine W.cs (cells' := 48) (slots' := 6315) rfl rfl ?_
        refine lv_lstore (pc := 69) (lv' := [(10, .long (lI (tbF sc fn d))), (9, .int (iI (tbS sc fn d))), (0, .ref b), (1, .ref (ad_66 0)), (2, .ref (ad_66 200)), (3, .ref (ad_66 212)), (4, .int (iI run)), (5, .int (iI wi)), (6, .long (lI bf)), (8, .int (iI d))]) hx hb dL_law_69 hl (by decide) rfl (fun ls hl => ?_)
        obtain ⟨zs, hzs⟩ : ∃ z : Int, z = tbS sc fn d := ⟨_, rfl⟩
        obtain ⟨zf, hzf⟩ : ∃ z : Int, z = tbF sc fn d := ⟨_, rfl⟩
        rw [← hzs, ← hzf] at hl
        rcases (show zs = 0 ∨ zs = 1 ∨ zs = 2 ∨ zs = 3 by omega) with e9_ | e9_ | e9_ | e9_
        · skip
          subst e9_
          refine lv_lload (pc := 71) hx hb dL_law_71 (lv_at hl 0 rfl) ?_
          refine k_ldc2 (z := (-1)) (pc := 73) hx hb hown (hts (.constantLong RL 75 (-1)) (by decide +kernel)) (by decide +kernel) dL_law_73 ?_
          refine k_lcmp_lt (pc := 76) (tgt := 107) hx hb ⟨by omega, by omega⟩ ⟨by omega, by omega⟩ dL_law_76 dL_law_77 (by decide) (fun hc_76 => ?_) (fun hc_76 => ?_)
          · skip
            exfalso
            omega
          · skip
            refine lv_lload (pc := 80) hx hb dL_law_80 (lv_at hl 0 rfl) ?_
            refine k_ldc2 (z := (-1)) (pc := 82) hx hb hown (hts (.constantLong RL 75 (-1)) (by decide +kernel)) (by decide +kernel) dL_law_82 ?_
            refine k_lcmp_ne (pc := 85) (tgt := 93) hx hb ⟨by omega, by omega⟩ ⟨by omega, by omega⟩ dL_law_85 dL_law_86 (by decide) (fun hc_85 => ?_) (fun hc_85 => ?_)
            · skip
              exfalso
              omega
            · skip
              refine k_iconst (pc := 89) hx hb dL_law_89 ?_
              refine lv_goto (pc := 90) (tgt := 94) hx hb dL_law_90 (by decide) ?_
              refine lv_iload (pc := 94) hx hb dL_law_94 (lv_at hl 1 rfl) ?_
              refine k_if_ne (pc := 96) (tgt := 103) hx hb ⟨by omega, by omega⟩ dL_law_96 (by decide) (fun hc_96 => ?_) (fun hc_96 => ?_)
              · skip
                exfalso
                omega
              · skip
                refine k_iconst (pc := 99) hx hb dL_law_99 ?_
                refine lv_goto (pc := 100) (tgt := 104) hx hb dL_law_100 (by decide) ?_
                refine k_icmp_eq (pc := 104) (tgt := 109) hx hb ⟨by omega, by omega⟩ ⟨by omega, by omega⟩ dL_law_104 (by decide) (fun hc_104 => ?_) (fun hc_104 => ?_)
                · skip
                  refine lv_iload (pc := 109) hx hb dL_law_109 (lv_at hl 1 rfl) ?_
                  refine k_iconst (pc := 111) hx hb dL_law_111 ?_
                  refine k_icmp_ne (pc := 112) (tgt := 119) hx hb ⟨by omega, by omega⟩ ⟨by omega, by omega⟩ dL_law_112 (by decide) (fun hc_112 => ?_) (fun hc_112 => ?_)
                  · skip
                    refine k_iconst (pc := 119) hx hb dL_law_119 ?_
                    refine lv_iload (pc := 120) hx hb dL_law_120 (lv_at hl 1 rfl) ?_
                    refine k_if_le (pc := 122) (tgt := 145) hx hb ⟨by omega, by omega⟩ dL_law_122 (by decide) (fun hc_122 => ?_) (fun hc_122 => ?_)
                    · skip
                      refine k_iconst (pc := 145) hx hb dL_law_145 ?_
                      refine k_icmp_eq (pc := 146) (tgt := 151) hx hb ⟨by omega, by omega⟩ ⟨by omega, by omega⟩ dL_law_146 (by decide) (fun hc_146 => ?_) (fun hc_146 => ?_)
                      · skip
                        refine lv_iload (pc := 151) hx hb dL_law_151 (lv_at hl 1 rfl) ?_
                        refine k_iconst (pc := 153) hx hb dL_law_153 ?_
                        refine k_icmp_eq (pc := 154) (tgt := 163) hx hb ⟨by omega, by omega⟩ ⟨by omega, by omega⟩ dL_law_154 (by decide) (fun hc_154 => ?_) (fun hc_154 => ?_)
                        · skip
                          exfalso
                          omega
                        · skip
                          refine lv_iload (pc := 157) hx hb dL_law_157 (lv_at hl 1 rfl) ?_
                          refine k_iconst (pc := 159) hx hb dL_law_159 ?_
                          refine k_icmp_ne (pc := 160) (tgt := 187) hx hb ⟨by omega, by omega⟩ ⟨by omega, by omega⟩ dL_law_160 (by decide) (fun hc_160 => ?_) (fun hc_160 => ?_)
                          · skip
                            refine lv_iload (pc := 187) hx hb dL_law_187 (lv_at hl 1 rfl) ?_
                            refine k_if_le (pc := 189) (tgt := 203) hx hb ⟨by omega, by omega⟩ dL_law_189 (by decide) (fun hc_189 => ?_) (fun hc_189 => ?_)
                            · skip
                              refine lv_iload (pc := 203) hx hb dL_law_203 (lv_at hl 1 rfl) ?_
                              refine k_iconst (pc := 205) hx hb dL_law_205 ?_
                              refine k_icmp_ne (pc := 206) (tgt := 307) hx hb ⟨by omega, by omega⟩ ⟨by omega, by omega⟩ dL_law_206 (by decide) (fun hc_206 => ?_) (fun hc_206 => ?_)
                              · skip
                                refine k_iconst (pc := 307) hx hb dL_law_307 ?_
                                refine lv_istore (pc := 308) (lv' := [(4, .int (iI 0)), (10, .long (lI zf)), (9, .int (iI 0)), (0, .ref b), (1, .ref (ad_66 0)), (2, .ref (ad_66 200)), (3, .ref (ad_66 212)), (5, .int (iI wi)), (6, .long (lI bf)), (8, .int (iI d))]) hx hb dL_law_308 hl (by decide) rfl (fun ls hl => ?_)
                                refine lv_lload (pc := 310) hx hb dL_law_310 (lv_at hl 1 rfl) ?_
                                refine lv_lstore (pc := 312) (lv' := [(6, .long (lI zf)), (4, .int (iI 0)), (10, .long (lI zf)), (9, .int (iI 0)), (0, .ref b), (1, .ref (ad_66 0)), (2, .ref (ad_66 200)), (3, .ref (ad_66 212)), (5, .int (iI wi)), (8, .int (iI d))]) hx hb dL_law_312 hl (by decide) rfl (fun ls hl => ?_)
                                refine lv_iload (pc := 314) hx hb dL_law_314 (lv_at hl 3 rfl) ?_
                                refine k_iconst (pc := 316) hx hb dL_law_316 ?_
                                refine k_icmp_ne (pc := 317) (tgt := 383) hx hb ⟨by omega, by omega⟩ ⟨by omega, by omega⟩ dL_law_317 (by decide) (fun hc_317 => ?_) (fun hc_317 => ?_)
                                · skip
                                  refine lv_iinc (pc := 383) (v := iI (d + 1)) (lv' := [(8, .int (iI (d + 1))), (6, .long (lI zf)), (4, .int (iI 0)), (10, .long (lI zf)), (9, .int (iI 0)), (0, .ref b), (1, .ref (ad_66 0)), (2, .ref (ad_66 200)), (3, .ref (ad_66 212)), (5, .int (iI wi))]) hx hb dL_law_383 hl (k := 9) rfl (iI_add _ _) (by decide) rfl (fun ls hl => ?_)
                                  refine lv_goto (pc := 386) (tgt := 47) hx hb dL_law_386 (by decide) ?_
                                  have su_ := sumT_s (tbF sc fn) (tbS sc fn) (fr := 0) (d := d) (by omega)
                                  have cu_ := cntT_s (tbS sc fn) (fr := 0) (d := d) (by omega)
                                  rw [Int.sub_zero, Int.sub_zero] at su_ cu_
                                  rw [if_neg (by omega)] at su_ cu_
                                  exact ih_h47 ad_66 w_66 al_h47 0 wi zf (d + 1) hb_66 hl_66 hg_66 (by rw [su_]; omega) (by rw [cu_]; omega) (by rw [hzf]; exact runP_n (by omega) (by omega)) (by omega) (by omega) (by omega) (by omega) H locs hP hD hS ls (lv_sub hl [5, 6, 7, 8, 2, 9, 1, 0] rfl)
                                · skip
                                  exfalso
                                  omega
                              · skip
                                exfalso
                                omega
                            · skip
                              exfalso
                              omega
                          · skip
                            exfalso
                            omega
                      · skip
                        exfalso
                        omega
                    · skip
                      exfalso
                      omega
                  · skip
                    exfalso
                    omega
                · skip
                  exfalso
                  omega
        · skip
          subst e9_
          have t1_ : isTold sc fn d ∧ fn 4 d = 0 ∧ tbF sc fn d = opF sc fn d := by rcases s4_ with h | ⟨h, h2⟩ | ⟨h, h2⟩ | h; omega; exact h2; omega; omega
          have t3_ := t1_.1.1
          have t4_ := t1_.1.2.1
          have t5_ := t1_.1.2.2
          have t6_ := t1_.2.1
          have rd_ := (hd d (by omega) (by omega)).2 t3_
          have b2_ := hI.2.2.1 d
          have cn_ : -1 ≤ cvno sc fn d ∧ cvno sc fn d < sc 0 := by have h9_ := cnoF_b (fn 8) d (sc 0).toNat; have i9_ := hI.1.1; unfold cvno; omega
          have ri_ := hi d (by omega) (by omega)
          have b4_ := hI.2.2.2.2.1 d
          refine lv_lload (pc := 71) hx hb dL_law_71 (lv_at hl 0 rfl) ?_
          refine k_ldc2 (z := (-1)) (pc := 73) hx hb hown (hts (.constantLong RL 75 (-1)) (by decide +kernel)) (by decide +kernel) dL_law_73 ?_
          refine k_lcmp_lt (pc := 76) (tgt := 107) hx hb ⟨by omega, by omega⟩ ⟨by omega, by omega⟩ dL_law_76 dL_law_77 (by decide) (fun hc_76 => ?_) (fun hc_76 => ?_)
          · skip
            exfalso
            omega
          · skip
            refine lv_lload (pc := 80) hx hb dL_law_80 (lv_at hl 0 rfl) ?_
            refine k_ldc2 (z := (-1)) (pc := 82) hx hb hown (hts (.constantLong RL 75 (-1)) (by decide +kernel)) (by decide +kernel) dL_law_82 ?_
            refine k_lcmp_ne (pc := 85) (tgt := 93) hx hb ⟨by omega, by omega⟩ ⟨by omega, by omega⟩ dL_law_85 dL_law_86 (by decide) (fun hc_85 => ?_) (fun hc_85 => ?_)
            · skip
              refine k_iconst (pc := 93) hx hb dL_law_93 ?_
              refine lv_iload (pc := 94) hx hb dL_law_94 (lv_at hl 1 rfl) ?_
              refine k_if_ne (pc := 96) (tgt := 103) hx hb ⟨by omega, by omega⟩ dL_law_96 (by decide) (fun hc_96 => ?_) (fun hc_96 => ?_)
              · skip
                refine k_iconst (pc := 103) hx hb dL_law_103 ?_
                refine k_icmp_eq (pc := 104) (tgt := 109) hx hb ⟨by omega, by omega⟩ ⟨by omega, by omega⟩ dL_law_104 (by decide) (fun hc_104 => ?_) (fun hc_104 => ?_)
                · skip
                  refine lv_iload (pc := 109) hx hb dL_law_109 (lv_at hl 1 rfl) ?_
                  refine k_iconst (pc := 111) hx hb dL_law_111 ?_
                  refine k_icmp_ne (pc := 112) (tgt := 119) hx hb ⟨by omega, by omega⟩ ⟨by omega, by omega⟩ dL_law_112 (by decide) (fun hc_112 => ?_) (fun hc_112 => ?_)
                  · skip
                    refine k_iconst (pc := 119) hx hb dL_law_119 ?_
                    refine lv_iload (pc := 120) hx hb dL_law_120 (lv_at hl 1 rfl) ?_
                    refine k_if_le (pc := 122) (tgt := 145) hx hb ⟨by omega, by omega⟩ dL_law_122 (by decide) (fun hc_122 => ?_) (fun hc_122 => ?_)
                    · skip
                      exfalso
                      omega
                    · skip
                      refine lv_iload (pc := 125) hx hb dL_law_125 (lv_at hl 1 rfl) ?_
                      refine k_iconst (pc := 127) hx hb dL_law_127 ?_
                      refine k_icmp_ge (pc := 128) (tgt := 145) hx hb ⟨by omega, by omega⟩ ⟨by omega, by omega⟩ dL_law_128 (by decide) (fun hc_128 => ?_) (fun hc_128 => ?_)
                      · skip
                        exfalso
                        omega
                      · skip
                        refine lv_aload_n (pc := 131) hx hb dL_law_131 rfl (lv_at hl 4 rfl) ?_
                        refine k_get (pc := 132) (ci := 6) (C := RX6) (T := TX6) (N := 5) hx hb hts hi6 hown hK hP 200 hl_66.1 rfl 3 (by decide) hf59 (fun _ h9 => h9) rfl dL_law_132 ?_
                        refine lv_iload (pc := 135) hx hb dL_law_135 (lv_at hl 9 rfl) ?_
                        refine k_zald (pc := 137) hx hb hK hP 210 1 hl_66.2.2.1 rfl (by omega) (by omega) (by omega) dL_law_137 ?_
                        refine k_if_eq (pc := 138) (tgt := 145) hx hb ⟨by omega, by omega⟩ dL_law_138 (by decide) (fun hc_138 => ?_) (fun hc_138 => ?_)
                        · skip
                          refine k_iconst (pc := 145) hx hb dL_law_145 ?_
                          refine k_icmp_eq (pc := 146) (tgt := 151) hx hb ⟨by omega, by omega⟩ ⟨by omega, by omega⟩ dL_law_146 (by decide) (fun hc_146 => ?_) (fun hc_146 => ?_)
                          · skip
                            refine lv_iload (pc := 151) hx hb dL_law_151 (lv_at hl 1 rfl) ?_
                            refine k_iconst (pc := 153) hx hb dL_law_153 ?_
                            refine k_icmp_eq (pc := 154) (tgt := 163) hx hb ⟨by omega, by omega⟩ ⟨by omega, by omega⟩ dL_law_154 (by decide) (fun hc_154 => ?_) (fun hc_154 => ?_)
                            · skip
                              refine lv_aload_n (pc := 163) hx hb dL_law_163 rfl (lv_at hl 4 rfl) ?_
                              refine k_get (pc := 164) (ci := 6) (C := RX6) (T := TX6) (N := 5) hx hb hts hi6 hown hK hP 200 hl_66.1 rfl 2 (by decide) hf49 (fun _ h9 => h9) rfl dL_law_164 ?_
                              refine lv_iload (pc := 167) hx hb dL_law_167 (lv_at hl 9 rfl) ?_
                              refine k_iald (pc := 169) hx hb hK hP 209 0 hl_66.2.1 rfl (by omega) (by omega) (by omega) dL_law_169 ?_
                              refine k_sipush (pc := 170) hx hb dL_law_170 (by decide +kernel) ?_
                              refine k_icmp_eq (pc := 173) (tgt := 185) hx hb ⟨by omega, by omega⟩ ⟨by omega, by omega⟩ dL_law_173 (by decide) (fun hc_173 => ?_) (fun hc_173 => ?_)
                              · skip
                                exfalso
                                omega
                              · skip
                                refine lv_aload_n (pc := 176) hx hb dL_law_176 rfl (lv_at hl 3 rfl) ?_
                                refine lv_iload (pc := 177) hx hb dL_law_177 (lv_at hl 9 rfl) ?_
                                refine k_call1 (pc := 179) (va_runV (As := [.int (iI d)]) (rest := []) ⟨hx, hb, hml, hown, hts⟩ (c_X5_curveOf_b l D cA ad_66 w_66 H.size sc fn hI hb_66 d (by omega) (by omega)) (cwV 1 hts gL_law_X5_curveOf rfl rfl rfl (by decide +kernel) ⟨Nat.le_of_ble_eq_true rfl, Nat.le_of_ble_eq_true rfl⟩) (gV_V hP hD hK hB hS hA hZ 0 (ci := 5) rfl hq_66) rfl rfl hl.1 rfl (lv_room (Nat.le_of_ble_eq_true rfl)) dL_law_179 ⟨Nat.le_of_ble_eq_true rfl, Nat.le_of_ble_eq_true rfl⟩) hS (gA_sub hD hS hA) (fun v_179 ad_179 w_179 H locs hv_179 hP hD hS => ?_)
                                obtain ⟨sc_179, fn_179, hb_179, hI_179, hk_179, hs_179⟩ := hv_179
                                obtain ⟨e1_179, e2_179, -, -, hr_179⟩ := hs_179
                                rw [e1_179, e2_179] at hb_179
                                subst hr_179
                                have hl_179 := lwS_keep hk_179 hl_66
                                have hg_179 : ad_179 0 = g0 := hk_179.1.trans hg_66
                                obtain ⟨fs_179, hq_179⟩ := bookS_0 hb_179
                                rw [← hk_179.1] at hl
                                rw [← (hk_179.2 200 (by omega)).2] at hl
                                rw [← (hk_179.2 212 (by omega)).2] at hl
                                refine W.eq (g2 := F0 m 182 ls [.int (iI (cvno sc fn d))]) rfl ?_
                                refine W.cs (cells' := 48) (slots' := 6315) rfl rfl ?_
                                refine k_if_ge (pc := 182) (tgt := 187) hx hb ⟨by omega, by omega⟩ dL_law_182 (by decide) (fun hc_182 => ?_) (fun hc_182 => ?_)
                                · skip
                                  refine lv_iload (pc := 187) hx hb dL_law_187 (lv_at hl 1 rfl) ?_
                                  refine k_if_le (pc := 189) (tgt := 203) hx hb ⟨by omega, by omega⟩ dL_law_189 (by decide) (fun hc_189 => ?_) (fun hc_189 => ?_)
                                  · skip
                                    exfalso
                                    omega
                                  · skip
                                    refine lv_iinc (pc := 192) (v := iI (wi + 1)) (lv' := [(5, .int (iI (wi + 1))), (10, .long (lI zf)), (9, .int (iI 1)), (0, .ref b), (1, .ref (ad_179 0)), (2, .ref (ad_179 200)), (3, .ref (ad_179 212)), (4, .int (iI run)), (6, .long (lI bf)), (8, .int (iI d))]) hx hb dL_law_192 hl (k := 7) rfl (iI_add _ _) (by decide) rfl (fun ls hl => ?_)
                                    refine lv_aload_n (pc := 195) hx hb dL_law_195 rfl (lv_at hl 6 rfl) ?_
                                    refine k_iconst (pc := 196) hx hb dL_law_196 ?_
                                    refine lv_dup2_11 (pc := 197) hx hb dL_law_197 rfl rfl ?_
                                    refine k_lald (pc := 198) hx hb hK hP 212 2 hl_179.2.2.2.2 rfl (by omega) (by omega) (by omega) dL_law_198 ?_
                                    refine lv_lload (pc := 199) hx hb dL_law_199 (lv_at hl 1 rfl) ?_
                                    refine k_ladd (pc := 201) hx hb dL_law_201 ?_
                                    refine k_last (pc := 202) (w1 := (up w_179 212 (eJ (cA 2) 2 (updI al_h47 1 ((al_h47 1) + zf))))) hx hb hK hP hD hS 212 2 hl_179.2.2.2.2 rfl (by omega) (by omega) (by omega) rfl dL_law_202 (fun H locs hP hD hS => ?_)
                                    refine lv_iload (pc := 203) hx hb dL_law_203 (lv_at hl 2 rfl) ?_
                                    refine k_iconst (pc := 205) hx hb dL_law_205 ?_
                                    refine k_icmp_ne (pc := 206) (tgt := 307) hx hb ⟨by omega, by omega⟩ ⟨by omega, by omega⟩ dL_law_206 (by decide) (fun hc_206 => ?_) (fun hc_206 => ?_)
                                    · skip
                                      refine k_iconst (pc := 307) hx hb dL_law_307 ?_
                                      refine lv_istore (pc := 308) (lv' := [(4, .int (iI 0)), (5, .int (iI (wi + 1))), (10, .long (lI zf)), (9, .int (iI 1)), (0, .ref b), (1, .ref (ad_179 0)), (2, .ref (ad_179 200)), (3, .ref (ad_179 212)), (6, .long (lI bf)), (8, .int (iI d))]) hx hb dL_law_308 hl (by decide) rfl (fun ls hl => ?_)
                                      refine lv_lload (pc := 310) hx hb dL_law_310 (lv_at hl 2 rfl) ?_
                                      refine lv_lstore (pc := 312) (lv' := [(6, .long (lI zf)), (4, .int (iI 0)), (5, .int (iI (wi + 1))), (10, .long (lI zf)), (9, .int (iI 1)), (0, .ref b), (1, .ref (ad_179 0)), (2, .ref (ad_179 200)), (3, .ref (ad_179 212)), (8, .int (iI d))]) hx hb dL_law_312 hl (by decide) rfl (fun ls hl => ?_)
                                      refine lv_iload (pc := 314) hx hb dL_law_314 (lv_at hl 4 rfl) ?_
                                      refine k_iconst (pc := 316) hx hb dL_law_316 ?_
                                      refine k_icmp_ne (pc := 317) (tgt := 383) hx hb ⟨by omega, by omega⟩ ⟨by omega, by omega⟩ dL_law_317 (by decide) (fun hc_317 => ?_) (fun hc_317 => ?_)
                                      · skip
                                        exfalso
                                        omega
                                      · skip
                                        refine lv_iload (pc := 320) hx hb dL_law_320 (lv_at hl 9 rfl) ?_
                                        have d5_ : Int.tdiv d 5 = d / 5 := Int.tdiv_eq_ediv_of_nonneg (by omega)
                                        refine k_iconst (pc := 322) hx hb dL_law_322 ?_
                                        refine k_irem (pc := 323) hx hb ⟨by omega, by omega⟩ ⟨by omega, by omega⟩ (by omega) dL_law_323 ?_
                                        refine k_if_ne (pc := 324) (tgt := 383) hx hb ⟨by omega, by omega⟩ dL_law_324 (by decide) (fun hc_324 => ?_) (fun hc_324 => ?_)
                                        · skip
                                          refine lv_iinc (pc := 383) (v := iI (d + 1)) (lv' := [(8, .int (iI (d + 1))), (6, .long (lI zf)), (4, .int (iI 0)), (5, .int (iI (wi + 1))), (10, .long (lI zf)), (9, .int (iI 1)), (0, .ref b), (1, .ref (ad_179 0)), (2, .ref (ad_179 200)), (3, .ref (ad_179 212))]) hx hb dL_law_383 hl (k := 9) rfl (iI_add _ _) (by decide) rfl (fun ls hl => ?_)
                                          refine lv_goto (pc := 386) (tgt := 47) hx hb dL_law_386 (by decide) ?_
                                          have su_ := sumT_s (tbF sc fn) (tbS sc fn) (fr := 0) (d := d) (by omega)
                                          have cu_ := cntT_s (tbS sc fn) (fr := 0) (d := d) (by omega)
                                          rw [Int.sub_zero, Int.sub_zero] at su_ cu_
                                          rw [if_pos (by omega)] at su_ cu_
                                          exact ih_h47 ad_179 (up w_179 212 (eJ (cA 2) 2 (updI al_h47 1 ((al_h47 1) + zf)))) (updI al_h47 1 ((al_h47 1) + zf)) 0 (wi + 1) zf (d + 1) (bookS_of hI (fun r hr => ⟨(up_n (by omega) rfl), rfl⟩) hb_179) (lwS_al _ hl_179) hg_179 (by rw [updI_s, su_]; omega) (by rw [cu_]; omega) (by rw [hzf]; exact runP_n (by omega) (by omega)) (by omega) (by omega) (by omega) (by omega) H locs hP hD hS ls (lv_sub hl [6, 7, 8, 9, 2, 3, 1, 0] rfl)
                                        · skip
                                          refine lv_aload_n (pc := 327) hx hb dL_law_327 rfl (lv_at hl 6 rfl) ?_
                                          refine lv_iload (pc := 328) hx hb dL_law_328 (lv_at hl 9 rfl) ?_
                                          refine k_call1 (pc := 330) (va_runV (As := [.int (iI d)]) (rest := []) ⟨hx, hb, hml, hown, hts⟩ (c_X5_curveOf_b l D cA ad_179 (up w_179 212 (eJ (cA 2) 2 (updI al_h47 1 ((al_h47 1) + zf)))) H.size sc fn hI (bookS_of hI (fun r hr => ⟨(up_n (by omega) rfl), rfl⟩) hb_179) d (by omega) (by omega)) (cwV 1 hts gL_law_X5_curveOf rfl rfl rfl (by decide +kernel) ⟨Nat.le_of_ble_eq_true rfl, Nat.le_of_ble_eq_true rfl⟩) (gV_V hP hD hK hB hS hA hZ 0 (ci := 5) rfl (up_n (by decide) hq_179)) rfl rfl hl.1 rfl (lv_room (Nat.le_of_ble_eq_true rfl)) dL_law_330 ⟨Nat.le_of_ble_eq_true rfl, Nat.le_of_ble_eq_true rfl⟩) hS (gA_sub hD hS hA) (fun v_330 ad_330 w_330 H locs hv_330 hP hD hS => ?_)
                                          obtain ⟨sc_330, fn_330, hb_330, hI_330, hk_330, hs_330⟩ := hv_330
                                          obtain ⟨e1_330, e2_330, -, -, hr_330⟩ := hs_330
                                          rw [e1_330, e2_330] at hb_330
                                          subst hr_330
                                          have hl_330 := lwS_keep hk_330 (lwS_al _ hl_179)
                                          have hg_330 : ad_330 0 = g0 := hk_330.1.trans hg_179
                                          obtain ⟨fs_330, hq_330⟩ := bookS_0 hb_330
                                          rw [← hk_330.1] at hl
                                          rw [← (hk_330.2 200 (by omega)).2] at hl
                                          rw [← (hk_330.2 212 (by omega)).2] at hl
                                          refine W.eq (g2 := F0 m 333 ls [.int (iI (cvno sc fn d))]) rfl ?_
                                          refine W.cs (cells' := 48) (slots' := 6315) rfl rfl ?_
                                          refine lv_istore (pc := 333) (lv' := [(12, .int (iI (cvno sc fn d))), (6, .long (lI zf)), (4, .int (iI 0)), (5, .int (iI (wi + 1))), (10, .long (lI zf)), (9, .int (iI 1)), (0, .ref b), (1, .ref (ad_330 0)), (2, .ref (ad_330 200)), (3, .ref (ad_330 212)), (8, .int (iI d))]) hx hb dL_law_333 hl (by decide) rfl (fun ls hl => ?_)
                                          refine lv_aload_n (pc := 335) hx hb dL_law_335 rfl (lv_at hl 8 rfl) ?_
                                          refine k_get (pc := 336) (ci := 6) (C := RX6) (T := TX6) (N := 5) hx hb hts hi6 hown hK hP 200 hl_330.1 rfl 2 (by decide) hf49 (fun _ h9 => h9) rfl dL_law_336 ?_
                                          refine lv_iload (pc := 339) hx hb dL_law_339 (lv_at hl 10 rfl) ?_
                                          refine k_iald (pc := 341) hx hb hK hP 209 0 hl_330.2.1 rfl (by omega) (by omega) (by omega) dL_law_341 ?_
                                          refine lv_aload_n (pc := 342) hx hb dL_law_342 rfl (lv_at hl 7 rfl) ?_
                                          refine lv_iload (pc := 343) hx hb dL_law_343 (lv_at hl 10 rfl) ?_
                                          refine k_call1 (pc := 345) (va_runV (As := [.int (iI d)]) (rest := [.int (iI (st d))]) ⟨hx, hb, hml, hown, hts⟩ (c_X5_shift_b l D cA ad_330 w_330 H.size sc fn hI hb_330 d (by omega) (by omega)) (cwV 1 hts gL_law_X5_shift rfl rfl rfl (by decide +kernel) ⟨Nat.le_of_ble_eq_true rfl, Nat.le_of_ble_eq_true rfl⟩) (gV_V hP hD hK hB hS hA hZ 0 (ci := 5) rfl hq_330) rfl rfl hl.1 rfl (lv_room (Nat.le_of_ble_eq_true rfl)) dL_law_345 ⟨Nat.le_of_ble_eq_true rfl, Nat.le_of_ble_eq_true rfl⟩) hS (gA_sub hD hS hA) (fun v_345 ad_345 w_345 H locs hv_345 hP hD hS => ?_)
                                          obtain ⟨sc_345, fn_345, hb_345, hI_345, hk_345, hs_345⟩ := hv_345
                                          obtain ⟨e1_345, e2_345, -, -, hr_345⟩ := hs_345
                                          rw [e1_345, e2_345] at hb_345
                                          subst hr_345
                                          have hl_345 := lwS_keep hk_345 hl_330
                                          have hg_345 : ad_345 0 = g0 := hk_345.1.trans hg_330
                                          obtain ⟨fs_345, hq_345⟩ := bookS_0 hb_345
                                          rw [← hk_345.1] at hl
                                          rw [← (hk_345.2 200 (by omega)).2] at hl
                                          rw [← (hk_345.2 212 (by omega)).2] at hl
                                          refine W.eq (g2 := F0 m 348 ls [.int (iI (sftF (fn 0) (fn 1) (sc 1) d)), .int (iI (st d))]) rfl ?_
                                          refine W.cs (cells' := 48) (slots' := 6315) rfl rfl ?_
                                          have sb_ := sftF_bd hI.1.2.1.1 hI.2.1 d
                                          refine k_isub (pc := 348) hx hb dL_law_348 ?_
                                          refine lv_istore (pc := 349) (lv' := [(13, .int (iI ((st d) - (sftF (fn 0) (fn 1) (sc 1) d)))), (12, .int (iI (cvno sc fn d))), (6, .long (lI zf)), (4, .int (iI 0)), (5, .int (iI (wi + 1))), (10, .long (lI zf)), (9, .int (iI 1)), (0, .ref b), (1, .ref (ad_345 0)), (2, .ref (ad_345 200)), (3, .ref (ad_345 212)), (8, .int (iI d))]) hx hb dL_law_349 hl (by decide) rfl (fun ls hl => ?_)
                                          refine lv_aload_n (pc := 351) hx hb dL_law_351 rfl (lv_at hl 8 rfl) ?_
                                          refine lv_iload (pc := 352) hx hb dL_law_352 (lv_at hl 1 rfl) ?_
                                          refine lv_iload (pc := 354) hx hb dL_law_354 (lv_at hl 0 rfl) ?_
                                          refine k_call1 (pc := 356) (va_runV (As := [.int (iI (cvno sc fn d)), .int (iI ((st d) - (sftF (fn 0) (fn 1) (sc 1) d)))]) (rest := []) ⟨hx, hb, hml, hown, hts⟩ (c_X5_flowBy_b l D cA ad_345 w_345 H.size sc fn hI hb_345 (cvno sc fn d) ((st d) - (sftF (fn 0) (fn 1) (sc 1) d)) (by omega) (by omega) (by omega)) (cwV 2 hts gL_law_X5_flowBy rfl rfl rfl (by decide +kernel) ⟨Nat.le_of_ble_eq_true rfl, Nat.le_of_ble_eq_true rfl⟩) (gV_V hP hD hK hB hS hA hZ 0 (ci := 5) rfl hq_345) rfl rfl hl.1 rfl (lv_room (Nat.le_of_ble_eq_true rfl)) dL_law_356 ⟨Nat.le_of_ble_eq_true rfl, Nat.le_of_ble_eq_true rfl⟩) hS (gA_sub hD hS hA) (fun v_356 ad_356 w_356 H locs hv_356 hP hD hS => ?_)
                                          obtain ⟨sc_356, fn_356, hb_356, hI_356, hk_356, hs_356⟩ := hv_356
                                          obtain ⟨e1_356, e2_356, -, -, -, -, -, hr_356⟩ := hs_356
                                          rw [e1_356, e2_356] at hb_356
                                          subst hr_356
                                          have hl_356 := lwS_keep hk_356 hl_345
                                          have hg_356 : ad_356 0 = g0 := hk_356.1.trans hg_345
                                          obtain ⟨fs_356, hq_356⟩ := bookS_0 hb_356
                                          rw [← hk_356.1] at hl
                                          rw [← (hk_356.2 200 (by omega)).2] at hl
                                          rw [← (hk_356.2 212 (by omega)).2] at hl
                                          refine W.eq (g2 := F0 m 359 ls [.long (lI (flowF (fn (20 + ((cvno sc fn d)).toNat)) (fn (30 + ((cvno sc fn d)).toNat)) (fn 9 (cvno sc fn d)) ((st d) - (sftF (fn 0) (fn 1) (sc 1) d))))]) rfl ?_
                                          refine W.cs (cells' := 48) (slots' := 6315) rfl rfl ?_
                                          have fe_ : flowF (fn (20 + (cvno sc fn d).toNat)) (fn (30 + (cvno sc fn d).toNat)) (fn 9 (cvno sc fn d)) (st d - sftF (fn 0) (fn 1) (sc 1) d) = tbF sc fn d := by rw [t1_.2.2, rd_]; rfl
                                          have ck_ := hI.2.2.2.2.2.2.2.2.2.2 (cvno sc fn d).toNat (by omega)
                                          rw [show (((cvno sc fn d).toNat : Nat) : Int) = cvno sc fn d by omega] at ck_
                                          have fm_ := flow_mono ck_ t5_ (s := st d - sftF (fn 0) (fn 1) (sc 1) d) (by omega)
                                          have fb_ := flow_bd ck_ t5_ (s := st d - sftF (fn 0) (fn 1) (sc 1) d + 1) (by omega)
                                          refine lv_lload (pc := 359) hx hb dL_law_359 (lv_at hl 5 rfl) ?_
                                          refine k_lcmp_ne (pc := 361) (tgt := 381) hx hb ⟨by omega, by omega⟩ ⟨by omega, by omega⟩ dL_law_361 dL_law_362 (by decide) (fun hc_361 => ?_) (fun hc_361 => ?_)
                                          · skip
                                            exfalso
                                            omega
                                          · skip
                                            refine lv_aload_n (pc := 365) hx hb dL_law_365 rfl (lv_at hl 8 rfl) ?_
                                            refine lv_iload (pc := 366) hx hb dL_law_366 (lv_at hl 1 rfl) ?_
                                            refine lv_iload (pc := 368) hx hb dL_law_368 (lv_at hl 0 rfl) ?_
                                            refine k_iconst (pc := 370) hx hb dL_law_370 ?_
                                            refine k_iadd (pc := 371) hx hb dL_law_371 ?_
                                            refine k_call1 (pc := 372) (va_runV (As := [.int (iI (cvno sc fn d)), .int (iI (((st d) - (sftF (fn 0) (fn 1) (sc 1) d)) + 1))]) (rest := []) ⟨hx, hb, hml, hown, hts⟩ (c_X5_flowBy_b l D cA ad_356 w_356 H.size sc fn hI hb_356 (cvno sc fn d) (((st d) - (sftF (fn 0) (fn 1) (sc 1) d)) + 1) (by omega) (by omega) (by omega)) (cwV 2 hts gL_law_X5_flowBy rfl rfl rfl (by decide +kernel) ⟨Nat.le_of_ble_eq_true rfl, Nat.le_of_ble_eq_true rfl⟩) (gV_V hP hD hK hB hS hA hZ 0 (ci := 5) rfl hq_356) rfl rfl hl.1 rfl (lv_room (Nat.le_of_ble_eq_true rfl)) dL_law_372 ⟨Nat.le_of_ble_eq_true rfl, Nat.le_of_ble_eq_true rfl⟩) hS (gA_sub hD hS hA) (fun v_372 ad_372 w_372 H locs hv_372 hP hD hS => ?_)
                                            obtain ⟨sc_372, fn_372, hb_372, hI_372, hk_372, hs_372⟩ := hv_372
                                            obtain ⟨e1_372, e2_372, -, -, -, -, -, hr_372⟩ := hs_372
                                            rw [e1_372, e2_372] at hb_372
                                            subst hr_372
                                            have hl_372 := lwS_keep hk_372 hl_356
                                            have hg_372 : ad_372 0 = g0 := hk_372.1.trans hg_356
                                            obtain ⟨fs_372, hq_372⟩ := bookS_0 hb_372
                                            rw [← hk_372.1] at hl
                                            rw [← (hk_372.2 200 (by omega)).2] at hl
                                            rw [← (hk_372.2 212 (by omega)).2] at hl
                                            refine W.eq (g2 := F0 m 375 ls [.long (lI (flowF (fn (20 + ((cvno sc fn d)).toNat)) (fn (30 + ((cvno sc fn d)).toNat)) (fn 9 (cvno sc fn d)) (((st d) - (sftF (fn 0) (fn 1) (sc 1) d)) + 1)))]) rfl ?_
                                            refine W.cs (cells' := 48) (slots' := 6315) rfl rfl ?_
                                            refine lv_lload (pc := 375) hx hb dL_law_375 (lv_at hl 5 rfl) ?_
                                            refine k_lcmp_ge (pc := 377) (tgt := 383) hx hb ⟨by omega, by omega⟩ ⟨by omega, by omega⟩ dL_law_377 dL_law_378 (by decide) (fun hc_377 => ?_) (fun hc_377 => ?_)
                                            · skip
                                              refine lv_iinc (pc := 383) (v := iI (d + 1)) (lv' := [(8, .int (iI (d + 1))), (13, .int (iI ((st d) - (sftF (fn 0) (fn 1) (sc 1) d)))), (12, .int (iI (cvno sc fn d))), (6, .long (lI zf)), (4, .int (iI 0)), (5, .int (iI (wi + 1))), (10, .long (lI zf)), (9, .int (iI 1)), (0, .ref b), (1, .ref (ad_372 0)), (2, .ref (ad_372 200)), (3, .ref (ad_372 212))]) hx hb dL_law_383 hl (k := 11) rfl (iI_add _ _) (by decide) rfl (fun ls hl => ?_)
                                              refine lv_goto (pc := 386) (tgt := 47) hx hb dL_law_386 (by decide) ?_
                                              have su_ := sumT_s (tbF sc fn) (tbS sc fn) (fr := 0) (d := d) (by omega)
                                              have cu_ := cntT_s (tbS sc fn) (fr := 0) (d := d) (by omega)
                                              rw [Int.sub_zero, Int.sub_zero] at su_ cu_
                                              rw [if_pos (by omega)] at su_ cu_
                                              exact ih_h47 ad_372 w_372 (updI al_h47 1 ((al_h47 1) + zf)) 0 (wi + 1) zf (d + 1) hb_372 hl_372 hg_372 (by rw [updI_s, su_]; omega) (by rw [cu_]; omega) (by rw [hzf]; exact runP_n (by omega) (by omega)) (by omega) (by omega) (by omega) (by omega) H locs hP hD hS ls (lv_sub hl [8, 9, 10, 11, 4, 5, 3, 0] rfl)
                                            · skip
                                              exfalso
                                              omega
                                    · skip
                                      exfalso
                                      omega
                                · skip
                                  exfalso
                                  omega
                            · skip
                              exfalso
                              omega
                          · skip
                            exfalso
                            omega
                        · skip
                          exfalso
                          omega
                  · skip
                    exfalso
                    omega
                · skip
                  exfalso
                  omega
              · skip
                exfalso
                omega
            · skip
              exfalso
              omega
        · skip
          subst e9_
          have t1_ : isTold sc fn d ∧ fn 4 d ≠ 0 := by rcases s4_ with h | ⟨h, h2⟩ | ⟨h, h2⟩ | h; omega; omega; exact h2; omega
          have t3_ := t1_.1.1
          have t4_ := t1_.1.2.1
          have t5_ := t1_.1.2.2
          have t6_ := t1_.2
          have rd_ := (hd d (by omega) (by omega)).2 t3_
          have b2_ := hI.2.2.1 d
          have cn_ : -1 ≤ cvno sc fn d ∧ cvno sc fn d < sc 0 := by have h9_ := cnoF_b (fn 8) d (sc 0).toNat; have i9_ := hI.1.1; unfold cvno; omega
          have ri_ := hi d (by omega) (by omega)
          have b4_ := hI.2.2.2.2.1 d
          refine lv_lload (pc := 71) hx hb dL_law_71 (lv_at hl 0 rfl) ?_
          refine k_ldc2 (z := (-1)) (pc := 73) hx hb hown (hts (.constantLong RL 75 (-1)) (by decide +kernel)) (by decide +kernel) dL_law_73 ?_
          refine k_lcmp_lt (pc := 76) (tgt := 107) hx hb ⟨by omega, by omega⟩ ⟨by omega, by omega⟩ dL_law_76 dL_law_77 (by decide) (fun hc_76 => ?_) (fun hc_76 => ?_)
          · skip
            exfalso
            omega
          · skip
            refine lv_lload (pc := 80) hx hb dL_law_80 (lv_at hl 0 rfl) ?_
            refine k_ldc2 (z := (-1)) (pc := 82) hx hb hown (hts (.constantLong RL 75 (-1)) (by decide +kernel)) (by decide +kernel) dL_law_82 ?_
            refine k_lcmp_ne (pc := 85) (tgt := 93) hx hb ⟨by omega, by omega⟩ ⟨by omega, by omega⟩ dL_law_85 dL_law_86 (by decide) (fun hc_85 => ?_) (fun hc_85 => ?_)
            · skip
              refine k_iconst (pc := 93) hx hb dL_law_93 ?_
              refine lv_iload (pc := 94) hx hb dL_law_94 (lv_at hl 1 rfl) ?_
              refine k_if_ne (pc := 96) (tgt := 103) hx hb ⟨by omega, by omega⟩ dL_law_96 (by decide) (fun hc_96 => ?_) (fun hc_96 => ?_)
              · skip
                refine k_iconst (pc := 103) hx hb dL_law_103 ?_
                refine k_icmp_eq (pc := 104) (tgt := 109) hx hb ⟨by omega, by omega⟩ ⟨by omega, by omega⟩ dL_law_104 (by decide) (fun hc_104 => ?_) (fun hc_104 => ?_)
                · skip
                  refine lv_iload (pc := 109) hx hb dL_law_109 (lv_at hl 1 rfl) ?_
                  refine k_iconst (pc := 111) hx hb dL_law_111 ?_
                  refine k_icmp_ne (pc := 112) (tgt := 119) hx hb ⟨by omega, by omega⟩ ⟨by omega, by omega⟩ dL_law_112 (by decide) (fun hc_112 => ?_) (fun hc_112 => ?_)
                  · skip
                    exfalso
                    omega
                  · skip
                    refine k_iconst (pc := 115) hx hb dL_law_115 ?_
                    refine lv_goto (pc := 116) (tgt := 120) hx hb dL_law_116 (by decide) ?_
                    refine lv_iload (pc := 120) hx hb dL_law_120 (lv_at hl 1 rfl) ?_
                    refine k_if_le (pc := 122) (tgt := 145) hx hb ⟨by omega, by omega⟩ dL_law_122 (by decide) (fun hc_122 => ?_) (fun hc_122 => ?_)
                    · skip
                      exfalso
                      omega
                    · skip
                      refine lv_iload (pc := 125) hx hb dL_law_125 (lv_at hl 1 rfl) ?_
                      refine k_iconst (pc := 127) hx hb dL_law_127 ?_
                      refine k_icmp_ge (pc := 128) (tgt := 145) hx hb ⟨by omega, by omega⟩ ⟨by omega, by omega⟩ dL_law_128 (by decide) (fun hc_128 => ?_) (fun hc_128 => ?_)
                      · skip
                        exfalso
                        omega
                      · skip
                        refine lv_aload_n (pc := 131) hx hb dL_law_131 rfl (lv_at hl 4 rfl) ?_
                        refine k_get (pc := 132) (ci := 6) (C := RX6) (T := TX6) (N := 5) hx hb hts hi6 hown hK hP 200 hl_66.1 rfl 3 (by decide) hf59 (fun _ h9 => h9) rfl dL_law_132 ?_
                        refine lv_iload (pc := 135) hx hb dL_law_135 (lv_at hl 9 rfl) ?_
                        refine k_zald (pc := 137) hx hb hK hP 210 1 hl_66.2.2.1 rfl (by omega) (by omega) (by omega) dL_law_137 ?_
                        refine k_if_eq (pc := 138) (tgt := 145) hx hb ⟨by omega, by omega⟩ dL_law_138 (by decide) (fun hc_138 => ?_) (fun hc_138 => ?_)
                        · skip
                          exfalso
                          omega
                        · skip
                          refine k_iconst (pc := 141) hx hb dL_law_141 ?_
                          refine lv_goto (pc := 142) (tgt := 146) hx hb dL_law_142 (by decide) ?_
                          refine k_icmp_eq (pc := 146) (tgt := 151) hx hb ⟨by omega, by omega⟩ ⟨by omega, by omega⟩ dL_law_146 (by decide) (fun hc_146 => ?_) (fun hc_146 => ?_)
                          · skip
                            refine lv_iload (pc := 151) hx hb dL_law_151 (lv_at hl 1 rfl) ?_
                            refine k_iconst (pc := 153) hx hb dL_law_153 ?_
                            refine k_icmp_eq (pc := 154) (tgt := 163) hx hb ⟨by omega, by omega⟩ ⟨by omega, by omega⟩ dL_law_154 (by decide) (fun hc_154 => ?_) (fun hc_154 => ?_)
                            · skip
                              exfalso
                              omega
                            · skip
                              refine lv_iload (pc := 157) hx hb dL_law_157 (lv_at hl 1 rfl) ?_
                              refine k_iconst (pc := 159) hx hb dL_law_159 ?_
                              refine k_icmp_ne (pc := 160) (tgt := 187) hx hb ⟨by omega, by omega⟩ ⟨by omega, by omega⟩ dL_law_160 (by decide) (fun hc_160 => ?_) (fun hc_160 => ?_)
                              · skip
                                exfalso
                                omega
                              · skip
                                refine lv_aload_n (pc := 163) hx hb dL_law_163 rfl (lv_at hl 4 rfl) ?_
                                refine k_get (pc := 164) (ci := 6) (C := RX6) (T := TX6) (N := 5) hx hb hts hi6 hown hK hP 200 hl_66.1 rfl 2 (by decide) hf49 (fun _ h9 => h9) rfl dL_law_164 ?_
                                refine lv_iload (pc := 167) hx hb dL_law_167 (lv_at hl 9 rfl) ?_
                                refine k_iald (pc := 169) hx hb hK hP 209 0 hl_66.2.1 rfl (by omega) (by omega) (by omega) dL_law_169 ?_
                                refine k_sipush (pc := 170) hx hb dL_law_170 (by decide +kernel) ?_
                                refine k_icmp_eq (pc := 173) (tgt := 185) hx hb ⟨by omega, by omega⟩ ⟨by omega, by omega⟩ dL_law_173 (by decide) (fun hc_173 => ?_) (fun hc_173 => ?_)
                                · skip
                                  exfalso
                                  omega
                                · skip
                                  refine lv_aload_n (pc := 176) hx hb dL_law_176 rfl (lv_at hl 3 rfl) ?_
                                  refine lv_iload (pc := 177) hx hb dL_law_177 (lv_at hl 9 rfl) ?_
                                  refine k_call1 (pc := 179) (va_runV (As := [.int (iI d)]) (rest := []) ⟨hx, hb, hml, hown, hts⟩ (c_X5_curveOf_b l D cA ad_66 w_66 H.size sc fn hI hb_66 d (by omega) (by omega)) (cwV 1 hts gL_law_X5_curveOf rfl rfl rfl (by decide +kernel) ⟨Nat.le_of_ble_eq_true rfl, Nat.le_of_ble_eq_true rfl⟩) (gV_V hP hD hK hB hS hA hZ 0 (ci := 5) rfl hq_66) rfl rfl hl.1 rfl (lv_room (Nat.le_of_ble_eq_true rfl)) dL_law_179 ⟨Nat.le_of_ble_eq_true rfl, Nat.le_of_ble_eq_true rfl⟩) hS (gA_sub hD hS hA) (fun v_179 ad_179 w_179 H locs hv_179 hP hD hS => ?_)
                                  obtain ⟨sc_179, fn_179, hb_179, hI_179, hk_179, hs_179⟩ := hv_179
                                  obtain ⟨e1_179, e2_179, -, -, hr_179⟩ := hs_179
                                  rw [e1_179, e2_179] at hb_179
                                  subst hr_179
                                  have hl_179 := lwS_keep hk_179 hl_66
                                  have hg_179 : ad_179 0 = g0 := hk_179.1.trans hg_66
                                  obtain ⟨fs_179, hq_179⟩ := bookS_0 hb_179
                                  rw [← hk_179.1] at hl
                                  rw [← (hk_179.2 200 (by omega)).2] at hl
                                  rw [← (hk_179.2 212 (by omega)).2] at hl
                                  refine W.eq (g2 := F0 m 182 ls [.int (iI (cvno sc fn d))]) rfl ?_
                                  refine W.cs (cells' := 48) (slots' := 6315) rfl rfl ?_
                                  refine k_if_ge (pc := 182) (tgt := 187) hx hb ⟨by omega, by omega⟩ dL_law_182 (by decide) (fun hc_182 => ?_) (fun hc_182 => ?_)
                                  · skip
                                    refine lv_iload (pc := 187) hx hb dL_law_187 (lv_at hl 1 rfl) ?_
                                    refine k_if_le (pc := 189) (tgt := 203) hx hb ⟨by omega, by omega⟩ dL_law_189 (by decide) (fun hc_189 => ?_) (fun hc_189 => ?_)
                                    · skip
                                      exfalso
                                      omega
                                    · skip
                                      refine lv_iinc (pc := 192) (v := iI (wi + 1)) (lv' := [(5, .int (iI (wi + 1))), (10, .long (lI zf)), (9, .int (iI 2)), (0, .ref b), (1, .ref (ad_179 0)), (2, .ref (ad_179 200)), (3, .ref (ad_179 212)), (4, .int (iI run)), (6, .long (lI bf)), (8, .int (iI d))]) hx hb dL_law_192 hl (k := 7) rfl (iI_add _ _) (by decide) rfl (fun ls hl => ?_)
                                      refine lv_aload_n (pc := 195) hx hb dL_law_195 rfl (lv_at hl 6 rfl) ?_
                                      refine k_iconst (pc := 196) hx hb dL_law_196 ?_
                                      refine lv_dup2_11 (pc := 197) hx hb dL_law_197 rfl rfl ?_
                                      refine k_lald (pc := 198) hx hb hK hP 212 2 hl_179.2.2.2.2 rfl (by omega) (by omega) (by omega) dL_law_198 ?_
                                      refine lv_lload (pc := 199) hx hb dL_law_199 (lv_at hl 1 rfl) ?_
                                      refine k_ladd (pc := 201) hx hb dL_law_201 ?_
                                      refine k_last (pc := 202) (w1 := (up w_179 212 (eJ (cA 2) 2 (updI al_h47 1 ((al_h47 1) + zf))))) hx hb hK hP hD hS 212 2 hl_179.2.2.2.2 rfl (by omega) (by omega) (by omega) rfl dL_law_202 (fun H locs hP hD hS => ?_)
                                      refine lv_iload (pc := 203) hx hb dL_law_203 (lv_at hl 2 rfl) ?_
                                      refine k_iconst (pc := 205) hx hb dL_law_205 ?_
                                      refine k_icmp_ne (pc := 206) (tgt := 307) hx hb ⟨by omega, by omega⟩ ⟨by omega, by omega⟩ dL_law_206 (by decide) (fun hc_206 => ?_) (fun hc_206 => ?_)
                                      · skip
                                        refine k_iconst (pc := 307) hx hb dL_law_307 ?_
                                        refine lv_istore (pc := 308) (lv' := [(4, .int (iI 0)), (5, .int (iI (wi + 1))), (10, .long (lI zf)), (9, .int (iI 2)), (0, .ref b), (1, .ref (ad_179 0)), (2, .ref (ad_179 200)), (3, .ref (ad_179 212)), (6, .long (lI bf)), (8, .int (iI d))]) hx hb dL_law_308 hl (by decide) rfl (fun ls hl => ?_)
                                        refine lv_lload (pc := 310) hx hb dL_law_310 (lv_at hl 2 rfl) ?_
                                        refine lv_lstore (pc := 312) (lv' := [(6, .long (lI zf)), (4, .int (iI 0)), (5, .int (iI (wi + 1))), (10, .long (lI zf)), (9, .int (iI 2)), (0, .ref b), (1, .ref (ad_179 0)), (2, .ref (ad_179 200)), (3, .ref (ad_179 212)), (8, .int (iI d))]) hx hb dL_law_312 hl (by decide) rfl (fun ls hl => ?_)
                                        refine lv_iload (pc := 314) hx hb dL_law_314 (lv_at hl 4 rfl) ?_
                                        refine k_iconst (pc := 316) hx hb dL_law_316 ?_
                                        refine k_icmp_ne (pc := 317) (tgt := 383) hx hb ⟨by omega, by omega⟩ ⟨by omega, by omega⟩ dL_law_317 (by decide) (fun hc_317 => ?_) (fun hc_317 => ?_)
                                        · skip
                                          refine lv_iinc (pc := 383) (v := iI (d + 1)) (lv' := [(8, .int (iI (d + 1))), (6, .long (lI zf)), (4, .int (iI 0)), (5, .int (iI (wi + 1))), (10, .long (lI zf)), (9, .int (iI 2)), (0, .ref b), (1, .ref (ad_179 0)), (2, .ref (ad_179 200)), (3, .ref (ad_179 212))]) hx hb dL_law_383 hl (k := 9) rfl (iI_add _ _) (by decide) rfl (fun ls hl => ?_)
                                          refine lv_goto (pc := 386) (tgt := 47) hx hb dL_law_386 (by decide) ?_
                                          have su_ := sumT_s (tbF sc fn) (tbS sc fn) (fr := 0) (d := d) (by omega)
                                          have cu_ := cntT_s (tbS sc fn) (fr := 0) (d := d) (by omega)
                                          rw [Int.sub_zero, Int.sub_zero] at su_ cu_
                                          rw [if_pos (by omega)] at su_ cu_
                                          exact ih_h47 ad_179 (up w_179 212 (eJ (cA 2) 2 (updI al_h47 1 ((al_h47 1) + zf)))) (updI al_h47 1 ((al_h47 1) + zf)) 0 (wi + 1) zf (d + 1) (bookS_of hI (fun r hr => ⟨(up_n (by omega) rfl), rfl⟩) hb_179) (lwS_al _ hl_179) hg_179 (by rw [updI_s, su_]; omega) (by rw [cu_]; omega) (by rw [hzf]; exact runP_n (by omega) (by omega)) (by omega) (by omega) (by omega) (by omega) H locs hP hD hS ls (lv_sub hl [6, 7, 8, 9, 2, 3, 1, 0] rfl)
                                        · skip
                                          exfalso
                                          omega
                                      · skip
                                        exfalso
                                        omega
                                  · skip
                                    exfalso
                                    omega
                          · skip
                            exfalso
                            omega
                · skip
                  exfalso
                  omega
              · skip
                exfalso
                omega
            · skip
              exfalso
              omega
        · skip
          subst e9_
          have hfil := fil_day (F := tdF sc fn) (S := tdS sc fn) (lim := sc 3) (tbOk_td hI) (fun j => td_le2 j) hrun ⟨by omega, by omega⟩ hzs.symm
          refine lv_lload (pc := 71) hx hb dL_law_71 (lv_at hl 0 rfl) ?_
          refine k_ldc2 (z := (-1)) (pc := 73) hx hb hown (hts (.constantLong RL 75 (-1)) (by decide +kernel)) (by decide +kernel) dL_law_73 ?_
          refine k_lcmp_lt (pc := 76) (tgt := 107) hx hb ⟨by omega, by omega⟩ ⟨by omega, by omega⟩ dL_law_76 dL_law_77 (by decide) (fun hc_76 => ?_) (fun hc_76 => ?_)
          · skip
            exfalso
            omega
          · skip
            refine lv_lload (pc := 80) hx hb dL_law_80 (lv_at hl 0 rfl) ?_
            refine k_ldc2 (z := (-1)) (pc := 82) hx hb hown (hts (.constantLong RL 75 (-1)) (by decide +kernel)) (by decide +kernel) dL_law_82 ?_
            refine k_lcmp_ne (pc := 85) (tgt := 93) hx hb ⟨by omega, by omega⟩ ⟨by omega, by omega⟩ dL_law_85 dL_law_86 (by decide) (fun hc_85 => ?_) (fun hc_85 => ?_)
            · skip
              refine k_iconst (pc := 93) hx hb dL_law_93 ?_
              refine lv_iload (pc := 94) hx hb dL_law_94 (lv_at hl 1 rfl) ?_
              refine k_if_ne (pc := 96) (tgt := 103) hx hb ⟨by omega, by omega⟩ dL_law_96 (by decide) (fun hc_96 => ?_) (fun hc_96 => ?_)
              · skip
                refine k_iconst (pc := 103) hx hb dL_law_103 ?_
                refine k_icmp_eq (pc := 104) (tgt := 109) hx hb ⟨by omega, by omega⟩ ⟨by omega, by omega⟩ dL_law_104 (by decide) (fun hc_104 => ?_) (fun hc_104 => ?_)
                · skip
                  refine lv_iload (pc := 109) hx hb dL_law_109 (lv_at hl 1 rfl) ?_
                  refine k_iconst (pc := 111) hx hb dL_law_111 ?_
                  refine k_icmp_ne (pc := 112) (tgt := 119) hx hb ⟨by omega, by omega⟩ ⟨by omega, by omega⟩ dL_law_112 (by decide) (fun hc_112 => ?_) (fun hc_112 => ?_)
                  · skip
                    refine k_iconst (pc := 119) hx hb dL_law_119 ?_
                    refine lv_iload (pc := 120) hx hb dL_law_120 (lv_at hl 1 rfl) ?_
                    refine k_if_le (pc := 122) (tgt := 145) hx hb ⟨by omega, by omega⟩ dL_law_122 (by decide) (fun hc_122 => ?_) (fun hc_122 => ?_)
                    · skip
                      exfalso
                      omega
                    · skip
                      refine lv_iload (pc := 125) hx hb dL_law_125 (lv_at hl 1 rfl) ?_
                      refine k_iconst (pc := 127) hx hb dL_law_127 ?_
                      refine k_icmp_ge (pc := 128) (tgt := 145) hx hb ⟨by omega, by omega⟩ ⟨by omega, by omega⟩ dL_law_128 (by decide) (fun hc_128 => ?_) (fun hc_128 => ?_)
                      · skip
                        refine k_iconst (pc := 145) hx hb dL_law_145 ?_
                        refine k_icmp_eq (pc := 146) (tgt := 151) hx hb ⟨by omega, by omega⟩ ⟨by omega, by omega⟩ dL_law_146 (by decide) (fun hc_146 => ?_) (fun hc_146 => ?_)
                        · skip
                          refine lv_iload (pc := 151) hx hb dL_law_151 (lv_at hl 1 rfl) ?_
                          refine k_iconst (pc := 153) hx hb dL_law_153 ?_
                          refine k_icmp_eq (pc := 154) (tgt := 163) hx hb ⟨by omega, by omega⟩ ⟨by omega, by omega⟩ dL_law_154 (by decide) (fun hc_154 => ?_) (fun hc_154 => ?_)
                          · skip
                            exfalso
                            omega
                          · skip
                            refine lv_iload (pc := 157) hx hb dL_law_157 (lv_at hl 1 rfl) ?_
                            refine k_iconst (pc := 159) hx hb dL_law_159 ?_
                            refine k_icmp_ne (pc := 160) (tgt := 187) hx hb ⟨by omega, by omega⟩ ⟨by omega, by omega⟩ dL_law_160 (by decide) (fun hc_160 => ?_) (fun hc_160 => ?_)
                            · skip
                              refine lv_iload (pc := 187) hx hb dL_law_187 (lv_at hl 1 rfl) ?_
                              refine k_if_le (pc := 189) (tgt := 203) hx hb ⟨by omega, by omega⟩ dL_law_189 (by decide) (fun hc_189 => ?_) (fun hc_189 => ?_)
                              · skip
                                exfalso
                                omega
                              · skip
                                refine lv_iinc (pc := 192) (v := iI (wi + 1)) (lv' := [(5, .int (iI (wi + 1))), (10, .long (lI zf)), (9, .int (iI 3)), (0, .ref b), (1, .ref (ad_66 0)), (2, .ref (ad_66 200)), (3, .ref (ad_66 212)), (4, .int (iI run)), (6, .long (lI bf)), (8, .int (iI d))]) hx hb dL_law_192 hl (k := 7) rfl (iI_add _ _) (by decide) rfl (fun ls hl => ?_)
                                refine lv_aload_n (pc := 195) hx hb dL_law_195 rfl (lv_at hl 6 rfl) ?_
                                refine k_iconst (pc := 196) hx hb dL_law_196 ?_
                                refine lv_dup2_11 (pc := 197) hx hb dL_law_197 rfl rfl ?_
                                refine k_lald (pc := 198) hx hb hK hP 212 2 hl_66.2.2.2.2 rfl (by omega) (by omega) (by omega) dL_law_198 ?_
                                refine lv_lload (pc := 199) hx hb dL_law_199 (lv_at hl 1 rfl) ?_
                                refine k_ladd (pc := 201) hx hb dL_law_201 ?_
                                refine k_last (pc := 202) (w1 := (up w_66 212 (eJ (cA 2) 2 (updI al_h47 1 ((al_h47 1) + zf))))) hx hb hK hP hD hS 212 2 hl_66.2.2.2.2 rfl (by omega) (by omega) (by omega) rfl dL_law_202 (fun H locs hP hD hS => ?_)
                                refine lv_iload (pc := 203) hx hb dL_law_203 (lv_at hl 2 rfl) ?_
                                refine k_iconst (pc := 205) hx hb dL_law_205 ?_
                                refine k_icmp_ne (pc := 206) (tgt := 307) hx hb ⟨by omega, by omega⟩ ⟨by omega, by omega⟩ dL_law_206 (by decide) (fun hc_206 => ?_) (fun hc_206 => ?_)
                                · skip
                                  exfalso
                                  omega
                                · skip
                                  refine lv_iinc (pc := 209) (v := iI (run + 1)) (lv' := [(4, .int (iI (run + 1))), (5, .int (iI (wi + 1))), (10, .long (lI zf)), (9, .int (iI 3)), (0, .ref b), (1, .ref (ad_66 0)), (2, .ref (ad_66 200)), (3, .ref (ad_66 212)), (6, .long (lI bf)), (8, .int (iI d))]) hx hb dL_law_209 hl (k := 7) rfl (iI_add _ _) (by decide) rfl (fun ls hl => ?_)
                                  refine lv_iload (pc := 212) hx hb dL_law_212 (lv_at hl 9 rfl) ?_
                                  refine lv_istore (pc := 214) (lv' := [(12, .int (iI d)), (4, .int (iI (run + 1))), (5, .int (iI (wi + 1))), (10, .long (lI zf)), (9, .int (iI 3)), (0, .ref b), (1, .ref (ad_66 0)), (2, .ref (ad_66 200)), (3, .ref (ad_66 212)), (6, .long (lI bf)), (8, .int (iI d))]) hx hb dL_law_214 hl (by decide) rfl (fun ls hl => ?_)
                                  have lp_h216 : ∀ (N9 : Nat) (ad_h216 : Nat → Nat) (w_h216 : Nat → Option va_E)  (e9 : Int), (bookS cA ad_h216 w_h216 sc fn) → (lwS cA ad_h216 w_h216 st ic nn (updI al_h47 1 ((al_h47 1) + zf))) → (ad_h216 0 = g0) → (d ≤ e9 ∧ e9 ≤ 400) → (∀ j : Int, d ≤ j → j < e9 → tbS sc fn j = 3) → (400 - e9).toNat < N9 → ∀ (H : Heap) (locs : List Loc), gP D vwCl ad_h216 w_h216 H → gD A ad_h216 w_h216 → va_S A s.heap H locs → ∀ (ls : Array Slot), lv_has ls 15 [(12, .int (iI e9)), (4, .int (iI (run + 1))), (5, .int (iI (wi + 1))), (10, .long (lI zf)), (9, .int (iI 3)), (0, .ref b), (1, .ref (ad_h216 0)), (2, .ref (ad_h216 200)), (3, .ref (ad_h216 212)), (6, .long (lI bf)), (8, .int (iI d))] → W p l e room_1 s m #[Value.ref b] below meth c H locs 48 6315 Q9 (F0 m 216 ls []) := by
                                    intro N9
                                    induction N9 with
                                    | zero => intro ad_h216 w_h216 e9 hbk_h216 hlb_h216 hg0_h216 j0 je_ hmu; exact absurd hmu (Nat.not_lt_zero _)
                                    | succ N9 ih_h216 =>
                                      intro ad_h216 w_h216 e9 hbk_h216 hlb_h216 hg0_h216 j0 je_ hmu_216 H locs hP hD hS ls hl
                                      obtain ⟨fs_h216, hq_h216⟩ := bookS_0 hbk_h216
                                      have g1_ := tok_.1 e9
                                      have g2_ := tok_.2.1 e9
                                      refine lv_iload (pc := 216) hx hb dL_law_216 (lv_at hl 0 rfl) ?_
                                      refine k_sipush (pc := 218) hx hb dL_law_218 (by decide +kernel) ?_
                                      refine k_icmp_ge (pc := 221) (tgt := 240) hx hb ⟨by omega, by omega⟩ ⟨by omega, by omega⟩ dL_law_221 (by decide) (fun hc_221 => ?_) (fun hc_221 => ?_)
                                      · skip
                                        exfalso
                                        obtain ⟨q1, q2, e_, q3, q4, q5, q6, q7⟩ := hfil; exact q6 (je_ e_ (by omega) (by omega))
                                      · skip
                                        refine lv_aload_n (pc := 224) hx hb dL_law_224 rfl (lv_at hl 6 rfl) ?_
                                        refine lv_iload (pc := 225) hx hb dL_law_225 (lv_at hl 0 rfl) ?_
                                        refine k_call1 (pc := 227) (va_runV (As := [.int (iI e9)]) (rest := []) ⟨hx, hb, hml, hown, hts⟩ (c_X5_state_b l D cA ad_h216 w_h216 H.size sc fn hI hbk_h216 e9 (by omega) (by omega)) (cwV 1 hts gL_law_X5_state rfl rfl rfl (by decide +kernel) ⟨Nat.le_of_ble_eq_true rfl, Nat.le_of_ble_eq_true rfl⟩) (gV_V hP hD hK hB hS hA hZ 0 (ci := 5) rfl hq_h216) rfl rfl hl.1 rfl (lv_room (Nat.le_of_ble_eq_true rfl)) dL_law_227 ⟨Nat.le_of_ble_eq_true rfl, Nat.le_of_ble_eq_true rfl⟩) hS (gA_sub hD hS hA) (fun v_227 ad_227 w_227 H locs hv_227 hP hD hS => ?_)
                                        obtain ⟨sc_227, fn_227, hb_227, hI_227, hk_227, hs_227⟩ := hv_227
                                        obtain ⟨e1_227, e2_227, -, -, hr_227⟩ := hs_227
                                        rw [e1_227, e2_227] at hb_227
                                        subst hr_227
                                        have hl_227 := lwS_keep hk_227 hlb_h216
                                        have hg_227 : ad_227 0 = g0 := hk_227.1.trans hg0_h216
                                        obtain ⟨fs_227, hq_227⟩ := bookS_0 hb_227
                                        rw [← hk_227.1] at hl
                                        rw [← (hk_227.2 200 (by omega)).2] at hl
                                        rw [← (hk_227.2 212 (by omega)).2] at hl
                                        refine W.eq (g2 := F0 m 230 ls [.int (iI (tbS sc fn e9))]) rfl ?_
                                        refine W.cs (cells' := 48) (slots' := 6315) rfl rfl ?_
                                        refine k_iconst (pc := 230) hx hb dL_law_230 ?_
                                        refine k_icmp_ne (pc := 231) (tgt := 240) hx hb ⟨by omega, by omega⟩ ⟨by omega, by omega⟩ dL_law_231 (by decide) (fun hc_231 => ?_) (fun hc_231 => ?_)
                                        · skip
                                          obtain ⟨q1, q2, e_, q3, q4, q5, q6, q7, q8⟩ := hfil
                                          have ee_ : e9 = e_ := by
                                            rcases Int.lt_trichotomy e9 e_ with c9 | c9 | c9
                                            · have h9_ := q5 e9 (by omega) c9
                                              have h8_ : tbS sc fn e9 = 3 := h9_
                                              omega
                                            · exact c9
                                            · have h9_ := je_ e_ (by omega) c9
                                              exact absurd h9_ q6
                                          have qa_ : min bf (tbF sc fn e9) ≤ tbF sc fn d ∧ tbF sc fn d ≤ max bf (tbF sc fn e9) := by rw [ee_]; exact ⟨q7, q8⟩
                                          refine lv_iload (pc := 240) hx hb dL_law_240 (lv_at hl 0 rfl) ?_
                                          refine k_sipush (pc := 242) hx hb dL_law_242 (by decide +kernel) ?_
                                          refine k_icmp_eq (pc := 245) (tgt := 266) hx hb ⟨by omega, by omega⟩ ⟨by omega, by omega⟩ dL_law_245 (by decide) (fun hc_245 => ?_) (fun hc_245 => ?_)
                                          · skip
                                            exfalso
                                            omega
                                          · skip
                                            refine lv_lload (pc := 248) hx hb dL_law_248 (lv_at hl 9 rfl) ?_
                                            refine k_lconst0 (pc := 250) hx hb dL_law_250 ?_
                                            refine k_lcmp_lt (pc := 251) (tgt := 266) hx hb ⟨by omega, by omega⟩ ⟨by omega, by omega⟩ dL_law_251 dL_law_252 (by decide) (fun hc_251 => ?_) (fun hc_251 => ?_)
                                            · skip
                                              exfalso
                                              omega
                                            · skip
                                              refine lv_iload (pc := 255) hx hb dL_law_255 (lv_at hl 1 rfl) ?_
                                              refine lv_aload_n (pc := 257) hx hb dL_law_257 rfl (lv_at hl 7 rfl) ?_
                                              refine k_get (pc := 258) (ci := 6) (C := RX6) (T := TX6) (N := 5) hx hb hts hi6 hown hK hP 200 hl_227.1 rfl 4 (by decide) hf32 (fun _ h9 => h9) rfl dL_law_258 ?_
                                              refine k_iconst (pc := 261) hx hb dL_law_261 ?_
                                              refine k_iald (pc := 262) hx hb hK hP 211 0 hl_227.2.2.2.1 rfl (by omega) (by omega) (by omega) dL_law_262 ?_
                                              refine k_icmp_le (pc := 263) (tgt := 268) hx hb ⟨by omega, by omega⟩ ⟨by omega, by omega⟩ dL_law_263 (by decide) (fun hc_263 => ?_) (fun hc_263 => ?_)
                                              · skip
                                                refine lv_aload_n (pc := 268) hx hb dL_law_268 rfl (lv_at hl 6 rfl) ?_
                                                refine lv_iload (pc := 269) hx hb dL_law_269 (lv_at hl 0 rfl) ?_
                                                refine k_call1 (pc := 271) (va_runV (As := [.int (iI e9)]) (rest := []) ⟨hx, hb, hml, hown, hts⟩ (c_X5_flow_b l D cA ad_227 w_227 H.size sc fn hI hb_227 e9 (by omega) (by omega)) (cwV 1 hts gL_law_X5_flow rfl rfl rfl (by decide +kernel) ⟨Nat.le_of_ble_eq_true rfl, Nat.le_of_ble_eq_true rfl⟩) (gV_V hP hD hK hB hS hA hZ 0 (ci := 5) rfl hq_227) rfl rfl hl.1 rfl (lv_room (Nat.le_of_ble_eq_true rfl)) dL_law_271 ⟨Nat.le_of_ble_eq_true rfl, Nat.le_of_ble_eq_true rfl⟩) hS (gA_sub hD hS hA) (fun v_271 ad_271 w_271 H locs hv_271 hP hD hS => ?_)
                                                obtain ⟨sc_271, fn_271, hb_271, hI_271, hk_271, hs_271⟩ := hv_271
                                                obtain ⟨e1_271, e2_271, -, -, hr_271⟩ := hs_271
                                                rw [e1_271, e2_271] at hb_271
                                                subst hr_271
                                                have hl_271 := lwS_keep hk_271 hl_227
                                                have hg_271 : ad_271 0 = g0 := hk_271.1.trans hg_227
                                                obtain ⟨fs_271, hq_271⟩ := bookS_0 hb_271
                                                rw [← hk_271.1] at hl
                                                rw [← (hk_271.2 200 (by omega)).2] at hl
                                                rw [← (hk_271.2 212 (by omega)).2] at hl
                                                refine W.eq (g2 := F0 m 274 ls [.long (lI (tbF sc fn e9))]) rfl ?_
                                                refine W.cs (cells' := 48) (slots' := 6315) rfl rfl ?_
                                                refine lv_lstore (pc := 274) (lv' := [(13, .long (lI (tbF sc fn e9))), (12, .int (iI e9)), (4, .int (iI (run + 1))), (5, .int (iI (wi + 1))), (10, .long (lI zf)), (9, .int (iI 3)), (0, .ref b), (1, .ref (ad_271 0)), (2, .ref (ad_271 200)), (3, .ref (ad_271 212)), (6, .long (lI bf)), (8, .int (iI d))]) hx hb dL_law_274 hl (by decide) rfl (fun ls hl => ?_)
                                                refine lv_lload (pc := 276) hx hb dL_law_276 (lv_at hl 4 rfl) ?_
                                                refine lv_lload (pc := 278) hx hb dL_law_278 (lv_at hl 10 rfl) ?_
                                                refine lv_lload (pc := 280) hx hb dL_law_280 (lv_at hl 0 rfl) ?_
                                                refine k_lmin (pc := 282) hx hb (hml.trans hl.1.symm) hown (hts (.methodLink RL 87 Lib.MathLoose.min_long.x) (by decide +kernel)) (hts (.static Lib.MathLoose.min_long.x) (by decide +kernel)) (hts (.initialized "java/lang/Math") (by decide +kernel)) (hts (.code Lib.MathLoose.min_long.x Lib.MathLoose.min_long.code 4 (some .long)) (by decide +kernel)) (Nat.le_of_ble_eq_true rfl) (Nat.le_of_ble_eq_true rfl) (Nat.le_of_ble_eq_true rfl) (Nat.le_of_ble_eq_true rfl) ⟨by omega, by omega⟩ ⟨by omega, by omega⟩ dL_law_282 ?_
                                                refine k_lcmp_lt (pc := 285) (tgt := 302) hx hb ⟨by omega, by omega⟩ ⟨by omega, by omega⟩ dL_law_285 dL_law_286 (by decide) (fun hc_285 => ?_) (fun hc_285 => ?_)
                                                · skip
                                                  exfalso
                                                  omega
                                                · skip
                                                  refine lv_lload (pc := 289) hx hb dL_law_289 (lv_at hl 4 rfl) ?_
                                                  refine lv_lload (pc := 291) hx hb dL_law_291 (lv_at hl 10 rfl) ?_
                                                  refine lv_lload (pc := 293) hx hb dL_law_293 (lv_at hl 0 rfl) ?_
                                                  refine k_lmax (pc := 295) hx hb (hml.trans hl.1.symm) hown (hts (.methodLink RL 93 Lib.MathLoose.max_long.x) (by decide +kernel)) (hts (.static Lib.MathLoose.max_long.x) (by decide +kernel)) (hts (.initialized "java/lang/Math") (by decide +kernel)) (hts (.code Lib.MathLoose.max_long.x Lib.MathLoose.max_long.code 4 (some .long)) (by decide +kernel)) (Nat.le_of_ble_eq_true rfl) (Nat.le_of_ble_eq_true rfl) (Nat.le_of_ble_eq_true rfl) (Nat.le_of_ble_eq_true rfl) ⟨by omega, by omega⟩ ⟨by omega, by omega⟩ dL_law_295 ?_
                                                  refine k_lcmp_le (pc := 298) (tgt := 304) hx hb ⟨by omega, by omega⟩ ⟨by omega, by omega⟩ dL_law_298 dL_law_299 (by decide) (fun hc_298 => ?_) (fun hc_298 => ?_)
                                                  · skip
                                                    refine lv_goto (pc := 304) (tgt := 314) hx hb dL_law_304 (by decide) ?_
                                                    refine lv_iload (pc := 314) hx hb dL_law_314 (lv_at hl 5 rfl) ?_
                                                    refine k_iconst (pc := 316) hx hb dL_law_316 ?_
                                                    refine k_icmp_ne (pc := 317) (tgt := 383) hx hb ⟨by omega, by omega⟩ ⟨by omega, by omega⟩ dL_law_317 (by decide) (fun hc_317 => ?_) (fun hc_317 => ?_)
                                                    · skip
                                                      refine lv_iinc (pc := 383) (v := iI (d + 1)) (lv' := [(8, .int (iI (d + 1))), (13, .long (lI (tbF sc fn e9))), (12, .int (iI e9)), (4, .int (iI (run + 1))), (5, .int (iI (wi + 1))), (10, .long (lI zf)), (9, .int (iI 3)), (0, .ref b), (1, .ref (ad_271 0)), (2, .ref (ad_271 200)), (3, .ref (ad_271 212)), (6, .long (lI bf))]) hx hb dL_law_383 hl (k := 11) rfl (iI_add _ _) (by decide) rfl (fun ls hl => ?_)
                                                      refine lv_goto (pc := 386) (tgt := 47) hx hb dL_law_386 (by decide) ?_
                                                      have su_ := sumT_s (tbF sc fn) (tbS sc fn) (fr := 0) (d := d) (by omega)
                                                      have cu_ := cntT_s (tbS sc fn) (fr := 0) (d := d) (by omega)
                                                      rw [Int.sub_zero, Int.sub_zero] at su_ cu_
                                                      rw [if_pos (by omega)] at su_ cu_
                                                      exact ih_h47 ad_271 w_271 (updI al_h47 1 ((al_h47 1) + zf)) (run + 1) (wi + 1) bf (d + 1) hb_271 hl_271 hg_271 (by rw [updI_s, su_]; omega) (by rw [cu_]; omega) (runP_3 hrun hzs.symm) (by omega) (by omega) (by omega) (by omega) H locs hP hD hS ls (lv_sub hl [7, 8, 9, 10, 3, 4, 11, 0] rfl)
                                                    · skip
                                                      exfalso
                                                      omega
                                                  · skip
                                                    exfalso
                                                    omega
                                              · skip
                                                exfalso
                                                omega
                                        · skip
                                          refine lv_iinc (pc := 234) (v := iI (e9 + 1)) (lv' := [(12, .int (iI (e9 + 1))), (4, .int (iI (run + 1))), (5, .int (iI (wi + 1))), (10, .long (lI zf)), (9, .int (iI 3)), (0, .ref b), (1, .ref (ad_227 0)), (2, .ref (ad_227 200)), (3, .ref (ad_227 212)), (6, .long (lI bf)), (8, .int (iI d))]) hx hb dL_law_234 hl (k := 0) rfl (iI_add _ _) (by decide) rfl (fun ls hl => ?_)
                                          refine lv_goto (pc := 237) (tgt := 216) hx hb dL_law_237 (by decide) ?_
                                          exact ih_h216 ad_227 w_227 (e9 + 1) hb_227 hl_227 hg_227 (by omega) (fun j a1 a2 => by by_cases c9 : j = e9; rw [c9]; omega; exact je_ j a1 (by omega)) (by omega) H locs hP hD hS ls (lv_sub hl [0, 1, 2, 3, 4, 5, 6, 7, 8, 9, 10] rfl)
                                  exact lp_h216 _ ad_66 (up w_66 212 (eJ (cA 2) 2 (updI al_h47 1 ((al_h47 1) + zf)))) d (bookS_of hI (fun r hr => ⟨(up_n (by omega) rfl), rfl⟩) hb_66) (lwS_al _ hl_66) hg_66 (by omega) (fun j a1 a2 => by omega) (Nat.lt_succ_self _) H locs hP hD hS ls (lv_sub hl [0, 1, 2, 3, 4, 5, 6, 7, 8, 9, 10] rfl)
                            · skip
                              exfalso
                              omega
                        · skip
                          exfalso
                          omega
                      · skip
                        exfalso
                        omega
                  · skip
                    exfalso
                    omega
                · skip
                  exfalso
                  omega
              · skip
                exfalso
                omega
            · skip
              exfalso
              omega
  exact lp_h47 _ ad w al 0 0 (-1) 0 hbk hlb hg0 h1 rfl (runP_0 _ _) (by omega) (by omega) (by omega) (Nat.lt_succ_self _) H locs hP hD hS ls (lv_sub hl [0, 1, 2, 3, 4, 5, 6, 7] rfl)
