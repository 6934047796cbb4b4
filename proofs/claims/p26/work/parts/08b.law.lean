set_option maxHeartbeats 8000000 in
set_option maxRecDepth 100000 in
theorem whole_start {p : Program} {e : Env} {s : State} {m : MethodId} {below : List Frame} {meth : Method} {c : Code} (l : Launch) (hflags : l.flags = flags0) {b L : Nat} {xs : Nat → Int32} (hL : L ≤ 260) (C0 : lw_At p s m meth c b L xs) : W p l e room_1 s m #[Value.ref b] below meth c s.heap [] 0 0 (lw_Z below #[Value.ref b] s) (entryFrame m ([Value.ref b] : List Value).toArray 15) := by
  obtain ⟨hx, hb, hr, hml, hown0, hts0, hX, hbl, hlocks, hgv⟩ := C0
  have hb : c.code = cL_law := hb
  have hown : s.vm.findClass RL = some m.cls := hown0
  have hts : ∀ w ∈ wsL_law, w.before #[Value.ref b] s = true := fun w h => hts0 w (wsL_law_in w h)
  obtain ⟨D, cA, hK⟩ := ws_K hts0
  have hB : gB s := ws_B (hK.1 5 _ rfl).2.1 hts0
  have hZ0 := ws_Z hts0 hgv
  obtain ⟨A, hAe⟩ : ∃ A : Nat → Prop, A = fun q : Nat => s.heap.size ≤ q := ⟨_, rfl⟩
  have hZ : gZ A s s.heap := by rw [hAe]; exact hZ0
  have hA : ∀ q, s.heap.size ≤ q → A q := fun q h => by rw [hAe]; exact h
  have hAs : ∀ q, A q → s.heap.size ≤ q := fun q h => by rw [hAe] at h; exact h
  have hbA : ¬ A b := fun h => absurd (hAs b h) (Nat.not_le.mpr hbl)
  have C9 : lwC p l s m c D cA A b L xs := ⟨hx, hb, hml, hown, hts, hK, hB, hZ, hA, hX, hbl, hbA, hL⟩
  have hi5 := hiL_law_5
  obtain ⟨w, hw9⟩ : ∃ w : Nat → Option va_E, w = fun _ => none := ⟨_, rfl⟩
  obtain ⟨ad, had9⟩ : ∃ ad : Nat → Nat, ad = fun _ => 0 := ⟨_, rfl⟩
  obtain ⟨H, hHe⟩ : ∃ H : Heap, H = s.heap := ⟨_, rfl⟩
  obtain ⟨locs, hLe⟩ : ∃ z : List Loc, z = [] := ⟨_, rfl⟩
  rw [← hHe, ← hLe]
  have hP : gP D vwCl ad w H := fun r x h => by rw [hw9] at h; exact absurd h (by simp)
  have hD : gD A ad w := ⟨fun a _ h => absurd (by rw [hw9]) h, fun a h => absurd (by rw [hw9]) h⟩
  have hS : va_S A s.heap H locs := by rw [hHe, hLe]; exact va_S.rf
  have hl := lv_entry ([.ref b]) (n := 15) (Nat.le_of_ble_eq_true rfl)
  rw [lg_entry_eq]
  generalize (lg_sl ([.ref b]) ++ List.replicate (15 - (lg_sl ([.ref b])).length) Slot.unset).toArray = ls at hl ⊢
  have hl : lv_has ls 15 [(0, .ref b)] := hl
  obtain ⟨Q9, hQ9⟩ : ∃ z, z = lw_Z below #[Value.ref b] s := ⟨_, rfl⟩
  rw [← hQ9]
  refine k_new (pc := 0) (own := RL) (C := RX5) (T := TX5) (N := 13) (ci := 5) hx hb hts hi5 tyX5 tyX5_ok hown (hts (.classLink RL 23 RX5) (by decide +kernel)) (hts (.instantiable RX5 13) (by decide +kernel)) (hts (.initialized RX5) (by decide +kernel)) hK hP hD hS hA rfl 0 (fs := [.null, .null, .null, .null, .null, .null, .null, .null, .int (iI 0), .int (iI 0), .int (iI 0), .int (iI 0), .int (iI 0)]) (by intro j hj; rcases j with _ | _ | _ | _ | _ | _ | _ | _ | _ | _ | _ | _ | _ | j <;> first | rfl | omega) (Nat.le_of_ble_eq_true rfl) (Nat.le_of_ble_eq_true rfl) dL_law_0 (fun q_0 H hP hD hS => ?_)
  obtain ⟨ad_0, hga_0⟩ : ∃ z9 : Nat → Nat, adN ad 0 q_0 = z9 := ⟨_, rfl⟩
  rw [hga_0] at hP hD
  have hnn_0 : ∀ j9 : Nat, j9 ≠ 0 → ad j9 = ad_0 j9 := fun j9 h9_ => by rw [← hga_0, adN_n _ _ h9_]
  rw [show q_0 = ad_0 0 by rw [← hga_0, adN_s]]
  refine W.eq (g2 := F0 m 3 ls [.ref (ad_0 0)]) rfl ?_
  refine W.cs (cells' := 1) (slots' := 13) rfl rfl ?_
  refine lv_dup (pc := 3) hx hb dL_law_3 rfl ?_
  refine k_call1 (pc := 4) (va_runI (As := []) (rest := [.ref (ad_0 0)]) ⟨hx, hb, hml, hown, hts⟩ (c_X5_init l D cA ad_0 (up w 0 (oB 5 [.null, .null, .null, .null, .null, .null, .null, .null, .int (iI 0), .int (iI 0), .int (iI 0), .int (iI 0), .int (iI 0)])) H.size (up_s _ _ _)) (cwI 0 hts gL_law_X5_init rfl rfl rfl (hts (.initialized RX5) (by decide +kernel)) (hts (.methodLink RL 70 yX5_init) (by decide +kernel)) (hts (.instanceMethod yX5_init) (by decide +kernel)) rfl (by decide +kernel) ⟨Nat.le_of_ble_eq_true rfl, Nat.le_of_ble_eq_true rfl⟩) (gV_S hP hD hK hB hS hA hZ) rfl rfl hl.1 rfl (lv_room (Nat.le_of_ble_eq_true rfl)) dL_law_4 ⟨Nat.le_of_ble_eq_true rfl, Nat.le_of_ble_eq_true rfl⟩) hS (gA_sub hD hS hA) (fun v_4 ad_4 w_4 H locs hv_4 hP hD hS => ?_)
  obtain ⟨hb1, hk1, hvn⟩ := hv_4
  subst hvn
  rw [← hk1.1]
  refine W.eq (g2 := F0 m 7 ls [.ref (ad_4 0)]) rfl ?_
  refine W.cs (cells' := 17) (slots' := 4313) rfl rfl ?_
  refine lv_astore_n (pc := 7) (lv' := [(1, .ref (ad_4 0)), (0, .ref b)]) hx hb dL_law_7 rfl hl (by decide) rfl (fun ls hl => ?_)
  refine lv_aload_n (pc := 8) hx hb dL_law_8 rfl (lv_at hl 0 rfl) ?_
  refine lv_aload_n (pc := 9) hx hb dL_law_9 rfl (lv_at hl 1 rfl) ?_
  refine k_iconst (pc := 10) hx hb dL_law_10 ?_
  refine k_call1 (pc := 11) (va_runS (As := [.ref (ad_4 0), .ref b, .int (iI 0)]) (rest := []) ⟨hx, hb, hml, hown, hts⟩ (c_L_build l D cA ad_4 w_4 H.size b L xs hL hb1) (va_cwS 3 hts gL_law_L_build rfl rfl rfl (by decide +kernel) ⟨Nat.le_of_ble_eq_true rfl, Nat.le_of_ble_eq_true rfl⟩) (gVs_S hP hD hK hB hS hA hZ hX hbl hbA) rfl rfl hl.1 rfl (lv_room (Nat.le_of_ble_eq_true rfl)) dL_law_11 ⟨Nat.le_of_ble_eq_true rfl, Nat.le_of_ble_eq_true rfl⟩) hS (gA_sub hD hS hA) (fun v_11 ad_11 w_11 H locs hv_11 hP hD hS => ?_)
  obtain ⟨hv1_, hg_, sc, fn, sh, st, ic, nn, cv, hb2_, hI, hlb_, hd, hi, hn⟩ := hv_11
  subst hv1_
  rw [← hg_] at hl
  obtain ⟨fs_11, hq_11⟩ := bookS_0 hb2_
  refine W.eq (g2 := F0 m 14 ls [.ref (ad_11 200)]) rfl ?_
  refine W.cs (cells' := 47) (slots' := 6313) rfl rfl ?_
  refine lv_astore_n (pc := 14) (lv' := [(2, .ref (ad_11 200)), (1, .ref (ad_11 0)), (0, .ref b)]) hx hb dL_law_14 rfl hl (by decide) rfl (fun ls hl => ?_)
  refine lv_aload_n (pc := 15) hx hb dL_law_15 rfl (lv_at hl 0 rfl) ?_
  refine lv_ifnonnull (pc := 16) (tgt := 21) hx hb dL_law_16 (by decide) ?_
  refine k_iconst (pc := 21) hx hb dL_law_21 ?_
  refine k_newJ (pc := 22) hx hb (hts (.arrayClass .long) (by decide +kernel)) hK hP hD hS hA 212 2 rfl 2 rfl (by decide) (Nat.le_of_ble_eq_true rfl) (Nat.le_of_ble_eq_true rfl) dL_law_22 (fun q_22 H hP hD hS => ?_)
  obtain ⟨ad_22, hga_22⟩ : ∃ z9 : Nat → Nat, adN ad_11 212 q_22 = z9 := ⟨_, rfl⟩
  rw [hga_22] at hP hD
  have hnn_22 : ∀ j9 : Nat, j9 ≠ 212 → ad_11 j9 = ad_22 j9 := fun j9 h9_ => by rw [← hga_22, adN_n _ _ h9_]
  rw [show q_22 = ad_22 212 by rw [← hga_22, adN_s]]
  rw [hnn_22 200 (by omega)] at hl
  rw [hnn_22 0 (by omega)] at hl
  have hm_22_200 : w_11 200 = some (oB 6 [.ref (ad_22 201), .ref (ad_22 208), .ref (ad_22 209), .ref (ad_22 210), .ref (ad_22 211)]) := by rw [← hnn_22 201 (by omega), ← hnn_22 208 (by omega), ← hnn_22 209 (by omega), ← hnn_22 210 (by omega), ← hnn_22 211 (by omega)]; exact hlb_.1
  refine W.eq (g2 := F0 m 24 ls [.ref (ad_22 212)]) rfl ?_
  refine W.cs (cells' := 48) (slots' := 6315) rfl rfl ?_
  refine lv_dup (pc := 24) hx hb dL_law_24 rfl ?_
  refine k_iconst (pc := 25) hx hb dL_law_25 ?_
  refine k_lconst0 (pc := 26) hx hb dL_law_26 ?_
  refine k_last (pc := 27) (w1 := (up w_11 212 (eJ (cA 2) 2 (updI (fun _ => 0) 0 0)))) hx hb hK hP hD hS 212 2 (up_s _ _ _) rfl (by omega) (by omega) (by omega) (up_up _ _ _ _) dL_law_27 (fun H locs hP hD hS => ?_)
  refine lv_dup (pc := 28) hx hb dL_law_28 rfl ?_
  refine k_iconst (pc := 29) hx hb dL_law_29 ?_
  refine k_lconst0 (pc := 30) hx hb dL_law_30 ?_
  refine k_last (pc := 31) (w1 := (up w_11 212 (eJ (cA 2) 2 (updI (updI (fun _ => 0) 0 0) 1 0)))) hx hb hK hP hD hS 212 2 (up_s _ _ _) rfl (by omega) (by omega) (by omega) (up_up _ _ _ _) dL_law_31 (fun H locs hP hD hS => ?_)
  refine lv_astore_n (pc := 32) (lv' := [(3, .ref (ad_22 212)), (2, .ref (ad_22 200)), (1, .ref (ad_22 0)), (0, .ref b)]) hx hb dL_law_32 rfl hl (by decide) rfl (fun ls hl => ?_)
  refine k_iconst (pc := 33) hx hb dL_law_33 ?_
  refine lv_istore (pc := 34) (lv' := [(4, .int (iI 0)), (3, .ref (ad_22 212)), (2, .ref (ad_22 200)), (1, .ref (ad_22 0)), (0, .ref b)]) hx hb dL_law_34 hl (by decide) rfl (fun ls hl => ?_)
  refine k_iconst (pc := 36) hx hb dL_law_36 ?_
  refine lv_istore (pc := 37) (lv' := [(5, .int (iI 0)), (4, .int (iI 0)), (3, .ref (ad_22 212)), (2, .ref (ad_22 200)), (1, .ref (ad_22 0)), (0, .ref b)]) hx hb dL_law_37 hl (by decide) rfl (fun ls hl => ?_)
  refine k_ldc2 (z := (-1)) (pc := 39) hx hb hown (hts (.constantLong RL 75 (-1)) (by decide +kernel)) (by decide +kernel) dL_law_39 ?_
  refine lv_lstore (pc := 42) (lv' := [(6, .long (lI (-1))), (5, .int (iI 0)), (4, .int (iI 0)), (3, .ref (ad_22 212)), (2, .ref (ad_22 200)), (1, .ref (ad_22 0)), (0, .ref b)]) hx hb dL_law_42 hl (by decide) rfl (fun ls hl => ?_)
  refine k_iconst (pc := 44) hx hb dL_law_44 ?_
  refine lv_istore (pc := 45) (lv' := [(8, .int (iI 0)), (6, .long (lI (-1))), (5, .int (iI 0)), (4, .int (iI 0)), (3, .ref (ad_22 212)), (2, .ref (ad_22 200)), (1, .ref (ad_22 0)), (0, .ref b)]) hx hb dL_law_45 hl (by decide) rfl (fun ls hl => ?_)
  refine W.widen (k := 48) (n := 6315) (by decide) (by decide) ?_
  have hbF : bookS cA ad_22 (up w_11 212 (eJ (cA 2) 2 (updI (updI (fun _ => 0) 0 0) 1 0))) sc fn := bookS_of hI (fun r hr => ⟨up_n (by omega) rfl, (hnn_22 r (by omega)).symm⟩) hb2_
  have hlF : lwS cA ad_22 (up w_11 212 (eJ (cA 2) 2 (updI (updI (fun _ => 0) 0 0) 1 0))) st ic nn (updI (updI (fun _ => 0) 0 0) 1 0) := ⟨(up_n (by decide) hm_22_200), (up_n (by decide) hlb_.2.2.2.2.1), (up_n (by decide) hlb_.2.2.2.2.2.1), (up_n (by decide) hlb_.2.2.2.2.2.2), (up_s _ _ _)⟩
  refine lw_days (g0 := ad_22 0) C9 Q9 hd hi hn ?_ ad_22 (up w_11 212 (eJ (cA 2) 2 (updI (updI (fun _ => 0) 0 0) 1 0))) (updI (updI (fun _ => 0) 0 0) 1 0) H locs ls hbF hI hlF rfl (by rw [updI_s]) hP hD hS (lv_sub hl [7, 6, 5, 4, 3, 2, 1, 0] rfl)
  intro wi ad w al H locs ls hbk hI hlb hg0 hwi hal hP hD hS hl
  refine lw_sums C9 Q9 hd hi hn wi ?_ ad w al H locs ls hbk hI hlb hg0 hwi hal hP hD hS hl
  intro ad w al H locs ls hbk hI hlb hg0 hwi hP hD hS hl
  refine lw_reach C9 Q9 hd hi hn wi ?_ ad w al H locs ls hbk hI hlb hg0 hwi hP hD hS hl
  intro ad w al H locs ls hbk hI hlb hg0 hwi hP hD hS hl
  exact lw_peaks C9 Q9 hd hi hn hr hlocks hAs hQ9 wi ad w al H locs ls hbk hI hlb hg0 hwi hP hD hS hl
