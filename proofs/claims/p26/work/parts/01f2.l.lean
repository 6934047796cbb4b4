theorem goodIn_co {big : List Cond} {c : Cond} {b : List Cond} (ha : GoodIn big [c]) (hb : GoodIn big b) : GoodIn big (c :: b) := fun w h => (List.mem_cons.mp h).elim (fun e => ha w (List.mem_cons.mpr (Or.inl e))) (fun h => hb w h)
set_option maxRecDepth 20000 in
theorem ggB_0 : GoodIn wsL_law [.code yL_build cL_build 18 (some (.object "GaugeBookLaw$Book"))] := fun w hw => by
  rw [List.mem_singleton.mp hw]
  exact ⟨List.mem_of_getElem? (i := 69) rfl, good_of_word rfl⟩
set_option maxRecDepth 20000 in
theorem gg_wsL_build_r1 : GoodIn wsL_law wsL_build_r1 := goodIn_r _ [70, 71, 72, 73, 7, 74, 6, 5, 75, 76, 77, 78, 22, 23, 79, 30, 80, 81, 82, 32, 83, 84, 85, 86] (by decide +kernel) (by decide +kernel)
set_option maxRecDepth 20000 in
theorem gg_wsL_build_r2 : GoodIn wsL_law wsL_build_r2 := goodIn_r _ [68, 87, 88, 89, 90, 91, 92, 93, 94, 95, 2, 96, 97, 98, 99, 25, 24, 100, 101, 102, 103, 104, 105, 106] (by decide +kernel) (by decide +kernel)
set_option maxRecDepth 20000 in
theorem gg_wsL_build_r3 : GoodIn wsL_law wsL_build_r3 := goodIn_r _ [107, 108, 109, 110, 111, 112, 113, 114, 115, 116, 117, 118, 119, 120, 121, 122, 123, 124, 125, 126, 127, 128, 129, 130] (by decide +kernel) (by decide +kernel)
set_option maxRecDepth 20000 in
theorem gg_wsL_build_r4 : GoodIn wsL_law wsL_build_r4 := goodIn_r _ [131, 132, 133, 134, 135, 136, 137, 138, 139, 140, 141, 142, 143, 144, 145, 146, 147, 148, 149, 150, 151, 152, 153, 154] (by decide +kernel) (by decide +kernel)
set_option maxRecDepth 20000 in
theorem gg_wsL_build_r5 : GoodIn wsL_law wsL_build_r5 := goodIn_r _ [155, 156, 157, 158, 159, 160, 161, 162, 29, 163, 164, 165, 28, 166, 167, 51, 52, 168, 169, 170, 171, 172, 173, 174] (by decide +kernel) (by decide +kernel)
set_option maxRecDepth 20000 in
theorem gg_wsL_build_r6 : GoodIn wsL_law wsL_build_r6 := goodIn_r _ [175, 176, 177, 178, 179, 180, 181, 33, 31, 182, 183, 184, 185, 186, 187, 188, 189, 190, 191, 192, 193, 194, 195, 34] (by decide +kernel) (by decide +kernel)
set_option maxRecDepth 20000 in
theorem gg_wsL_build_r7 : GoodIn wsL_law wsL_build_r7 := goodIn_r _ [196, 197, 198, 199, 45, 46] (by decide +kernel) (by decide +kernel)
set_option maxRecDepth 20000 in
theorem ggB_wsX60 : GoodIn wsL_law wsX60 := goodIn_r _ [364, 365, 366, 367, 368] (by decide +kernel) (by decide +kernel)
set_option maxRecDepth 20000 in
theorem ggB_wsX50 : GoodIn wsL_law wsX50 := goodIn_r _ [351, 352, 353, 354, 355, 356, 357, 358, 359, 360, 361, 362, 363] (by decide +kernel) (by decide +kernel)
set_option maxRecDepth 20000 in
theorem ggB_wsX00 : GoodIn wsL_law wsX00 := goodIn_r _ [378, 379, 380, 381] (by decide +kernel) (by decide +kernel)
set_option maxRecDepth 20000 in
theorem ggB_wsX40 : GoodIn wsL_law wsX40 := goodIn_r _ [369, 370, 371] (by decide +kernel) (by decide +kernel)
set_option maxRecDepth 20000 in
theorem ggB_e0 : GoodIn wsL_law ((vx_atS RX5 71 "java/lang/IllegalStateException" ["java/lang/RuntimeException", "java/lang/Exception"]).filter goodWord) := goodIn_sub (fun _ h => List.mem_append_left _ (List.mem_append_left _ (List.mem_append_right _ h))) (by decide +kernel)
set_option maxRecDepth 20000 in
theorem ggB_e1 : GoodIn wsL_law ((vx_atS RX5 116 "java/lang/IllegalArgumentException" ["java/lang/RuntimeException", "java/lang/Exception"]).filter goodWord) := goodIn_sub (fun _ h => List.mem_append_left _ (List.mem_append_right _ h)) (by decide +kernel)
set_option maxRecDepth 20000 in
theorem ggB_e2 : GoodIn wsL_law ((vx_atS RX5 94 "java/lang/IndexOutOfBoundsException" ["java/lang/RuntimeException", "java/lang/Exception"]).filter goodWord) := goodIn_sub (fun _ h => List.mem_append_right _ h) (by decide +kernel)
theorem ggL_law_L_build : GoodIn wsL_law wsL_build := goodIn_co ggB_0 (goodIn_app (goodIn_app (goodIn_app (goodIn_app (goodIn_app (goodIn_app (goodIn_app (goodIn_app gg_wsL_build_r1 (goodIn_app gg_wsL_build_r2 (goodIn_app gg_wsL_build_r3 (goodIn_app gg_wsL_build_r4 (goodIn_app gg_wsL_build_r5 (goodIn_app gg_wsL_build_r6 (gg_wsL_build_r7))))))) ggB_wsX60) ggB_wsX50) ggB_wsX00) ggB_wsX40) ggB_e0) ggB_e1) ggB_e2)
