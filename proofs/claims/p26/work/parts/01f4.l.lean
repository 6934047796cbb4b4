set_option maxRecDepth 20000 in
theorem gL_law_X5_curveOf : GoodIn wsL_law (wsV RL 84 RX5 yX5_curveOf wsX5_curveOf) := goodIn_app (goodIn_of _ (by decide +kernel)) ggL_law_X5_curveOf
set_option maxRecDepth 20000 in
theorem ggL_law_X5_shift : GoodIn wsL_law wsX5_shift := goodIn_ca (goodIn_r _ [269, 29, 103, 104, 2, 105, 106, 107, 163, 164, 165, 28, 166, 167, 51, 52, 147, 148, 168, 169, 351, 352, 353, 354, 355, 356, 357, 358, 359, 360, 361, 362, 363, 369, 370, 371] (by decide +kernel) (by decide +kernel)) (goodIn_sub (fun _ h => List.mem_append_left _ (List.mem_append_right _ h)) (by decide +kernel))
set_option maxRecDepth 20000 in
theorem gL_law_X5_shift : GoodIn wsL_law (wsV RL 96 RX5 yX5_shift wsX5_shift) := goodIn_app (goodIn_of _ (by decide +kernel)) ggL_law_X5_shift
set_option maxRecDepth 20000 in
theorem ggL_law_X5_flowBy : GoodIn wsL_law wsX5_flowBy := goodIn_ca (goodIn_ca (goodIn_ca (goodIn_r _ [273, 131, 132, 106, 107, 97, 98, 116, 117, 118, 2, 119, 99, 25, 218, 219, 220, 101, 221, 146, 226, 227, 228, 229, 125, 230, 16, 10, 17, 231, 232, 233, 126, 147, 148, 168, 169, 351, 352, 353, 354, 355, 356, 357, 358, 359, 360, 361, 362, 363, 378, 379, 380, 381] (by decide +kernel) (by decide +kernel)) (goodIn_sub (fun _ h => List.mem_append_right _ h) (by decide +kernel))) (goodIn_sub (fun _ h => List.mem_append_left _ (List.mem_append_right _ h)) (by decide +kernel))) (goodIn_sub (fun _ h => List.mem_append_left _ (List.mem_append_left _ (List.mem_append_right _ h))) (by decide +kernel))
set_option maxRecDepth 20000 in
theorem gL_law_X5_flowBy : GoodIn wsL_law (wsV RL 97 RX5 yX5_flowBy wsX5_flowBy) := goodIn_app (goodIn_of _ (by decide +kernel)) ggL_law_X5_flowBy
set_option maxRecDepth 20000 in
theorem ggL_law_L_cell : GoodIn wsL_law wsL_cell := goodIn_r _ [87, 88] (by decide +kernel) (by decide +kernel)
