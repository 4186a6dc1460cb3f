set_option maxRecDepth 20000 in
theorem ggL_law_X1_round : GoodIn wsL_law wsX1_round := goodIn_r _ [155, 52, 29, 53, 54, 5, 55, 56, 57, 58, 59, 60, 336, 337, 338, 339, 340, 341, 342, 343, 344, 345, 346, 347, 348] (by decide +kernel) (by decide +kernel)
set_option maxRecDepth 20000 in
theorem gL_law_X1_round : GoodIn wsL_law (wsV RL 77 RX1 yX1_round wsX1_round) := goodIn_app (goodIn_of _ (by decide +kernel)) ggL_law_X1_round
set_option maxRecDepth 20000 in
theorem ggL_law_L_box : GoodIn wsL_law wsL_box := goodIn_ca (goodIn_ca (goodIn_r _ [158, 41, 68, 159, 160, 161, 2, 162, 46, 47, 73, 74, 111, 163, 164, 165] (by decide +kernel) (by decide +kernel)) (goodIn_sub (fun _ h => List.mem_append_left _ (List.mem_append_left _ (List.mem_append_right _ h))) (by decide +kernel))) (goodIn_sub (fun _ h => List.mem_append_left _ (List.mem_append_right _ h)) (by decide +kernel))
set_option maxRecDepth 20000 in
theorem gL_law_L_box : GoodIn wsL_law (va_wsS RL 78 yL_box wsL_box) := goodIn_app (goodIn_of _ (by decide +kernel)) ggL_law_L_box
set_option maxRecDepth 20000 in
theorem ggL_law_X1_box : GoodIn wsL_law wsX1_box := goodIn_r _ [169, 32, 53, 54, 5, 55, 56, 57, 58, 59, 60, 134, 135, 136, 137, 336, 337, 338, 339, 340, 341, 342, 343, 344, 345, 346, 347, 348] (by decide +kernel) (by decide +kernel)
set_option maxRecDepth 20000 in
theorem gL_law_X1_box : GoodIn wsL_law (wsV RL 81 RX1 yX1_box wsX1_box) := goodIn_app (goodIn_of _ (by decide +kernel)) ggL_law_X1_box
set_option maxRecDepth 20000 in
theorem ggL_law_L_start : GoodIn wsL_law wsL_start := goodIn_ca (goodIn_r _ [172, 41, 173, 174, 175, 2, 176, 46, 47, 16, 327, 328, 329, 330, 331, 332, 333, 334, 335] (by decide +kernel) (by decide +kernel)) (goodIn_sub (fun _ h => List.mem_append_left _ (List.mem_append_left _ (List.mem_append_right _ h))) (by decide +kernel))
set_option maxRecDepth 20000 in
theorem gL_law_L_start : GoodIn wsL_law (va_wsS RL 82 yL_start wsL_start) := goodIn_app (goodIn_of _ (by decide +kernel)) ggL_law_L_start
