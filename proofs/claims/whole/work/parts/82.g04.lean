set_option maxRecDepth 20000 in
theorem ggL_law_X1_size : GoodIn wsL_law wsX1_size := goodIn_r _ [78, 79, 52, 53, 54, 5, 55, 56, 57, 58, 59, 60, 336, 337, 338, 339, 340, 341, 342, 343, 344, 345, 346, 347, 348] (by decide +kernel) (by decide +kernel)
set_option maxRecDepth 20000 in
theorem gL_law_X1_size : GoodIn wsL_law (wsV RL 69 RX1 yX1_size wsX1_size) := goodIn_app (goodIn_of _ (by decide +kernel)) ggL_law_X1_size
set_option maxRecDepth 20000 in
theorem ggL_law_X0_ready : GoodIn wsL_law wsX0_ready := goodIn_r _ [83, 15, 21, 84, 85, 86, 2, 87, 88, 89, 90, 91, 20, 14, 92, 93, 94, 95, 96, 97, 98, 99, 100, 101, 102, 103, 104, 105, 106, 107, 108, 109, 110, 111, 112, 113, 114, 115, 116, 117, 327, 328, 329, 330, 331, 332, 333, 334, 335] (by decide +kernel) (by decide +kernel)
set_option maxRecDepth 20000 in
theorem gL_law_X0_ready : GoodIn wsL_law (wsV RL 70 RX0 yX0_ready wsX0_ready) := goodIn_app (goodIn_of _ (by decide +kernel)) ggL_law_X0_ready
set_option maxRecDepth 20000 in
theorem ggL_law_X1_ready : GoodIn wsL_law wsX1_ready := goodIn_r _ [121, 60, 28, 122, 33, 29, 52, 123, 124, 125, 5, 126, 79, 27, 127, 128, 129, 130, 131, 132, 133, 34, 32, 134, 135, 136, 137, 336, 337, 338, 339, 340, 341, 342, 343, 344, 345, 346, 347, 348] (by decide +kernel) (by decide +kernel)
set_option maxRecDepth 20000 in
theorem gL_law_X1_ready : GoodIn wsL_law (wsV RL 73 RX1 yX1_ready wsX1_ready) := goodIn_app (goodIn_of _ (by decide +kernel)) ggL_law_X1_ready
set_option maxRecDepth 20000 in
theorem ggL_law_L_round : GoodIn wsL_law wsL_round := goodIn_ca (goodIn_ca (goodIn_r _ [140, 41, 141, 142, 143, 144, 2, 145, 46, 47, 15, 146, 147, 148, 149, 150, 151, 21, 101, 102, 103, 327, 328, 329, 330, 331, 332, 333, 334, 335] (by decide +kernel) (by decide +kernel)) (goodIn_sub (fun _ h => List.mem_append_left _ (List.mem_append_left _ (List.mem_append_right _ h))) (by decide +kernel))) (goodIn_sub (fun _ h => List.mem_append_right _ h) (by decide +kernel))
set_option maxRecDepth 20000 in
theorem gL_law_L_round : GoodIn wsL_law (va_wsS RL 74 yL_round wsL_round) := goodIn_app (goodIn_of _ (by decide +kernel)) ggL_law_L_round
