set_option maxRecDepth 20000 in
theorem ggL_law_X1_cut : GoodIn wsL_law wsX1_cut := goodIn_r _ [202, 36, 53, 54, 5, 55, 56, 57, 58, 59, 60, 336, 337, 338, 339, 340, 341, 342, 343, 344, 345, 346, 347, 348] (by decide +kernel) (by decide +kernel)
set_option maxRecDepth 20000 in
theorem gL_law_X1_cut : GoodIn wsL_law (wsV RL 92 RX1 yX1_cut wsX1_cut) := goodIn_app (goodIn_of _ (by decide +kernel)) ggL_law_X1_cut
set_option maxRecDepth 20000 in
theorem ggL_law_L_word : GoodIn wsL_law wsL_word := goodIn_ca (goodIn_r _ [205, 41, 206, 207, 208, 2, 209, 46, 47, 22, 17, 327, 328, 329, 330, 331, 332, 333, 334, 335] (by decide +kernel) (by decide +kernel)) (goodIn_sub (fun _ h => List.mem_append_left _ (List.mem_append_left _ (List.mem_append_right _ h))) (by decide +kernel))
set_option maxRecDepth 20000 in
theorem gL_law_L_word : GoodIn wsL_law (va_wsS RL 93 yL_word wsL_word) := goodIn_app (goodIn_of _ (by decide +kernel)) ggL_law_L_word
set_option maxRecDepth 20000 in
theorem ggL_law_X1_word : GoodIn wsL_law wsX1_word := goodIn_r _ [213, 36, 31, 53, 54, 5, 55, 56, 57, 58, 59, 60, 336, 337, 338, 339, 340, 341, 342, 343, 344, 345, 346, 347, 348] (by decide +kernel) (by decide +kernel)
set_option maxRecDepth 20000 in
theorem gL_law_X1_word : GoodIn wsL_law (wsV RL 95 RX1 yX1_word wsX1_word) := goodIn_app (goodIn_of _ (by decide +kernel)) ggL_law_X1_word
set_option maxRecDepth 20000 in
theorem ggL_law_L_run : GoodIn wsL_law wsL_run := goodIn_ca (goodIn_ca (goodIn_r _ [216, 68, 141, 217, 218, 219, 2, 220, 73, 74, 22, 146, 147, 148, 149, 150, 151, 21, 221, 222, 223, 224, 225, 226, 227, 228, 16, 18, 229, 230, 231, 232, 19, 17, 233, 234, 235, 236, 15, 101, 102, 103, 237, 238, 239, 108, 109, 110, 111, 112, 113, 114, 115, 116, 117, 240, 241, 242, 97, 98, 99, 100, 243, 244, 245, 246, 247, 248, 249, 250, 251, 252, 253, 254, 255, 256, 257, 258, 259, 260, 261, 262, 263, 264, 265, 266, 267, 268, 269, 270, 271, 272, 327, 328, 329, 330, 331, 332, 333, 334, 335] (by decide +kernel) (by decide +kernel)) (goodIn_sub (fun _ h => List.mem_append_left _ (List.mem_append_right _ h)) (by decide +kernel))) (goodIn_sub (fun _ h => List.mem_append_right _ h) (by decide +kernel))
set_option maxRecDepth 20000 in
theorem gL_law_L_run : GoodIn wsL_law (va_wsS RL 96 yL_run wsL_run) := goodIn_app (goodIn_of _ (by decide +kernel)) ggL_law_L_run
