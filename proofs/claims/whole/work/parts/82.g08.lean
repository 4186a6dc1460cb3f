set_option maxRecDepth 20000 in
theorem ggL_law_X1_run : GoodIn wsL_law wsX1_run := goodIn_r _ [276, 52, 36, 35, 30, 53, 54, 5, 55, 56, 57, 58, 59, 60, 277, 278, 279, 280, 31, 33, 281, 282, 283, 284, 285, 286, 287, 288, 289, 290, 291, 292, 29, 293, 294, 295, 296, 297, 298, 299, 127, 128, 129, 130, 131, 132, 133, 34, 32, 134, 135, 136, 137, 300, 301, 302, 303, 304, 305, 306, 307, 308, 309, 310, 311, 312, 313, 314, 315, 336, 337, 338, 339, 340, 341, 342, 343, 344, 345, 346, 347, 348] (by decide +kernel) (by decide +kernel)
set_option maxRecDepth 20000 in
theorem gL_law_X1_run : GoodIn wsL_law (wsV RL 99 RX1 yX1_run wsX1_run) := goodIn_app (goodIn_of _ (by decide +kernel)) ggL_law_X1_run
set_option maxRecDepth 20000 in
theorem ggL_law_L_seal : GoodIn wsL_law wsL_seal := goodIn_ca (goodIn_ca (goodIn_r _ [318, 41, 141, 319, 320, 321, 2, 322, 46, 47, 19, 22, 17, 146, 147, 148, 149, 150, 151, 21, 221, 222, 223, 224, 237, 238, 239, 233, 234, 235, 236, 15, 101, 102, 103, 108, 109, 110, 111, 112, 113, 114, 115, 116, 117, 240, 241, 242, 97, 98, 99, 100, 327, 328, 329, 330, 331, 332, 333, 334, 335] (by decide +kernel) (by decide +kernel)) (goodIn_sub (fun _ h => List.mem_append_left _ (List.mem_append_left _ (List.mem_append_right _ h))) (by decide +kernel))) (goodIn_sub (fun _ h => List.mem_append_right _ h) (by decide +kernel))
set_option maxRecDepth 20000 in
theorem gL_law_L_seal : GoodIn wsL_law (va_wsS RL 100 yL_seal wsL_seal) := goodIn_app (goodIn_of _ (by decide +kernel)) ggL_law_L_seal
set_option maxRecDepth 20000 in
theorem ggL_law_X1_seal : GoodIn wsL_law wsX1_seal := goodIn_r _ [326, 52, 36, 35, 33, 31, 53, 54, 5, 55, 56, 57, 58, 59, 60, 300, 301, 302, 303, 289, 290, 291, 292, 29, 130, 131, 132, 133, 34, 32, 134, 135, 136, 137, 304, 305, 306, 307, 127, 128, 129, 336, 337, 338, 339, 340, 341, 342, 343, 344, 345, 346, 347, 348] (by decide +kernel) (by decide +kernel)
set_option maxRecDepth 20000 in
theorem gL_law_X1_seal : GoodIn wsL_law (wsV RL 102 RX1 yX1_seal wsX1_seal) := goodIn_app (goodIn_of _ (by decide +kernel)) ggL_law_X1_seal
