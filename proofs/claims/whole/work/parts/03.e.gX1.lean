set_option maxRecDepth 20000 in
theorem ggX1_through_X1_back : GoodIn wsX1_through wsX1_back := goodIn_r _ [8, 3, 9, 10, 11, 12, 13, 14, 15, 16, 17, 18, 19, 20, 21] (by decide +kernel) (by decide +kernel)
set_option maxRecDepth 20000 in
theorem gX1_through_X1_back : GoodIn wsX1_through (wsV RX1 44 RX1 yX1_back wsX1_back) := goodIn_app (goodIn_of _ (by decide +kernel)) ggX1_through_X1_back
set_option maxRecDepth 20000 in
theorem ggX1_right_X1_left : GoodIn wsX1_right wsX1_left := goodIn_r _ [4] (by decide +kernel) (by decide +kernel)
set_option maxRecDepth 20000 in
theorem gX1_right_X1_left : GoodIn wsX1_right (va_wsS RX1 48 yX1_left wsX1_left) := goodIn_app (goodIn_of _ (by decide +kernel)) ggX1_right_X1_left
set_option maxRecDepth 20000 in
theorem ggX1_key_X1_isIn : GoodIn wsX1_key wsX1_isIn := goodIn_r _ [6] (by decide +kernel) (by decide +kernel)
set_option maxRecDepth 20000 in
theorem gX1_key_X1_isIn : GoodIn wsX1_key (va_wsS RX1 51 yX1_isIn wsX1_isIn) := goodIn_app (goodIn_of _ (by decide +kernel)) ggX1_key_X1_isIn
set_option maxRecDepth 20000 in
theorem ggX1_key_X1_good : GoodIn wsX1_key wsX1_good := goodIn_r _ [10, 11, 12, 13, 14, 15, 16, 17, 18, 19, 20, 21, 22, 23, 24] (by decide +kernel) (by decide +kernel)
set_option maxRecDepth 20000 in
theorem gX1_key_X1_good : GoodIn wsX1_key (wsV RX1 55 RX1 yX1_good wsX1_good) := goodIn_app (goodIn_of _ (by decide +kernel)) ggX1_key_X1_good
set_option maxRecDepth 20000 in
theorem ggX1_size_X1_isIn : GoodIn wsX1_size wsX1_isIn := goodIn_r _ [6] (by decide +kernel) (by decide +kernel)
set_option maxRecDepth 20000 in
theorem gX1_size_X1_isIn : GoodIn wsX1_size (va_wsS RX1 51 yX1_isIn wsX1_isIn) := goodIn_app (goodIn_of _ (by decide +kernel)) ggX1_size_X1_isIn
set_option maxRecDepth 20000 in
theorem ggX1_size_X1_good : GoodIn wsX1_size wsX1_good := goodIn_r _ [10, 11, 12, 13, 14, 15, 16, 17, 18, 19, 20, 21, 22, 23, 24] (by decide +kernel) (by decide +kernel)
set_option maxRecDepth 20000 in
theorem gX1_size_X1_good : GoodIn wsX1_size (wsV RX1 55 RX1 yX1_good wsX1_good) := goodIn_app (goodIn_of _ (by decide +kernel)) ggX1_size_X1_good
set_option maxRecDepth 20000 in
theorem ggX1_ready_X1_keyByte : GoodIn wsX1_ready wsX1_keyByte := goodIn_r _ [11, 12, 13, 27, 28, 29, 30, 31, 32, 33, 34, 35, 36, 37, 38, 39] (by decide +kernel) (by decide +kernel)
set_option maxRecDepth 20000 in
theorem gX1_ready_X1_keyByte : GoodIn wsX1_ready (wsV RX1 66 RX1 yX1_keyByte wsX1_keyByte) := goodIn_app (goodIn_of _ (by decide +kernel)) ggX1_ready_X1_keyByte
set_option maxRecDepth 20000 in
theorem ggX1_ready_X1_left : GoodIn wsX1_ready wsX1_left := goodIn_r _ [16] (by decide +kernel) (by decide +kernel)
set_option maxRecDepth 20000 in
theorem gX1_ready_X1_left : GoodIn wsX1_ready (va_wsS RX1 48 yX1_left wsX1_left) := goodIn_app (goodIn_of _ (by decide +kernel)) ggX1_ready_X1_left
set_option maxRecDepth 20000 in
theorem ggX1_ready_X1_through : GoodIn wsX1_ready wsX1_through := goodIn_r _ [20, 21, 4, 22, 23, 24, 25, 10, 26, 27, 28, 29, 30, 31, 32, 33, 34, 35, 36, 37, 38, 39] (by decide +kernel) (by decide +kernel)
set_option maxRecDepth 20000 in
theorem gX1_ready_X1_through : GoodIn wsX1_ready (wsV RX1 71 RX1 yX1_through wsX1_through) := goodIn_app (goodIn_of _ (by decide +kernel)) ggX1_ready_X1_through
set_option maxRecDepth 20000 in
theorem ggX1_round_X1_isIn : GoodIn wsX1_round wsX1_isIn := goodIn_r _ [6] (by decide +kernel) (by decide +kernel)
set_option maxRecDepth 20000 in
theorem gX1_round_X1_isIn : GoodIn wsX1_round (va_wsS RX1 51 yX1_isIn wsX1_isIn) := goodIn_app (goodIn_of _ (by decide +kernel)) ggX1_round_X1_isIn
set_option maxRecDepth 20000 in
theorem ggX1_round_X1_good : GoodIn wsX1_round wsX1_good := goodIn_r _ [10, 11, 12, 13, 14, 15, 16, 17, 18, 19, 20, 21, 22, 23, 24] (by decide +kernel) (by decide +kernel)
set_option maxRecDepth 20000 in
theorem gX1_round_X1_good : GoodIn wsX1_round (wsV RX1 55 RX1 yX1_good wsX1_good) := goodIn_app (goodIn_of _ (by decide +kernel)) ggX1_round_X1_good
set_option maxRecDepth 20000 in
theorem ggX1_box_X1_isIn : GoodIn wsX1_box wsX1_isIn := goodIn_r _ [5] (by decide +kernel) (by decide +kernel)
set_option maxRecDepth 20000 in
theorem gX1_box_X1_isIn : GoodIn wsX1_box (va_wsS RX1 51 yX1_isIn wsX1_isIn) := goodIn_app (goodIn_of _ (by decide +kernel)) ggX1_box_X1_isIn
set_option maxRecDepth 20000 in
theorem ggX1_box_X1_good : GoodIn wsX1_box wsX1_good := goodIn_r _ [9, 10, 15, 16, 17, 18, 19, 20, 21, 22, 23, 24, 25, 26, 27] (by decide +kernel) (by decide +kernel)
set_option maxRecDepth 20000 in
theorem gX1_box_X1_good : GoodIn wsX1_box (wsV RX1 55 RX1 yX1_good wsX1_good) := goodIn_app (goodIn_of _ (by decide +kernel)) ggX1_box_X1_good
set_option maxRecDepth 20000 in
theorem ggX1_box_X1_back : GoodIn wsX1_box wsX1_back := goodIn_r _ [14, 1, 15, 16, 17, 18, 19, 20, 21, 22, 23, 24, 25, 26, 27] (by decide +kernel) (by decide +kernel)
set_option maxRecDepth 20000 in
theorem gX1_box_X1_back : GoodIn wsX1_box (wsV RX1 44 RX1 yX1_back wsX1_back) := goodIn_app (goodIn_of _ (by decide +kernel)) ggX1_box_X1_back
set_option maxRecDepth 20000 in
theorem ggX1_start_X1_isIn : GoodIn wsX1_start wsX1_isIn := goodIn_r _ [5] (by decide +kernel) (by decide +kernel)
set_option maxRecDepth 20000 in
theorem gX1_start_X1_isIn : GoodIn wsX1_start (va_wsS RX1 51 yX1_isIn wsX1_isIn) := goodIn_app (goodIn_of _ (by decide +kernel)) ggX1_start_X1_isIn
set_option maxRecDepth 20000 in
theorem ggX1_start_X1_good : GoodIn wsX1_start wsX1_good := goodIn_r _ [9, 10, 11, 12, 13, 14, 15, 16, 17, 18, 19, 20, 21, 22, 23] (by decide +kernel) (by decide +kernel)
set_option maxRecDepth 20000 in
theorem gX1_start_X1_good : GoodIn wsX1_start (wsV RX1 55 RX1 yX1_good wsX1_good) := goodIn_app (goodIn_of _ (by decide +kernel)) ggX1_start_X1_good
set_option maxRecDepth 20000 in
theorem ggX1_put_X1_good : GoodIn wsX1_put wsX1_good := goodIn_r _ [7, 8, 9, 10, 11, 12, 13, 14, 15, 16, 17, 18, 19, 20, 21] (by decide +kernel) (by decide +kernel)
set_option maxRecDepth 20000 in
theorem gX1_put_X1_good : GoodIn wsX1_put (wsV RX1 55 RX1 yX1_good wsX1_good) := goodIn_app (goodIn_of _ (by decide +kernel)) ggX1_put_X1_good
set_option maxRecDepth 20000 in
theorem ggX1_cut_X1_isIn : GoodIn wsX1_cut wsX1_isIn := goodIn_r _ [5] (by decide +kernel) (by decide +kernel)
set_option maxRecDepth 20000 in
theorem gX1_cut_X1_isIn : GoodIn wsX1_cut (va_wsS RX1 51 yX1_isIn wsX1_isIn) := goodIn_app (goodIn_of _ (by decide +kernel)) ggX1_cut_X1_isIn
set_option maxRecDepth 20000 in
theorem ggX1_cut_X1_good : GoodIn wsX1_cut wsX1_good := goodIn_r _ [9, 10, 11, 12, 13, 14, 15, 16, 17, 18, 19, 20, 21, 22, 23] (by decide +kernel) (by decide +kernel)
set_option maxRecDepth 20000 in
theorem gX1_cut_X1_good : GoodIn wsX1_cut (wsV RX1 55 RX1 yX1_good wsX1_good) := goodIn_app (goodIn_of _ (by decide +kernel)) ggX1_cut_X1_good
set_option maxRecDepth 20000 in
theorem ggX1_word_X1_isIn : GoodIn wsX1_word wsX1_isIn := goodIn_r _ [6] (by decide +kernel) (by decide +kernel)
set_option maxRecDepth 20000 in
theorem gX1_word_X1_isIn : GoodIn wsX1_word (va_wsS RX1 51 yX1_isIn wsX1_isIn) := goodIn_app (goodIn_of _ (by decide +kernel)) ggX1_word_X1_isIn
set_option maxRecDepth 20000 in
theorem ggX1_word_X1_good : GoodIn wsX1_word wsX1_good := goodIn_r _ [10, 11, 12, 13, 14, 15, 16, 17, 18, 19, 20, 21, 22, 23, 24] (by decide +kernel) (by decide +kernel)
set_option maxRecDepth 20000 in
theorem gX1_word_X1_good : GoodIn wsX1_word (wsV RX1 55 RX1 yX1_good wsX1_good) := goodIn_app (goodIn_of _ (by decide +kernel)) ggX1_word_X1_good
set_option maxRecDepth 20000 in
theorem ggX1_mix_X1_left : GoodIn wsX1_mix wsX1_left := goodIn_r _ [5] (by decide +kernel) (by decide +kernel)
set_option maxRecDepth 20000 in
theorem gX1_mix_X1_left : GoodIn wsX1_mix (va_wsS RX1 48 yX1_left wsX1_left) := goodIn_app (goodIn_of _ (by decide +kernel)) ggX1_mix_X1_left
set_option maxRecDepth 20000 in
theorem ggX1_unmix_X1_right : GoodIn wsX1_unmix wsX1_right := goodIn_r _ [5, 6, 7, 4, 8] (by decide +kernel) (by decide +kernel)
set_option maxRecDepth 20000 in
theorem gX1_unmix_X1_right : GoodIn wsX1_unmix (va_wsS RX1 75 yX1_right wsX1_right) := goodIn_app (goodIn_of _ (by decide +kernel)) ggX1_unmix_X1_right
set_option maxRecDepth 20000 in
theorem ggX1_forth_X1_xor : GoodIn wsX1_forth wsX1_xor := goodIn_r _ [5, 6, 7, 25, 26, 27, 28, 29, 30, 31, 32, 33, 34, 35, 36, 37] (by decide +kernel) (by decide +kernel)
set_option maxRecDepth 20000 in
theorem gX1_forth_X1_xor : GoodIn wsX1_forth (wsV RX1 78 RX1 yX1_xor wsX1_xor) := goodIn_app (goodIn_of _ (by decide +kernel)) ggX1_forth_X1_xor
set_option maxRecDepth 20000 in
theorem ggX1_forth_X1_through : GoodIn wsX1_forth wsX1_through := goodIn_r _ [11, 12, 6, 13, 14, 15, 16, 4, 17, 25, 26, 27, 28, 29, 30, 31, 32, 33, 34, 35, 36, 37] (by decide +kernel) (by decide +kernel)
set_option maxRecDepth 20000 in
theorem gX1_forth_X1_through : GoodIn wsX1_forth (wsV RX1 71 RX1 yX1_through wsX1_through) := goodIn_app (goodIn_of _ (by decide +kernel)) ggX1_forth_X1_through
set_option maxRecDepth 20000 in
theorem ggX1_forth_X1_mix : GoodIn wsX1_forth wsX1_mix := goodIn_r _ [21, 6, 22, 23, 4, 24, 25, 26, 27, 28, 29, 30, 31, 32, 33, 34, 35, 36, 37] (by decide +kernel) (by decide +kernel)
set_option maxRecDepth 20000 in
theorem gX1_forth_X1_mix : GoodIn wsX1_forth (wsV RX1 82 RX1 yX1_mix wsX1_mix) := goodIn_app (goodIn_of _ (by decide +kernel)) ggX1_forth_X1_mix
set_option maxRecDepth 20000 in
theorem ggX1_undo_X1_xor : GoodIn wsX1_undo wsX1_xor := goodIn_r _ [5, 6, 7, 28, 29, 30, 31, 32, 33, 34, 35, 36, 37, 38, 39, 40] (by decide +kernel) (by decide +kernel)
set_option maxRecDepth 20000 in
theorem gX1_undo_X1_xor : GoodIn wsX1_undo (wsV RX1 78 RX1 yX1_xor wsX1_xor) := goodIn_app (goodIn_of _ (by decide +kernel)) ggX1_undo_X1_xor
set_option maxRecDepth 20000 in
theorem ggX1_undo_X1_unmix : GoodIn wsX1_undo wsX1_unmix := goodIn_r _ [11, 6, 12, 13, 4, 14, 15, 16, 17, 28, 29, 30, 31, 32, 33, 34, 35, 36, 37, 38, 39, 40] (by decide +kernel) (by decide +kernel)
set_option maxRecDepth 20000 in
theorem gX1_undo_X1_unmix : GoodIn wsX1_undo (wsV RX1 85 RX1 yX1_unmix wsX1_unmix) := goodIn_app (goodIn_of _ (by decide +kernel)) ggX1_undo_X1_unmix
set_option maxRecDepth 20000 in
theorem ggX1_undo_X1_through : GoodIn wsX1_undo wsX1_through := goodIn_r _ [21, 22, 6, 23, 24, 25, 26, 4, 27, 28, 29, 30, 31, 32, 33, 34, 35, 36, 37, 38, 39, 40] (by decide +kernel) (by decide +kernel)
set_option maxRecDepth 20000 in
theorem gX1_undo_X1_through : GoodIn wsX1_undo (wsV RX1 71 RX1 yX1_through wsX1_through) := goodIn_app (goodIn_of _ (by decide +kernel)) ggX1_undo_X1_through
set_option maxRecDepth 20000 in
theorem ggX1_alone_X1_load : GoodIn wsX1_alone wsX1_load := goodIn_r _ [7, 2, 1, 45, 46, 47, 48, 49, 50, 51, 52, 53, 54, 55, 56, 57] (by decide +kernel) (by decide +kernel)
set_option maxRecDepth 20000 in
theorem gX1_alone_X1_load : GoodIn wsX1_alone (wsV RX1 88 RX1 yX1_load wsX1_load) := goodIn_app (goodIn_of _ (by decide +kernel)) ggX1_alone_X1_load
set_option maxRecDepth 20000 in
theorem ggX1_alone_X1_undo : GoodIn wsX1_alone wsX1_undo := goodIn_r _ [11, 12, 13, 14, 6, 15, 2, 16, 17, 18, 19, 20, 21, 22, 23, 24, 25, 26, 27, 28, 29, 30, 31, 32, 33, 34, 35, 36, 45, 46, 47, 48, 49, 50, 51, 52, 53, 54, 55, 56, 57] (by decide +kernel) (by decide +kernel)
set_option maxRecDepth 20000 in
theorem gX1_alone_X1_undo : GoodIn wsX1_alone (wsV RX1 91 RX1 yX1_undo wsX1_undo) := goodIn_app (goodIn_of _ (by decide +kernel)) ggX1_alone_X1_undo
set_option maxRecDepth 20000 in
theorem ggX1_alone_X1_forth : GoodIn wsX1_alone wsX1_forth := goodIn_r _ [40, 12, 13, 14, 6, 15, 2, 16, 27, 28, 29, 30, 31, 32, 33, 34, 35, 36, 41, 42, 43, 44, 24, 25, 26, 45, 46, 47, 48, 49, 50, 51, 52, 53, 54, 55, 56, 57] (by decide +kernel) (by decide +kernel)
set_option maxRecDepth 20000 in
theorem gX1_alone_X1_forth : GoodIn wsX1_alone (wsV RX1 94 RX1 yX1_forth wsX1_forth) := goodIn_app (goodIn_of _ (by decide +kernel)) ggX1_alone_X1_forth
set_option maxRecDepth 20000 in
theorem ggX1_chained_X1_alone : GoodIn wsX1_chained wsX1_alone := goodIn_r _ [8, 2, 9, 10, 11, 12, 7, 13, 14, 15, 16, 17, 18, 19, 20, 21, 22, 23, 24, 25, 26, 27, 28, 29, 30, 31, 32, 33, 34, 35, 36, 1, 37, 38, 39, 40, 41, 42, 43, 44, 45, 46, 47, 48, 49, 50, 51, 52, 53, 54, 55, 56, 57, 58, 59, 60, 61, 62] (by decide +kernel) (by decide +kernel)
set_option maxRecDepth 20000 in
theorem gX1_chained_X1_alone : GoodIn wsX1_chained (wsV RX1 97 RX1 yX1_alone wsX1_alone) := goodIn_app (goodIn_of _ (by decide +kernel)) ggX1_chained_X1_alone
set_option maxRecDepth 20000 in
theorem ggX1_counted_X1_forth : GoodIn wsX1_counted wsX1_forth := goodIn_r _ [8, 9, 10, 11, 7, 12, 1, 13, 14, 15, 16, 17, 18, 19, 20, 21, 22, 23, 24, 25, 26, 27, 28, 29, 30, 31, 32, 33, 34, 35, 36, 37, 38, 39, 40, 41, 42, 43] (by decide +kernel) (by decide +kernel)
set_option maxRecDepth 20000 in
theorem gX1_counted_X1_forth : GoodIn wsX1_counted (wsV RX1 94 RX1 yX1_forth wsX1_forth) := goodIn_app (goodIn_of _ (by decide +kernel)) ggX1_counted_X1_forth
set_option maxRecDepth 20000 in
theorem ggX1_run_X1_isIn : GoodIn wsX1_run wsX1_isIn := goodIn_r _ [8] (by decide +kernel) (by decide +kernel)
set_option maxRecDepth 20000 in
theorem gX1_run_X1_isIn : GoodIn wsX1_run (va_wsS RX1 51 yX1_isIn wsX1_isIn) := goodIn_app (goodIn_of _ (by decide +kernel)) ggX1_run_X1_isIn
set_option maxRecDepth 20000 in
theorem ggX1_run_X1_good : GoodIn wsX1_run wsX1_good := goodIn_r _ [12, 13, 69, 70, 71, 72, 73, 74, 75, 76, 77, 78, 79, 80, 81] (by decide +kernel) (by decide +kernel)
set_option maxRecDepth 20000 in
theorem gX1_run_X1_good : GoodIn wsX1_run (wsV RX1 55 RX1 yX1_good wsX1_good) := goodIn_app (goodIn_of _ (by decide +kernel)) ggX1_run_X1_good
set_option maxRecDepth 20000 in
theorem ggX1_run_X1_alone : GoodIn wsX1_run wsX1_alone := goodIn_r _ [17, 18, 19, 20, 21, 22, 7, 23, 24, 25, 26, 27, 28, 29, 30, 31, 32, 33, 34, 35, 36, 37, 38, 39, 40, 41, 42, 43, 44, 45, 46, 47, 48, 49, 50, 51, 52, 53, 54, 55, 56, 57, 58, 59, 60, 69, 70, 71, 72, 73, 74, 75, 76, 77, 78, 79, 80, 81] (by decide +kernel) (by decide +kernel)
set_option maxRecDepth 20000 in
theorem gX1_run_X1_alone : GoodIn wsX1_run (wsV RX1 97 RX1 yX1_alone wsX1_alone) := goodIn_app (goodIn_of _ (by decide +kernel)) ggX1_run_X1_alone
set_option maxRecDepth 20000 in
theorem ggX1_run_X1_chained : GoodIn wsX1_run wsX1_chained := goodIn_r _ [64, 47, 18, 3, 14, 15, 16, 7, 17, 19, 20, 21, 22, 23, 24, 25, 26, 27, 28, 29, 30, 31, 32, 33, 34, 35, 36, 37, 38, 39, 40, 41, 42, 43, 44, 45, 46, 48, 49, 50, 51, 52, 53, 54, 55, 56, 57, 58, 59, 60, 69, 70, 71, 72, 73, 74, 75, 76, 77, 78, 79, 80, 81] (by decide +kernel) (by decide +kernel)
set_option maxRecDepth 20000 in
theorem gX1_run_X1_chained : GoodIn wsX1_run (wsV RX1 100 RX1 yX1_chained wsX1_chained) := goodIn_app (goodIn_of _ (by decide +kernel)) ggX1_run_X1_chained
set_option maxRecDepth 20000 in
theorem ggX1_run_X1_counted : GoodIn wsX1_run wsX1_counted := goodIn_r _ [68, 19, 3, 18, 53, 54, 55, 7, 56, 28, 29, 30, 31, 32, 43, 44, 45, 46, 47, 48, 49, 50, 51, 52, 57, 58, 59, 60, 40, 41, 42, 69, 70, 71, 72, 73, 74, 75, 76, 77, 78, 79, 80, 81] (by decide +kernel) (by decide +kernel)
set_option maxRecDepth 20000 in
theorem gX1_run_X1_counted : GoodIn wsX1_run (wsV RX1 103 RX1 yX1_counted wsX1_counted) := goodIn_app (goodIn_of _ (by decide +kernel)) ggX1_run_X1_counted
set_option maxRecDepth 20000 in
theorem ggX1_seal_X1_isIn : GoodIn wsX1_seal wsX1_isIn := goodIn_r _ [9] (by decide +kernel) (by decide +kernel)
set_option maxRecDepth 20000 in
theorem gX1_seal_X1_isIn : GoodIn wsX1_seal (va_wsS RX1 51 yX1_isIn wsX1_isIn) := goodIn_app (goodIn_of _ (by decide +kernel)) ggX1_seal_X1_isIn
set_option maxRecDepth 20000 in
theorem ggX1_seal_X1_good : GoodIn wsX1_seal wsX1_good := goodIn_r _ [13, 14, 41, 42, 43, 44, 45, 46, 47, 48, 49, 50, 51, 52, 53] (by decide +kernel) (by decide +kernel)
set_option maxRecDepth 20000 in
theorem gX1_seal_X1_good : GoodIn wsX1_seal (wsV RX1 55 RX1 yX1_good wsX1_good) := goodIn_app (goodIn_of _ (by decide +kernel)) ggX1_seal_X1_good
set_option maxRecDepth 20000 in
theorem ggX1_seal_X1_forth : GoodIn wsX1_seal wsX1_forth := goodIn_r _ [18, 19, 20, 21, 8, 22, 4, 23, 24, 25, 26, 27, 28, 29, 30, 31, 32, 33, 34, 35, 36, 37, 38, 39, 40, 41, 42, 43, 44, 45, 46, 47, 48, 49, 50, 51, 52, 53] (by decide +kernel) (by decide +kernel)
set_option maxRecDepth 20000 in
theorem gX1_seal_X1_forth : GoodIn wsX1_seal (wsV RX1 94 RX1 yX1_forth wsX1_forth) := goodIn_app (goodIn_of _ (by decide +kernel)) ggX1_seal_X1_forth
