set_option maxRecDepth 20000 in
theorem ggX0_ready_X0_paddedKeyWord : GoodIn wsX0_ready wsX0_paddedKeyWord := goodIn_r _ [7, 8, 9, 10, 6, 11, 12, 13, 40, 41, 42, 43, 44, 45, 46, 47, 48] (by decide +kernel) (by decide +kernel)
set_option maxRecDepth 20000 in
theorem gX0_ready_X0_paddedKeyWord : GoodIn wsX0_ready (wsV RX0 51 RX0 yX0_paddedKeyWord wsX0_paddedKeyWord) := goodIn_app (goodIn_of _ (by decide +kernel)) ggX0_ready_X0_paddedKeyWord
set_option maxRecDepth 20000 in
theorem ggX0_ready_X0_spreadKey : GoodIn wsX0_ready wsX0_spreadKey := goodIn_r _ [17, 1, 18, 19, 20, 21, 22, 40, 41, 42, 43, 44, 45, 46, 47, 48] (by decide +kernel) (by decide +kernel)
set_option maxRecDepth 20000 in
theorem gX0_ready_X0_spreadKey : GoodIn wsX0_ready (wsV RX0 55 RX0 yX0_spreadKey wsX0_spreadKey) := goodIn_app (goodIn_of _ (by decide +kernel)) ggX0_ready_X0_spreadKey
set_option maxRecDepth 20000 in
theorem ggX0_ready_X0_roundKeyAt : GoodIn wsX0_ready wsX0_roundKeyAt := goodIn_r _ [25] (by decide +kernel) (by decide +kernel)
set_option maxRecDepth 20000 in
theorem gX0_ready_X0_roundKeyAt : GoodIn wsX0_ready (va_wsS RX0 58 yX0_roundKeyAt wsX0_roundKeyAt) := goodIn_app (goodIn_of _ (by decide +kernel)) ggX0_ready_X0_roundKeyAt
set_option maxRecDepth 20000 in
theorem ggX0_ready_J9_floorMod_7cf53 : GoodIn wsX0_ready wsJ9_floorMod_7cf53 := goodIn_r _ [29] (by decide +kernel) (by decide +kernel)
set_option maxRecDepth 20000 in
theorem gX0_ready_J9_floorMod_7cf53 : GoodIn wsX0_ready (va_wsS RX0 61 yJ9_floorMod_7cf53 wsJ9_floorMod_7cf53) := goodIn_app (goodIn_of _ (by decide +kernel)) ggX0_ready_J9_floorMod_7cf53
set_option maxRecDepth 20000 in
theorem ggX0_ready_X0_passBox : GoodIn wsX0_ready wsX0_passBox := goodIn_r _ [32, 33, 34, 35, 6, 36, 37, 38, 39] (by decide +kernel) (by decide +kernel)
set_option maxRecDepth 20000 in
theorem gX0_ready_X0_passBox : GoodIn wsX0_ready (va_wsS RX0 67 yX0_passBox wsX0_passBox) := goodIn_app (goodIn_of _ (by decide +kernel)) ggX0_ready_X0_passBox
set_option maxRecDepth 20000 in
theorem ggX0_round_X0_needReadyKey : GoodIn wsX0_round wsX0_needReadyKey := goodIn_ca (goodIn_r _ [8, 9, 10, 11, 15, 16, 17, 18, 19, 20, 21, 22, 23] (by decide +kernel) (by decide +kernel)) (goodIn_sub (fun _ h => List.mem_cons_of_mem _ (List.mem_append_right _ h)) (by decide +kernel))
set_option maxRecDepth 20000 in
theorem gX0_round_X0_needReadyKey : GoodIn wsX0_round (wsV RX0 73 RX0 yX0_needReadyKey wsX0_needReadyKey) := goodIn_app (goodIn_of _ (by decide +kernel)) ggX0_round_X0_needReadyKey
set_option maxRecDepth 20000 in
theorem ggX0_round_X0_roundKeyAt : GoodIn wsX0_round wsX0_roundKeyAt := goodIn_r _ [14] (by decide +kernel) (by decide +kernel)
set_option maxRecDepth 20000 in
theorem gX0_round_X0_roundKeyAt : GoodIn wsX0_round (va_wsS RX0 58 yX0_roundKeyAt wsX0_roundKeyAt) := goodIn_app (goodIn_of _ (by decide +kernel)) ggX0_round_X0_roundKeyAt
set_option maxRecDepth 20000 in
theorem ggX0_box_X0_sourceInBox : GoodIn wsX0_box wsX0_sourceInBox := goodIn_r _ [9, 5] (by decide +kernel) (by decide +kernel)
set_option maxRecDepth 20000 in
theorem gX0_box_X0_sourceInBox : GoodIn wsX0_box (va_wsS RX0 80 yX0_sourceInBox wsX0_sourceInBox) := goodIn_app (goodIn_of _ (by decide +kernel)) ggX0_box_X0_sourceInBox
set_option maxRecDepth 20000 in
theorem ggX0_run_X0_needReadyKey : GoodIn wsX0_run wsX0_needReadyKey := goodIn_ca (goodIn_r _ [8, 9, 10, 11, 86, 87, 88, 89, 90, 91, 92, 93, 94] (by decide +kernel) (by decide +kernel)) (goodIn_sub (fun _ h => List.mem_cons_of_mem _ (List.mem_append_right _ h)) (by decide +kernel))
set_option maxRecDepth 20000 in
theorem gX0_run_X0_needReadyKey : GoodIn wsX0_run (wsV RX0 73 RX0 yX0_needReadyKey wsX0_needReadyKey) := goodIn_app (goodIn_of _ (by decide +kernel)) ggX0_run_X0_needReadyKey
set_option maxRecDepth 20000 in
theorem ggX0_run_X0_needWholeBlocks : GoodIn wsX0_run wsX0_needWholeBlocks := goodIn_ca (goodIn_r _ [15, 9, 10, 3, 86, 87, 88, 89, 90, 91, 92, 93, 94] (by decide +kernel) (by decide +kernel)) (goodIn_sub (fun _ h => List.mem_cons_of_mem _ (List.mem_append_right _ h)) (by decide +kernel))
set_option maxRecDepth 20000 in
theorem gX0_run_X0_needWholeBlocks : GoodIn wsX0_run (wsV RX0 99 RX0 yX0_needWholeBlocks wsX0_needWholeBlocks) := goodIn_app (goodIn_of _ (by decide +kernel)) ggX0_run_X0_needWholeBlocks
set_option maxRecDepth 20000 in
theorem ggX0_run_X0_maskByCounter : GoodIn wsX0_run wsX0_maskByCounter := goodIn_r _ [19, 20, 21, 22, 23, 24, 25, 3, 26, 27, 28, 29, 30, 7, 31, 32, 33, 34, 35, 36, 37, 38, 39, 40, 41, 42, 43, 44, 45, 46, 47, 48, 49, 50, 51, 52, 53, 54, 55, 56, 57, 58, 59, 86, 87, 88, 89, 90, 91, 92, 93, 94] (by decide +kernel) (by decide +kernel)
set_option maxRecDepth 20000 in
theorem gX0_run_X0_maskByCounter : GoodIn wsX0_run (wsV RX0 102 RX0 yX0_maskByCounter wsX0_maskByCounter) := goodIn_app (goodIn_of _ (by decide +kernel)) ggX0_run_X0_maskByCounter
set_option maxRecDepth 20000 in
theorem ggX0_run_X0_unchainTape : GoodIn wsX0_run wsX0_unchainTape := goodIn_r _ [63, 3, 27, 64, 65, 66, 7, 67, 32, 33, 34, 35, 36, 37, 38, 68, 69, 70, 71, 72, 54, 73, 39, 40, 41, 42, 43, 44, 45, 46, 47, 48, 74, 75, 76, 77, 20, 86, 87, 88, 89, 90, 91, 92, 93, 94] (by decide +kernel) (by decide +kernel)
set_option maxRecDepth 20000 in
theorem gX0_run_X0_unchainTape : GoodIn wsX0_run (wsV RX0 105 RX0 yX0_unchainTape wsX0_unchainTape) := goodIn_app (goodIn_of _ (by decide +kernel)) ggX0_run_X0_unchainTape
set_option maxRecDepth 20000 in
theorem ggX0_run_X0_chainTape : GoodIn wsX0_run wsX0_chainTape := goodIn_r _ [81, 3, 27, 74, 75, 76, 7, 77, 20, 36, 37, 38, 28, 29, 30, 31, 32, 33, 34, 35, 39, 40, 41, 42, 43, 44, 45, 46, 47, 48, 49, 50, 51, 52, 53, 54, 55, 86, 87, 88, 89, 90, 91, 92, 93, 94] (by decide +kernel) (by decide +kernel)
set_option maxRecDepth 20000 in
theorem gX0_run_X0_chainTape : GoodIn wsX0_run (wsV RX0 108 RX0 yX0_chainTape wsX0_chainTape) := goodIn_app (goodIn_of _ (by decide +kernel)) ggX0_run_X0_chainTape
set_option maxRecDepth 20000 in
theorem ggX0_run_X0_changeEachBlock : GoodIn wsX0_run wsX0_changeEachBlock := goodIn_r _ [85, 3, 27, 64, 65, 66, 7, 67, 32, 33, 34, 35, 36, 37, 38, 68, 69, 70, 71, 72, 54, 73, 39, 40, 41, 42, 43, 44, 45, 46, 47, 48, 28, 29, 30, 31, 49, 50, 51, 52, 53, 55, 86, 87, 88, 89, 90, 91, 92, 93, 94] (by decide +kernel) (by decide +kernel)
set_option maxRecDepth 20000 in
theorem gX0_run_X0_changeEachBlock : GoodIn wsX0_run (wsV RX0 111 RX0 yX0_changeEachBlock wsX0_changeEachBlock) := goodIn_app (goodIn_of _ (by decide +kernel)) ggX0_run_X0_changeEachBlock
set_option maxRecDepth 20000 in
theorem ggX0_seal_X0_needReadyKey : GoodIn wsX0_seal wsX0_needReadyKey := goodIn_ca (goodIn_r _ [10, 11, 12, 13, 46, 47, 48, 49, 50, 51, 52, 53, 54] (by decide +kernel) (by decide +kernel)) (goodIn_sub (fun _ h => List.mem_cons_of_mem _ (List.mem_append_right _ h)) (by decide +kernel))
set_option maxRecDepth 20000 in
theorem gX0_seal_X0_needReadyKey : GoodIn wsX0_seal (wsV RX0 73 RX0 yX0_needReadyKey wsX0_needReadyKey) := goodIn_app (goodIn_of _ (by decide +kernel)) ggX0_seal_X0_needReadyKey
set_option maxRecDepth 20000 in
theorem ggX0_seal_X0_needWholeBlocks : GoodIn wsX0_seal wsX0_needWholeBlocks := goodIn_ca (goodIn_r _ [17, 11, 12, 4, 46, 47, 48, 49, 50, 51, 52, 53, 54] (by decide +kernel) (by decide +kernel)) (goodIn_sub (fun _ h => List.mem_cons_of_mem _ (List.mem_append_right _ h)) (by decide +kernel))
set_option maxRecDepth 20000 in
theorem gX0_seal_X0_needWholeBlocks : GoodIn wsX0_seal (wsV RX0 99 RX0 yX0_needWholeBlocks wsX0_needWholeBlocks) := goodIn_app (goodIn_of _ (by decide +kernel)) ggX0_seal_X0_needWholeBlocks
set_option maxRecDepth 20000 in
theorem ggX0_seal_X0_xorBlock : GoodIn wsX0_seal wsX0_xorBlock := goodIn_r _ [20] (by decide +kernel) (by decide +kernel)
set_option maxRecDepth 20000 in
theorem gX0_seal_X0_xorBlock : GoodIn wsX0_seal (va_wsS RX0 117 yX0_xorBlock wsX0_xorBlock) := goodIn_app (goodIn_of _ (by decide +kernel)) ggX0_seal_X0_xorBlock
set_option maxRecDepth 20000 in
theorem ggX0_seal_X0_encipher : GoodIn wsX0_seal wsX0_encipher := goodIn_r _ [24, 25, 26, 27, 9, 28, 18, 19, 20, 29, 30, 31, 32, 33, 34, 35, 36, 37, 38, 39, 40, 41, 42, 43, 44, 45, 46, 47, 48, 49, 50, 51, 52, 53, 54] (by decide +kernel) (by decide +kernel)
set_option maxRecDepth 20000 in
theorem gX0_seal_X0_encipher : GoodIn wsX0_seal (wsV RX0 121 RX0 yX0_encipher wsX0_encipher) := goodIn_app (goodIn_of _ (by decide +kernel)) ggX0_seal_X0_encipher
set_option maxRecDepth 20000 in
theorem ggX0_paddedKeyWord_X0_paddedKeyByte : GoodIn wsX0_paddedKeyWord wsX0_paddedKeyByte := goodIn_r _ [5, 6, 7, 8, 9, 10, 11, 12, 13, 14, 15, 16] (by decide +kernel) (by decide +kernel)
set_option maxRecDepth 20000 in
theorem gX0_paddedKeyWord_X0_paddedKeyByte : GoodIn wsX0_paddedKeyWord (wsV RX0 129 RX0 yX0_paddedKeyByte wsX0_paddedKeyByte) := goodIn_app (goodIn_of _ (by decide +kernel)) ggX0_paddedKeyWord_X0_paddedKeyByte
set_option maxRecDepth 20000 in
theorem ggX0_spreadKey_J6_rotateLeft_7cf53 : GoodIn wsX0_spreadKey wsJ6_rotateLeft_7cf53 := goodIn_r _ [6] (by decide +kernel) (by decide +kernel)
set_option maxRecDepth 20000 in
theorem gX0_spreadKey_J6_rotateLeft_7cf53 : GoodIn wsX0_spreadKey (va_wsS RX0 133 yJ6_rotateLeft_7cf53 wsJ6_rotateLeft_7cf53) := goodIn_app (goodIn_of _ (by decide +kernel)) ggX0_spreadKey_J6_rotateLeft_7cf53
set_option maxRecDepth 20000 in
theorem ggX0_changeEachBlock_X0_decipher : GoodIn wsX0_changeEachBlock wsX0_decipher := goodIn_r _ [7, 8, 9, 10, 6, 11, 12, 13, 14, 15, 16, 17, 18, 19, 20, 21, 22, 23, 24, 25, 26, 27, 28, 29, 30, 31, 42, 43, 44, 45, 46, 47, 48, 49, 50] (by decide +kernel) (by decide +kernel)
set_option maxRecDepth 20000 in
theorem gX0_changeEachBlock_X0_decipher : GoodIn wsX0_changeEachBlock (wsV RX0 138 RX0 yX0_decipher wsX0_decipher) := goodIn_app (goodIn_of _ (by decide +kernel)) ggX0_changeEachBlock_X0_decipher
set_option maxRecDepth 20000 in
theorem ggX0_changeEachBlock_X0_encipher : GoodIn wsX0_changeEachBlock wsX0_encipher := goodIn_r _ [35, 8, 9, 10, 6, 11, 12, 13, 14, 22, 23, 24, 25, 26, 27, 28, 29, 30, 31, 36, 37, 38, 39, 40, 20, 41, 42, 43, 44, 45, 46, 47, 48, 49, 50] (by decide +kernel) (by decide +kernel)
set_option maxRecDepth 20000 in
theorem gX0_changeEachBlock_X0_encipher : GoodIn wsX0_changeEachBlock (wsV RX0 121 RX0 yX0_encipher wsX0_encipher) := goodIn_app (goodIn_of _ (by decide +kernel)) ggX0_changeEachBlock_X0_encipher
set_option maxRecDepth 20000 in
theorem ggX0_chainTape_X0_xorWithOneBefore : GoodIn wsX0_chainTape wsX0_xorWithOneBefore := goodIn_r _ [7, 2, 8, 9, 10, 6, 11, 37, 38, 39, 40, 41, 42, 43, 44, 45] (by decide +kernel) (by decide +kernel)
set_option maxRecDepth 20000 in
theorem gX0_chainTape_X0_xorWithOneBefore : GoodIn wsX0_chainTape (wsV RX0 141 RX0 yX0_xorWithOneBefore wsX0_xorWithOneBefore) := goodIn_app (goodIn_of _ (by decide +kernel)) ggX0_chainTape_X0_xorWithOneBefore
set_option maxRecDepth 20000 in
theorem ggX0_chainTape_X0_encipher : GoodIn wsX0_chainTape wsX0_encipher := goodIn_r _ [15, 16, 17, 18, 6, 19, 9, 10, 11, 20, 21, 22, 23, 24, 25, 26, 27, 28, 29, 30, 31, 32, 33, 34, 35, 36, 37, 38, 39, 40, 41, 42, 43, 44, 45] (by decide +kernel) (by decide +kernel)
set_option maxRecDepth 20000 in
theorem gX0_chainTape_X0_encipher : GoodIn wsX0_chainTape (wsV RX0 121 RX0 yX0_encipher wsX0_encipher) := goodIn_app (goodIn_of _ (by decide +kernel)) ggX0_chainTape_X0_encipher
set_option maxRecDepth 20000 in
theorem ggX0_unchainTape_X0_decipher : GoodIn wsX0_unchainTape wsX0_decipher := goodIn_r _ [7, 8, 9, 10, 6, 11, 12, 13, 14, 15, 16, 17, 18, 19, 20, 21, 22, 23, 24, 25, 26, 27, 28, 29, 30, 31, 37, 38, 39, 40, 41, 42, 43, 44, 45] (by decide +kernel) (by decide +kernel)
set_option maxRecDepth 20000 in
theorem gX0_unchainTape_X0_decipher : GoodIn wsX0_unchainTape (wsV RX0 138 RX0 yX0_decipher wsX0_decipher) := goodIn_app (goodIn_of _ (by decide +kernel)) ggX0_unchainTape_X0_decipher
set_option maxRecDepth 20000 in
theorem ggX0_unchainTape_X0_xorWithOneBefore : GoodIn wsX0_unchainTape wsX0_xorWithOneBefore := goodIn_r _ [35, 2, 36, 12, 13, 6, 14, 37, 38, 39, 40, 41, 42, 43, 44, 45] (by decide +kernel) (by decide +kernel)
set_option maxRecDepth 20000 in
theorem gX0_unchainTape_X0_xorWithOneBefore : GoodIn wsX0_unchainTape (wsV RX0 141 RX0 yX0_xorWithOneBefore wsX0_xorWithOneBefore) := goodIn_app (goodIn_of _ (by decide +kernel)) ggX0_unchainTape_X0_xorWithOneBefore
set_option maxRecDepth 20000 in
theorem ggX0_xorWithOneBefore_X0_xorBlock : GoodIn wsX0_xorWithOneBefore wsX0_xorBlock := goodIn_r _ [6] (by decide +kernel) (by decide +kernel)
set_option maxRecDepth 20000 in
theorem gX0_xorWithOneBefore_X0_xorBlock : GoodIn wsX0_xorWithOneBefore (va_wsS RX0 117 yX0_xorBlock wsX0_xorBlock) := goodIn_app (goodIn_of _ (by decide +kernel)) ggX0_xorWithOneBefore_X0_xorBlock
set_option maxRecDepth 20000 in
theorem ggX0_maskByCounter_X0_encipher : GoodIn wsX0_maskByCounter wsX0_encipher := goodIn_r _ [14, 15, 16, 17, 13, 18, 19, 20, 21, 22, 23, 24, 25, 26, 27, 28, 29, 30, 31, 32, 33, 34, 35, 36, 37, 38, 43, 44, 45, 46, 47, 48, 49, 50, 51] (by decide +kernel) (by decide +kernel)
set_option maxRecDepth 20000 in
theorem gX0_maskByCounter_X0_encipher : GoodIn wsX0_maskByCounter (wsV RX0 121 RX0 yX0_encipher wsX0_encipher) := goodIn_app (goodIn_of _ (by decide +kernel)) ggX0_maskByCounter_X0_encipher
set_option maxRecDepth 20000 in
theorem ggX0_maskByCounter_X0_xorBlock : GoodIn wsX0_maskByCounter wsX0_xorBlock := goodIn_r _ [21] (by decide +kernel) (by decide +kernel)
set_option maxRecDepth 20000 in
theorem gX0_maskByCounter_X0_xorBlock : GoodIn wsX0_maskByCounter (va_wsS RX0 117 yX0_xorBlock wsX0_xorBlock) := goodIn_app (goodIn_of _ (by decide +kernel)) ggX0_maskByCounter_X0_xorBlock
set_option maxRecDepth 20000 in
theorem ggX0_maskByCounter_X0_countOneMore : GoodIn wsX0_maskByCounter wsX0_countOneMore := goodIn_r _ [42, 2, 43, 44, 45, 46, 47, 48, 49, 50, 51] (by decide +kernel) (by decide +kernel)
set_option maxRecDepth 20000 in
theorem gX0_maskByCounter_X0_countOneMore : GoodIn wsX0_maskByCounter (wsV RX0 151 RX0 yX0_countOneMore wsX0_countOneMore) := goodIn_app (goodIn_of _ (by decide +kernel)) ggX0_maskByCounter_X0_countOneMore
set_option maxRecDepth 20000 in
theorem ggX0_encipher_X0_roundKeyAt : GoodIn wsX0_encipher wsX0_roundKeyAt := goodIn_r _ [5] (by decide +kernel) (by decide +kernel)
set_option maxRecDepth 20000 in
theorem gX0_encipher_X0_roundKeyAt : GoodIn wsX0_encipher (va_wsS RX0 58 yX0_roundKeyAt wsX0_roundKeyAt) := goodIn_app (goodIn_of _ (by decide +kernel)) ggX0_encipher_X0_roundKeyAt
set_option maxRecDepth 20000 in
theorem ggX0_encipher_X0_xorBlock : GoodIn wsX0_encipher wsX0_xorBlock := goodIn_r _ [8] (by decide +kernel) (by decide +kernel)
set_option maxRecDepth 20000 in
theorem gX0_encipher_X0_xorBlock : GoodIn wsX0_encipher (va_wsS RX0 117 yX0_xorBlock wsX0_xorBlock) := goodIn_app (goodIn_of _ (by decide +kernel)) ggX0_encipher_X0_xorBlock
set_option maxRecDepth 20000 in
theorem ggX0_encipher_X0_passBox : GoodIn wsX0_encipher wsX0_passBox := goodIn_r _ [11, 12, 13, 14, 4, 15, 16, 17, 18] (by decide +kernel) (by decide +kernel)
set_option maxRecDepth 20000 in
theorem gX0_encipher_X0_passBox : GoodIn wsX0_encipher (va_wsS RX0 67 yX0_passBox wsX0_passBox) := goodIn_app (goodIn_of _ (by decide +kernel)) ggX0_encipher_X0_passBox
set_option maxRecDepth 20000 in
theorem ggX0_encipher_X0_mix : GoodIn wsX0_encipher wsX0_mix := goodIn_r _ [21, 22, 23, 24, 25] (by decide +kernel) (by decide +kernel)
set_option maxRecDepth 20000 in
theorem gX0_encipher_X0_mix : GoodIn wsX0_encipher (va_wsS RX0 154 yX0_mix wsX0_mix) := goodIn_app (goodIn_of _ (by decide +kernel)) ggX0_encipher_X0_mix
set_option maxRecDepth 20000 in
theorem ggX0_decipher_X0_roundKeyAt : GoodIn wsX0_decipher wsX0_roundKeyAt := goodIn_r _ [5] (by decide +kernel) (by decide +kernel)
set_option maxRecDepth 20000 in
theorem gX0_decipher_X0_roundKeyAt : GoodIn wsX0_decipher (va_wsS RX0 58 yX0_roundKeyAt wsX0_roundKeyAt) := goodIn_app (goodIn_of _ (by decide +kernel)) ggX0_decipher_X0_roundKeyAt
set_option maxRecDepth 20000 in
theorem ggX0_decipher_X0_xorBlock : GoodIn wsX0_decipher wsX0_xorBlock := goodIn_r _ [8] (by decide +kernel) (by decide +kernel)
set_option maxRecDepth 20000 in
theorem gX0_decipher_X0_xorBlock : GoodIn wsX0_decipher (va_wsS RX0 117 yX0_xorBlock wsX0_xorBlock) := goodIn_app (goodIn_of _ (by decide +kernel)) ggX0_decipher_X0_xorBlock
set_option maxRecDepth 20000 in
theorem ggX0_decipher_X0_unmix : GoodIn wsX0_decipher wsX0_unmix := goodIn_r _ [11, 12, 13, 14, 15] (by decide +kernel) (by decide +kernel)
set_option maxRecDepth 20000 in
theorem gX0_decipher_X0_unmix : GoodIn wsX0_decipher (va_wsS RX0 157 yX0_unmix wsX0_unmix) := goodIn_app (goodIn_of _ (by decide +kernel)) ggX0_decipher_X0_unmix
set_option maxRecDepth 20000 in
theorem ggX0_decipher_X0_passBox : GoodIn wsX0_decipher wsX0_passBox := goodIn_r _ [18, 19, 20, 21, 4, 22, 23, 24, 25] (by decide +kernel) (by decide +kernel)
set_option maxRecDepth 20000 in
theorem gX0_decipher_X0_passBox : GoodIn wsX0_decipher (va_wsS RX0 67 yX0_passBox wsX0_passBox) := goodIn_app (goodIn_of _ (by decide +kernel)) ggX0_decipher_X0_passBox
set_option maxRecDepth 20000 in
theorem ggX0_passBox_X0_placesWith : GoodIn wsX0_passBox wsX0_placesWith := goodIn_r _ [5, 6, 7, 4, 8] (by decide +kernel) (by decide +kernel)
set_option maxRecDepth 20000 in
theorem gX0_passBox_X0_placesWith : GoodIn wsX0_passBox (va_wsS RX0 160 yX0_placesWith wsX0_placesWith) := goodIn_app (goodIn_of _ (by decide +kernel)) ggX0_passBox_X0_placesWith
set_option maxRecDepth 20000 in
theorem ggX0_passBox_X0_lowestBitEverywhere : GoodIn wsX0_passBox wsX0_lowestBitEverywhere := goodIn_r _ [8] (by decide +kernel) (by decide +kernel)
set_option maxRecDepth 20000 in
theorem gX0_passBox_X0_lowestBitEverywhere : GoodIn wsX0_passBox (va_wsS RX0 163 yX0_lowestBitEverywhere wsX0_lowestBitEverywhere) := goodIn_app (goodIn_of _ (by decide +kernel)) ggX0_passBox_X0_lowestBitEverywhere
set_option maxRecDepth 20000 in
theorem ggX0_placesWith_X0_lowestBitEverywhere : GoodIn wsX0_placesWith wsX0_lowestBitEverywhere := goodIn_r _ [4] (by decide +kernel) (by decide +kernel)
set_option maxRecDepth 20000 in
theorem gX0_placesWith_X0_lowestBitEverywhere : GoodIn wsX0_placesWith (va_wsS RX0 163 yX0_lowestBitEverywhere wsX0_lowestBitEverywhere) := goodIn_app (goodIn_of _ (by decide +kernel)) ggX0_placesWith_X0_lowestBitEverywhere
set_option maxRecDepth 20000 in
theorem ggX0_mix_J6_rotateLeft_7cf53 : GoodIn wsX0_mix wsJ6_rotateLeft_7cf53 := goodIn_r _ [4] (by decide +kernel) (by decide +kernel)
set_option maxRecDepth 20000 in
theorem gX0_mix_J6_rotateLeft_7cf53 : GoodIn wsX0_mix (va_wsS RX0 133 yJ6_rotateLeft_7cf53 wsJ6_rotateLeft_7cf53) := goodIn_app (goodIn_of _ (by decide +kernel)) ggX0_mix_J6_rotateLeft_7cf53
set_option maxRecDepth 20000 in
theorem ggX0_unmix_J6_rotateRight_7cf53 : GoodIn wsX0_unmix wsJ6_rotateRight_7cf53 := goodIn_r _ [4] (by decide +kernel) (by decide +kernel)
set_option maxRecDepth 20000 in
theorem gX0_unmix_J6_rotateRight_7cf53 : GoodIn wsX0_unmix (va_wsS RX0 166 yJ6_rotateRight_7cf53 wsJ6_rotateRight_7cf53) := goodIn_app (goodIn_of _ (by decide +kernel)) ggX0_unmix_J6_rotateRight_7cf53
