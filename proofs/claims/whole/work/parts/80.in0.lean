theorem in_places {big ws : List Cond} (ps : List Nat) (hp : ws = ps.filterMap (fun i => big[i]?)) : ∀ w ∈ ws, w ∈ big := by
  intro w hw
  rw [hp] at hw
  obtain ⟨i, -, hi⟩ := List.mem_filterMap.mp hw
  first | exact List.mem_of_getElem? hi | exact List.getElem?_mem hi
set_option maxRecDepth 20000 in
theorem in_wsL_law0_r1 : ∀ w ∈ wsL_law0_r1, w ∈ lw_tbl := in_places [39, 40, 28, 354, 355, 29, 510, 41, 42, 43, 44, 45, 46, 75, 47, 50, 51, 52, 54, 55, 48, 49, 53, 356] (by decide +kernel)
set_option maxRecDepth 20000 in
theorem in_wsL_law0_r2 : ∀ w ∈ wsL_law0_r2, w ∈ lw_tbl := in_places [357, 358, 359, 361, 364, 365, 366, 367, 369, 370, 371, 372, 368, 113, 114, 27, 115, 116, 117, 118, 119, 120, 121, 33] rfl
set_option maxRecDepth 20000 in
theorem in_wsL_law0_r3 : ∀ w ∈ wsL_law0_r3, w ∈ lw_tbl := in_places [404, 405, 406, 407, 363, 408, 409, 410, 411, 413, 14, 414, 360, 400, 401, 402, 403, 189, 190, 191, 192, 193, 194, 195] (by decide +kernel)
set_option maxRecDepth 20000 in
theorem in_wsL_law0_r4 : ∀ w ∈ wsL_law0_r4, w ∈ lw_tbl := in_places [196, 197, 34, 415, 416, 417, 418, 362, 76, 77, 78, 79, 80, 82, 0, 83, 84, 86, 1, 87, 88, 90, 2, 91] (by decide +kernel)
set_option maxRecDepth 20000 in
theorem in_wsL_law0_r5 : ∀ w ∈ wsL_law0_r5, w ∈ lw_tbl := in_places [92, 93, 94, 35, 95, 96, 97, 98, 99, 100, 36, 101, 102, 103, 104, 105, 107, 108, 109, 110, 111, 112, 419, 420] (by decide +kernel)
set_option maxRecDepth 20000 in
theorem in_wsL_law0_r6 : ∀ w ∈ wsL_law0_r6, w ∈ lw_tbl := in_places [421, 422, 427, 423, 425, 15, 426, 428, 429, 430, 431, 433, 16, 434, 435, 437, 17, 438, 213, 214, 215, 216, 217, 218] (by decide +kernel)
set_option maxRecDepth 20000 in
theorem in_wsL_law0_r7 : ∀ w ∈ wsL_law0_r7, w ∈ lw_tbl := in_places [219, 220, 222, 224, 4, 225, 226, 37, 439, 440, 441, 442, 242, 243, 244, 245, 246, 247, 248, 251, 252, 253, 443, 444] (by decide +kernel)
set_option maxRecDepth 20000 in
theorem in_wsL_law0_r8 : ∀ w ∈ wsL_law0_r8, w ∈ lw_tbl := in_places [445, 446, 254, 255, 256, 257, 258, 259, 260, 447, 448, 449, 450, 262, 263, 264, 265, 266, 267, 268, 451, 452, 453, 454] (by decide +kernel)
set_option maxRecDepth 20000 in
theorem in_wsL_law0_r9 : ∀ w ∈ wsL_law0_r9, w ∈ lw_tbl := in_places [270, 271, 272, 273, 274, 275, 276, 455, 456, 457, 458, 278, 279, 280, 281, 282, 283, 284, 459, 460, 461, 462, 286, 287] (by decide +kernel)
set_option maxRecDepth 20000 in
theorem in_wsL_law0_r10 : ∀ w ∈ wsL_law0_r10, w ∈ lw_tbl := in_places [288, 289, 290, 291, 292, 294, 296, 5, 297, 299, 301, 6, 302, 303, 305, 304, 38, 306, 308, 7, 309, 310, 311, 312] (by decide +kernel)
set_option maxRecDepth 20000 in
theorem in_wsL_law0_r11 : ∀ w ∈ wsL_law0_r11, w ∈ lw_tbl := in_places [313, 314, 315, 316, 318, 8, 319, 320, 322, 9, 323, 324, 326, 10, 327, 328, 329, 330, 331, 332, 333, 334, 336, 11] (by decide +kernel)
set_option maxRecDepth 20000 in
theorem in_wsL_law0_r12 : ∀ w ∈ wsL_law0_r12, w ∈ lw_tbl := in_places [337, 338, 340, 12, 341, 342, 344, 13, 345, 463, 464, 465, 466, 467, 469, 18, 470, 471, 473, 19, 474, 475, 477, 20] (by decide +kernel)
set_option maxRecDepth 20000 in
theorem in_wsL_law0_r13 : ∀ w ∈ wsL_law0_r13, w ∈ lw_tbl := in_places [478, 479, 481, 21, 482, 483, 485, 22, 486, 487, 488, 489, 490, 492, 23, 493, 494, 496, 24, 497, 498, 500, 25, 501] (by decide +kernel)
set_option maxRecDepth 20000 in
theorem in_wsL_law0_r14 : ∀ w ∈ wsL_law0_r14, w ∈ lw_tbl := in_places [502, 504, 26, 505, 346, 347, 348, 349, 350, 351, 352, 506, 507, 508, 509] (by decide +kernel)
set_option maxRecDepth 20000 in
theorem in_t0 : ∀ w ∈ wsX00, w ∈ lw_tbl := by decide +kernel
set_option maxRecDepth 20000 in
theorem in_t1 : ∀ w ∈ wsX10, w ∈ lw_tbl := by decide +kernel
theorem wsL_law_in0 : ∀ w ∈ wsL_law0, w ∈ lw_tbl := fun w h => (List.mem_append.mp h).elim (fun h => (List.mem_append.mp h).elim (fun h => (List.mem_append.mp h).elim (fun h => (List.mem_append.mp h).elim (fun h => in_wsL_law0_r1 w h) (fun h => (List.mem_append.mp h).elim (fun h => in_wsL_law0_r2 w h) (fun h => (List.mem_append.mp h).elim (fun h => in_wsL_law0_r3 w h) (fun h => (List.mem_append.mp h).elim (fun h => in_wsL_law0_r4 w h) (fun h => (List.mem_append.mp h).elim (fun h => in_wsL_law0_r5 w h) (fun h => (List.mem_append.mp h).elim (fun h => in_wsL_law0_r6 w h) (fun h => (List.mem_append.mp h).elim (fun h => in_wsL_law0_r7 w h) (fun h => (List.mem_append.mp h).elim (fun h => in_wsL_law0_r8 w h) (fun h => (List.mem_append.mp h).elim (fun h => in_wsL_law0_r9 w h) (fun h => (List.mem_append.mp h).elim (fun h => in_wsL_law0_r10 w h) (fun h => (List.mem_append.mp h).elim (fun h => in_wsL_law0_r11 w h) (fun h => (List.mem_append.mp h).elim (fun h => in_wsL_law0_r12 w h) (fun h => (List.mem_append.mp h).elim (fun h => in_wsL_law0_r13 w h) (fun h => in_wsL_law0_r14 w h)))))))))))))) (fun h => in_t0 w h)) (fun h => in_t1 w h)) (fun h => absurd h List.not_mem_nil)
