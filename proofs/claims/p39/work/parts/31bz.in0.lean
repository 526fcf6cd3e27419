theorem lw_mem_r {big : List Cond} (ws : List Cond) (ps : List Nat) (hp : ws = ps.filterMap (fun i => big[i]?)) : ∀ w ∈ ws, w ∈ big := by
  intro w h
  rw [hp] at h
  obtain ⟨i, _, hi⟩ := List.mem_filterMap.mp h
  exact List.mem_of_getElem? hi
set_option maxRecDepth 20000 in
theorem wsL_law0_i1 : ∀ w ∈ wsL_law0_r1, w ∈ lw_tbl := lw_mem_r _ [38, 39, 27, 90, 581, 416, 37, 417, 40, 41, 42, 43, 44, 45, 46, 47, 28, 111, 92, 93, 29, 112, 113, 117] (by decide +kernel)
set_option maxRecDepth 20000 in
theorem wsL_law0_i2 : ∀ w ∈ wsL_law0_r2, w ∈ lw_tbl := lw_mem_r _ [118, 49, 50, 51, 55, 91, 58, 63, 65, 67, 68, 69, 95, 96, 97, 98, 99, 100, 101, 546, 547, 26, 548, 549] (by decide +kernel)
set_option maxRecDepth 20000 in
theorem wsL_law0_i3 : ∀ w ∈ wsL_law0_r3, w ∈ lw_tbl := lw_mem_r _ [542, 543, 544, 545, 550, 551, 552, 562, 580, 484, 483, 34, 553, 554, 555, 556, 231, 33, 52, 558, 559, 560, 561, 53] (by decide +kernel)
set_option maxRecDepth 20000 in
theorem wsL_law0_i4 : ∀ w ∈ wsL_law0_r4, w ∈ lw_tbl := lw_mem_r _ [459, 460, 461, 462, 482, 463, 465, 16, 466, 62, 64, 66, 276, 277, 278, 345, 346, 468, 394, 395, 396, 469, 471, 17] (by decide +kernel)
set_option maxRecDepth 20000 in
theorem wsL_law0_i5 : ∀ w ∈ wsL_law0_r5, w ∈ lw_tbl := lw_mem_r _ [472, 56, 297, 298, 474, 476, 18, 477, 54, 478, 480, 19, 481, 304, 305, 485, 487, 20, 488, 489, 491, 21, 492, 493] (by decide +kernel)
set_option maxRecDepth 20000 in
theorem wsL_law0_i6 : ∀ w ∈ wsL_law0_r6, w ∈ lw_tbl := lw_mem_r _ [494, 495, 496, 498, 22, 499, 564, 565, 566, 567, 215, 36, 61, 143, 145, 0, 146, 147, 35, 389, 390, 391, 392, 60] (by decide +kernel)
set_option maxRecDepth 20000 in
theorem wsL_law0_i7 : ∀ w ∈ wsL_law0_r7, w ∈ lw_tbl := lw_mem_r _ [572, 573, 574, 575, 576, 577, 578, 579, 70, 529, 531, 25, 532, 139, 140, 141, 142, 59, 247, 248, 249, 250, 114, 119] (by decide +kernel)
set_option maxRecDepth 20000 in
theorem wsL_law0_i8 : ∀ w ∈ wsL_law0_r8, w ∈ lw_tbl := lw_mem_r _ [116, 115, 252, 254, 2, 255, 57, 257, 258, 259, 260, 261, 263, 3, 264, 265, 267, 4, 268, 269, 270, 37, 271, 272] (by decide +kernel)
set_option maxRecDepth 20000 in
theorem wsL_law0_i9 : ∀ w ∈ wsL_law0_r9, w ∈ lw_tbl := lw_mem_r _ [273, 274, 275, 360, 361, 362, 363, 368, 293, 294, 295, 296, 369, 370, 371, 372, 373, 374, 375, 376, 422, 423, 424, 425] (by decide +kernel)
set_option maxRecDepth 20000 in
theorem wsL_law0_i10 : ∀ w ∈ wsL_law0_r10, w ∈ lw_tbl := lw_mem_r _ [426, 427, 353, 354, 355, 428, 429, 430, 431, 432, 433, 434, 435, 436, 357, 358, 359, 437, 438, 439, 440, 441, 365, 366] (by decide +kernel)
set_option maxRecDepth 20000 in
theorem wsL_law0_i11 : ∀ w ∈ wsL_law0_r11, w ∈ lw_tbl := lw_mem_r _ [367, 442, 443, 444, 378, 379, 380, 445, 446, 447, 448, 324, 325, 326, 327, 292, 328, 330, 10, 331, 299, 300, 301, 302] (by decide +kernel)
set_option maxRecDepth 20000 in
theorem wsL_law0_i12 : ∀ w ∈ wsL_law0_r12, w ∈ lw_tbl := lw_mem_r _ [332, 334, 11, 335, 336, 338, 12, 339, 340, 341, 342, 343, 348, 350, 13, 351, 449, 404, 405, 406, 407, 409, 14, 410] (by decide +kernel)
set_option maxRecDepth 20000 in
theorem wsL_law0_i13 : ∀ w ∈ wsL_law0_r13, w ∈ lw_tbl := lw_mem_r _ [450, 412, 413, 414, 415, 451, 452, 453, 454, 455, 457, 15, 458, 500, 502, 23, 503, 504, 505, 506, 507, 508, 382, 383] (by decide +kernel)
set_option maxRecDepth 20000 in
theorem wsL_law0_i14 : ∀ w ∈ wsL_law0_r14, w ∈ lw_tbl := lw_mem_r _ [384, 509, 510, 511, 512, 513, 514, 515, 516, 517, 518, 519, 520, 521, 523, 24, 524, 525, 526, 527, 528, 534, 535, 536] (by decide +kernel)
set_option maxRecDepth 20000 in
theorem wsL_law0_i15 : ∀ w ∈ wsL_law0_r15, w ∈ lw_tbl := lw_mem_r _ [537, 393, 538, 539, 540, 541, 397, 402, 398, 399, 400, 401, 352, 411, 403, 418, 419, 420, 421, 385, 386, 387, 388, 279] (by decide +kernel)
set_option maxRecDepth 20000 in
theorem wsL_law0_i16 : ∀ w ∈ wsL_law0_r16, w ∈ lw_tbl := lw_mem_r _ [280, 281, 282, 283, 285, 5, 286, 288, 290, 6, 291, 307, 309, 7, 310, 311, 313, 8, 314, 315, 317, 9, 318, 381] (by decide +kernel)
set_option maxRecDepth 20000 in
theorem wsL_law0_i17 : ∀ w ∈ wsL_law0_r17, w ∈ lw_tbl := lw_mem_r _ [377, 319, 320, 321, 322, 356, 364] (by decide +kernel)
set_option maxRecDepth 20000 in
theorem wsX20_i : ∀ w ∈ wsX20, w ∈ lw_tbl := lw_mem_r _ [120, 122, 124, 126, 128, 130, 132, 134, 136] (by decide +kernel)
set_option maxRecDepth 20000 in
theorem wsX00_i : ∀ w ∈ wsX00, w ∈ lw_tbl := lw_mem_r _ [71, 73, 75, 77, 79, 81, 83, 85, 87] (by decide +kernel)
set_option maxRecDepth 20000 in
theorem wsX10_i : ∀ w ∈ wsX10, w ∈ lw_tbl := lw_mem_r _ [102, 104, 106, 108] (by decide +kernel)
theorem wsL_law_in0 : ∀ w ∈ wsL_law0, w ∈ lw_tbl := fun w h => (List.mem_append.mp h).elim (fun h => (List.mem_append.mp h).elim (fun h => (List.mem_append.mp h).elim (fun h => (List.mem_append.mp h).elim (fun h => (List.mem_append.mp h).elim (fun h => wsL_law0_i1 w h) (fun h => (List.mem_append.mp h).elim (fun h => wsL_law0_i2 w h) (fun h => (List.mem_append.mp h).elim (fun h => wsL_law0_i3 w h) (fun h => (List.mem_append.mp h).elim (fun h => wsL_law0_i4 w h) (fun h => (List.mem_append.mp h).elim (fun h => wsL_law0_i5 w h) (fun h => (List.mem_append.mp h).elim (fun h => wsL_law0_i6 w h) (fun h => (List.mem_append.mp h).elim (fun h => wsL_law0_i7 w h) (fun h => (List.mem_append.mp h).elim (fun h => wsL_law0_i8 w h) (fun h => (List.mem_append.mp h).elim (fun h => wsL_law0_i9 w h) (fun h => (List.mem_append.mp h).elim (fun h => wsL_law0_i10 w h) (fun h => (List.mem_append.mp h).elim (fun h => wsL_law0_i11 w h) (fun h => (List.mem_append.mp h).elim (fun h => wsL_law0_i12 w h) (fun h => (List.mem_append.mp h).elim (fun h => wsL_law0_i13 w h) (fun h => (List.mem_append.mp h).elim (fun h => wsL_law0_i14 w h) (fun h => (List.mem_append.mp h).elim (fun h => wsL_law0_i15 w h) (fun h => (List.mem_append.mp h).elim (fun h => wsL_law0_i16 w h) (fun h => wsL_law0_i17 w h))))))))))))))))) (fun h => wsX20_i w h)) (fun h => wsX00_i w h)) (fun h => wsX10_i w h)) (fun h => absurd h List.not_mem_nil)
