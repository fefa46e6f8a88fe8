theorem cb_in_r {big ws : List Cond} (ps : List Nat) (hp : ws = ps.filterMap (fun i => big[i]?)) : ∀ w ∈ ws, w ∈ big := by
  intro w hw
  rw [hp] at hw
  obtain ⟨i, -, hi⟩ := List.mem_filterMap.mp hw
  exact List.mem_of_getElem? hi
set_option maxRecDepth 20000 in
theorem wsL_law_in0_1 : ∀ w ∈ wsL_law0_r1, w ∈ lw_tbl := cb_in_r [21, 22, 5, 74, 575, 576, 19, 577, 574, 526, 527, 23, 24, 25, 26, 27, 28, 29, 30, 6, 159, 75, 76, 7] (by decide +kernel)
set_option maxRecDepth 20000 in
theorem wsL_law_in0_2 : ∀ w ∈ wsL_law0_r2, w ∈ lw_tbl := cb_in_r [160, 94, 95, 8, 161, 110, 111, 10, 162, 141, 142, 11, 163, 164, 32, 33, 34, 41, 44, 48, 50, 53, 56, 78] (by decide +kernel)
set_option maxRecDepth 20000 in
theorem wsL_law_in0_3 : ∀ w ∈ wsL_law0_r3, w ∈ lw_tbl := cb_in_r [79, 80, 83, 93, 84, 96, 97, 98, 99, 103, 104, 100, 101, 9, 102, 113, 114, 115, 124, 126, 144, 145, 146, 148] (by decide +kernel)
set_option maxRecDepth 20000 in
theorem wsL_law_in0_4 : ∀ w ∈ wsL_law0_r4, w ∈ lw_tbl := cb_in_r [150, 552, 553, 4, 554, 555, 548, 549, 550, 551, 556, 557, 558, 559, 560, 561, 562, 292, 15, 35, 564, 565, 566, 567] (by decide +kernel)
set_option maxRecDepth 20000 in
theorem wsL_law_in0_5 : ∀ w ∈ wsL_law0_r5, w ∈ lw_tbl := cb_in_r [38, 182, 183, 184, 185, 16, 273, 274, 275, 276, 17, 569, 570, 571, 572, 37, 269, 270, 271, 272, 82, 308, 309, 310] (by decide +kernel)
set_option maxRecDepth 20000 in
theorem wsL_law_in0_6 : ∀ w ∈ wsL_law0_r6, w ∈ lw_tbl := cb_in_r [311, 81, 422, 423, 424, 425, 117, 125, 435, 436, 437, 438, 119, 440, 441, 442, 443, 127, 444, 445, 446, 447, 495, 496] (by decide +kernel)
set_option maxRecDepth 20000 in
theorem wsL_law_in0_7 : ∀ w ∈ wsL_law0_r7, w ∈ lw_tbl := cb_in_r [497, 498, 147, 149, 500, 501, 502, 503, 151, 431, 432, 433, 434, 52, 178, 179, 180, 181, 253, 255, 1, 256, 43, 46] (by decide +kernel)
set_option maxRecDepth 20000 in
theorem wsL_law_in0_8 : ∀ w ∈ wsL_law0_r8, w ∈ lw_tbl := cb_in_r [49, 55, 257, 258, 259, 260, 261, 262, 263, 264, 265, 266, 267, 268, 312, 313, 314, 315, 316, 317, 318, 320, 321, 322] (by decide +kernel)
set_option maxRecDepth 20000 in
theorem wsL_law_in0_9 : ∀ w ∈ wsL_law0_r9, w ∈ lw_tbl := cb_in_r [323, 324, 325, 18, 326, 327, 328, 329, 330, 331, 332, 333, 40, 47, 334, 335, 336, 338, 339, 340, 341, 342, 343, 344] (by decide +kernel)
set_option maxRecDepth 20000 in
theorem wsL_law_in0_10 : ∀ w ∈ wsL_law0_r10, w ∈ lw_tbl := cb_in_r [345, 346, 351, 352, 353, 354, 355, 356, 357, 358, 42, 359, 360, 361, 362, 363, 364, 365, 366, 367, 368, 370, 2, 371] (by decide +kernel)
set_option maxRecDepth 20000 in
theorem wsL_law_in0_11 : ∀ w ∈ wsL_law0_r11, w ∈ lw_tbl := cb_in_r [372, 373, 374, 375, 347, 348, 349, 350, 85, 573, 384, 385, 386, 387, 380, 381, 382, 383, 390, 391, 392, 393, 36, 394] (by decide +kernel)
set_option maxRecDepth 20000 in
theorem wsL_law_in0_12 : ∀ w ∈ wsL_law0_r12, w ∈ lw_tbl := cb_in_r [395, 396, 397, 398, 399, 400, 401, 402, 403, 404, 405, 406, 407, 408, 409, 410, 411, 412, 413, 414, 415, 416, 418, 419] (by decide +kernel)
set_option maxRecDepth 20000 in
theorem wsL_law_in0_13 : ∀ w ∈ wsL_law0_r13, w ∈ lw_tbl := cb_in_r [420, 421, 376, 377, 378, 379, 480, 481, 482, 483, 121, 484, 486, 3, 487, 123, 488, 489, 490, 491, 492, 118, 122, 493] (by decide +kernel)
set_option maxRecDepth 20000 in
theorem wsL_law_in0_14 : ∀ w ∈ wsL_law0_r14, w ∈ lw_tbl := cb_in_r [469, 453, 454, 455, 39, 51, 456, 457, 458, 459, 116, 460, 470, 494, 466, 467, 468, 120, 471, 472, 473, 474, 461, 462] (by decide +kernel)
set_option maxRecDepth 20000 in
theorem wsL_law_in0_15 : ∀ w ∈ wsL_law0_r15, w ∈ lw_tbl := cb_in_r [463, 464, 465, 476, 477, 478, 479, 448, 449, 450, 451, 452, 427, 428, 429, 430, 504, 505, 506, 507, 508, 509, 510, 511] (by decide +kernel)
set_option maxRecDepth 20000 in
theorem wsL_law_in0_16 : ∀ w ∈ wsL_law0_r16, w ∈ lw_tbl := cb_in_r [512, 513, 514, 515, 516, 517, 518, 519, 45, 54, 520, 521, 522, 523, 525, 524, 528, 529, 530, 531, 533, 534, 20, 535] (by decide +kernel)
set_option maxRecDepth 20000 in
theorem wsL_law_in0_17 : ∀ w ∈ wsL_law0_r17, w ∈ lw_tbl := cb_in_r [536, 537, 538, 539, 540, 541, 542, 544, 545, 546, 547] (by decide +kernel)
set_option maxRecDepth 20000 in
theorem wsL_law_in0_wsX50 : ∀ w ∈ wsX50, w ∈ lw_tbl := by decide +kernel
set_option maxRecDepth 20000 in
theorem wsL_law_in0_wsX30 : ∀ w ∈ wsX30, w ∈ lw_tbl := by decide +kernel
set_option maxRecDepth 20000 in
theorem wsL_law_in0_wsX40 : ∀ w ∈ wsX40, w ∈ lw_tbl := by decide +kernel
set_option maxRecDepth 20000 in
theorem wsL_law_in0_wsX10 : ∀ w ∈ wsX10, w ∈ lw_tbl := by decide +kernel
set_option maxRecDepth 20000 in
theorem wsL_law_in0_wsX20 : ∀ w ∈ wsX20, w ∈ lw_tbl := by decide +kernel
set_option maxRecDepth 20000 in
theorem wsL_law_in0_wsX00 : ∀ w ∈ wsX00, w ∈ lw_tbl := by decide +kernel
theorem wsL_law_in0 : ∀ w ∈ wsL_law0, w ∈ lw_tbl := fun w h => (List.mem_append.mp h).elim (fun h => (List.mem_append.mp h).elim (fun h => (List.mem_append.mp h).elim (fun h => (List.mem_append.mp h).elim (fun h => (List.mem_append.mp h).elim (fun h => (List.mem_append.mp h).elim (fun h => (List.mem_append.mp h).elim (fun h => (List.mem_append.mp h).elim (fun h => wsL_law_in0_1 w h) (fun h => (List.mem_append.mp h).elim (fun h => wsL_law_in0_2 w h) (fun h => (List.mem_append.mp h).elim (fun h => wsL_law_in0_3 w h) (fun h => (List.mem_append.mp h).elim (fun h => wsL_law_in0_4 w h) (fun h => (List.mem_append.mp h).elim (fun h => wsL_law_in0_5 w h) (fun h => (List.mem_append.mp h).elim (fun h => wsL_law_in0_6 w h) (fun h => (List.mem_append.mp h).elim (fun h => wsL_law_in0_7 w h) (fun h => (List.mem_append.mp h).elim (fun h => wsL_law_in0_8 w h) (fun h => (List.mem_append.mp h).elim (fun h => wsL_law_in0_9 w h) (fun h => (List.mem_append.mp h).elim (fun h => wsL_law_in0_10 w h) (fun h => (List.mem_append.mp h).elim (fun h => wsL_law_in0_11 w h) (fun h => (List.mem_append.mp h).elim (fun h => wsL_law_in0_12 w h) (fun h => (List.mem_append.mp h).elim (fun h => wsL_law_in0_13 w h) (fun h => (List.mem_append.mp h).elim (fun h => wsL_law_in0_14 w h) (fun h => (List.mem_append.mp h).elim (fun h => wsL_law_in0_15 w h) (fun h => (List.mem_append.mp h).elim (fun h => wsL_law_in0_16 w h) (fun h => wsL_law_in0_17 w h))))))))))))))))) (fun h => wsL_law_in0_wsX50 w h)) (fun h => wsL_law_in0_wsX30 w h)) (fun h => wsL_law_in0_wsX40 w h)) (fun h => wsL_law_in0_wsX10 w h)) (fun h => wsL_law_in0_wsX20 w h)) (fun h => wsL_law_in0_wsX00 w h)) (fun h => absurd h List.not_mem_nil)
