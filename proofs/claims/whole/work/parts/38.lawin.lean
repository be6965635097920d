set_option maxRecDepth 100000 in
theorem gi_1 : GoodIn lw_tbl wsL_law0_r1 := goodIn_r _ [48, 49, 38, 432, 433, 41, 634, 50, 51, 52, 53, 54, 55, 69, 77, 78, 79, 80, 81, 82, 83, 84, 85, 86] rfl (by decide +kernel)
theorem wi_1 : ∀ w ∈ wsL_law0_r1, w ∈ lw_tbl := fun w h => (gi_1 w h).1
set_option maxRecDepth 100000 in
theorem gi_2 : GoodIn lw_tbl wsL_law0_r2 := goodIn_r _ [87, 88, 56, 57, 39, 89, 58, 59, 60, 61, 62, 63, 70, 72, 0, 73, 90, 91, 92, 74, 75, 40, 76, 434] rfl (by decide +kernel)
theorem wi_2 : ∀ w ∈ wsL_law0_r2, w ∈ lw_tbl := fun w h => (gi_2 w h).1
set_option maxRecDepth 100000 in
theorem gi_3 : GoodIn lw_tbl wsL_law0_r3 := goodIn_r _ [435, 436, 437, 442, 444, 445, 446, 447, 448, 449, 450, 451, 453, 454, 455, 456, 458, 459, 460, 461, 438, 440, 23, 441] rfl (by decide +kernel)
theorem wi_3 : ∀ w ∈ wsL_law0_r3, w ∈ lw_tbl := fun w h => (gi_3 w h).1
set_option maxRecDepth 100000 in
theorem gi_4 : GoodIn lw_tbl wsL_law0_r4 := goodIn_r _ [443, 452, 126, 127, 128, 129, 130, 131, 132, 510, 511, 512, 513, 457, 133, 134, 135, 136, 514, 515, 516, 517, 137, 138] rfl (by decide +kernel)
theorem wi_4 : ∀ w ∈ wsL_law0_r4, w ∈ lw_tbl := fun w h => (gi_4 w h).1
set_option maxRecDepth 100000 in
theorem gi_5 : GoodIn lw_tbl wsL_law0_r5 := goodIn_r _ [139, 140, 141, 143, 1, 144, 145, 147, 2, 148, 149, 150, 151, 518, 519, 520, 521, 522, 524, 24, 525, 152, 153, 154] rfl (by decide +kernel)
theorem wi_5 : ∀ w ∈ wsL_law0_r5, w ∈ lw_tbl := fun w h => (gi_5 w h).1
set_option maxRecDepth 100000 in
theorem gi_6 : GoodIn lw_tbl wsL_law0_r6 := goodIn_r _ [155, 526, 527, 528, 529, 156, 157, 158, 159, 160, 161, 162, 530, 531, 532, 533, 163, 164, 165, 166, 167, 169, 3, 170] rfl (by decide +kernel)
theorem wi_6 : ∀ w ∈ wsL_law0_r6, w ∈ lw_tbl := fun w h => (gi_6 w h).1
set_option maxRecDepth 100000 in
theorem gi_7 : GoodIn lw_tbl wsL_law0_r7 := goodIn_r _ [171, 172, 173, 534, 535, 536, 537, 174, 175, 176, 177, 538, 539, 540, 541, 178, 179, 180, 181, 182, 184, 4, 185, 186] rfl (by decide +kernel)
theorem wi_7 : ∀ w ∈ wsL_law0_r7, w ∈ lw_tbl := fun w h => (gi_7 w h).1
set_option maxRecDepth 100000 in
theorem gi_8 : GoodIn lw_tbl wsL_law0_r8 := goodIn_r _ [187, 188, 189, 190, 191, 192, 193, 195, 5, 196, 197, 199, 6, 200, 201, 203, 7, 204, 205, 206, 42, 207, 208, 210] rfl (by decide +kernel)
theorem wi_8 : ∀ w ∈ wsL_law0_r8, w ∈ lw_tbl := fun w h => (gi_8 w h).1
set_option maxRecDepth 100000 in
theorem gi_9 : GoodIn lw_tbl wsL_law0_r9 := goodIn_r _ [8, 211, 212, 214, 9, 215, 216, 218, 10, 219, 220, 221, 222, 223, 224, 225, 226, 227, 228, 229, 230, 231, 232, 233] rfl (by decide +kernel)
theorem wi_9 : ∀ w ∈ wsL_law0_r9, w ∈ lw_tbl := fun w h => (gi_9 w h).1
set_option maxRecDepth 100000 in
theorem gi_10 : GoodIn lw_tbl wsL_law0_r10 := goodIn_r _ [234, 235, 236, 237, 239, 11, 240, 241, 242, 243, 244, 245, 246, 247, 248, 249, 250, 251, 252, 253, 254, 255, 257, 12] rfl (by decide +kernel)
theorem wi_10 : ∀ w ∈ wsL_law0_r10, w ∈ lw_tbl := fun w h => (gi_10 w h).1
set_option maxRecDepth 100000 in
theorem gi_11 : GoodIn lw_tbl wsL_law0_r11 := goodIn_r _ [258, 542, 543, 544, 545, 462, 546, 548, 25, 549, 550, 552, 26, 553, 554, 555, 556, 557, 558, 559, 560, 562, 27, 563] rfl (by decide +kernel)
theorem wi_11 : ∀ w ∈ wsL_law0_r11, w ∈ lw_tbl := fun w h => (gi_11 w h).1
set_option maxRecDepth 100000 in
theorem gi_12 : GoodIn lw_tbl wsL_law0_r12 := goodIn_r _ [564, 566, 28, 567, 568, 570, 29, 571, 572, 574, 30, 575, 576, 578, 31, 579, 580, 582, 32, 583, 302, 303, 37, 304] rfl (by decide +kernel)
theorem wi_12 : ∀ w ∈ wsL_law0_r12, w ∈ lw_tbl := fun w h => (gi_12 w h).1
set_option maxRecDepth 100000 in
theorem gi_13 : GoodIn lw_tbl wsL_law0_r13 := goodIn_r _ [305, 306, 307, 308, 309, 310, 311, 46, 378, 47, 268, 270, 14, 271, 272, 273, 274, 275, 276, 277, 584, 585, 586, 587] rfl (by decide +kernel)
theorem wi_13 : ∀ w ∈ wsL_law0_r13, w ∈ lw_tbl := fun w h => (gi_13 w h).1
set_option maxRecDepth 100000 in
theorem gi_14 : GoodIn lw_tbl wsL_law0_r14 := goodIn_r _ [588, 590, 33, 591, 592, 594, 34, 595, 596, 598, 35, 599, 600, 506, 507, 508, 509, 259, 260, 261, 262, 263, 265, 13] rfl (by decide +kernel)
theorem wi_14 : ∀ w ∈ wsL_law0_r14, w ∈ lw_tbl := fun w h => (gi_14 w h).1
set_option maxRecDepth 100000 in
theorem gi_15 : GoodIn lw_tbl wsL_law0_r15 := goodIn_r _ [266, 267, 601, 602, 603, 604, 605, 607, 36, 608, 609, 278, 279, 280, 281, 610, 611, 612, 613, 394, 395, 396, 397, 398] rfl (by decide +kernel)
theorem wi_15 : ∀ w ∈ wsL_law0_r15, w ∈ lw_tbl := fun w h => (gi_15 w h).1
set_option maxRecDepth 100000 in
theorem gi_16 : GoodIn lw_tbl wsL_law0_r16 := goodIn_r _ [399, 400, 402, 404, 18, 405, 410, 406, 408, 19, 409, 411, 413, 20, 414, 415, 417, 21, 418, 614, 615, 616, 617, 282] rfl (by decide +kernel)
theorem wi_16 : ∀ w ∈ wsL_law0_r16, w ∈ lw_tbl := fun w h => (gi_16 w h).1
set_option maxRecDepth 100000 in
theorem gi_17 : GoodIn lw_tbl wsL_law0_r17 := goodIn_r _ [283, 284, 285, 618, 619, 620, 621, 286, 287, 288, 289, 622, 623, 624, 625, 419, 420, 421, 422, 423, 424, 425, 298, 300] rfl (by decide +kernel)
theorem wi_17 : ∀ w ∈ wsL_law0_r17, w ∈ lw_tbl := fun w h => (gi_17 w h).1
set_option maxRecDepth 100000 in
theorem gi_18 : GoodIn lw_tbl wsL_law0_r18 := goodIn_r _ [16, 301, 427, 429, 22, 430, 626, 627, 628, 629, 290, 291, 292, 293, 294, 296, 15, 297, 630, 631, 632, 633] rfl (by decide +kernel)
theorem wi_18 : ∀ w ∈ wsL_law0_r18, w ∈ lw_tbl := fun w h => (gi_18 w h).1
set_option maxRecDepth 100000 in
theorem wi_X0 : ∀ w ∈ wsX00, w ∈ lw_tbl := by decide +kernel
set_option maxRecDepth 100000 in
theorem wi_X1 : ∀ w ∈ wsX10, w ∈ lw_tbl := by decide +kernel
set_option maxRecDepth 100000 in
theorem wi_X2 : ∀ w ∈ wsX20, w ∈ lw_tbl := by decide +kernel
theorem wsL_law_in0 : ∀ w ∈ wsL_law0, w ∈ lw_tbl := fun w h => (List.mem_append.mp h).elim (fun h => (List.mem_append.mp h).elim (fun h => (List.mem_append.mp h).elim (fun h => (List.mem_append.mp h).elim (fun h => (List.mem_append.mp h).elim (fun h => wi_1 w h) (fun h => (List.mem_append.mp h).elim (fun h => wi_2 w h) (fun h => (List.mem_append.mp h).elim (fun h => wi_3 w h) (fun h => (List.mem_append.mp h).elim (fun h => wi_4 w h) (fun h => (List.mem_append.mp h).elim (fun h => wi_5 w h) (fun h => (List.mem_append.mp h).elim (fun h => wi_6 w h) (fun h => (List.mem_append.mp h).elim (fun h => wi_7 w h) (fun h => (List.mem_append.mp h).elim (fun h => wi_8 w h) (fun h => (List.mem_append.mp h).elim (fun h => wi_9 w h) (fun h => (List.mem_append.mp h).elim (fun h => wi_10 w h) (fun h => (List.mem_append.mp h).elim (fun h => wi_11 w h) (fun h => (List.mem_append.mp h).elim (fun h => wi_12 w h) (fun h => (List.mem_append.mp h).elim (fun h => wi_13 w h) (fun h => (List.mem_append.mp h).elim (fun h => wi_14 w h) (fun h => (List.mem_append.mp h).elim (fun h => wi_15 w h) (fun h => (List.mem_append.mp h).elim (fun h => wi_16 w h) (fun h => (List.mem_append.mp h).elim (fun h => wi_17 w h) (fun h => wi_18 w h)))))))))))))))))) (fun h => wi_X1 w h)) (fun h => wi_X2 w h)) (fun h => wi_X0 w h)) (fun h => nomatch h)
theorem wsL_law_x0 : ∀ w ∈ (vx_atS RX1 97 "java/lang/IndexOutOfBoundsException" ["java/lang/RuntimeException", "java/lang/Exception"]).filter goodWord, w ∈ lw_tbl := by decide +kernel
theorem wsL_law_x1 : ∀ w ∈ nW.filter goodWord, w ∈ lw_tbl := by decide +kernel
theorem wsL_law_in : ∀ w ∈ vsL_law, w ∈ lw_tbl := fun w h => (List.mem_append.mp h).elim (fun h => (List.mem_append.mp h).elim (fun h => wsL_law_in0 w h) (fun h => wsL_law_x0 w h)) (fun h => wsL_law_x1 w h)
theorem inlX0 : ∀ w ∈ wsX00, w ∈ vsL_law := fun _ h => List.mem_append_left _ (List.mem_append_left _ (List.mem_append_left _ (List.mem_append_right _ h)))
theorem inX0 : ∀ w ∈ wsX00, w ∈ lw_tbl := fun w h => wsL_law_in w (inlX0 w h)
theorem inlX1 : ∀ w ∈ wsX10, w ∈ vsL_law := fun _ h => List.mem_append_left _ (List.mem_append_left _ (List.mem_append_left _ (List.mem_append_left _ (List.mem_append_left _ (List.mem_append_right _ h)))))
theorem inX1 : ∀ w ∈ wsX10, w ∈ lw_tbl := fun w h => wsL_law_in w (inlX1 w h)
theorem inlX2 : ∀ w ∈ wsX20, w ∈ vsL_law := fun _ h => List.mem_append_left _ (List.mem_append_left _ (List.mem_append_left _ (List.mem_append_left _ (List.mem_append_right _ h))))
theorem inX2 : ∀ w ∈ wsX20, w ∈ lw_tbl := fun w h => wsL_law_in w (inlX2 w h)
