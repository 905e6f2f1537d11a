set_option maxRecDepth 100000 in
theorem wsLi_1 : GoodIn lw_tbl wsL_law0_r1 := goodIn_r _ [28, 29, 13, 52, 30, 31, 32, 33, 34, 35, 36, 37, 14, 183, 184, 53, 54, 15, 185, 79, 80, 16, 186, 187] (by decide +kernel) (by decide +kernel)
set_option maxRecDepth 100000 in
theorem wsLi_2 : GoodIn lw_tbl wsL_law0_r2 := goodIn_r _ [100, 101, 17, 188, 114, 115, 18, 189, 144, 145, 19, 190, 169, 170, 20, 191, 192, 193, 194, 195, 38, 39, 40, 41] (by decide +kernel) (by decide +kernel)
set_option maxRecDepth 100000 in
theorem wsLi_3 : GoodIn lw_tbl wsL_law0_r3 := goodIn_r _ [42, 43, 44, 55, 56, 57, 58, 59, 60, 61, 62, 78, 63, 64, 81, 82, 83, 84, 85, 86, 87, 88, 102, 103] (by decide +kernel) (by decide +kernel)
set_option maxRecDepth 100000 in
theorem wsLi_4 : GoodIn lw_tbl wsL_law0_r4 := goodIn_r _ [104, 105, 106, 107, 116, 117, 118, 119, 120, 122, 124, 125, 127, 129, 146, 147, 148, 149, 152, 150, 154, 151, 156, 158] (by decide +kernel) (by decide +kernel)
set_option maxRecDepth 100000 in
theorem wsLi_5 : GoodIn lw_tbl wsL_law0_r5 := goodIn_r _ [171, 172, 173, 174, 182, 175, 176, 703, 704, 12, 705, 587, 588, 589, 594, 595, 600, 613, 618, 627, 633, 635, 647, 590] (by decide +kernel) (by decide +kernel)
set_option maxRecDepth 100000 in
theorem wsLi_6 : GoodIn lw_tbl wsL_law0_r6 := goodIn_r _ [591, 592, 593, 223, 224, 225, 226, 596, 597, 598, 599, 601, 602, 603, 604, 605, 606, 607, 608, 609, 610, 611, 612, 614] (by decide +kernel) (by decide +kernel)
set_option maxRecDepth 100000 in
theorem wsLi_7 : GoodIn lw_tbl wsL_law0_r7 := goodIn_r _ [615, 616, 617, 619, 620, 621, 622, 623, 624, 625, 626, 628, 629, 630, 631, 632, 505, 506, 507, 518, 347, 21, 348, 508] (by decide +kernel) (by decide +kernel)
set_option maxRecDepth 100000 in
theorem wsLi_8 : GoodIn lw_tbl wsL_law0_r8 := goodIn_r _ [509, 510, 511, 517, 512, 514, 8, 515, 516, 368, 369, 370, 634, 479, 480, 481, 482, 483, 484, 485, 486, 636, 637, 638] (by decide +kernel) (by decide +kernel)
set_option maxRecDepth 100000 in
theorem wsLi_9 : GoodIn lw_tbl wsL_law0_r9 := goodIn_r _ [639, 247, 25, 244, 245, 246, 641, 533, 534, 535, 536, 537, 538, 539, 328, 329, 330, 331, 332, 333, 323, 324, 325, 326] (by decide +kernel) (by decide +kernel)
set_option maxRecDepth 100000 in
theorem wsLi_10 : GoodIn lw_tbl wsL_law0_r10 := goodIn_r _ [642, 643, 644, 645, 646, 648, 649, 650, 651, 504, 653, 654, 655, 656, 657, 658, 659, 660, 661, 662, 663, 664, 665, 666] (by decide +kernel) (by decide +kernel)
set_option maxRecDepth 100000 in
set_option maxHeartbeats 4000000 in
theorem wsLi_11 : GoodIn lw_tbl wsL_law0_r11 := (goodIn_app (goodIn_r [Cond.instanceMethod yX6_deepestWorthwhile, Cond.selects RX6 yX6_deepestWorthwhile yX6_deepestWorthwhile, Cond.code yX6_deepestWorthwhile cX6_deepestWorthwhile 5 (some .int), Cond.methodLink RX6 42 yX6_leastWorthwhile, Cond.methodLink RX6 49 yX6_idleCost, Cond.instanceMethod yX6_idleCost, Cond.selects RX6 yX6_idleCost yX6_idleCost, Cond.code yX6_idleCost cX6_idleCost 3 (some .int), Cond.methodLink RX6 39 yX6_wakingCost, Cond.instanceMethod yX6_wakingCost, Cond.selects RX6 yX6_wakingCost yX6_wakingCost, Cond.code yX6_wakingCost cX6_wakingCost 2 (some .int), Cond.methodLink RL 151 yL_cell, Cond.static yL_cell, Cond.code yL_cell cL_cell 3 (some .int), Cond.constant RL 7 (1013904242), Cond.methodLink RL 119 yL_some, Cond.static yL_some, Cond.code yL_some cL_some 2 (some .int), Cond.methodLink RL 155 yL_changes, Cond.static yL_changes] [529, 530, 531, 532, 667, 668, 669, 670, 671, 320, 321, 322, 227, 228, 229, 230, 231, 232, 233, 672, 673] (by decide +kernel) (by decide +kernel)) (goodIn_c1 (List.mem_of_getElem? (i := 674) rfl) (by decide +kernel) (goodIn_app (goodIn_r [Cond.methodLink RL 128 yL_state, Cond.static yL_state] [675, 676] (by decide +kernel) (by decide +kernel)) goodIn_0)))
set_option maxRecDepth 100000 in
theorem wsLi_12 : GoodIn lw_tbl wsL_law0_r12 := goodIn_r _ [677, 238, 678, 679, 680, 681, 315, 317, 1, 318, 319, 334, 335, 336, 337, 338, 340, 2, 341, 342, 343, 344, 345, 346] (by decide +kernel) (by decide +kernel)
set_option maxRecDepth 100000 in
theorem wsLi_13 : GoodIn lw_tbl wsL_law0_r13 := goodIn_r _ [350, 351, 352, 353, 355, 356, 683, 684, 685, 234, 235, 236, 237, 239, 240, 241, 242, 243, 349, 357, 358, 359, 360, 362] (by decide +kernel) (by decide +kernel)
set_option maxRecDepth 100000 in
theorem wsLi_14 : GoodIn lw_tbl wsL_law0_r14 := goodIn_r _ [363, 364, 365, 366, 371, 26, 392, 27, 367, 388, 389, 390, 391, 408, 409, 410, 411, 412, 414, 415, 416, 417, 419, 420] (by decide +kernel) (by decide +kernel)
set_option maxRecDepth 100000 in
theorem wsLi_15 : GoodIn lw_tbl wsL_law0_r15 := goodIn_r _ [421, 422, 424, 425, 426, 427, 428, 430, 431, 432, 433, 435, 436, 437, 438, 440, 441, 442, 443, 445, 446, 447, 448, 449] (by decide +kernel) (by decide +kernel)
set_option maxRecDepth 100000 in
theorem wsLi_16 : GoodIn lw_tbl wsL_law0_r16 := goodIn_r _ [450, 451, 452, 453, 456, 457, 458, 459, 461, 462, 463, 464, 466, 468, 3, 469, 470, 472, 4, 473, 474, 476, 5, 477] (by decide +kernel) (by decide +kernel)
set_option maxRecDepth 100000 in
theorem wsLi_17 : GoodIn lw_tbl wsL_law0_r17 := goodIn_r _ [478, 487, 488, 489, 490, 491, 492, 494, 6, 495, 496, 497, 498, 499, 500, 502, 7, 503, 519, 520, 521, 522, 523, 524] (by decide +kernel) (by decide +kernel)
set_option maxRecDepth 100000 in
theorem wsLi_18 : GoodIn lw_tbl wsL_law0_r18 := goodIn_r _ [525, 526, 527, 528, 540, 542, 9, 543, 544, 545, 546, 547, 548, 551, 553, 10, 554, 555, 556, 21, 557, 558, 559, 560] (by decide +kernel) (by decide +kernel)
set_option maxRecDepth 100000 in
theorem wsLi_19 : GoodIn lw_tbl wsL_law0_r19 := goodIn_r _ [561, 562, 563, 564, 565, 567, 568, 569, 570, 571, 572, 573, 574, 576, 11, 577, 581, 578, 579, 580, 582, 583, 584, 585] (by decide +kernel) (by decide +kernel)
set_option maxRecDepth 100000 in
set_option maxHeartbeats 4000000 in
theorem wsLi_20 : GoodIn lw_tbl wsL_law0_r20 := (goodIn_app (goodIn_r [Cond.methodLink RL 138 yX7_runs, Cond.instanceMethod yX7_runs, Cond.selects RX7 yX7_runs yX7_runs, Cond.code yX7_runs cX7_runs 2 (some .boolean), Cond.methodLink RX7 145 yX1_isRunning, Cond.instanceMethod yX1_isRunning, Cond.selects RX1 yX1_isRunning yX1_isRunning, Cond.code yX1_isRunning cX1_isRunning 2 (some .boolean), Cond.methodLink RL 159 yL_times, Cond.static yL_times] [686, 687, 688, 689, 690, 691, 692, 693, 694, 695] (by decide +kernel) (by decide +kernel)) (goodIn_c1 (List.mem_of_getElem? (i := 696) rfl) (by decide +kernel) (goodIn_app (goodIn_r [Cond.methodLink RL 162 yL_plays, Cond.static yL_plays] [697, 698] (by decide +kernel) (by decide +kernel)) (goodIn_c1 (List.mem_of_getElem? (i := 699) rfl) (by decide +kernel) (goodIn_app (goodIn_r [Cond.constant RL 142 (100000), Cond.constant RL 143 (50000), Cond.constantLong RL 144 (1000)] [700, 701, 702] (by decide +kernel) (by decide +kernel)) goodIn_0)))))
set_option maxRecDepth 100000 in
theorem wsLj_0 : GoodIn lw_tbl wsX00 := goodIn_r _ [160, 162, 164, 166] (by decide +kernel) (by decide +kernel)
set_option maxRecDepth 100000 in
theorem wsLj_1 : GoodIn lw_tbl wsX10 := goodIn_r _ [65, 67, 69, 71, 73, 75] (by decide +kernel) (by decide +kernel)
set_option maxRecDepth 100000 in
theorem wsLj_2 : GoodIn lw_tbl wsX20 := goodIn_r _ [109, 111] (by decide +kernel) (by decide +kernel)
set_option maxRecDepth 100000 in
theorem wsLj_3 : GoodIn lw_tbl wsX30 := goodIn_r _ [91, 93, 95, 97] (by decide +kernel) (by decide +kernel)
set_option maxRecDepth 100000 in
theorem wsLj_4 : GoodIn lw_tbl wsX40 := goodIn_r _ [131, 133, 135, 137, 139, 141] (by decide +kernel) (by decide +kernel)
set_option maxRecDepth 100000 in
theorem wsLj_5 : GoodIn lw_tbl wsX50 := goodIn_r _ [177, 179] (by decide +kernel) (by decide +kernel)
set_option maxRecDepth 100000 in
theorem wsLj_6 : GoodIn lw_tbl wsX60 := goodIn_r _ [45, 47, 49] (by decide +kernel) (by decide +kernel)
set_option maxRecDepth 100000 in
theorem wsLj_7 : GoodIn lw_tbl wsX70 := goodIn_r _ [196, 198, 200, 202, 204, 206, 208, 210, 212, 214, 216, 218, 220] (by decide +kernel) (by decide +kernel)
theorem wsL_law_in0 : ∀ w ∈ wsL_law0, w ∈ lw_tbl := fun w h => ((goodIn_app (goodIn_app (goodIn_app (goodIn_app (goodIn_app (goodIn_app (goodIn_app (goodIn_app (goodIn_app (goodIn_app wsLi_1 (goodIn_app wsLi_2 (goodIn_app wsLi_3 (goodIn_app wsLi_4 (goodIn_app wsLi_5 (goodIn_app wsLi_6 (goodIn_app wsLi_7 (goodIn_app wsLi_8 (goodIn_app wsLi_9 (goodIn_app wsLi_10 (goodIn_app wsLi_11 (goodIn_app wsLi_12 (goodIn_app wsLi_13 (goodIn_app wsLi_14 (goodIn_app wsLi_15 (goodIn_app wsLi_16 (goodIn_app wsLi_17 (goodIn_app wsLi_18 (goodIn_app wsLi_19 (wsLi_20)))))))))))))))))))) wsLj_7) wsLj_6) wsLj_1) wsLj_3) wsLj_2) wsLj_4) wsLj_0) wsLj_5) (fun _ h => absurd h List.not_mem_nil) : GoodIn lw_tbl wsL_law0) w h).1
theorem wsL_law_x0 : ∀ w ∈ (vx_atS RX7 86 "java/lang/IllegalArgumentException" ["java/lang/RuntimeException", "java/lang/Exception"]).filter goodWord, w ∈ lw_tbl := by decide +kernel
theorem wsL_law_x1 : ∀ w ∈ (vx_atS RX7 116 "java/lang/IndexOutOfBoundsException" ["java/lang/RuntimeException", "java/lang/Exception"]).filter goodWord, w ∈ lw_tbl := by decide +kernel
theorem wsL_law_x2 : ∀ w ∈ (vx_atS RX7 127 "java/lang/IllegalStateException" ["java/lang/RuntimeException", "java/lang/Exception"]).filter goodWord, w ∈ lw_tbl := by decide +kernel
theorem wsL_law_in : ∀ w ∈ wsL_law, w ∈ lw_tbl := fun w h => (List.mem_append.mp h).elim (fun h => (List.mem_append.mp h).elim (fun h => (List.mem_append.mp h).elim (fun h => wsL_law_in0 w h) (fun h => wsL_law_x0 w h)) (fun h => wsL_law_x1 w h)) (fun h => wsL_law_x2 w h)
theorem inlX0 : ∀ w ∈ wsX00, w ∈ wsL_law := fun _ h => List.mem_append_left _ (List.mem_append_left _ (List.mem_append_left _ (List.mem_append_left _ (List.mem_append_left _ (List.mem_append_right _ h)))))
theorem inlX1 : ∀ w ∈ wsX10, w ∈ wsL_law := fun _ h => List.mem_append_left _ (List.mem_append_left _ (List.mem_append_left _ (List.mem_append_left _ (List.mem_append_left _ (List.mem_append_left _ (List.mem_append_left _ (List.mem_append_left _ (List.mem_append_left _ (List.mem_append_right _ h)))))))))
theorem inlX2 : ∀ w ∈ wsX20, w ∈ wsL_law := fun _ h => List.mem_append_left _ (List.mem_append_left _ (List.mem_append_left _ (List.mem_append_left _ (List.mem_append_left _ (List.mem_append_left _ (List.mem_append_left _ (List.mem_append_right _ h)))))))
theorem inlX3 : ∀ w ∈ wsX30, w ∈ wsL_law := fun _ h => List.mem_append_left _ (List.mem_append_left _ (List.mem_append_left _ (List.mem_append_left _ (List.mem_append_left _ (List.mem_append_left _ (List.mem_append_left _ (List.mem_append_left _ (List.mem_append_right _ h))))))))
theorem inlX4 : ∀ w ∈ wsX40, w ∈ wsL_law := fun _ h => List.mem_append_left _ (List.mem_append_left _ (List.mem_append_left _ (List.mem_append_left _ (List.mem_append_left _ (List.mem_append_left _ (List.mem_append_right _ h))))))
theorem inlX5 : ∀ w ∈ wsX50, w ∈ wsL_law := fun _ h => List.mem_append_left _ (List.mem_append_left _ (List.mem_append_left _ (List.mem_append_left _ (List.mem_append_right _ h))))
theorem inlX6 : ∀ w ∈ wsX60, w ∈ wsL_law := fun _ h => List.mem_append_left _ (List.mem_append_left _ (List.mem_append_left _ (List.mem_append_left _ (List.mem_append_left _ (List.mem_append_left _ (List.mem_append_left _ (List.mem_append_left _ (List.mem_append_left _ (List.mem_append_left _ (List.mem_append_right _ h))))))))))
theorem inlX7 : ∀ w ∈ wsX70, w ∈ wsL_law := fun _ h => List.mem_append_left _ (List.mem_append_left _ (List.mem_append_left _ (List.mem_append_left _ (List.mem_append_left _ (List.mem_append_left _ (List.mem_append_left _ (List.mem_append_left _ (List.mem_append_left _ (List.mem_append_left _ (List.mem_append_left _ (List.mem_append_right _ h)))))))))))
theorem inX0 : ∀ w ∈ wsX00, w ∈ lw_tbl := fun w h => wsL_law_in w (inlX0 w h)
theorem inX1 : ∀ w ∈ wsX10, w ∈ lw_tbl := fun w h => wsL_law_in w (inlX1 w h)
theorem inX2 : ∀ w ∈ wsX20, w ∈ lw_tbl := fun w h => wsL_law_in w (inlX2 w h)
theorem inX3 : ∀ w ∈ wsX30, w ∈ lw_tbl := fun w h => wsL_law_in w (inlX3 w h)
theorem inX4 : ∀ w ∈ wsX40, w ∈ lw_tbl := fun w h => wsL_law_in w (inlX4 w h)
theorem inX5 : ∀ w ∈ wsX50, w ∈ lw_tbl := fun w h => wsL_law_in w (inlX5 w h)
theorem inX6 : ∀ w ∈ wsX60, w ∈ lw_tbl := fun w h => wsL_law_in w (inlX6 w h)
theorem inX7 : ∀ w ∈ wsX70, w ∈ lw_tbl := fun w h => wsL_law_in w (inlX7 w h)
theorem inX8 : ∀ w ∈ wsX80, w ∈ lw_tbl := by decide +kernel
theorem inJ9 : ∀ w ∈ wsJ90, w ∈ lw_tbl := by decide +kernel
theorem inJ0 : ∀ w ∈ wsJ00, w ∈ lw_tbl := by decide +kernel
