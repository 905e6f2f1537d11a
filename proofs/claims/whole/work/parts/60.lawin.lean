set_option maxRecDepth 100000 in
theorem wsLi_1 : GoodIn lw_tbl wsL_law0_r1 := goodIn_r _ [55, 56, 39, 802, 803, 47, 209, 57, 58, 59, 60, 61, 62, 63, 64, 40, 210, 79, 211, 80, 81, 41, 212, 106] (by decide +kernel) (by decide +kernel)
set_option maxRecDepth 100000 in
theorem wsLi_2 : GoodIn lw_tbl wsL_law0_r2 := goodIn_r _ [107, 42, 213, 214, 127, 128, 43, 215, 141, 142, 44, 216, 171, 172, 45, 217, 196, 197, 46, 218, 219, 220, 221, 222] (by decide +kernel) (by decide +kernel)
set_option maxRecDepth 100000 in
theorem wsLi_3 : GoodIn lw_tbl wsL_law0_r3 := goodIn_r _ [65, 66, 67, 68, 69, 70, 71, 82, 83, 84, 85, 86, 87, 88, 89, 105, 90, 91, 108, 109, 110, 111, 112, 113] (by decide +kernel) (by decide +kernel)
set_option maxRecDepth 100000 in
theorem wsLi_4 : GoodIn lw_tbl wsL_law0_r4 := goodIn_r _ [114, 115, 129, 130, 131, 132, 133, 134, 143, 144, 145, 146, 147, 149, 151, 152, 154, 156, 173, 174, 175, 176, 179, 177] (by decide +kernel) (by decide +kernel)
set_option maxRecDepth 100000 in
theorem wsLi_5 : GoodIn lw_tbl wsL_law0_r5 := goodIn_r _ [181, 178, 183, 185, 198, 199, 200, 201, 202, 203, 804, 805, 806, 807, 810, 811, 812, 813, 814, 815, 816, 817, 818, 819] (by decide +kernel) (by decide +kernel)
set_option maxRecDepth 100000 in
theorem wsLi_6 : GoodIn lw_tbl wsL_law0_r6 := goodIn_r _ [821, 822, 823, 825, 826, 827, 832, 835, 839, 808, 840, 809, 841, 843, 844, 319, 320, 38, 321, 322, 323, 324, 325, 326] (by decide +kernel) (by decide +kernel)
set_option maxRecDepth 100000 in
theorem wsLi_7 : GoodIn lw_tbl wsL_law0_r7 := goodIn_r _ [330, 51, 327, 328, 329, 398, 400, 2, 401, 402, 403, 404, 405, 406, 407, 408, 409, 411, 412, 413, 414, 415, 416, 417] (by decide +kernel) (by decide +kernel)
set_option maxRecDepth 100000 in
theorem wsLi_8 : GoodIn lw_tbl wsL_law0_r8 := goodIn_r _ [418, 419, 420, 421, 423, 3, 424, 425, 426, 427, 428, 429, 267, 52, 268, 430, 431, 432, 433, 435, 436, 923, 924, 925] (by decide +kernel) (by decide +kernel)
set_option maxRecDepth 100000 in
theorem wsLi_9 : GoodIn lw_tbl wsL_law0_r9 := goodIn_r _ [926, 927, 928, 929, 930, 932, 15, 933, 845, 934, 936, 16, 937, 829, 938, 940, 17, 941, 833, 834, 942, 944, 18, 945] (by decide +kernel) (by decide +kernel)
set_option maxRecDepth 100000 in
theorem wsLi_10 : GoodIn lw_tbl wsL_law0_r10 := goodIn_r _ [831, 828, 830, 919, 920, 921, 922, 437, 438, 439, 440, 441, 442, 443, 445, 946, 947, 948, 949, 446, 447, 448, 449, 450] (by decide +kernel) (by decide +kernel)
set_option maxRecDepth 100000 in
theorem wsLi_11 : GoodIn lw_tbl wsL_law0_r11 := goodIn_r _ [451, 452, 454, 950, 951, 952, 953, 455, 456, 457, 458, 459, 460, 461, 462, 463, 465, 53, 486, 54, 464, 263, 264, 265] (by decide +kernel) (by decide +kernel)
set_option maxRecDepth 100000 in
theorem wsLi_12 : GoodIn lw_tbl wsL_law0_r12 := goodIn_r _ [482, 483, 484, 485, 502, 503, 504, 505, 506, 954, 955, 956, 957, 958, 960, 19, 961, 962, 964, 20, 965, 508, 509, 510] (by decide +kernel) (by decide +kernel)
set_option maxRecDepth 100000 in
theorem wsLi_13 : GoodIn lw_tbl wsL_law0_r13 := goodIn_r _ [511, 512, 513, 514, 516, 517, 518, 519, 521, 522, 523, 524, 525, 966, 967, 968, 969, 527, 528, 529, 530, 531, 532, 533] (by decide +kernel) (by decide +kernel)
set_option maxRecDepth 100000 in
theorem wsLi_14 : GoodIn lw_tbl wsL_law0_r14 := goodIn_r _ [970, 971, 972, 973, 535, 536, 537, 538, 539, 540, 541, 542, 543, 544, 545, 258, 260, 0, 261, 262, 974, 975, 976, 977] (by decide +kernel) (by decide +kernel)
set_option maxRecDepth 100000 in
theorem wsLi_15 : GoodIn lw_tbl wsL_law0_r15 := goodIn_r _ [978, 980, 21, 981, 546, 547, 548, 549, 550, 551, 552, 553, 554, 555, 556, 982, 983, 984, 985, 250, 251, 252, 253, 269] (by decide +kernel) (by decide +kernel)
set_option maxRecDepth 100000 in
theorem wsLi_16 : GoodIn lw_tbl wsL_law0_r16 := goodIn_r _ [254, 255, 256, 257, 266, 986, 987, 988, 989, 990, 992, 22, 993, 557, 558, 559, 560, 561, 562, 563, 565, 566, 567, 568] (by decide +kernel) (by decide +kernel)
set_option maxRecDepth 100000 in
theorem wsLi_17 : GoodIn lw_tbl wsL_law0_r17 := goodIn_r _ [569, 570, 571, 572, 994, 995, 996, 997, 998, 1000, 23, 1001, 1002, 1004, 24, 1005, 573, 574, 575, 576, 577, 578, 579, 581] (by decide +kernel) (by decide +kernel)
set_option maxRecDepth 100000 in
theorem wsLi_18 : GoodIn lw_tbl wsL_law0_r18 := goodIn_r _ [582, 583, 584, 586, 587, 588, 589, 590, 1006, 1007, 1008, 1009, 820, 591, 592, 593, 594, 595, 596, 597, 1010, 1011, 1012, 1013] (by decide +kernel) (by decide +kernel)
set_option maxRecDepth 100000 in
theorem wsLi_19 : GoodIn lw_tbl wsL_law0_r19 := goodIn_r _ [824, 600, 601, 602, 603, 604, 605, 606, 1014, 1015, 1016, 1017, 270, 271, 272, 273, 1018, 1019, 1020, 1021, 274, 275, 276, 277] (by decide +kernel) (by decide +kernel)
set_option maxRecDepth 100000 in
theorem wsLi_20 : GoodIn lw_tbl wsL_law0_r20 := goodIn_r _ [278, 279, 280, 281, 282, 1022, 1023, 1024, 1025, 1026, 1028, 25, 1029, 1030, 608, 609, 610, 611, 612, 613, 614, 616, 618, 4] (by decide +kernel) (by decide +kernel)
set_option maxRecDepth 100000 in
theorem wsLi_21 : GoodIn lw_tbl wsL_law0_r21 := goodIn_r _ [619, 620, 622, 5, 623, 624, 626, 6, 627, 628, 629, 630, 631, 632, 633, 634, 636, 7, 637, 638, 639, 640, 641, 642] (by decide +kernel) (by decide +kernel)
set_option maxRecDepth 100000 in
theorem wsLi_22 : GoodIn lw_tbl wsL_law0_r22 := goodIn_r _ [644, 8, 645, 646, 647, 648, 649, 650, 651, 652, 653, 654, 655, 656, 657, 658, 659, 660, 661, 663, 9, 664, 665, 666] (by decide +kernel) (by decide +kernel)
set_option maxRecDepth 100000 in
theorem wsLi_23 : GoodIn lw_tbl wsL_law0_r23 := goodIn_r _ [667, 668, 669, 672, 674, 10, 675, 676, 677, 52, 678, 679, 680, 681, 682, 683, 684, 685, 686, 688, 689, 690, 691, 692] (by decide +kernel) (by decide +kernel)
set_option maxRecDepth 100000 in
theorem wsLi_24 : GoodIn lw_tbl wsL_law0_r24 := goodIn_r _ [693, 694, 695, 697, 11, 698, 702, 699, 700, 701, 1031, 1032, 1033, 1034, 1035, 1037, 26, 1038, 1039, 1041, 27, 1042, 837, 1043] (by decide +kernel) (by decide +kernel)
set_option maxRecDepth 100000 in
theorem wsLi_25 : GoodIn lw_tbl wsL_law0_r25 := goodIn_r _ [1045, 28, 1046, 1047, 1049, 29, 1050, 1051, 1053, 30, 1054, 838, 1055, 1057, 31, 1058, 836, 1059, 1061, 32, 1062, 1063, 1065, 33] (by decide +kernel) (by decide +kernel)
set_option maxRecDepth 100000 in
theorem wsLi_26 : GoodIn lw_tbl wsL_law0_r26 := goodIn_r _ [1066, 1067, 1069, 34, 1070, 842, 1071, 1072, 1073, 1074, 283, 284, 285, 286, 1075, 1076, 1077, 1078, 287, 288, 289, 290, 1079, 1080] (by decide +kernel) (by decide +kernel)
set_option maxRecDepth 100000 in
theorem wsLi_27 : GoodIn lw_tbl wsL_law0_r27 := goodIn_r _ [1081, 1082, 291, 292, 293, 294, 1083, 1084, 1085, 1086, 703, 704, 705, 706, 707, 708, 709, 710, 1087, 1088, 1089, 1090, 295, 296] (by decide +kernel) (by decide +kernel)
set_option maxRecDepth 100000 in
theorem wsLi_28 : GoodIn lw_tbl wsL_law0_r28 := goodIn_r _ [297, 298, 1091, 1092, 1093, 1094, 299, 300, 301, 302, 1095, 1096, 1097, 1098, 303, 304, 305, 306, 1099, 1100, 1101, 1102, 711, 712] (by decide +kernel) (by decide +kernel)
set_option maxRecDepth 100000 in
theorem wsLi_29 : GoodIn lw_tbl wsL_law0_r29 := goodIn_r _ [713, 714, 715, 716, 717, 1103, 1104, 1105, 1106, 307, 308, 309, 310, 1107, 1108, 1109, 1110, 311, 312, 313, 314, 1111, 1112, 1113] (by decide +kernel) (by decide +kernel)
set_option maxRecDepth 100000 in
theorem wsLi_30 : GoodIn lw_tbl wsL_law0_r30 := goodIn_r _ [1114, 315, 316, 317, 318, 1115, 1116, 1117, 1118, 719, 720, 721, 722, 723, 724, 725, 727, 728, 729, 730, 731, 1119, 1120, 1121] (by decide +kernel) (by decide +kernel)
set_option maxRecDepth 100000 in
theorem wsLi_31 : GoodIn lw_tbl wsL_law0_r31 := goodIn_r _ [1122, 1123, 1125, 35, 1126, 1127, 1129, 36, 1130, 1131, 1133, 37, 1134, 732, 733, 734, 735, 736, 737, 738, 739, 740, 741, 742] (by decide +kernel) (by decide +kernel)
set_option maxRecDepth 100000 in
theorem wsLi_32 : GoodIn lw_tbl wsL_law0_r32 := goodIn_r _ [743, 745, 12, 746, 747, 749, 13, 750, 758, 756, 757, 751, 752, 753, 754, 755, 759, 761, 14, 762, 763, 1135, 1136, 1137] (by decide +kernel) (by decide +kernel)
set_option maxRecDepth 100000 in
theorem wsLi_33 : GoodIn lw_tbl wsL_law0_r33 := goodIn_r _ [1138, 764, 765, 766, 767, 768, 769, 770, 771, 772, 773, 774, 775, 776, 777, 778, 779, 780, 781, 782, 783, 784, 785, 1139] (by decide +kernel) (by decide +kernel)
set_option maxRecDepth 100000 in
theorem wsLi_34 : GoodIn lw_tbl wsL_law0_r34 := goodIn_r _ [1140, 1141, 1142, 786, 787, 788, 789, 790, 791, 792, 793, 794, 795, 796, 797, 798, 799, 800, 801, 1143, 1144, 1145, 1146, 1147] (by decide +kernel) (by decide +kernel)
set_option maxRecDepth 100000 in
theorem wsLj_0 : GoodIn lw_tbl wsX00 := goodIn_r _ [187, 189, 191, 193] (by decide +kernel) (by decide +kernel)
set_option maxRecDepth 100000 in
theorem wsLj_1 : GoodIn lw_tbl wsX10 := goodIn_r _ [92, 94, 96, 98, 100, 102] (by decide +kernel) (by decide +kernel)
set_option maxRecDepth 100000 in
theorem wsLj_2 : GoodIn lw_tbl wsX20 := goodIn_r _ [136, 138] (by decide +kernel) (by decide +kernel)
set_option maxRecDepth 100000 in
theorem wsLj_3 : GoodIn lw_tbl wsX30 := goodIn_r _ [118, 120, 122, 124] (by decide +kernel) (by decide +kernel)
set_option maxRecDepth 100000 in
theorem wsLj_4 : GoodIn lw_tbl wsX40 := goodIn_r _ [158, 160, 162, 164, 166, 168] (by decide +kernel) (by decide +kernel)
set_option maxRecDepth 100000 in
theorem wsLj_5 : GoodIn lw_tbl wsX50 := goodIn_r _ [204, 206] (by decide +kernel) (by decide +kernel)
set_option maxRecDepth 100000 in
theorem wsLj_6 : GoodIn lw_tbl wsX60 := goodIn_r _ [72, 74, 76] (by decide +kernel) (by decide +kernel)
set_option maxRecDepth 100000 in
theorem wsLj_7 : GoodIn lw_tbl wsX70 := goodIn_r _ [223, 225, 227, 229, 231, 233, 235, 237, 239, 241, 243, 245, 247] (by decide +kernel) (by decide +kernel)
set_option maxRecDepth 100000 in
theorem wsLj_8 : GoodIn lw_tbl wsX80 := goodIn_r _ [846, 848, 850, 852, 854, 856, 858, 860, 862, 864, 866, 868, 870, 872, 874, 876, 878, 880, 882, 884, 886, 888, 890, 892, 894, 896, 898, 900, 902, 904, 906, 908, 910, 912, 914, 916] (by decide +kernel) (by decide +kernel)
theorem wsL_law_in0 : ∀ w ∈ wsL_law0, w ∈ lw_tbl := fun w h => ((goodIn_app (goodIn_app (goodIn_app (goodIn_app (goodIn_app (goodIn_app (goodIn_app (goodIn_app (goodIn_app (goodIn_app (goodIn_app wsLi_1 (goodIn_app wsLi_2 (goodIn_app wsLi_3 (goodIn_app wsLi_4 (goodIn_app wsLi_5 (goodIn_app wsLi_6 (goodIn_app wsLi_7 (goodIn_app wsLi_8 (goodIn_app wsLi_9 (goodIn_app wsLi_10 (goodIn_app wsLi_11 (goodIn_app wsLi_12 (goodIn_app wsLi_13 (goodIn_app wsLi_14 (goodIn_app wsLi_15 (goodIn_app wsLi_16 (goodIn_app wsLi_17 (goodIn_app wsLi_18 (goodIn_app wsLi_19 (goodIn_app wsLi_20 (goodIn_app wsLi_21 (goodIn_app wsLi_22 (goodIn_app wsLi_23 (goodIn_app wsLi_24 (goodIn_app wsLi_25 (goodIn_app wsLi_26 (goodIn_app wsLi_27 (goodIn_app wsLi_28 (goodIn_app wsLi_29 (goodIn_app wsLi_30 (goodIn_app wsLi_31 (goodIn_app wsLi_32 (goodIn_app wsLi_33 (wsLi_34)))))))))))))))))))))))))))))))))) wsLj_7) wsLj_8) wsLj_6) wsLj_1) wsLj_3) wsLj_2) wsLj_4) wsLj_0) wsLj_5) (fun _ h => absurd h List.not_mem_nil) : GoodIn lw_tbl wsL_law0) w h).1
theorem wsL_law_x0 : ∀ w ∈ (vx_atS RX7 86 "java/lang/IllegalArgumentException" ["java/lang/RuntimeException", "java/lang/Exception"]).filter goodWord, w ∈ lw_tbl := by decide +kernel
theorem wsL_law_x1 : ∀ w ∈ (vx_atS RX7 116 "java/lang/IndexOutOfBoundsException" ["java/lang/RuntimeException", "java/lang/Exception"]).filter goodWord, w ∈ lw_tbl := by decide +kernel
theorem wsL_law_x2 : ∀ w ∈ (vx_atS RX7 127 "java/lang/IllegalStateException" ["java/lang/RuntimeException", "java/lang/Exception"]).filter goodWord, w ∈ lw_tbl := by decide +kernel
theorem wsL_law_in : ∀ w ∈ wsL_law, w ∈ lw_tbl := fun w h => (List.mem_append.mp h).elim (fun h => (List.mem_append.mp h).elim (fun h => (List.mem_append.mp h).elim (fun h => wsL_law_in0 w h) (fun h => wsL_law_x0 w h)) (fun h => wsL_law_x1 w h)) (fun h => wsL_law_x2 w h)
theorem inlX0 : ∀ w ∈ wsX00, w ∈ wsL_law := fun _ h => List.mem_append_left _ (List.mem_append_left _ (List.mem_append_left _ (List.mem_append_left _ (List.mem_append_left _ (List.mem_append_right _ h)))))
theorem inlX1 : ∀ w ∈ wsX10, w ∈ wsL_law := fun _ h => List.mem_append_left _ (List.mem_append_left _ (List.mem_append_left _ (List.mem_append_left _ (List.mem_append_left _ (List.mem_append_left _ (List.mem_append_left _ (List.mem_append_left _ (List.mem_append_left _ (List.mem_append_right _ h)))))))))
theorem inlX2 : ∀ w ∈ wsX20, w ∈ wsL_law := fun _ h => List.mem_append_left _ (List.mem_append_left _ (List.mem_append_left _ (List.mem_append_left _ (List.mem_append_left _ (List.mem_append_left _ (List.mem_append_left _ (List.mem_append_right _ h)))))))
theorem inlX3 : ∀ w ∈ wsX30, w ∈ wsL_law := fun _ h => List.mem_append_left _ (List.mem_append_left _ (List.mem_append_left _ (List.mem_append_left _ (List.mem_append_left _ (List.mem_append_left _ (List.mem_append_left _ (List.mem_append_left _ (List.mem_append_right _ h))))))))
theorem inlX4 : ∀ w ∈ wsX40, w ∈ wsL_law := fun _ h => List.mem_append_left _ (List.mem_append_left _ (List.mem_append_left _ (List.mem_append_left _ (List.mem_append_left _ (List.mem_append_left _ (List.mem_append_right _ h))))))
theorem inlX5 : ∀ w ∈ wsX50, w ∈ wsL_law := fun _ h => List.mem_append_left _ (List.mem_append_left _ (List.mem_append_left _ (List.mem_append_left _ (List.mem_append_right _ h))))
theorem inlX6 : ∀ w ∈ wsX60, w ∈ wsL_law := fun _ h => List.mem_append_left _ (List.mem_append_left _ (List.mem_append_left _ (List.mem_append_left _ (List.mem_append_left _ (List.mem_append_left _ (List.mem_append_left _ (List.mem_append_left _ (List.mem_append_left _ (List.mem_append_left _ (List.mem_append_right _ h))))))))))
theorem inlX7 : ∀ w ∈ wsX70, w ∈ wsL_law := fun _ h => List.mem_append_left _ (List.mem_append_left _ (List.mem_append_left _ (List.mem_append_left _ (List.mem_append_left _ (List.mem_append_left _ (List.mem_append_left _ (List.mem_append_left _ (List.mem_append_left _ (List.mem_append_left _ (List.mem_append_left _ (List.mem_append_left _ (List.mem_append_right _ h))))))))))))
theorem inlX8 : ∀ w ∈ wsX80, w ∈ wsL_law := fun _ h => List.mem_append_left _ (List.mem_append_left _ (List.mem_append_left _ (List.mem_append_left _ (List.mem_append_left _ (List.mem_append_left _ (List.mem_append_left _ (List.mem_append_left _ (List.mem_append_left _ (List.mem_append_left _ (List.mem_append_left _ (List.mem_append_right _ h)))))))))))
theorem inX0 : ∀ w ∈ wsX00, w ∈ lw_tbl := fun w h => wsL_law_in w (inlX0 w h)
theorem inX1 : ∀ w ∈ wsX10, w ∈ lw_tbl := fun w h => wsL_law_in w (inlX1 w h)
theorem inX2 : ∀ w ∈ wsX20, w ∈ lw_tbl := fun w h => wsL_law_in w (inlX2 w h)
theorem inX3 : ∀ w ∈ wsX30, w ∈ lw_tbl := fun w h => wsL_law_in w (inlX3 w h)
theorem inX4 : ∀ w ∈ wsX40, w ∈ lw_tbl := fun w h => wsL_law_in w (inlX4 w h)
theorem inX5 : ∀ w ∈ wsX50, w ∈ lw_tbl := fun w h => wsL_law_in w (inlX5 w h)
theorem inX6 : ∀ w ∈ wsX60, w ∈ lw_tbl := fun w h => wsL_law_in w (inlX6 w h)
theorem inX7 : ∀ w ∈ wsX70, w ∈ lw_tbl := fun w h => wsL_law_in w (inlX7 w h)
theorem inX8 : ∀ w ∈ wsX80, w ∈ lw_tbl := fun w h => wsL_law_in w (inlX8 w h)
theorem inJ9 : ∀ w ∈ wsJ90, w ∈ lw_tbl := by decide +kernel
theorem inJ0 : ∀ w ∈ wsJ00, w ∈ lw_tbl := by decide +kernel
