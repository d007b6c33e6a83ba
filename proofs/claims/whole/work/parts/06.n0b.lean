theorem in_r {big : List Cond} (ws : List Cond) (ps : List Nat) (hp : ws = ps.filterMap (fun i => big[i]?)) : ∀ w ∈ ws, w ∈ big := by
  intro w hw
  rw [hp] at hw
  obtain ⟨i, -, hi⟩ := List.mem_filterMap.mp hw
  exact List.mem_of_getElem? hi
set_option maxRecDepth 20000 in
theorem wl_1 : ∀ w ∈ wsL_law0_r1, w ∈ lw_tbl := in_r _ [69, 70, 53, 757, 758, 59, 1148, 71, 72, 73, 74, 75, 76, 77, 78, 54, 221, 222, 158, 159, 56, 223, 176, 177] (by decide +kernel)
set_option maxRecDepth 20000 in
theorem wl_2 : ∀ w ∈ wsL_law0_r2, w ∈ lw_tbl := in_r _ [57, 224, 192, 193, 58, 225, 79, 80, 81, 82, 109, 96, 118, 83, 84, 55, 121, 124, 127, 130, 85, 86, 87, 88] (by decide +kernel)
set_option maxRecDepth 20000 in
theorem wl_3 : ∀ w ∈ wsL_law0_r3, w ∈ lw_tbl := in_r _ [89, 90, 97, 98, 99, 100, 160, 161, 162, 163, 164, 166, 175, 167, 178, 179, 180, 181, 182, 184, 194, 195, 196, 197] (by decide +kernel)
set_option maxRecDepth 20000 in
theorem wl_4 : ∀ w ∈ wsL_law0_r4, w ∈ lw_tbl := in_r _ [198, 202, 204, 759, 760, 761, 762, 763, 765, 767, 769, 770, 771, 772, 776, 577, 578, 52, 579, 580, 581, 582, 583, 584] (by decide +kernel)
set_option maxRecDepth 20000 in
theorem wl_5 : ∀ w ∈ wsL_law0_r5, w ∈ lw_tbl := in_r _ [585, 586, 64, 102, 545, 546, 547, 445, 63, 241, 242, 243, 244, 185, 245, 246, 247, 248, 249, 250, 251, 252, 253, 101] (by decide +kernel)
set_option maxRecDepth 20000 in
theorem wl_6 : ∀ w ∈ wsL_law0_r6, w ∈ lw_tbl := in_r _ [104, 107, 111, 113, 116, 254, 256, 255, 65, 257, 258, 259, 260, 261, 262, 66, 263, 264, 602, 603, 604, 605, 813, 814] (by decide +kernel)
set_option maxRecDepth 20000 in
theorem wl_7 : ∀ w ∈ wsL_law0_r7, w ∈ lw_tbl := in_r _ [815, 816, 768, 817, 818, 819, 820, 821, 822, 823, 824, 825, 826, 827, 828, 829, 831, 6, 832, 764, 833, 835, 7, 836] (by decide +kernel)
set_option maxRecDepth 20000 in
theorem wl_8 : ∀ w ∈ wsL_law0_r8, w ∈ lw_tbl := in_r _ [809, 810, 811, 812, 606, 607, 608, 609, 610, 611, 612, 105, 614, 615, 616, 617, 292, 274, 275, 276, 837, 838, 839, 840] (by decide +kernel)
set_option maxRecDepth 20000 in
theorem wl_9 : ∀ w ∈ wsL_law0_r9, w ∈ lw_tbl := in_r _ [841, 843, 8, 844, 618, 619, 620, 621, 622, 623, 624, 625, 122, 525, 527, 2, 528, 529, 67, 549, 270, 271, 272, 627] (by decide +kernel)
set_option maxRecDepth 20000 in
theorem wl_10 : ∀ w ∈ wsL_law0_r10, w ∈ lw_tbl := in_r _ [845, 846, 847, 848, 849, 851, 9, 852, 853, 855, 10, 856, 628, 629, 630, 631, 632, 633, 634, 857, 858, 859, 860, 635] (by decide +kernel)
set_option maxRecDepth 20000 in
theorem wl_11 : ∀ w ∈ wsL_law0_r11, w ∈ lw_tbl := in_r _ [636, 637, 638, 639, 640, 641, 129, 559, 560, 561, 861, 862, 863, 864, 865, 866, 867, 868, 870, 11, 871, 237, 238, 239] (by decide +kernel)
set_option maxRecDepth 20000 in
theorem wl_12 : ∀ w ∈ wsL_law0_r12, w ∈ lw_tbl := in_r _ [240, 265, 266, 267, 268, 269, 273, 872, 873, 874, 875, 876, 878, 12, 879, 880, 882, 13, 883, 884, 886, 14, 887, 642] (by decide +kernel)
set_option maxRecDepth 20000 in
theorem wl_13 : ∀ w ∈ wsL_law0_r13, w ∈ lw_tbl := in_r _ [643, 644, 645, 646, 647, 648, 653, 120, 649, 650, 651, 888, 889, 890, 891, 892, 893, 894, 895, 896, 897, 655, 656, 657] (by decide +kernel)
set_option maxRecDepth 20000 in
theorem wl_14 : ∀ w ∈ wsL_law0_r14, w ∈ lw_tbl := in_r _ [658, 659, 660, 661, 340, 341, 342, 343, 114, 344, 345, 346, 347, 128, 348, 349, 350, 351, 352, 353, 354, 355, 106, 125] (by decide +kernel)
set_option maxRecDepth 20000 in
theorem wl_15 : ∀ w ∈ wsL_law0_r15, w ∈ lw_tbl := in_r _ [356, 357, 358, 359, 119, 360, 361, 362, 363, 364, 365, 366, 367, 368, 369, 370, 371, 372, 373, 374, 123, 375, 376, 377] (by decide +kernel)
set_option maxRecDepth 20000 in
theorem wl_16 : ∀ w ∈ wsL_law0_r16, w ∈ lw_tbl := in_r _ [378, 379, 380, 381, 382, 383, 384, 385, 386, 387, 388, 389, 390, 391, 392, 393, 286, 287, 288, 289, 290, 291, 394, 395] (by decide +kernel)
set_option maxRecDepth 20000 in
theorem wl_17 : ∀ w ∈ wsL_law0_r17, w ∈ lw_tbl := in_r _ [396, 397, 398, 399, 400, 401, 402, 403, 404, 405, 406, 407, 408, 409, 410, 411, 412, 413, 414, 103, 131, 898, 899, 900] (by decide +kernel)
set_option maxRecDepth 20000 in
theorem wl_18 : ∀ w ∈ wsL_law0_r18, w ∈ lw_tbl := in_r _ [901, 902, 903, 904, 905, 907, 15, 908, 909, 911, 16, 912, 913, 915, 17, 916, 917, 919, 18, 920, 921, 923, 19, 924] (by decide +kernel)
set_option maxRecDepth 20000 in
theorem wl_19 : ∀ w ∈ wsL_law0_r19, w ∈ lw_tbl := in_r _ [925, 927, 20, 928, 929, 931, 21, 932, 933, 935, 22, 936, 937, 938, 939, 940, 942, 23, 943, 944, 946, 24, 947, 948] (by decide +kernel)
set_option maxRecDepth 20000 in
theorem wl_20 : ∀ w ∈ wsL_law0_r20, w ∈ lw_tbl := in_r _ [950, 25, 951, 952, 954, 26, 955, 956, 958, 27, 959, 960, 961, 962, 963, 964, 966, 28, 967, 968, 970, 29, 971, 972] (by decide +kernel)
set_option maxRecDepth 20000 in
theorem wl_21 : ∀ w ∈ wsL_law0_r21, w ∈ lw_tbl := in_r _ [974, 30, 975, 976, 978, 31, 979, 277, 278, 279, 280, 281, 282, 283, 284, 285, 980, 981, 982, 983, 984, 986, 32, 987] (by decide +kernel)
set_option maxRecDepth 20000 in
theorem wl_22 : ∀ w ∈ wsL_law0_r22, w ∈ lw_tbl := in_r _ [662, 663, 664, 665, 666, 667, 668, 201, 199, 988, 989, 990, 991, 766, 293, 294, 295, 296, 992, 993, 994, 995, 297, 298] (by decide +kernel)
set_option maxRecDepth 20000 in
theorem wl_23 : ∀ w ∈ wsL_law0_r23, w ∈ lw_tbl := in_r _ [299, 300, 301, 302, 303, 304, 200, 305, 306, 307, 308, 309, 310, 311, 312, 313, 314, 315, 316, 206, 317, 318, 319, 320] (by decide +kernel)
set_option maxRecDepth 20000 in
theorem wl_24 : ∀ w ∈ wsL_law0_r24, w ∈ lw_tbl := in_r _ [205, 321, 322, 323, 324, 325, 327, 328, 329, 330, 331, 332, 333, 334, 996, 997, 998, 999, 1000, 1002, 33, 1003, 773, 775] (by decide +kernel)
set_option maxRecDepth 20000 in
theorem wl_25 : ∀ w ∈ wsL_law0_r25, w ∈ lw_tbl := in_r _ [1004, 1006, 34, 1007, 774, 1008, 1010, 35, 1011, 670, 671, 672, 673, 674, 675, 676, 677, 678, 679, 680, 681, 683, 685, 4] (by decide +kernel)
set_option maxRecDepth 20000 in
theorem wl_26 : ∀ w ∈ wsL_law0_r26, w ∈ lw_tbl := in_r _ [686, 687, 688, 690, 5, 691, 207, 203, 692, 1012, 1013, 1014, 1015, 1016, 1018, 36, 1019, 693, 694, 695, 696, 697, 698, 699] (by decide +kernel)
set_option maxRecDepth 20000 in
theorem wl_27 : ∀ w ∈ wsL_law0_r27, w ∈ lw_tbl := in_r _ [186, 700, 701, 702, 703, 1020, 1021, 1022, 1023, 705, 706, 707, 708, 522, 523, 524, 132, 427, 428, 429, 430, 1024, 1025, 1026] (by decide +kernel)
set_option maxRecDepth 20000 in
theorem wl_28 : ∀ w ∈ wsL_law0_r28, w ∈ lw_tbl := in_r _ [1027, 1028, 1030, 37, 1031, 709, 710, 711, 712, 713, 714, 715, 126, 1032, 1033, 1034, 1035, 1036, 1038, 38, 1039, 717, 718, 719] (by decide +kernel)
set_option maxRecDepth 20000 in
theorem wl_29 : ∀ w ∈ wsL_law0_r29, w ∈ lw_tbl := in_r _ [720, 721, 722, 723, 1040, 1041, 1042, 1043, 724, 725, 726, 727, 728, 729, 730, 1044, 1045, 1046, 1047, 731, 732, 733, 734, 442] (by decide +kernel)
set_option maxRecDepth 20000 in
theorem wl_30 : ∀ w ∈ wsL_law0_r30, w ∈ lw_tbl := in_r _ [443, 444, 108, 110, 112, 115, 117, 431, 432, 433, 434, 435, 1048, 1049, 1050, 1051, 1052, 1054, 39, 1055, 1056, 1058, 40, 1059] (by decide +kernel)
set_option maxRecDepth 20000 in
theorem wl_31 : ∀ w ∈ wsL_law0_r31, w ∈ lw_tbl := in_r _ [1060, 1062, 41, 1063, 735, 736, 737, 738, 739, 740, 741, 1064, 1065, 1066, 1067, 742, 743, 744, 745, 565, 566, 567, 339, 1068] (by decide +kernel)
set_option maxRecDepth 20000 in
theorem wl_32 : ∀ w ∈ wsL_law0_r32, w ∈ lw_tbl := in_r _ [1069, 1070, 1071, 1072, 1074, 42, 1075, 1076, 1078, 43, 1079, 1080, 1082, 44, 1083, 746, 747, 748, 749, 750, 751, 752, 554, 1084] (by decide +kernel)
set_option maxRecDepth 20000 in
theorem wl_33 : ∀ w ∈ wsL_law0_r33, w ∈ lw_tbl := in_r _ [1085, 1086, 1087, 753, 754, 755, 756, 556, 557, 558, 165, 563, 1088, 1089, 1090, 1091, 1092, 1094, 45, 1095, 335, 336, 337, 338] (by decide +kernel)
set_option maxRecDepth 20000 in
theorem wl_34 : ∀ w ∈ wsL_law0_r34, w ∈ lw_tbl := in_r _ [1096, 1097, 1098, 1099, 1100, 1102, 46, 1103, 415, 416, 417, 418, 419, 420, 421, 422, 1104, 1105, 1106, 1107, 1108, 1110, 47, 1111] (by decide +kernel)
set_option maxRecDepth 20000 in
theorem wl_35 : ∀ w ∈ wsL_law0_r35, w ∈ lw_tbl := in_r _ [1112, 1114, 48, 1115, 423, 424, 425, 426, 1116, 1117, 1118, 1119, 1120, 1122, 49, 1123, 436, 437, 438, 439, 440, 441, 513, 514] (by decide +kernel)
set_option maxRecDepth 20000 in
theorem wl_36 : ∀ w ∈ wsL_law0_r36, w ∈ lw_tbl := in_r _ [515, 516, 517, 519, 1, 520, 521, 550, 552, 3, 553, 555, 564, 568, 569, 570, 571, 572, 573, 574, 575, 576, 1124, 1125] (by decide +kernel)
set_option maxRecDepth 20000 in
theorem wl_37 : ∀ w ∈ wsL_law0_r37, w ∈ lw_tbl := in_r _ [1126, 1127, 1128, 777, 1129, 1131, 50, 1132, 1133, 1134, 1136, 51, 1137, 1138, 1139, 68, 1140, 1144, 1146, 1145, 68, 1147, 1141, 1142] (by decide +kernel)
set_option maxRecDepth 20000 in
theorem wl_38 : ∀ w ∈ wsL_law0_r38, w ∈ lw_tbl := in_r _ [1143] (by decide +kernel)
set_option maxRecDepth 20000 in
theorem wlX5 : ∀ w ∈ wsX50, w ∈ lw_tbl := in_r _ [226, 228, 230, 232, 234] (by decide +kernel)
set_option maxRecDepth 20000 in
theorem wlX6 : ∀ w ∈ wsX60, w ∈ lw_tbl := in_r _ [778, 780, 782, 784, 786, 788, 790, 792, 794, 796, 798, 800, 802, 804, 806] (by decide +kernel)
set_option maxRecDepth 20000 in
theorem wlX2 : ∀ w ∈ wsX20, w ∈ lw_tbl := in_r _ [133, 135, 137, 139, 141, 143, 145, 147, 149, 151, 153, 155] (by decide +kernel)
set_option maxRecDepth 20000 in
theorem wlX4 : ∀ w ∈ wsX40, w ∈ lw_tbl := in_r _ [168, 170, 172] (by decide +kernel)
set_option maxRecDepth 20000 in
theorem wlX1 : ∀ w ∈ wsX10, w ∈ lw_tbl := in_r _ [187, 189] (by decide +kernel)
set_option maxRecDepth 20000 in
theorem wlX0 : ∀ w ∈ wsX00, w ∈ lw_tbl := in_r _ [208, 210, 212, 214, 216, 218] (by decide +kernel)
set_option maxRecDepth 20000 in
theorem wlX3 : ∀ w ∈ wsX30, w ∈ lw_tbl := in_r _ [91, 93] (by decide +kernel)
theorem wsL_law_in0 : ∀ w ∈ wsL_law0, w ∈ lw_tbl := fun w => fun h => (List.mem_append.mp h).elim (fun h => (List.mem_append.mp h).elim (fun h => (List.mem_append.mp h).elim (fun h => (List.mem_append.mp h).elim (fun h => (List.mem_append.mp h).elim (fun h => (List.mem_append.mp h).elim (fun h => (List.mem_append.mp h).elim (fun h => (List.mem_append.mp h).elim (fun h => (List.mem_append.mp h).elim (wl_1 w) (fun h => (List.mem_append.mp h).elim (wl_2 w) (fun h => (List.mem_append.mp h).elim (wl_3 w) (fun h => (List.mem_append.mp h).elim (wl_4 w) (fun h => (List.mem_append.mp h).elim (wl_5 w) (fun h => (List.mem_append.mp h).elim (wl_6 w) (fun h => (List.mem_append.mp h).elim (wl_7 w) (fun h => (List.mem_append.mp h).elim (wl_8 w) (fun h => (List.mem_append.mp h).elim (wl_9 w) (fun h => (List.mem_append.mp h).elim (wl_10 w) (fun h => (List.mem_append.mp h).elim (wl_11 w) (fun h => (List.mem_append.mp h).elim (wl_12 w) (fun h => (List.mem_append.mp h).elim (wl_13 w) (fun h => (List.mem_append.mp h).elim (wl_14 w) (fun h => (List.mem_append.mp h).elim (wl_15 w) (fun h => (List.mem_append.mp h).elim (wl_16 w) (fun h => (List.mem_append.mp h).elim (wl_17 w) (fun h => (List.mem_append.mp h).elim (wl_18 w) (fun h => (List.mem_append.mp h).elim (wl_19 w) (fun h => (List.mem_append.mp h).elim (wl_20 w) (fun h => (List.mem_append.mp h).elim (wl_21 w) (fun h => (List.mem_append.mp h).elim (wl_22 w) (fun h => (List.mem_append.mp h).elim (wl_23 w) (fun h => (List.mem_append.mp h).elim (wl_24 w) (fun h => (List.mem_append.mp h).elim (wl_25 w) (fun h => (List.mem_append.mp h).elim (wl_26 w) (fun h => (List.mem_append.mp h).elim (wl_27 w) (fun h => (List.mem_append.mp h).elim (wl_28 w) (fun h => (List.mem_append.mp h).elim (wl_29 w) (fun h => (List.mem_append.mp h).elim (wl_30 w) (fun h => (List.mem_append.mp h).elim (wl_31 w) (fun h => (List.mem_append.mp h).elim (wl_32 w) (fun h => (List.mem_append.mp h).elim (wl_33 w) (fun h => (List.mem_append.mp h).elim (wl_34 w) (fun h => (List.mem_append.mp h).elim (wl_35 w) (fun h => (List.mem_append.mp h).elim (wl_36 w) (fun h => (List.mem_append.mp h).elim (wl_37 w) (fun h => wl_38 w h)))))))))))))))))))))))))))))))))))))) (wlX5 w)) (wlX6 w)) (wlX2 w)) (wlX4 w)) (wlX1 w)) (wlX0 w)) (wlX3 w)) (fun h => absurd h List.not_mem_nil)
theorem wsL_law_x0 : ∀ w ∈ (vx_atS RX5 52 "java/lang/IllegalStateException" ["java/lang/RuntimeException", "java/lang/Exception"]).filter goodWord, w ∈ lw_tbl := by decide +kernel
theorem wsL_law_x1 : ∀ w ∈ (vx_atS RX5 140 "java/lang/IllegalArgumentException" ["java/lang/RuntimeException", "java/lang/Exception"]).filter goodWord, w ∈ lw_tbl := by decide +kernel
theorem wsL_law_x2 : ∀ w ∈ (vx_atS RX5 163 "java/lang/IndexOutOfBoundsException" ["java/lang/RuntimeException", "java/lang/Exception"]).filter goodWord, w ∈ lw_tbl := by decide +kernel
theorem wsL_law_in : ∀ w ∈ wsL_law, w ∈ lw_tbl := fun w h => (List.mem_append.mp h).elim (fun h => (List.mem_append.mp h).elim (fun h => (List.mem_append.mp h).elim (fun h => wsL_law_in0 w h) (fun h => wsL_law_x0 w h)) (fun h => wsL_law_x1 w h)) (fun h => wsL_law_x2 w h)
theorem inlX0 : ∀ w ∈ wsX00, w ∈ wsL_law := fun _ h => List.mem_append_left _ (List.mem_append_left _ (List.mem_append_left _ (List.mem_append_left _ (List.mem_append_left _ (List.mem_append_right _ h)))))
theorem inX0 : ∀ w ∈ wsX00, w ∈ lw_tbl := fun w h => wsL_law_in w (inlX0 w h)
theorem inlX1 : ∀ w ∈ wsX10, w ∈ wsL_law := fun _ h => List.mem_append_left _ (List.mem_append_left _ (List.mem_append_left _ (List.mem_append_left _ (List.mem_append_left _ (List.mem_append_left _ (List.mem_append_right _ h))))))
theorem inX1 : ∀ w ∈ wsX10, w ∈ lw_tbl := fun w h => wsL_law_in w (inlX1 w h)
theorem inlX2 : ∀ w ∈ wsX20, w ∈ wsL_law := fun _ h => List.mem_append_left _ (List.mem_append_left _ (List.mem_append_left _ (List.mem_append_left _ (List.mem_append_left _ (List.mem_append_left _ (List.mem_append_left _ (List.mem_append_left _ (List.mem_append_right _ h))))))))
theorem inX2 : ∀ w ∈ wsX20, w ∈ lw_tbl := fun w h => wsL_law_in w (inlX2 w h)
theorem inlX3 : ∀ w ∈ wsX30, w ∈ wsL_law := fun _ h => List.mem_append_left _ (List.mem_append_left _ (List.mem_append_left _ (List.mem_append_left _ (List.mem_append_right _ h))))
theorem inX3 : ∀ w ∈ wsX30, w ∈ lw_tbl := fun w h => wsL_law_in w (inlX3 w h)
theorem inlX4 : ∀ w ∈ wsX40, w ∈ wsL_law := fun _ h => List.mem_append_left _ (List.mem_append_left _ (List.mem_append_left _ (List.mem_append_left _ (List.mem_append_left _ (List.mem_append_left _ (List.mem_append_left _ (List.mem_append_right _ h)))))))
theorem inX4 : ∀ w ∈ wsX40, w ∈ lw_tbl := fun w h => wsL_law_in w (inlX4 w h)
theorem inlX5 : ∀ w ∈ wsX50, w ∈ wsL_law := fun _ h => List.mem_append_left _ (List.mem_append_left _ (List.mem_append_left _ (List.mem_append_left _ (List.mem_append_left _ (List.mem_append_left _ (List.mem_append_left _ (List.mem_append_left _ (List.mem_append_left _ (List.mem_append_left _ (List.mem_append_right _ h))))))))))
theorem inX5 : ∀ w ∈ wsX50, w ∈ lw_tbl := fun w h => wsL_law_in w (inlX5 w h)
theorem inlX6 : ∀ w ∈ wsX60, w ∈ wsL_law := fun _ h => List.mem_append_left _ (List.mem_append_left _ (List.mem_append_left _ (List.mem_append_left _ (List.mem_append_left _ (List.mem_append_left _ (List.mem_append_left _ (List.mem_append_left _ (List.mem_append_left _ (List.mem_append_right _ h)))))))))
theorem inX6 : ∀ w ∈ wsX60, w ∈ lw_tbl := fun w h => wsL_law_in w (inlX6 w h)
theorem inJxe99ae : ∀ w ∈ wsJxe99ae0, w ∈ lw_tbl := by decide +kernel
theorem inJ9 : ∀ w ∈ wsJ90, w ∈ lw_tbl := by decide +kernel
theorem inJ0 : ∀ w ∈ wsJ00, w ∈ lw_tbl := by decide +kernel
theorem inJ10 : ∀ w ∈ wsJ100, w ∈ lw_tbl := by decide +kernel
theorem dX0_init_0 : decode cX0_init 0 = .ok (.aload_n 0, 1) := by decide +kernel
theorem dX0_init_1 : decode cX0_init 1 = .ok (.invokespecial 3, 3) := by decide +kernel
theorem dX0_init_4 : decode cX0_init 4 = .ok (.aload_n 0, 1) := by decide +kernel
theorem dX0_init_5 : decode cX0_init 5 = .ok (.bipush 60, 2) := by decide +kernel
theorem dX0_init_7 : decode cX0_init 7 = .ok (.newarray .int, 2) := by decide +kernel
theorem dX0_init_9 : decode cX0_init 9 = .ok (.putfield 9, 3) := by decide +kernel
theorem dX0_init_12 : decode cX0_init 12 = .ok (.aload_n 0, 1) := by decide +kernel
theorem dX0_init_13 : decode cX0_init 13 = .ok (.iconst 3, 1) := by decide +kernel
theorem dX0_init_14 : decode cX0_init 14 = .ok (.newarray .int, 2) := by decide +kernel
theorem dX0_init_16 : decode cX0_init 16 = .ok (.putfield 15, 3) := by decide +kernel
theorem dX0_init_19 : decode cX0_init 19 = .ok (.aload_n 0, 1) := by decide +kernel
theorem dX0_init_20 : decode cX0_init 20 = .ok (.iconst (-1), 1) := by decide +kernel
theorem dX0_init_21 : decode cX0_init 21 = .ok (.putfield 18, 3) := by decide +kernel
theorem dX0_init_24 : decode cX0_init 24 = .ok (.return_, 1) := by decide +kernel
set_option maxRecDepth 20000 in
theorem ggX0_isBoard_X0_errorIndex : GoodIn wsX0_isBoard wsX0_errorIndex := goodIn_r _ [8, 1, 9, 10, 11, 12, 7, 13, 2, 14, 15, 16, 17, 18, 19, 20, 21, 22, 23, 24, 25, 26, 3, 27, 28, 29, 30, 31, 32, 33, 34, 35, 36, 37, 38, 39, 40, 41, 42, 43, 44, 45, 46] (by decide +kernel) (by decide +kernel)
set_option maxRecDepth 20000 in
theorem gX0_isBoard_X0_errorIndex : GoodIn wsX0_isBoard (wsV RX0 22 RX0 yX0_errorIndex wsX0_errorIndex) := goodIn_app (goodIn_of _ (by decide +kernel)) ggX0_isBoard_X0_errorIndex
set_option maxRecDepth 20000 in
theorem ggX0_isBoard_X0_numberEnd : GoodIn wsX0_isBoard wsX0_numberEnd := goodIn_r _ [40, 2, 22, 41, 42, 43, 44, 45, 46] (by decide +kernel) (by decide +kernel)
set_option maxRecDepth 20000 in
theorem gX0_isBoard_X0_numberEnd : GoodIn wsX0_isBoard (wsV RX0 32 RX0 yX0_numberEnd wsX0_numberEnd) := goodIn_app (goodIn_of _ (by decide +kernel)) ggX0_isBoard_X0_numberEnd
theorem dX0_isBoard_0 : decode cX0_isBoard 0 = .ok (.aload_n 0, 1) := by decide +kernel
theorem dX0_isBoard_1 : decode cX0_isBoard 1 = .ok (.invokevirtual 22, 3) := by decide +kernel
theorem dX0_isBoard_4 : decode cX0_isBoard 4 = .ok (.aload_n 0, 1) := by decide +kernel
theorem dX0_isBoard_5 : decode cX0_isBoard 5 = .ok (.getfield 26, 3) := by decide +kernel
theorem dX0_isBoard_8 : decode cX0_isBoard 8 = .ok (.if_icmp .ne 31, 3) := by decide +kernel
theorem dX0_isBoard_11 : decode cX0_isBoard 11 = .ok (.aload_n 0, 1) := by decide +kernel
theorem dX0_isBoard_12 : decode cX0_isBoard 12 = .ok (.getfield 18, 3) := by decide +kernel
theorem dX0_isBoard_15 : decode cX0_isBoard 15 = .ok (.iconst (-1), 1) := by decide +kernel
theorem dX0_isBoard_16 : decode cX0_isBoard 16 = .ok (.if_icmp .eq 23, 3) := by decide +kernel
theorem dX0_isBoard_19 : decode cX0_isBoard 19 = .ok (.aload_n 0, 1) := by decide +kernel
theorem dX0_isBoard_20 : decode cX0_isBoard 20 = .ok (.getfield 29, 3) := by decide +kernel
theorem dX0_isBoard_23 : decode cX0_isBoard 23 = .ok (.ifCond .le 16, 3) := by decide +kernel
theorem dX0_isBoard_26 : decode cX0_isBoard 26 = .ok (.aload_n 0, 1) := by decide +kernel
theorem dX0_isBoard_27 : decode cX0_isBoard 27 = .ok (.invokevirtual 32, 3) := by decide +kernel
theorem dX0_isBoard_30 : decode cX0_isBoard 30 = .ok (.bipush 59, 2) := by decide +kernel
theorem dX0_isBoard_32 : decode cX0_isBoard 32 = .ok (.if_icmp .ne 7, 3) := by decide +kernel
theorem dX0_isBoard_35 : decode cX0_isBoard 35 = .ok (.iconst 1, 1) := by decide +kernel
theorem dX0_isBoard_36 : decode cX0_isBoard 36 = .ok (.goto 4, 3) := by decide +kernel
theorem dX0_isBoard_39 : decode cX0_isBoard 39 = .ok (.iconst 0, 1) := by decide +kernel
theorem dX0_isBoard_40 : decode cX0_isBoard 40 = .ok (.ireturn, 1) := by decide +kernel
set_option maxRecDepth 20000 in
theorem ggX0_errorIndex_X0_startReading : GoodIn wsX0_errorIndex wsX0_startReading := goodIn_r _ [7, 8, 37, 38, 39, 40, 41, 42] (by decide +kernel) (by decide +kernel)
set_option maxRecDepth 20000 in
theorem gX0_errorIndex_X0_startReading : GoodIn wsX0_errorIndex (wsV RX0 35 RX0 yX0_startReading wsX0_startReading) := goodIn_app (goodIn_of _ (by decide +kernel)) ggX0_errorIndex_X0_startReading
set_option maxRecDepth 20000 in
theorem ggX0_errorIndex_X0_accept : GoodIn wsX0_errorIndex wsX0_accept := goodIn_r _ [12, 8, 13, 14, 15, 6, 16, 17, 18, 19, 20, 21, 22, 23, 24, 25, 26, 27, 28, 29, 30, 31, 32, 33, 34, 35, 36, 3, 4, 5, 7, 37, 38, 39, 40, 41, 42] (by decide +kernel) (by decide +kernel)
set_option maxRecDepth 20000 in
theorem gX0_errorIndex_X0_accept : GoodIn wsX0_errorIndex (wsV RX0 38 RX0 yX0_accept wsX0_accept) := goodIn_app (goodIn_of _ (by decide +kernel)) ggX0_errorIndex_X0_accept
theorem dX0_errorIndex_0 : decode cX0_errorIndex 0 = .ok (.aload_n 0, 1) := by decide +kernel
theorem dX0_errorIndex_1 : decode cX0_errorIndex 1 = .ok (.invokevirtual 35, 3) := by decide +kernel
theorem dX0_errorIndex_4 : decode cX0_errorIndex 4 = .ok (.iconst 0, 1) := by decide +kernel
theorem dX0_errorIndex_5 : decode cX0_errorIndex 5 = .ok (.istore_n 1, 1) := by decide +kernel
theorem dX0_errorIndex_6 : decode cX0_errorIndex 6 = .ok (.iload_n 1, 1) := by decide +kernel
theorem dX0_errorIndex_7 : decode cX0_errorIndex 7 = .ok (.aload_n 0, 1) := by decide +kernel
theorem dX0_errorIndex_8 : decode cX0_errorIndex 8 = .ok (.getfield 26, 3) := by decide +kernel
theorem dX0_errorIndex_11 : decode cX0_errorIndex 11 = .ok (.if_icmp .ge 24, 3) := by decide +kernel
theorem dX0_errorIndex_14 : decode cX0_errorIndex 14 = .ok (.aload_n 0, 1) := by decide +kernel
theorem dX0_errorIndex_15 : decode cX0_errorIndex 15 = .ok (.aload_n 0, 1) := by decide +kernel
theorem dX0_errorIndex_16 : decode cX0_errorIndex 16 = .ok (.getfield 9, 3) := by decide +kernel
theorem dX0_errorIndex_19 : decode cX0_errorIndex 19 = .ok (.iload_n 1, 1) := by decide +kernel
theorem dX0_errorIndex_20 : decode cX0_errorIndex 20 = .ok (.iaload, 1) := by decide +kernel
theorem dX0_errorIndex_21 : decode cX0_errorIndex 21 = .ok (.invokevirtual 38, 3) := by decide +kernel
theorem dX0_errorIndex_24 : decode cX0_errorIndex 24 = .ok (.ifCond .ne 5, 3) := by decide +kernel

