theorem in_r {big : List Cond} (ws : List Cond) (ps : List Nat) (hp : ws = ps.filterMap (fun i => big[i]?)) : ∀ w ∈ ws, w ∈ big := by
  intro w hw
  rw [hp] at hw
  obtain ⟨i, -, hi⟩ := List.mem_filterMap.mp hw
  exact List.mem_of_getElem? hi
set_option maxRecDepth 20000 in
theorem wl_1 : ∀ w ∈ wsL_law0_r1, w ∈ lw_tbl := in_r _ [69, 70, 53, 762, 763, 59, 1153, 71, 72, 73, 74, 75, 76, 77, 78, 54, 221, 222, 158, 159, 56, 223, 176, 177] (by decide +kernel)
set_option maxRecDepth 20000 in
theorem wl_2 : ∀ w ∈ wsL_law0_r2, w ∈ lw_tbl := in_r _ [57, 224, 192, 193, 58, 225, 79, 80, 81, 82, 109, 96, 118, 83, 84, 55, 121, 124, 127, 130, 85, 86, 87, 88] (by decide +kernel)
set_option maxRecDepth 20000 in
theorem wl_3 : ∀ w ∈ wsL_law0_r3, w ∈ lw_tbl := in_r _ [89, 90, 97, 98, 99, 100, 160, 161, 162, 163, 164, 166, 175, 167, 178, 179, 180, 181, 182, 184, 194, 195, 196, 197] (by decide +kernel)
set_option maxRecDepth 20000 in
theorem wl_4 : ∀ w ∈ wsL_law0_r4, w ∈ lw_tbl := in_r _ [198, 202, 204, 764, 765, 766, 767, 768, 770, 772, 774, 775, 776, 777, 781, 582, 583, 52, 584, 585, 586, 587, 588, 589] (by decide +kernel)
set_option maxRecDepth 20000 in
theorem wl_5 : ∀ w ∈ wsL_law0_r5, w ∈ lw_tbl := in_r _ [590, 591, 64, 102, 550, 551, 552, 450, 63, 241, 242, 243, 244, 185, 245, 246, 247, 248, 249, 250, 251, 252, 253, 101] (by decide +kernel)
set_option maxRecDepth 20000 in
theorem wl_6 : ∀ w ∈ wsL_law0_r6, w ∈ lw_tbl := in_r _ [104, 107, 111, 113, 116, 254, 256, 255, 65, 257, 258, 259, 260, 261, 262, 66, 263, 264, 607, 608, 609, 610, 818, 819] (by decide +kernel)
set_option maxRecDepth 20000 in
theorem wl_7 : ∀ w ∈ wsL_law0_r7, w ∈ lw_tbl := in_r _ [820, 821, 773, 822, 823, 824, 825, 826, 827, 828, 829, 830, 831, 832, 833, 834, 836, 6, 837, 769, 838, 840, 7, 841] (by decide +kernel)
set_option maxRecDepth 20000 in
theorem wl_8 : ∀ w ∈ wsL_law0_r8, w ∈ lw_tbl := in_r _ [814, 815, 816, 817, 611, 612, 613, 614, 615, 616, 617, 105, 619, 620, 621, 622, 292, 274, 275, 276, 842, 843, 844, 845] (by decide +kernel)
set_option maxRecDepth 20000 in
theorem wl_9 : ∀ w ∈ wsL_law0_r9, w ∈ lw_tbl := in_r _ [846, 848, 8, 849, 623, 624, 625, 626, 627, 628, 629, 630, 122, 530, 532, 2, 533, 534, 67, 554, 270, 271, 272, 632] (by decide +kernel)
set_option maxRecDepth 20000 in
theorem wl_10 : ∀ w ∈ wsL_law0_r10, w ∈ lw_tbl := in_r _ [850, 851, 852, 853, 854, 856, 9, 857, 858, 860, 10, 861, 633, 634, 635, 636, 637, 638, 639, 862, 863, 864, 865, 640] (by decide +kernel)
set_option maxRecDepth 20000 in
theorem wl_11 : ∀ w ∈ wsL_law0_r11, w ∈ lw_tbl := in_r _ [641, 642, 643, 644, 645, 646, 129, 564, 565, 566, 866, 867, 868, 869, 870, 871, 872, 873, 875, 11, 876, 237, 238, 239] (by decide +kernel)
set_option maxRecDepth 20000 in
theorem wl_12 : ∀ w ∈ wsL_law0_r12, w ∈ lw_tbl := in_r _ [240, 265, 266, 267, 268, 269, 273, 877, 878, 879, 880, 881, 883, 12, 884, 885, 887, 13, 888, 889, 891, 14, 892, 647] (by decide +kernel)
set_option maxRecDepth 20000 in
theorem wl_13 : ∀ w ∈ wsL_law0_r13, w ∈ lw_tbl := in_r _ [648, 649, 650, 651, 652, 653, 658, 120, 654, 655, 656, 893, 894, 895, 896, 897, 898, 899, 900, 901, 902, 660, 661, 662] (by decide +kernel)
set_option maxRecDepth 20000 in
theorem wl_14 : ∀ w ∈ wsL_law0_r14, w ∈ lw_tbl := in_r _ [663, 664, 665, 666, 345, 346, 347, 348, 114, 349, 350, 351, 352, 128, 353, 354, 355, 356, 357, 358, 359, 360, 106, 125] (by decide +kernel)
set_option maxRecDepth 20000 in
theorem wl_15 : ∀ w ∈ wsL_law0_r15, w ∈ lw_tbl := in_r _ [361, 362, 363, 364, 119, 365, 366, 367, 368, 369, 370, 371, 372, 373, 374, 375, 376, 377, 378, 379, 123, 380, 381, 382] (by decide +kernel)
set_option maxRecDepth 20000 in
theorem wl_16 : ∀ w ∈ wsL_law0_r16, w ∈ lw_tbl := in_r _ [383, 384, 385, 386, 387, 388, 389, 390, 391, 392, 393, 394, 395, 396, 397, 398, 286, 287, 288, 289, 290, 291, 399, 400] (by decide +kernel)
set_option maxRecDepth 20000 in
theorem wl_17 : ∀ w ∈ wsL_law0_r17, w ∈ lw_tbl := in_r _ [401, 402, 403, 404, 405, 406, 407, 408, 409, 410, 411, 412, 413, 414, 415, 416, 417, 418, 419, 103, 131, 903, 904, 905] (by decide +kernel)
set_option maxRecDepth 20000 in
theorem wl_18 : ∀ w ∈ wsL_law0_r18, w ∈ lw_tbl := in_r _ [906, 907, 908, 909, 910, 912, 15, 913, 914, 916, 16, 917, 918, 920, 17, 921, 922, 924, 18, 925, 926, 928, 19, 929] (by decide +kernel)
set_option maxRecDepth 20000 in
theorem wl_19 : ∀ w ∈ wsL_law0_r19, w ∈ lw_tbl := in_r _ [930, 932, 20, 933, 934, 936, 21, 937, 938, 940, 22, 941, 942, 943, 944, 945, 947, 23, 948, 949, 951, 24, 952, 953] (by decide +kernel)
set_option maxRecDepth 20000 in
theorem wl_20 : ∀ w ∈ wsL_law0_r20, w ∈ lw_tbl := in_r _ [955, 25, 956, 957, 959, 26, 960, 961, 963, 27, 964, 965, 966, 967, 968, 969, 971, 28, 972, 973, 975, 29, 976, 977] (by decide +kernel)
set_option maxRecDepth 20000 in
theorem wl_21 : ∀ w ∈ wsL_law0_r21, w ∈ lw_tbl := in_r _ [979, 30, 980, 981, 983, 31, 984, 277, 278, 279, 280, 281, 282, 283, 284, 285, 985, 986, 987, 988, 989, 991, 32, 992] (by decide +kernel)
set_option maxRecDepth 20000 in
theorem wl_22 : ∀ w ∈ wsL_law0_r22, w ∈ lw_tbl := in_r _ [667, 668, 669, 670, 671, 672, 673, 201, 199, 993, 994, 995, 996, 771, 293, 294, 295, 296, 997, 998, 999, 1000, 297, 298] (by decide +kernel)
set_option maxRecDepth 20000 in
theorem wl_23 : ∀ w ∈ wsL_law0_r23, w ∈ lw_tbl := in_r _ [299, 300, 301, 302, 303, 304, 200, 305, 306, 307, 308, 309, 310, 311, 312, 313, 314, 315, 316, 206, 317, 318, 319, 320] (by decide +kernel)
set_option maxRecDepth 20000 in
theorem wl_24 : ∀ w ∈ wsL_law0_r24, w ∈ lw_tbl := in_r _ [205, 321, 322, 323, 324, 325, 327, 328, 329, 330, 331, 332, 333, 334, 1001, 1002, 1003, 1004, 1005, 1007, 33, 1008, 778, 780] (by decide +kernel)
set_option maxRecDepth 20000 in
theorem wl_25 : ∀ w ∈ wsL_law0_r25, w ∈ lw_tbl := in_r _ [1009, 1011, 34, 1012, 779, 1013, 1015, 35, 1016, 675, 676, 677, 678, 679, 680, 681, 682, 683, 684, 685, 686, 688, 690, 4] (by decide +kernel)
set_option maxRecDepth 20000 in
theorem wl_26 : ∀ w ∈ wsL_law0_r26, w ∈ lw_tbl := in_r _ [691, 692, 693, 695, 5, 696, 207, 203, 697, 1017, 1018, 1019, 1020, 1021, 1023, 36, 1024, 698, 699, 700, 701, 702, 703, 704] (by decide +kernel)
set_option maxRecDepth 20000 in
theorem wl_27 : ∀ w ∈ wsL_law0_r27, w ∈ lw_tbl := in_r _ [186, 705, 706, 707, 708, 1025, 1026, 1027, 1028, 710, 711, 712, 713, 527, 528, 529, 132, 432, 433, 434, 435, 1029, 1030, 1031] (by decide +kernel)
set_option maxRecDepth 20000 in
theorem wl_28 : ∀ w ∈ wsL_law0_r28, w ∈ lw_tbl := in_r _ [1032, 1033, 1035, 37, 1036, 714, 715, 716, 717, 718, 719, 720, 126, 1037, 1038, 1039, 1040, 1041, 1043, 38, 1044, 722, 723, 724] (by decide +kernel)
set_option maxRecDepth 20000 in
theorem wl_29 : ∀ w ∈ wsL_law0_r29, w ∈ lw_tbl := in_r _ [725, 726, 727, 728, 1045, 1046, 1047, 1048, 729, 730, 731, 732, 733, 734, 735, 1049, 1050, 1051, 1052, 736, 737, 738, 739, 447] (by decide +kernel)
set_option maxRecDepth 20000 in
theorem wl_30 : ∀ w ∈ wsL_law0_r30, w ∈ lw_tbl := in_r _ [448, 449, 108, 110, 112, 115, 117, 436, 437, 438, 439, 440, 1053, 1054, 1055, 1056, 1057, 1059, 39, 1060, 1061, 1063, 40, 1064] (by decide +kernel)
set_option maxRecDepth 20000 in
theorem wl_31 : ∀ w ∈ wsL_law0_r31, w ∈ lw_tbl := in_r _ [1065, 1067, 41, 1068, 740, 741, 742, 743, 744, 745, 746, 1069, 1070, 1071, 1072, 747, 748, 749, 750, 570, 571, 572, 339, 1073] (by decide +kernel)
set_option maxRecDepth 20000 in
theorem wl_32 : ∀ w ∈ wsL_law0_r32, w ∈ lw_tbl := in_r _ [1074, 1075, 1076, 1077, 1079, 42, 1080, 1081, 1083, 43, 1084, 1085, 1087, 44, 1088, 751, 752, 753, 754, 755, 756, 757, 559, 1089] (by decide +kernel)
set_option maxRecDepth 20000 in
theorem wl_33 : ∀ w ∈ wsL_law0_r33, w ∈ lw_tbl := in_r _ [1090, 1091, 1092, 758, 759, 760, 761, 561, 562, 563, 165, 568, 1093, 1094, 1095, 1096, 1097, 1099, 45, 1100, 335, 336, 337, 338] (by decide +kernel)
set_option maxRecDepth 20000 in
theorem wl_34 : ∀ w ∈ wsL_law0_r34, w ∈ lw_tbl := in_r _ [340, 341, 342, 343, 344, 1101, 1102, 1103, 1104, 1105, 1107, 46, 1108, 420, 421, 422, 423, 424, 425, 426, 427, 1109, 1110, 1111] (by decide +kernel)
set_option maxRecDepth 20000 in
theorem wl_35 : ∀ w ∈ wsL_law0_r35, w ∈ lw_tbl := in_r _ [1112, 1113, 1115, 47, 1116, 1117, 1119, 48, 1120, 428, 429, 430, 431, 1121, 1122, 1123, 1124, 1125, 1127, 49, 1128, 441, 442, 443] (by decide +kernel)
set_option maxRecDepth 20000 in
theorem wl_36 : ∀ w ∈ wsL_law0_r36, w ∈ lw_tbl := in_r _ [444, 445, 446, 518, 519, 520, 521, 522, 524, 1, 525, 526, 555, 557, 3, 558, 560, 569, 573, 574, 575, 576, 577, 578] (by decide +kernel)
set_option maxRecDepth 20000 in
theorem wl_37 : ∀ w ∈ wsL_law0_r37, w ∈ lw_tbl := in_r _ [579, 580, 581, 1129, 1130, 1131, 1132, 1133, 782, 1134, 1136, 50, 1137, 1138, 1139, 1141, 51, 1142, 1143, 1144, 68, 1145, 1149, 1151] (by decide +kernel)
set_option maxRecDepth 20000 in
theorem wl_38 : ∀ w ∈ wsL_law0_r38, w ∈ lw_tbl := in_r _ [1150, 68, 1152, 1146, 1147, 1148] (by decide +kernel)
set_option maxRecDepth 20000 in
theorem wlX5 : ∀ w ∈ wsX50, w ∈ lw_tbl := in_r _ [226, 228, 230, 232, 234] (by decide +kernel)
set_option maxRecDepth 20000 in
theorem wlX6 : ∀ w ∈ wsX60, w ∈ lw_tbl := in_r _ [783, 785, 787, 789, 791, 793, 795, 797, 799, 801, 803, 805, 807, 809, 811] (by decide +kernel)
set_option maxRecDepth 20000 in
theorem wlX2 : ∀ w ∈ wsX20, w ∈ lw_tbl := in_r _ [133, 135, 137, 139, 141, 143, 145, 147, 149, 151, 153, 155] (by decide +kernel)
set_option maxRecDepth 20000 in
theorem wlX4 : ∀ w ∈ wsX40, w ∈ lw_tbl := in_r _ [168, 170, 172] (by decide +kernel)
set_option maxRecDepth 20000 in
theorem wlX1 : ∀ w ∈ wsX10, w ∈ lw_tbl := in_r _ [187, 189] (by decide +kernel)
set_option maxRecDepth 20000 in
theorem wlX0 : ∀ w ∈ wsX00, w ∈ lw_tbl := in_r _ [208, 210, 212, 214, 216, 218] (by decide +kernel)
set_option maxRecDepth 20000 in
theorem wlX3 : ∀ w ∈ wsX30, w ∈ lw_tbl := in_r _ [91, 93] (by decide +kernel)
theorem wsL_law_in0 : ∀ w ∈ wsL_law0, w ∈ lw_tbl := fun w => fun h => (List.mem_append.mp h).elim (fun h => (List.mem_append.mp h).elim (fun h => (List.mem_append.mp h).elim (fun h => (List.mem_append.mp h).elim (fun h => (List.mem_append.mp h).elim (fun h => (List.mem_append.mp h).elim (fun h => (List.mem_append.mp h).elim (fun h => (List.mem_append.mp h).elim (fun h => (List.mem_append.mp h).elim (wl_1 w) (fun h => (List.mem_append.mp h).elim (wl_2 w) (fun h => (List.mem_append.mp h).elim (wl_3 w) (fun h => (List.mem_append.mp h).elim (wl_4 w) (fun h => (List.mem_append.mp h).elim (wl_5 w) (fun h => (List.mem_append.mp h).elim (wl_6 w) (fun h => (List.mem_append.mp h).elim (wl_7 w) (fun h => (List.mem_append.mp h).elim (wl_8 w) (fun h => (List.mem_append.mp h).elim (wl_9 w) (fun h => (List.mem_append.mp h).elim (wl_10 w) (fun h => (List.mem_append.mp h).elim (wl_11 w) (fun h => (List.mem_append.mp h).elim (wl_12 w) (fun h => (List.mem_append.mp h).elim (wl_13 w) (fun h => (List.mem_append.mp h).elim (wl_14 w) (fun h => (List.mem_append.mp h).elim (wl_15 w) (fun h => (List.mem_append.mp h).elim (wl_16 w) (fun h => (List.mem_append.mp h).elim (wl_17 w) (fun h => (List.mem_append.mp h).elim (wl_18 w) (fun h => (List.mem_append.mp h).elim (wl_19 w) (fun h => (List.mem_append.mp h).elim (wl_20 w) (fun h => (List.mem_append.mp h).elim (wl_21 w) (fun h => (List.mem_append.mp h).elim (wl_22 w) (fun h => (List.mem_append.mp h).elim (wl_23 w) (fun h => (List.mem_append.mp h).elim (wl_24 w) (fun h => (List.mem_append.mp h).elim (wl_25 w) (fun h => (List.mem_append.mp h).elim (wl_26 w) (fun h => (List.mem_append.mp h).elim (wl_27 w) (fun h => (List.mem_append.mp h).elim (wl_28 w) (fun h => (List.mem_append.mp h).elim (wl_29 w) (fun h => (List.mem_append.mp h).elim (wl_30 w) (fun h => (List.mem_append.mp h).elim (wl_31 w) (fun h => (List.mem_append.mp h).elim (wl_32 w) (fun h => (List.mem_append.mp h).elim (wl_33 w) (fun h => (List.mem_append.mp h).elim (wl_34 w) (fun h => (List.mem_append.mp h).elim (wl_35 w) (fun h => (List.mem_append.mp h).elim (wl_36 w) (fun h => (List.mem_append.mp h).elim (wl_37 w) (fun h => wl_38 w h)))))))))))))))))))))))))))))))))))))) (wlX5 w)) (wlX6 w)) (wlX2 w)) (wlX4 w)) (wlX1 w)) (wlX0 w)) (wlX3 w)) (fun h => absurd h List.not_mem_nil)
theorem wsL_law_x0 : ∀ w ∈ (vx_atS RX5 52 "java/lang/IllegalStateException" ["java/lang/RuntimeException", "java/lang/Exception"]).filter goodWord, w ∈ lw_tbl := by decide +kernel
theorem wsL_law_x1 : ∀ w ∈ (vx_atS RX5 140 "java/lang/IllegalArgumentException" ["java/lang/RuntimeException", "java/lang/Exception"]).filter goodWord, w ∈ lw_tbl := by decide +kernel
theorem wsL_law_x2 : ∀ w ∈ (vx_atS RX5 163 "java/lang/IndexOutOfBoundsException" ["java/lang/RuntimeException", "java/lang/Exception"]).filter goodWord, w ∈ lw_tbl := by decide +kernel
theorem wsL_law_in : ∀ w ∈ wsL_law, w ∈ lw_tbl := fun w h => (List.mem_append.mp h).elim (fun h => (List.mem_append.mp h).elim (fun h => (List.mem_append.mp h).elim (fun h => wsL_law_in0 w h) (fun h => wsL_law_x0 w h)) (fun h => wsL_law_x1 w h)) (fun h => wsL_law_x2 w h)
theorem inlX0 : ∀ w ∈ wsX00, w ∈ wsL_law := fun _ h => List.mem_append_left _ (List.mem_append_left _ (List.mem_append_left _ (List.mem_append_left _ (List.mem_append_left _ (List.mem_append_right _ h)))))
theorem inX0 : ∀ w ∈ wsX00, w ∈ lw_tbl := fun w h => wsL_law_in w (inlX0 w h)
theorem inlX1 : ∀ w ∈ wsX10, w ∈ wsL_law := fun _ h => List.mem_append_left _ (List.mem_append_left _ (List.mem_append_left _ (List.mem_append_left _ (List.mem_append_left _ (List.mem_append_left _ (List.mem_append_right _ h))))))
theorem inX1 : ∀ w ∈ wsX10, w ∈ lw_tbl := fun w h => wsL_law_in w (inlX1 w h)
theorem inlX2 : ∀ w ∈ wsX20, w ∈ wsL_law := fun _ h => List.mem_append_left _ (List.mem_append_left _ (List.mem_append_left _ (List.mem_append_left _ (List.mem_append_left _ (List.mem_append_left _ (List.mem_append_left _ (List.mem_append_left _ (List.mem_append_right _ h))))))))
theorem inX2 : ∀ w ∈ wsX20, w ∈ lw_tbl := fun w h => wsL_law_in w (inlX2 w h)
theorem inlX3 : ∀ w ∈ wsX30, w ∈ wsL_law := fun _ h => List.mem_append_left _ (List.mem_append_left _ (List.mem_append_left _ (List.mem_append_left _ (List.mem_append_right _ h))))
theorem inX3 : ∀ w ∈ wsX30, w ∈ lw_tbl := fun w h => wsL_law_in w (inlX3 w h)
theorem inlX4 : ∀ w ∈ wsX40, w ∈ wsL_law := fun _ h => List.mem_append_left _ (List.mem_append_left _ (List.mem_append_left _ (List.mem_append_left _ (List.mem_append_left _ (List.mem_append_left _ (List.mem_append_left _ (List.mem_append_right _ h)))))))
theorem inX4 : ∀ w ∈ wsX40, w ∈ lw_tbl := fun w h => wsL_law_in w (inlX4 w h)
theorem inlX5 : ∀ w ∈ wsX50, w ∈ wsL_law := fun _ h => List.mem_append_left _ (List.mem_append_left _ (List.mem_append_left _ (List.mem_append_left _ (List.mem_append_left _ (List.mem_append_left _ (List.mem_append_left _ (List.mem_append_left _ (List.mem_append_left _ (List.mem_append_left _ (List.mem_append_right _ h))))))))))
theorem inX5 : ∀ w ∈ wsX50, w ∈ lw_tbl := fun w h => wsL_law_in w (inlX5 w h)
theorem inlX6 : ∀ w ∈ wsX60, w ∈ wsL_law := fun _ h => List.mem_append_left _ (List.mem_append_left _ (List.mem_append_left _ (List.mem_append_left _ (List.mem_append_left _ (List.mem_append_left _ (List.mem_append_left _ (List.mem_append_left _ (List.mem_append_left _ (List.mem_append_right _ h)))))))))
theorem inX6 : ∀ w ∈ wsX60, w ∈ lw_tbl := fun w h => wsL_law_in w (inlX6 w h)
theorem inJxe99ae : ∀ w ∈ wsJxe99ae0, w ∈ lw_tbl := by decide +kernel
theorem inJ9 : ∀ w ∈ wsJ90, w ∈ lw_tbl := by decide +kernel
theorem inJ0 : ∀ w ∈ wsJ00, w ∈ lw_tbl := by decide +kernel
theorem inJ10 : ∀ w ∈ wsJ100, w ∈ lw_tbl := by decide +kernel
theorem dX0_init_0 : decode cX0_init 0 = .ok (.aload_n 0, 1) := by decide +kernel
theorem dX0_init_1 : decode cX0_init 1 = .ok (.invokespecial 3, 3) := by decide +kernel
theorem dX0_init_4 : decode cX0_init 4 = .ok (.aload_n 0, 1) := by decide +kernel
theorem dX0_init_5 : decode cX0_init 5 = .ok (.bipush 60, 2) := by decide +kernel
theorem dX0_init_7 : decode cX0_init 7 = .ok (.newarray .int, 2) := by decide +kernel
theorem dX0_init_9 : decode cX0_init 9 = .ok (.putfield 9, 3) := by decide +kernel
theorem dX0_init_12 : decode cX0_init 12 = .ok (.aload_n 0, 1) := by decide +kernel
theorem dX0_init_13 : decode cX0_init 13 = .ok (.iconst 3, 1) := by decide +kernel
theorem dX0_init_14 : decode cX0_init 14 = .ok (.newarray .int, 2) := by decide +kernel
theorem dX0_init_16 : decode cX0_init 16 = .ok (.putfield 15, 3) := by decide +kernel
theorem dX0_init_19 : decode cX0_init 19 = .ok (.aload_n 0, 1) := by decide +kernel
theorem dX0_init_20 : decode cX0_init 20 = .ok (.iconst (-1), 1) := by decide +kernel
theorem dX0_init_21 : decode cX0_init 21 = .ok (.putfield 18, 3) := by decide +kernel
theorem dX0_init_24 : decode cX0_init 24 = .ok (.return_, 1) := by decide +kernel
set_option maxRecDepth 20000 in
theorem ggX0_isBoard_X0_errorIndex : GoodIn wsX0_isBoard wsX0_errorIndex := goodIn_r _ [8, 1, 9, 10, 11, 12, 7, 13, 2, 14, 15, 16, 17, 18, 19, 20, 21, 22, 23, 24, 25, 26, 3, 27, 28, 29, 30, 31, 32, 33, 34, 35, 36, 37, 38, 39, 40, 41, 42, 43, 44, 45, 46] (by decide +kernel) (by decide +kernel)
set_option maxRecDepth 20000 in
theorem gX0_isBoard_X0_errorIndex : GoodIn wsX0_isBoard (wsV RX0 22 RX0 yX0_errorIndex wsX0_errorIndex) := goodIn_app (goodIn_of _ (by decide +kernel)) ggX0_isBoard_X0_errorIndex
set_option maxRecDepth 20000 in
theorem ggX0_isBoard_X0_numberEnd : GoodIn wsX0_isBoard wsX0_numberEnd := goodIn_r _ [40, 2, 22, 41, 42, 43, 44, 45, 46] (by decide +kernel) (by decide +kernel)
set_option maxRecDepth 20000 in
theorem gX0_isBoard_X0_numberEnd : GoodIn wsX0_isBoard (wsV RX0 32 RX0 yX0_numberEnd wsX0_numberEnd) := goodIn_app (goodIn_of _ (by decide +kernel)) ggX0_isBoard_X0_numberEnd
theorem dX0_isBoard_0 : decode cX0_isBoard 0 = .ok (.aload_n 0, 1) := by decide +kernel
theorem dX0_isBoard_1 : decode cX0_isBoard 1 = .ok (.invokevirtual 22, 3) := by decide +kernel
theorem dX0_isBoard_4 : decode cX0_isBoard 4 = .ok (.aload_n 0, 1) := by decide +kernel
theorem dX0_isBoard_5 : decode cX0_isBoard 5 = .ok (.getfield 26, 3) := by decide +kernel
theorem dX0_isBoard_8 : decode cX0_isBoard 8 = .ok (.if_icmp .ne 31, 3) := by decide +kernel
theorem dX0_isBoard_11 : decode cX0_isBoard 11 = .ok (.aload_n 0, 1) := by decide +kernel
theorem dX0_isBoard_12 : decode cX0_isBoard 12 = .ok (.getfield 18, 3) := by decide +kernel
theorem dX0_isBoard_15 : decode cX0_isBoard 15 = .ok (.iconst (-1), 1) := by decide +kernel
theorem dX0_isBoard_16 : decode cX0_isBoard 16 = .ok (.if_icmp .eq 23, 3) := by decide +kernel
theorem dX0_isBoard_19 : decode cX0_isBoard 19 = .ok (.aload_n 0, 1) := by decide +kernel
theorem dX0_isBoard_20 : decode cX0_isBoard 20 = .ok (.getfield 29, 3) := by decide +kernel
theorem dX0_isBoard_23 : decode cX0_isBoard 23 = .ok (.ifCond .le 16, 3) := by decide +kernel
theorem dX0_isBoard_26 : decode cX0_isBoard 26 = .ok (.aload_n 0, 1) := by decide +kernel
theorem dX0_isBoard_27 : decode cX0_isBoard 27 = .ok (.invokevirtual 32, 3) := by decide +kernel
theorem dX0_isBoard_30 : decode cX0_isBoard 30 = .ok (.bipush 59, 2) := by decide +kernel
theorem dX0_isBoard_32 : decode cX0_isBoard 32 = .ok (.if_icmp .ne 7, 3) := by decide +kernel
theorem dX0_isBoard_35 : decode cX0_isBoard 35 = .ok (.iconst 1, 1) := by decide +kernel
theorem dX0_isBoard_36 : decode cX0_isBoard 36 = .ok (.goto 4, 3) := by decide +kernel
theorem dX0_isBoard_39 : decode cX0_isBoard 39 = .ok (.iconst 0, 1) := by decide +kernel
theorem dX0_isBoard_40 : decode cX0_isBoard 40 = .ok (.ireturn, 1) := by decide +kernel
set_option maxRecDepth 20000 in
theorem ggX0_errorIndex_X0_startReading : GoodIn wsX0_errorIndex wsX0_startReading := goodIn_r _ [7, 8, 37, 38, 39, 40, 41, 42] (by decide +kernel) (by decide +kernel)
set_option maxRecDepth 20000 in
theorem gX0_errorIndex_X0_startReading : GoodIn wsX0_errorIndex (wsV RX0 35 RX0 yX0_startReading wsX0_startReading) := goodIn_app (goodIn_of _ (by decide +kernel)) ggX0_errorIndex_X0_startReading
set_option maxRecDepth 20000 in
theorem ggX0_errorIndex_X0_accept : GoodIn wsX0_errorIndex wsX0_accept := goodIn_r _ [12, 8, 13, 14, 15, 6, 16, 17, 18, 19, 20, 21, 22, 23, 24, 25, 26, 27, 28, 29, 30, 31, 32, 33, 34, 35, 36, 3, 4, 5, 7, 37, 38, 39, 40, 41, 42] (by decide +kernel) (by decide +kernel)
set_option maxRecDepth 20000 in
theorem gX0_errorIndex_X0_accept : GoodIn wsX0_errorIndex (wsV RX0 38 RX0 yX0_accept wsX0_accept) := goodIn_app (goodIn_of _ (by decide +kernel)) ggX0_errorIndex_X0_accept
theorem dX0_errorIndex_0 : decode cX0_errorIndex 0 = .ok (.aload_n 0, 1) := by decide +kernel
theorem dX0_errorIndex_1 : decode cX0_errorIndex 1 = .ok (.invokevirtual 35, 3) := by decide +kernel
theorem dX0_errorIndex_4 : decode cX0_errorIndex 4 = .ok (.iconst 0, 1) := by decide +kernel
theorem dX0_errorIndex_5 : decode cX0_errorIndex 5 = .ok (.istore_n 1, 1) := by decide +kernel
theorem dX0_errorIndex_6 : decode cX0_errorIndex 6 = .ok (.iload_n 1, 1) := by decide +kernel
theorem dX0_errorIndex_7 : decode cX0_errorIndex 7 = .ok (.aload_n 0, 1) := by decide +kernel
theorem dX0_errorIndex_8 : decode cX0_errorIndex 8 = .ok (.getfield 26, 3) := by decide +kernel
theorem dX0_errorIndex_11 : decode cX0_errorIndex 11 = .ok (.if_icmp .ge 24, 3) := by decide +kernel
theorem dX0_errorIndex_14 : decode cX0_errorIndex 14 = .ok (.aload_n 0, 1) := by decide +kernel
theorem dX0_errorIndex_15 : decode cX0_errorIndex 15 = .ok (.aload_n 0, 1) := by decide +kernel
theorem dX0_errorIndex_16 : decode cX0_errorIndex 16 = .ok (.getfield 9, 3) := by decide +kernel
theorem dX0_errorIndex_19 : decode cX0_errorIndex 19 = .ok (.iload_n 1, 1) := by decide +kernel
theorem dX0_errorIndex_20 : decode cX0_errorIndex 20 = .ok (.iaload, 1) := by decide +kernel
theorem dX0_errorIndex_21 : decode cX0_errorIndex 21 = .ok (.invokevirtual 38, 3) := by decide +kernel
theorem dX0_errorIndex_24 : decode cX0_errorIndex 24 = .ok (.ifCond .ne 5, 3) := by decide +kernel
theorem dX0_errorIndex_27 : decode cX0_errorIndex 27 = .ok (.iload_n 1, 1) := by decide +kernel
theorem dX0_errorIndex_28 : decode cX0_errorIndex 28 = .ok (.ireturn, 1) := by decide +kernel
theorem dX0_errorIndex_29 : decode cX0_errorIndex 29 = .ok (.iinc 1 1, 3) := by decide +kernel
theorem dX0_errorIndex_32 : decode cX0_errorIndex 32 = .ok (.goto (-26), 3) := by decide +kernel
theorem dX0_errorIndex_35 : decode cX0_errorIndex 35 = .ok (.aload_n 0, 1) := by decide +kernel
theorem dX0_errorIndex_36 : decode cX0_errorIndex 36 = .ok (.getfield 26, 3) := by decide +kernel
theorem dX0_errorIndex_39 : decode cX0_errorIndex 39 = .ok (.ireturn, 1) := by decide +kernel
theorem dX0_startReading_0 : decode cX0_startReading 0 = .ok (.aload_n 0, 1) := by decide +kernel
theorem dX0_startReading_1 : decode cX0_startReading 1 = .ok (.iconst (-1), 1) := by decide +kernel
theorem dX0_startReading_2 : decode cX0_startReading 2 = .ok (.putfield 18, 3) := by decide +kernel
theorem dX0_startReading_5 : decode cX0_startReading 5 = .ok (.return_, 1) := by decide +kernel
set_option maxRecDepth 20000 in
theorem ggX0_accept_X0_acceptLetter : GoodIn wsX0_accept wsX0_acceptLetter := goodIn_r _ [6, 7, 8, 9, 10, 5, 11, 1, 12, 13, 31, 32, 33, 34, 35, 36] (by decide +kernel) (by decide +kernel)
set_option maxRecDepth 20000 in
theorem gX0_accept_X0_acceptLetter : GoodIn wsX0_accept (wsV RX0 42 RX0 yX0_acceptLetter wsX0_acceptLetter) := goodIn_app (goodIn_of _ (by decide +kernel)) ggX0_accept_X0_acceptLetter
set_option maxRecDepth 20000 in
theorem ggX0_accept_X0_acceptDigit : GoodIn wsX0_accept wsX0_acceptDigit := goodIn_r _ [17, 13, 1, 12, 18, 31, 32, 33, 34, 35, 36] (by decide +kernel) (by decide +kernel)
set_option maxRecDepth 20000 in
theorem gX0_accept_X0_acceptDigit : GoodIn wsX0_accept (wsV RX0 45 RX0 yX0_acceptDigit wsX0_acceptDigit) := goodIn_app (goodIn_of _ (by decide +kernel)) ggX0_accept_X0_acceptDigit
set_option maxRecDepth 20000 in
theorem ggX0_accept_X0_acceptEnd : GoodIn wsX0_accept wsX0_acceptEnd := goodIn_r _ [22, 12, 1, 23, 24, 25, 5, 26, 7, 27, 28, 29, 30, 8, 9, 10, 11, 13, 31, 32, 33, 34, 35, 36] (by decide +kernel) (by decide +kernel)
set_option maxRecDepth 20000 in
theorem gX0_accept_X0_acceptEnd : GoodIn wsX0_accept (wsV RX0 48 RX0 yX0_acceptEnd wsX0_acceptEnd) := goodIn_app (goodIn_of _ (by decide +kernel)) ggX0_accept_X0_acceptEnd
theorem dX0_accept_0 : decode cX0_accept 0 = .ok (.aload_n 0, 1) := by decide +kernel
theorem dX0_accept_1 : decode cX0_accept 1 = .ok (.getfield 18, 3) := by decide +kernel
theorem dX0_accept_4 : decode cX0_accept 4 = .ok (.ifCond .lt 11, 3) := by decide +kernel
theorem dX0_accept_7 : decode cX0_accept 7 = .ok (.aload_n 0, 1) := by decide +kernel
theorem dX0_accept_8 : decode cX0_accept 8 = .ok (.getfield 18, 3) := by decide +kernel
theorem dX0_accept_11 : decode cX0_accept 11 = .ok (.iconst 2, 1) := by decide +kernel
theorem dX0_accept_12 : decode cX0_accept 12 = .ok (.if_icmp .le 9, 3) := by decide +kernel
theorem dX0_accept_15 : decode cX0_accept 15 = .ok (.aload_n 0, 1) := by decide +kernel
theorem dX0_accept_16 : decode cX0_accept 16 = .ok (.iload_n 1, 1) := by decide +kernel
theorem dX0_accept_17 : decode cX0_accept 17 = .ok (.invokevirtual 42, 3) := by decide +kernel
theorem dX0_accept_20 : decode cX0_accept 20 = .ok (.ireturn, 1) := by decide +kernel
theorem dX0_accept_21 : decode cX0_accept 21 = .ok (.iload_n 1, 1) := by decide +kernel
theorem dX0_accept_22 : decode cX0_accept 22 = .ok (.bipush 48, 2) := by decide +kernel
theorem dX0_accept_24 : decode cX0_accept 24 = .ok (.if_icmp .lt 18, 3) := by decide +kernel
theorem dX0_accept_27 : decode cX0_accept 27 = .ok (.iload_n 1, 1) := by decide +kernel
theorem dX0_accept_28 : decode cX0_accept 28 = .ok (.bipush 57, 2) := by decide +kernel
theorem dX0_accept_30 : decode cX0_accept 30 = .ok (.if_icmp .gt 12, 3) := by decide +kernel
theorem dX0_accept_33 : decode cX0_accept 33 = .ok (.aload_n 0, 1) := by decide +kernel
theorem dX0_accept_34 : decode cX0_accept 34 = .ok (.iload_n 1, 1) := by decide +kernel
theorem dX0_accept_35 : decode cX0_accept 35 = .ok (.bipush 48, 2) := by decide +kernel
theorem dX0_accept_37 : decode cX0_accept 37 = .ok (.isub, 1) := by decide +kernel
theorem dX0_accept_38 : decode cX0_accept 38 = .ok (.invokevirtual 45, 3) := by decide +kernel
theorem dX0_accept_41 : decode cX0_accept 41 = .ok (.ireturn, 1) := by decide +kernel
theorem dX0_accept_42 : decode cX0_accept 42 = .ok (.aload_n 0, 1) := by decide +kernel
theorem dX0_accept_43 : decode cX0_accept 43 = .ok (.iload_n 1, 1) := by decide +kernel
theorem dX0_accept_44 : decode cX0_accept 44 = .ok (.invokevirtual 48, 3) := by decide +kernel
theorem dX0_accept_47 : decode cX0_accept 47 = .ok (.ireturn, 1) := by decide +kernel
