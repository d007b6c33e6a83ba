theorem dX6_counted_68 : decode cX6_counted 68 = .ok (.ireturn, 1) := by decide +kernel
theorem dX6_counted_69 : decode cX6_counted 69 = .ok (.aload_n 0, 1) := by decide +kernel
theorem dX6_counted_70 : decode cX6_counted 70 = .ok (.getfield 7, 3) := by decide +kernel
theorem dX6_counted_73 : decode cX6_counted 73 = .ok (.bipush 11, 2) := by decide +kernel
theorem dX6_counted_75 : decode cX6_counted 75 = .ok (.iaload, 1) := by decide +kernel
theorem dX6_counted_76 : decode cX6_counted 76 = .ok (.ireturn, 1) := by decide +kernel
theorem dX6_counted_77 : decode cX6_counted 77 = .ok (.aload_n 0, 1) := by decide +kernel
theorem dX6_counted_78 : decode cX6_counted 78 = .ok (.invokevirtual 199, 3) := by decide +kernel
theorem dX6_counted_81 : decode cX6_counted 81 = .ok (.ireturn, 1) := by decide +kernel
theorem dX6_counted_82 : decode cX6_counted 82 = .ok (.aload_n 0, 1) := by decide +kernel
theorem dX6_counted_83 : decode cX6_counted 83 = .ok (.getfield 38, 3) := by decide +kernel
theorem dX6_counted_86 : decode cX6_counted 86 = .ok (.ireturn, 1) := by decide +kernel
theorem dX6_counted_87 : decode cX6_counted 87 = .ok (.aload_n 0, 1) := by decide +kernel
theorem dX6_counted_88 : decode cX6_counted 88 = .ok (.getfield 7, 3) := by decide +kernel
theorem dX6_counted_91 : decode cX6_counted 91 = .ok (.iconst 5, 1) := by decide +kernel
theorem dX6_counted_92 : decode cX6_counted 92 = .ok (.iload_n 1, 1) := by decide +kernel
theorem dX6_counted_93 : decode cX6_counted 93 = .ok (.iadd, 1) := by decide +kernel
theorem dX6_counted_94 : decode cX6_counted 94 = .ok (.iaload, 1) := by decide +kernel
theorem dX6_counted_95 : decode cX6_counted 95 = .ok (.ireturn, 1) := by decide +kernel
set_option maxRecDepth 20000 in
theorem ggX6_count_X6_within : GoodIn wsX6_count wsX6_within := goodIn_r _ [5] (by decide +kernel) (by decide +kernel)
set_option maxRecDepth 20000 in
theorem gX6_count_X6_within : GoodIn wsX6_count (va_wsS RX6 45 yX6_within wsX6_within) := goodIn_app (goodIn_of _ (by decide +kernel)) ggX6_count_X6_within
set_option maxRecDepth 20000 in
theorem ggX6_count_X6_counted : GoodIn wsX6_count wsX6_counted := goodIn_r _ [9, 10, 11, 12, 13, 14, 4, 15, 16, 17, 18, 19, 20, 21, 22, 23, 24, 25, 26, 27, 28, 29, 30, 31, 32, 33, 34, 35, 36, 37, 38, 39, 40, 41, 42, 43, 44, 45, 46, 47, 48, 49, 50] (by decide +kernel) (by decide +kernel)
set_option maxRecDepth 20000 in
theorem gX6_count_X6_counted : GoodIn wsX6_count (wsV RX6 202 RX6 yX6_counted wsX6_counted) := goodIn_app (goodIn_of _ (by decide +kernel)) ggX6_count_X6_counted
theorem dX6_count_0 : decode cX6_count 0 = .ok (.aload_n 0, 1) := by decide +kernel
theorem dX6_count_1 : decode cX6_count 1 = .ok (.iload_n 1, 1) := by decide +kernel
theorem dX6_count_2 : decode cX6_count 2 = .ok (.iconst 0, 1) := by decide +kernel
theorem dX6_count_3 : decode cX6_count 3 = .ok (.bipush 13, 2) := by decide +kernel
theorem dX6_count_5 : decode cX6_count 5 = .ok (.invokestatic 45, 3) := by decide +kernel
theorem dX6_count_8 : decode cX6_count 8 = .ok (.ifCond .eq 7, 3) := by decide +kernel
theorem dX6_count_11 : decode cX6_count 11 = .ok (.iconst 0, 1) := by decide +kernel
theorem dX6_count_12 : decode cX6_count 12 = .ok (.goto 4, 3) := by decide +kernel
theorem dX6_count_15 : decode cX6_count 15 = .ok (.iconst 1, 1) := by decide +kernel
theorem dX6_count_16 : decode cX6_count 16 = .ok (.putfield 34, 3) := by decide +kernel
theorem dX6_count_19 : decode cX6_count 19 = .ok (.aload_n 0, 1) := by decide +kernel
theorem dX6_count_20 : decode cX6_count 20 = .ok (.getfield 34, 3) := by decide +kernel
theorem dX6_count_23 : decode cX6_count 23 = .ok (.ifCond .le 7, 3) := by decide +kernel
theorem dX6_count_26 : decode cX6_count 26 = .ok (.iconst 0, 1) := by decide +kernel
theorem dX6_count_27 : decode cX6_count 27 = .ok (.goto 8, 3) := by decide +kernel
theorem dX6_count_30 : decode cX6_count 30 = .ok (.aload_n 0, 1) := by decide +kernel
theorem dX6_count_31 : decode cX6_count 31 = .ok (.iload_n 1, 1) := by decide +kernel
theorem dX6_count_32 : decode cX6_count 32 = .ok (.invokevirtual 202, 3) := by decide +kernel
theorem dX6_count_35 : decode cX6_count 35 = .ok (.ireturn, 1) := by decide +kernel
set_option maxRecDepth 20000 in
theorem ggX6_setting_X6_isSetting : GoodIn wsX6_setting wsX6_isSetting := goodIn_r _ [6, 7, 8, 5, 9] (by decide +kernel) (by decide +kernel)
set_option maxRecDepth 20000 in
theorem gX6_setting_X6_isSetting : GoodIn wsX6_setting (va_wsS RX6 92 yX6_isSetting wsX6_isSetting) := goodIn_app (goodIn_of _ (by decide +kernel)) ggX6_setting_X6_isSetting
theorem dX6_setting_0 : decode cX6_setting 0 = .ok (.aload_n 0, 1) := by decide +kernel
theorem dX6_setting_1 : decode cX6_setting 1 = .ok (.iload_n 1, 1) := by decide +kernel
theorem dX6_setting_2 : decode cX6_setting 2 = .ok (.invokestatic 92, 3) := by decide +kernel
theorem dX6_setting_5 : decode cX6_setting 5 = .ok (.ifCond .eq 7, 3) := by decide +kernel
theorem dX6_setting_8 : decode cX6_setting 8 = .ok (.iconst 0, 1) := by decide +kernel
theorem dX6_setting_9 : decode cX6_setting 9 = .ok (.goto 4, 3) := by decide +kernel
theorem dX6_setting_12 : decode cX6_setting 12 = .ok (.iconst 1, 1) := by decide +kernel
theorem dX6_setting_13 : decode cX6_setting 13 = .ok (.putfield 34, 3) := by decide +kernel
theorem dX6_setting_16 : decode cX6_setting 16 = .ok (.aload_n 0, 1) := by decide +kernel
theorem dX6_setting_17 : decode cX6_setting 17 = .ok (.getfield 34, 3) := by decide +kernel
theorem dX6_setting_20 : decode cX6_setting 20 = .ok (.ifCond .le 7, 3) := by decide +kernel
theorem dX6_setting_23 : decode cX6_setting 23 = .ok (.iconst 0, 1) := by decide +kernel
theorem dX6_setting_24 : decode cX6_setting 24 = .ok (.goto 11, 3) := by decide +kernel
theorem dX6_setting_27 : decode cX6_setting 27 = .ok (.aload_n 0, 1) := by decide +kernel
theorem dX6_setting_28 : decode cX6_setting 28 = .ok (.getfield 7, 3) := by decide +kernel
theorem dX6_setting_31 : decode cX6_setting 31 = .ok (.iconst 0, 1) := by decide +kernel
theorem dX6_setting_32 : decode cX6_setting 32 = .ok (.iload_n 1, 1) := by decide +kernel
theorem dX6_setting_33 : decode cX6_setting 33 = .ok (.iadd, 1) := by decide +kernel
theorem dX6_setting_34 : decode cX6_setting 34 = .ok (.iaload, 1) := by decide +kernel
theorem dX6_setting_35 : decode cX6_setting 35 = .ok (.ireturn, 1) := by decide +kernel
theorem dX6_keep_0 : decode cX6_keep 0 = .ok (.iconst 0, 1) := by decide +kernel
theorem dX6_keep_1 : decode cX6_keep 1 = .ok (.istore_n 1, 1) := by decide +kernel
theorem dX6_keep_2 : decode cX6_keep 2 = .ok (.iload_n 1, 1) := by decide +kernel
theorem dX6_keep_3 : decode cX6_keep 3 = .ok (.sipush 248, 3) := by decide +kernel
theorem dX6_keep_6 : decode cX6_keep 6 = .ok (.if_icmp .ge 21, 3) := by decide +kernel
theorem dX6_keep_9 : decode cX6_keep 9 = .ok (.aload_n 0, 1) := by decide +kernel
theorem dX6_keep_10 : decode cX6_keep 10 = .ok (.getfield 31, 3) := by decide +kernel
theorem dX6_keep_13 : decode cX6_keep 13 = .ok (.iload_n 1, 1) := by decide +kernel
theorem dX6_keep_14 : decode cX6_keep 14 = .ok (.aload_n 0, 1) := by decide +kernel
theorem dX6_keep_15 : decode cX6_keep 15 = .ok (.getfield 7, 3) := by decide +kernel
theorem dX6_keep_18 : decode cX6_keep 18 = .ok (.iload_n 1, 1) := by decide +kernel
theorem dX6_keep_19 : decode cX6_keep 19 = .ok (.iaload, 1) := by decide +kernel
theorem dX6_keep_20 : decode cX6_keep 20 = .ok (.iastore, 1) := by decide +kernel
theorem dX6_keep_21 : decode cX6_keep 21 = .ok (.iinc 1 1, 3) := by decide +kernel
theorem dX6_keep_24 : decode cX6_keep 24 = .ok (.goto (-22), 3) := by decide +kernel
theorem dX6_keep_27 : decode cX6_keep 27 = .ok (.return_, 1) := by decide +kernel
theorem dX6_layBack_0 : decode cX6_layBack 0 = .ok (.iconst 0, 1) := by decide +kernel
theorem dX6_layBack_1 : decode cX6_layBack 1 = .ok (.istore_n 1, 1) := by decide +kernel
theorem dX6_layBack_2 : decode cX6_layBack 2 = .ok (.iload_n 1, 1) := by decide +kernel
theorem dX6_layBack_3 : decode cX6_layBack 3 = .ok (.sipush 248, 3) := by decide +kernel
theorem dX6_layBack_6 : decode cX6_layBack 6 = .ok (.if_icmp .ge 21, 3) := by decide +kernel
theorem dX6_layBack_9 : decode cX6_layBack 9 = .ok (.aload_n 0, 1) := by decide +kernel
theorem dX6_layBack_10 : decode cX6_layBack 10 = .ok (.getfield 7, 3) := by decide +kernel
theorem dX6_layBack_13 : decode cX6_layBack 13 = .ok (.iload_n 1, 1) := by decide +kernel
theorem dX6_layBack_14 : decode cX6_layBack 14 = .ok (.aload_n 0, 1) := by decide +kernel
theorem dX6_layBack_15 : decode cX6_layBack 15 = .ok (.getfield 31, 3) := by decide +kernel
theorem dX6_layBack_18 : decode cX6_layBack 18 = .ok (.iload_n 1, 1) := by decide +kernel
theorem dX6_layBack_19 : decode cX6_layBack 19 = .ok (.iaload, 1) := by decide +kernel
theorem dX6_layBack_20 : decode cX6_layBack 20 = .ok (.iastore, 1) := by decide +kernel
theorem dX6_layBack_21 : decode cX6_layBack 21 = .ok (.iinc 1 1, 3) := by decide +kernel
theorem dX6_layBack_24 : decode cX6_layBack 24 = .ok (.goto (-22), 3) := by decide +kernel
theorem dX6_layBack_27 : decode cX6_layBack 27 = .ok (.return_, 1) := by decide +kernel
set_option maxRecDepth 20000 in
theorem ggX6_touredThen_X6_keep : GoodIn wsX6_touredThen wsX6_keep := goodIn_r _ [6, 7, 1, 110, 111, 112, 113, 114, 115, 116, 117, 118, 119, 120, 121, 122, 123, 124] (by decide +kernel) (by decide +kernel)
set_option maxRecDepth 20000 in
theorem gX6_touredThen_X6_keep : GoodIn wsX6_touredThen (wsV RX6 205 RX6 yX6_keep wsX6_keep) := goodIn_app (goodIn_of _ (by decide +kernel)) ggX6_touredThen_X6_keep
set_option maxRecDepth 20000 in
theorem ggX6_touredThen_X6_sumOfNozzles : GoodIn wsX6_touredThen wsX6_sumOfNozzles := goodIn_r _ [11, 12, 13, 14, 5, 15, 1, 110, 111, 112, 113, 114, 115, 116, 117, 118, 119, 120, 121, 122, 123, 124] (by decide +kernel) (by decide +kernel)
set_option maxRecDepth 20000 in
theorem gX6_touredThen_X6_sumOfNozzles : GoodIn wsX6_touredThen (wsV RX6 196 RX6 yX6_sumOfNozzles wsX6_sumOfNozzles) := goodIn_app (goodIn_of _ (by decide +kernel)) ggX6_touredThen_X6_sumOfNozzles
set_option maxRecDepth 20000 in
theorem ggX6_touredThen_X6_tours : GoodIn wsX6_touredThen wsX6_tours := goodIn_r _ [19, 20, 21, 22, 5, 23, 1, 24, 25, 26, 27, 28, 29, 30, 31, 32, 33, 34, 35, 36, 12, 13, 14, 15, 37, 38, 39, 40, 41, 42, 43, 44, 45, 46, 47, 48, 49, 50, 51, 52, 53, 54, 55, 56, 57, 58, 59, 60, 61, 62, 63, 64, 65, 66, 67, 68, 69, 70, 71, 72, 73, 74, 75, 76, 77, 78, 79, 80, 81, 82, 83, 84, 85, 86, 87, 88, 89, 90, 91, 92, 93, 94, 95, 96, 97, 98, 99, 100, 101, 110, 111, 112, 113, 114, 115, 116, 117, 118, 119, 120, 121, 122, 123, 124] (by decide +kernel) (by decide +kernel)
set_option maxRecDepth 20000 in
theorem gX6_touredThen_X6_tours : GoodIn wsX6_touredThen (wsV RX6 160 RX6 yX6_tours wsX6_tours) := goodIn_app (goodIn_of _ (by decide +kernel)) ggX6_touredThen_X6_tours
set_option maxRecDepth 20000 in
theorem ggX6_touredThen_X6_placesThat : GoodIn wsX6_touredThen wsX6_placesThat := goodIn_r _ [105, 1, 33, 34, 35, 5, 36, 110, 111, 112, 113, 114, 115, 116, 117, 118, 119, 120, 121, 122, 123, 124] (by decide +kernel) (by decide +kernel)
set_option maxRecDepth 20000 in
theorem gX6_touredThen_X6_placesThat : GoodIn wsX6_touredThen (wsV RX6 84 RX6 yX6_placesThat wsX6_placesThat) := goodIn_app (goodIn_of _ (by decide +kernel)) ggX6_touredThen_X6_placesThat
set_option maxRecDepth 20000 in
theorem ggX6_touredThen_X6_layBack : GoodIn wsX6_touredThen wsX6_layBack := goodIn_r _ [109, 1, 7, 110, 111, 112, 113, 114, 115, 116, 117, 118, 119, 120, 121, 122, 123, 124] (by decide +kernel) (by decide +kernel)
set_option maxRecDepth 20000 in
theorem gX6_touredThen_X6_layBack : GoodIn wsX6_touredThen (wsV RX6 208 RX6 yX6_layBack wsX6_layBack) := goodIn_app (goodIn_of _ (by decide +kernel)) ggX6_touredThen_X6_layBack
theorem dX6_touredThen_0 : decode cX6_touredThen 0 = .ok (.aload_n 0, 1) := by decide +kernel
theorem dX6_touredThen_1 : decode cX6_touredThen 1 = .ok (.invokevirtual 205, 3) := by decide +kernel
theorem dX6_touredThen_4 : decode cX6_touredThen 4 = .ok (.aload_n 0, 1) := by decide +kernel
theorem dX6_touredThen_5 : decode cX6_touredThen 5 = .ok (.iconst 2, 1) := by decide +kernel
theorem dX6_touredThen_6 : decode cX6_touredThen 6 = .ok (.invokevirtual 196, 3) := by decide +kernel
theorem dX6_touredThen_9 : decode cX6_touredThen 9 = .ok (.istore_n 3, 1) := by decide +kernel
theorem dX6_touredThen_10 : decode cX6_touredThen 10 = .ok (.aload_n 0, 1) := by decide +kernel
theorem dX6_touredThen_11 : decode cX6_touredThen 11 = .ok (.getfield 7, 3) := by decide +kernel
theorem dX6_touredThen_14 : decode cX6_touredThen 14 = .ok (.bipush 7, 2) := by decide +kernel
theorem dX6_touredThen_16 : decode cX6_touredThen 16 = .ok (.iaload, 1) := by decide +kernel
theorem dX6_touredThen_17 : decode cX6_touredThen 17 = .ok (.istore 4, 2) := by decide +kernel
theorem dX6_touredThen_19 : decode cX6_touredThen 19 = .ok (.aload_n 0, 1) := by decide +kernel
theorem dX6_touredThen_20 : decode cX6_touredThen 20 = .ok (.iload_n 1, 1) := by decide +kernel
theorem dX6_touredThen_21 : decode cX6_touredThen 21 = .ok (.invokevirtual 160, 3) := by decide +kernel
theorem dX6_touredThen_24 : decode cX6_touredThen 24 = .ok (.istore 5, 2) := by decide +kernel
theorem dX6_touredThen_26 : decode cX6_touredThen 26 = .ok (.iload_n 2, 1) := by decide +kernel
theorem dX6_touredThen_27 : decode cX6_touredThen 27 = .ok (.ifCond .ne 8, 3) := by decide +kernel
theorem dX6_touredThen_30 : decode cX6_touredThen 30 = .ok (.iload 5, 2) := by decide +kernel
theorem dX6_touredThen_32 : decode cX6_touredThen 32 = .ok (.goto 41, 3) := by decide +kernel
theorem dX6_touredThen_35 : decode cX6_touredThen 35 = .ok (.iload_n 2, 1) := by decide +kernel
theorem dX6_touredThen_36 : decode cX6_touredThen 36 = .ok (.iconst 1, 1) := by decide +kernel
theorem dX6_touredThen_37 : decode cX6_touredThen 37 = .ok (.if_icmp .ne 13, 3) := by decide +kernel
theorem dX6_touredThen_40 : decode cX6_touredThen 40 = .ok (.aload_n 0, 1) := by decide +kernel
theorem dX6_touredThen_41 : decode cX6_touredThen 41 = .ok (.iconst 2, 1) := by decide +kernel
theorem dX6_touredThen_42 : decode cX6_touredThen 42 = .ok (.invokevirtual 196, 3) := by decide +kernel
theorem dX6_touredThen_45 : decode cX6_touredThen 45 = .ok (.iload_n 3, 1) := by decide +kernel
theorem dX6_touredThen_46 : decode cX6_touredThen 46 = .ok (.isub, 1) := by decide +kernel
theorem dX6_touredThen_47 : decode cX6_touredThen 47 = .ok (.goto 26, 3) := by decide +kernel
theorem dX6_touredThen_50 : decode cX6_touredThen 50 = .ok (.iload_n 2, 1) := by decide +kernel
theorem dX6_touredThen_51 : decode cX6_touredThen 51 = .ok (.iconst 2, 1) := by decide +kernel
theorem dX6_touredThen_52 : decode cX6_touredThen 52 = .ok (.if_icmp .ne 16, 3) := by decide +kernel
theorem dX6_touredThen_55 : decode cX6_touredThen 55 = .ok (.aload_n 0, 1) := by decide +kernel
theorem dX6_touredThen_56 : decode cX6_touredThen 56 = .ok (.getfield 7, 3) := by decide +kernel
theorem dX6_touredThen_59 : decode cX6_touredThen 59 = .ok (.bipush 7, 2) := by decide +kernel
theorem dX6_touredThen_61 : decode cX6_touredThen 61 = .ok (.iaload, 1) := by decide +kernel
theorem dX6_touredThen_62 : decode cX6_touredThen 62 = .ok (.iload 4, 2) := by decide +kernel
theorem dX6_touredThen_64 : decode cX6_touredThen 64 = .ok (.isub, 1) := by decide +kernel
theorem dX6_touredThen_65 : decode cX6_touredThen 65 = .ok (.goto 8, 3) := by decide +kernel
theorem dX6_touredThen_68 : decode cX6_touredThen 68 = .ok (.aload_n 0, 1) := by decide +kernel
theorem dX6_touredThen_69 : decode cX6_touredThen 69 = .ok (.iconst 1, 1) := by decide +kernel
theorem dX6_touredThen_70 : decode cX6_touredThen 70 = .ok (.invokevirtual 84, 3) := by decide +kernel
theorem dX6_touredThen_73 : decode cX6_touredThen 73 = .ok (.istore 6, 2) := by decide +kernel
theorem dX6_touredThen_75 : decode cX6_touredThen 75 = .ok (.aload_n 0, 1) := by decide +kernel
theorem dX6_touredThen_76 : decode cX6_touredThen 76 = .ok (.invokevirtual 208, 3) := by decide +kernel
theorem dX6_touredThen_79 : decode cX6_touredThen 79 = .ok (.iload 6, 2) := by decide +kernel
theorem dX6_touredThen_81 : decode cX6_touredThen 81 = .ok (.ireturn, 1) := by decide +kernel
set_option maxRecDepth 20000 in
theorem ggX6_ifToured_X6_areTimes : GoodIn wsX6_ifToured wsX6_areTimes := goodIn_r _ [5, 6, 7, 4, 8] (by decide +kernel) (by decide +kernel)
set_option maxRecDepth 20000 in
theorem gX6_ifToured_X6_areTimes : GoodIn wsX6_ifToured (va_wsS RX6 157 yX6_areTimes wsX6_areTimes) := goodIn_app (goodIn_of _ (by decide +kernel)) ggX6_ifToured_X6_areTimes
set_option maxRecDepth 20000 in
theorem ggX6_ifToured_X6_within : GoodIn wsX6_ifToured wsX6_within := goodIn_r _ [8] (by decide +kernel) (by decide +kernel)
set_option maxRecDepth 20000 in
theorem gX6_ifToured_X6_within : GoodIn wsX6_ifToured (va_wsS RX6 45 yX6_within wsX6_within) := goodIn_app (goodIn_of _ (by decide +kernel)) ggX6_ifToured_X6_within
set_option maxRecDepth 20000 in
theorem ggX6_ifToured_X6_touredThen : GoodIn wsX6_ifToured wsX6_touredThen := goodIn_r _ [12, 13, 14, 15, 16, 4, 17, 18, 19, 20, 21, 22, 23, 24, 25, 26, 27, 28, 29, 30, 31, 32, 33, 34, 35, 36, 37, 38, 39, 40, 41, 42, 43, 44, 45, 46, 47, 48, 49, 50, 51, 52, 53, 54, 55, 56, 57, 58, 59, 60, 61, 62, 63, 64, 65, 66, 67, 68, 69, 70, 71, 72, 73, 74, 75, 76, 77, 78, 79, 80, 81, 82, 83, 84, 85, 86, 87, 88, 89, 90, 91, 92, 93, 94, 95, 96, 97, 98, 99, 100, 101, 102, 103, 104, 105, 106, 107, 108, 109, 110, 111, 112, 113, 114, 115, 116, 117, 118, 119, 120, 121, 122, 123, 124, 125, 126, 127, 128, 129, 130, 131, 132, 133, 134, 135] (by decide +kernel) (by decide +kernel)
set_option maxRecDepth 20000 in
theorem gX6_ifToured_X6_touredThen : GoodIn wsX6_ifToured (wsV RX6 211 RX6 yX6_touredThen wsX6_touredThen) := goodIn_app (goodIn_of _ (by decide +kernel)) ggX6_ifToured_X6_touredThen
theorem dX6_ifToured_0 : decode cX6_ifToured 0 = .ok (.aload_n 0, 1) := by decide +kernel
theorem dX6_ifToured_1 : decode cX6_ifToured 1 = .ok (.iload_n 1, 1) := by decide +kernel
theorem dX6_ifToured_2 : decode cX6_ifToured 2 = .ok (.invokestatic 157, 3) := by decide +kernel
theorem dX6_ifToured_5 : decode cX6_ifToured 5 = .ok (.ifCond .eq 16, 3) := by decide +kernel
theorem dX6_ifToured_8 : decode cX6_ifToured 8 = .ok (.iload_n 2, 1) := by decide +kernel
theorem dX6_ifToured_9 : decode cX6_ifToured 9 = .ok (.iconst 0, 1) := by decide +kernel
theorem dX6_ifToured_10 : decode cX6_ifToured 10 = .ok (.iconst 3, 1) := by decide +kernel
theorem dX6_ifToured_11 : decode cX6_ifToured 11 = .ok (.invokestatic 45, 3) := by decide +kernel
theorem dX6_ifToured_14 : decode cX6_ifToured 14 = .ok (.ifCond .eq 7, 3) := by decide +kernel
theorem dX6_ifToured_17 : decode cX6_ifToured 17 = .ok (.iconst 0, 1) := by decide +kernel
theorem dX6_ifToured_18 : decode cX6_ifToured 18 = .ok (.goto 4, 3) := by decide +kernel
theorem dX6_ifToured_21 : decode cX6_ifToured 21 = .ok (.iconst 1, 1) := by decide +kernel
theorem dX6_ifToured_22 : decode cX6_ifToured 22 = .ok (.putfield 34, 3) := by decide +kernel
theorem dX6_ifToured_25 : decode cX6_ifToured 25 = .ok (.aload_n 0, 1) := by decide +kernel
theorem dX6_ifToured_26 : decode cX6_ifToured 26 = .ok (.getfield 34, 3) := by decide +kernel
theorem dX6_ifToured_29 : decode cX6_ifToured 29 = .ok (.ifCond .le 7, 3) := by decide +kernel
theorem dX6_ifToured_32 : decode cX6_ifToured 32 = .ok (.iconst 0, 1) := by decide +kernel
theorem dX6_ifToured_33 : decode cX6_ifToured 33 = .ok (.goto 9, 3) := by decide +kernel
theorem dX6_ifToured_36 : decode cX6_ifToured 36 = .ok (.aload_n 0, 1) := by decide +kernel
theorem dX6_ifToured_37 : decode cX6_ifToured 37 = .ok (.iload_n 1, 1) := by decide +kernel
theorem dX6_ifToured_38 : decode cX6_ifToured 38 = .ok (.iload_n 2, 1) := by decide +kernel
theorem dX6_ifToured_39 : decode cX6_ifToured 39 = .ok (.invokevirtual 211, 3) := by decide +kernel
theorem dX6_ifToured_42 : decode cX6_ifToured 42 = .ok (.ireturn, 1) := by decide +kernel
set_option maxRecDepth 20000 in
theorem ggX6_choice_X6_isNozzle : GoodIn wsX6_choice wsX6_isNozzle := goodIn_r _ [5, 6, 7, 4, 8] (by decide +kernel) (by decide +kernel)
set_option maxRecDepth 20000 in
theorem gX6_choice_X6_isNozzle : GoodIn wsX6_choice (va_wsS RX6 75 yX6_isNozzle wsX6_isNozzle) := goodIn_app (goodIn_of _ (by decide +kernel)) ggX6_choice_X6_isNozzle
set_option maxRecDepth 20000 in
theorem ggX6_choice_X6_isKind : GoodIn wsX6_choice wsX6_isKind := goodIn_r _ [11, 6, 7, 4, 8] (by decide +kernel) (by decide +kernel)
set_option maxRecDepth 20000 in
theorem gX6_choice_X6_isKind : GoodIn wsX6_choice (va_wsS RX6 53 yX6_isKind wsX6_isKind) := goodIn_app (goodIn_of _ (by decide +kernel)) ggX6_choice_X6_isKind
set_option maxRecDepth 20000 in
theorem ggX6_choice_X6_choiceOf : GoodIn wsX6_choice wsX6_choiceOf := goodIn_r _ [15, 16, 17, 18, 19, 4, 20, 21, 22, 23, 24, 25, 26, 27, 28, 29, 30, 31, 32, 33, 34, 35, 36, 37, 38, 39, 40, 41, 42, 43, 44, 45, 46, 47, 48, 49, 50] (by decide +kernel) (by decide +kernel)
set_option maxRecDepth 20000 in
theorem gX6_choice_X6_choiceOf : GoodIn wsX6_choice (wsV RX6 115 RX6 yX6_choiceOf wsX6_choiceOf) := goodIn_app (goodIn_of _ (by decide +kernel)) ggX6_choice_X6_choiceOf
theorem dX6_choice_0 : decode cX6_choice 0 = .ok (.aload_n 0, 1) := by decide +kernel
theorem dX6_choice_1 : decode cX6_choice 1 = .ok (.iload_n 1, 1) := by decide +kernel
theorem dX6_choice_2 : decode cX6_choice 2 = .ok (.invokestatic 75, 3) := by decide +kernel
theorem dX6_choice_5 : decode cX6_choice 5 = .ok (.ifCond .ne 7, 3) := by decide +kernel
theorem dX6_choice_8 : decode cX6_choice 8 = .ok (.iconst 1, 1) := by decide +kernel
theorem dX6_choice_9 : decode cX6_choice 9 = .ok (.goto 15, 3) := by decide +kernel
theorem dX6_choice_12 : decode cX6_choice 12 = .ok (.iload_n 2, 1) := by decide +kernel
theorem dX6_choice_13 : decode cX6_choice 13 = .ok (.invokestatic 53, 3) := by decide +kernel
theorem dX6_choice_16 : decode cX6_choice 16 = .ok (.ifCond .eq 7, 3) := by decide +kernel
theorem dX6_choice_19 : decode cX6_choice 19 = .ok (.iconst 0, 1) := by decide +kernel
theorem dX6_choice_20 : decode cX6_choice 20 = .ok (.goto 4, 3) := by decide +kernel
theorem dX6_choice_23 : decode cX6_choice 23 = .ok (.iconst 2, 1) := by decide +kernel
theorem dX6_choice_24 : decode cX6_choice 24 = .ok (.putfield 34, 3) := by decide +kernel
theorem dX6_choice_27 : decode cX6_choice 27 = .ok (.aload_n 0, 1) := by decide +kernel
theorem dX6_choice_28 : decode cX6_choice 28 = .ok (.getfield 34, 3) := by decide +kernel
theorem dX6_choice_31 : decode cX6_choice 31 = .ok (.ifCond .le 7, 3) := by decide +kernel
theorem dX6_choice_34 : decode cX6_choice 34 = .ok (.iconst 0, 1) := by decide +kernel
theorem dX6_choice_35 : decode cX6_choice 35 = .ok (.goto 9, 3) := by decide +kernel
theorem dX6_choice_38 : decode cX6_choice 38 = .ok (.aload_n 0, 1) := by decide +kernel
theorem dX6_choice_39 : decode cX6_choice 39 = .ok (.iload_n 1, 1) := by decide +kernel
theorem dX6_choice_40 : decode cX6_choice 40 = .ok (.iload_n 2, 1) := by decide +kernel
theorem dX6_choice_41 : decode cX6_choice 41 = .ok (.invokevirtual 115, 3) := by decide +kernel
theorem dX6_choice_44 : decode cX6_choice 44 = .ok (.ireturn, 1) := by decide +kernel
set_option maxRecDepth 20000 in
theorem ggX6_aimNow_X6_layAims : GoodIn wsX6_aimNow wsX6_layAims := goodIn_r _ [6, 1, 7, 8, 9, 5, 10, 11, 12, 13, 14, 15, 16, 17, 18, 19, 20, 21, 22, 23, 24, 25, 26, 27, 28, 29, 30, 31, 32, 33, 34, 35, 36, 37, 38, 39, 40, 41, 42, 43, 44, 45, 46, 47, 48, 49, 50, 51, 52, 53, 54, 55, 56, 57, 58, 59, 60, 61] (by decide +kernel) (by decide +kernel)
set_option maxRecDepth 20000 in
theorem gX6_aimNow_X6_layAims : GoodIn wsX6_aimNow (wsV RX6 138 RX6 yX6_layAims wsX6_layAims) := goodIn_app (goodIn_of _ (by decide +kernel)) ggX6_aimNow_X6_layAims
theorem dX6_aimNow_0 : decode cX6_aimNow 0 = .ok (.aload_n 0, 1) := by decide +kernel
theorem dX6_aimNow_1 : decode cX6_aimNow 1 = .ok (.invokevirtual 138, 3) := by decide +kernel
theorem dX6_aimNow_4 : decode cX6_aimNow 4 = .ok (.aload_n 0, 1) := by decide +kernel
theorem dX6_aimNow_5 : decode cX6_aimNow 5 = .ok (.getfield 19, 3) := by decide +kernel
theorem dX6_aimNow_8 : decode cX6_aimNow 8 = .ok (.iload_n 1, 1) := by decide +kernel
theorem dX6_aimNow_9 : decode cX6_aimNow 9 = .ok (.iaload, 1) := by decide +kernel
theorem dX6_aimNow_10 : decode cX6_aimNow 10 = .ok (.ireturn, 1) := by decide +kernel
set_option maxRecDepth 20000 in
theorem ggX6_aim_X6_isNozzle : GoodIn wsX6_aim wsX6_isNozzle := goodIn_r _ [5, 6, 7, 4, 8] (by decide +kernel) (by decide +kernel)
set_option maxRecDepth 20000 in
theorem gX6_aim_X6_isNozzle : GoodIn wsX6_aim (va_wsS RX6 75 yX6_isNozzle wsX6_isNozzle) := goodIn_app (goodIn_of _ (by decide +kernel)) ggX6_aim_X6_isNozzle
set_option maxRecDepth 20000 in
theorem ggX6_aim_X6_aimNow : GoodIn wsX6_aim wsX6_aimNow := goodIn_r _ [12, 13, 14, 15, 16, 4, 17, 18, 19, 20, 21, 22, 23, 24, 25, 26, 27, 28, 29, 30, 31, 32, 33, 34, 35, 36, 37, 38, 39, 40, 41, 42, 43, 44, 45, 46, 47, 48, 49, 50, 51, 52, 53, 54, 55, 56, 57, 58, 59, 60, 61, 62, 63, 64, 65, 66, 67, 68, 69, 70, 71, 72] (by decide +kernel) (by decide +kernel)
set_option maxRecDepth 20000 in
theorem gX6_aim_X6_aimNow : GoodIn wsX6_aim (wsV RX6 214 RX6 yX6_aimNow wsX6_aimNow) := goodIn_app (goodIn_of _ (by decide +kernel)) ggX6_aim_X6_aimNow
theorem dX6_aim_0 : decode cX6_aim 0 = .ok (.aload_n 0, 1) := by decide +kernel
theorem dX6_aim_1 : decode cX6_aim 1 = .ok (.iload_n 1, 1) := by decide +kernel
theorem dX6_aim_2 : decode cX6_aim 2 = .ok (.invokestatic 75, 3) := by decide +kernel
theorem dX6_aim_5 : decode cX6_aim 5 = .ok (.ifCond .eq 7, 3) := by decide +kernel
theorem dX6_aim_8 : decode cX6_aim 8 = .ok (.iconst 0, 1) := by decide +kernel
theorem dX6_aim_9 : decode cX6_aim 9 = .ok (.goto 4, 3) := by decide +kernel
theorem dX6_aim_12 : decode cX6_aim 12 = .ok (.iconst 1, 1) := by decide +kernel
theorem dX6_aim_13 : decode cX6_aim 13 = .ok (.putfield 34, 3) := by decide +kernel
theorem dX6_aim_16 : decode cX6_aim 16 = .ok (.aload_n 0, 1) := by decide +kernel
theorem dX6_aim_17 : decode cX6_aim 17 = .ok (.getfield 34, 3) := by decide +kernel
theorem dX6_aim_20 : decode cX6_aim 20 = .ok (.ifCond .le 7, 3) := by decide +kernel
theorem dX6_aim_23 : decode cX6_aim 23 = .ok (.iconst 0, 1) := by decide +kernel
theorem dX6_aim_24 : decode cX6_aim 24 = .ok (.goto 8, 3) := by decide +kernel
theorem dX6_aim_27 : decode cX6_aim 27 = .ok (.aload_n 0, 1) := by decide +kernel
theorem dX6_aim_28 : decode cX6_aim 28 = .ok (.iload_n 1, 1) := by decide +kernel
theorem dX6_aim_29 : decode cX6_aim 29 = .ok (.invokevirtual 214, 3) := by decide +kernel
theorem dX6_aim_32 : decode cX6_aim 32 = .ok (.ireturn, 1) := by decide +kernel
set_option maxRecDepth 20000 in
theorem ggX6_neededNow_X6_keep : GoodIn wsX6_neededNow wsX6_keep := goodIn_r _ [6, 7, 1, 110, 111, 112, 113, 114, 115, 116, 117, 118, 119, 120, 121, 122, 123, 124] (by decide +kernel) (by decide +kernel)
set_option maxRecDepth 20000 in
theorem gX6_neededNow_X6_keep : GoodIn wsX6_neededNow (wsV RX6 205 RX6 yX6_keep wsX6_keep) := goodIn_app (goodIn_of _ (by decide +kernel)) ggX6_neededNow_X6_keep
set_option maxRecDepth 20000 in
theorem ggX6_neededNow_X6_placesThat : GoodIn wsX6_neededNow wsX6_placesThat := goodIn_r _ [11, 1, 12, 13, 14, 5, 15, 110, 111, 112, 113, 114, 115, 116, 117, 118, 119, 120, 121, 122, 123, 124] (by decide +kernel) (by decide +kernel)
set_option maxRecDepth 20000 in
theorem gX6_neededNow_X6_placesThat : GoodIn wsX6_neededNow (wsV RX6 84 RX6 yX6_placesThat wsX6_placesThat) := goodIn_app (goodIn_of _ (by decide +kernel)) ggX6_neededNow_X6_placesThat
set_option maxRecDepth 20000 in
theorem ggX6_neededNow_X6_tourOnce : GoodIn wsX6_neededNow wsX6_tourOnce := goodIn_r _ [19, 1, 20, 21, 22, 5, 23, 24, 25, 26, 27, 28, 12, 13, 14, 15, 29, 30, 31, 32, 33, 34, 35, 36, 37, 38, 39, 40, 41, 42, 43, 44, 45, 46, 47, 48, 49, 50, 51, 52, 53, 54, 55, 56, 57, 58, 59, 60, 61, 62, 63, 64, 65, 66, 67, 68, 69, 70, 71, 72, 73, 74, 75, 76, 77, 78, 79, 80, 81, 82, 83, 84, 85, 86, 87, 88, 89, 90, 91, 92, 93, 94, 95, 96, 97, 110, 111, 112, 113, 114, 115, 116, 117, 118, 119, 120, 121, 122, 123, 124] (by decide +kernel) (by decide +kernel)
set_option maxRecDepth 20000 in
theorem gX6_neededNow_X6_tourOnce : GoodIn wsX6_neededNow (wsV RX6 153 RX6 yX6_tourOnce wsX6_tourOnce) := goodIn_app (goodIn_of _ (by decide +kernel)) ggX6_neededNow_X6_tourOnce
set_option maxRecDepth 20000 in
theorem ggX6_neededNow_X6_inspects : GoodIn wsX6_neededNow wsX6_inspects := goodIn_r _ [101, 1, 12, 13, 14, 5, 15, 82, 83, 84, 85, 49, 50, 51, 52, 102, 103, 104, 105, 110, 111, 112, 113, 114, 115, 116, 117, 118, 119, 120, 121, 122, 123, 124] (by decide +kernel) (by decide +kernel)
set_option maxRecDepth 20000 in
theorem gX6_neededNow_X6_inspects : GoodIn wsX6_neededNow (wsV RX6 163 RX6 yX6_inspects wsX6_inspects) := goodIn_app (goodIn_of _ (by decide +kernel)) ggX6_neededNow_X6_inspects
set_option maxRecDepth 20000 in
theorem ggX6_neededNow_X6_layBack : GoodIn wsX6_neededNow wsX6_layBack := goodIn_r _ [109, 1, 7, 110, 111, 112, 113, 114, 115, 116, 117, 118, 119, 120, 121, 122, 123, 124] (by decide +kernel) (by decide +kernel)
set_option maxRecDepth 20000 in
theorem gX6_neededNow_X6_layBack : GoodIn wsX6_neededNow (wsV RX6 208 RX6 yX6_layBack wsX6_layBack) := goodIn_app (goodIn_of _ (by decide +kernel)) ggX6_neededNow_X6_layBack
theorem dX6_neededNow_0 : decode cX6_neededNow 0 = .ok (.aload_n 0, 1) := by decide +kernel
theorem dX6_neededNow_1 : decode cX6_neededNow 1 = .ok (.invokevirtual 205, 3) := by decide +kernel
theorem dX6_neededNow_4 : decode cX6_neededNow 4 = .ok (.aload_n 0, 1) := by decide +kernel
theorem dX6_neededNow_5 : decode cX6_neededNow 5 = .ok (.iconst 1, 1) := by decide +kernel
theorem dX6_neededNow_6 : decode cX6_neededNow 6 = .ok (.invokevirtual 84, 3) := by decide +kernel
theorem dX6_neededNow_9 : decode cX6_neededNow 9 = .ok (.aload_n 0, 1) := by decide +kernel
theorem dX6_neededNow_10 : decode cX6_neededNow 10 = .ok (.getfield 7, 3) := by decide +kernel
theorem dX6_neededNow_13 : decode cX6_neededNow 13 = .ok (.bipush 6, 2) := by decide +kernel
theorem dX6_neededNow_15 : decode cX6_neededNow 15 = .ok (.iaload, 1) := by decide +kernel
theorem dX6_neededNow_16 : decode cX6_neededNow 16 = .ok (.if_icmp .ne 7, 3) := by decide +kernel
theorem dX6_neededNow_19 : decode cX6_neededNow 19 = .ok (.iconst 0, 1) := by decide +kernel
theorem dX6_neededNow_20 : decode cX6_neededNow 20 = .ok (.goto 4, 3) := by decide +kernel
theorem dX6_neededNow_23 : decode cX6_neededNow 23 = .ok (.iconst (-1), 1) := by decide +kernel
theorem dX6_neededNow_24 : decode cX6_neededNow 24 = .ok (.istore_n 1, 1) := by decide +kernel
theorem dX6_neededNow_25 : decode cX6_neededNow 25 = .ok (.iconst 1, 1) := by decide +kernel
theorem dX6_neededNow_26 : decode cX6_neededNow 26 = .ok (.istore_n 2, 1) := by decide +kernel
theorem dX6_neededNow_27 : decode cX6_neededNow 27 = .ok (.iload_n 2, 1) := by decide +kernel
theorem dX6_neededNow_28 : decode cX6_neededNow 28 = .ok (.bipush 40, 2) := by decide +kernel
theorem dX6_neededNow_30 : decode cX6_neededNow 30 = .ok (.if_icmp .gt 46, 3) := by decide +kernel
theorem dX6_neededNow_33 : decode cX6_neededNow 33 = .ok (.iload_n 1, 1) := by decide +kernel
theorem dX6_neededNow_34 : decode cX6_neededNow 34 = .ok (.iconst (-1), 1) := by decide +kernel
theorem dX6_neededNow_35 : decode cX6_neededNow 35 = .ok (.if_icmp .ne 41, 3) := by decide +kernel
theorem dX6_neededNow_38 : decode cX6_neededNow 38 = .ok (.aload_n 0, 1) := by decide +kernel
theorem dX6_neededNow_39 : decode cX6_neededNow 39 = .ok (.invokevirtual 153, 3) := by decide +kernel
theorem dX6_neededNow_42 : decode cX6_neededNow 42 = .ok (.istore_n 3, 1) := by decide +kernel
theorem dX6_neededNow_43 : decode cX6_neededNow 43 = .ok (.aload_n 0, 1) := by decide +kernel
theorem dX6_neededNow_44 : decode cX6_neededNow 44 = .ok (.invokevirtual 163, 3) := by decide +kernel
theorem dX6_neededNow_47 : decode cX6_neededNow 47 = .ok (.istore 4, 2) := by decide +kernel
theorem dX6_neededNow_49 : decode cX6_neededNow 49 = .ok (.aload_n 0, 1) := by decide +kernel
theorem dX6_neededNow_50 : decode cX6_neededNow 50 = .ok (.iconst 1, 1) := by decide +kernel
theorem dX6_neededNow_51 : decode cX6_neededNow 51 = .ok (.invokevirtual 84, 3) := by decide +kernel
theorem dX6_neededNow_54 : decode cX6_neededNow 54 = .ok (.aload_n 0, 1) := by decide +kernel
theorem dX6_neededNow_55 : decode cX6_neededNow 55 = .ok (.getfield 7, 3) := by decide +kernel
theorem dX6_neededNow_58 : decode cX6_neededNow 58 = .ok (.bipush 6, 2) := by decide +kernel
theorem dX6_neededNow_60 : decode cX6_neededNow 60 = .ok (.iaload, 1) := by decide +kernel
theorem dX6_neededNow_61 : decode cX6_neededNow 61 = .ok (.if_icmp .ne 7, 3) := by decide +kernel
theorem dX6_neededNow_64 : decode cX6_neededNow 64 = .ok (.iload_n 2, 1) := by decide +kernel
theorem dX6_neededNow_65 : decode cX6_neededNow 65 = .ok (.goto 4, 3) := by decide +kernel
theorem dX6_neededNow_68 : decode cX6_neededNow 68 = .ok (.iconst (-1), 1) := by decide +kernel
theorem dX6_neededNow_69 : decode cX6_neededNow 69 = .ok (.istore_n 1, 1) := by decide +kernel
theorem dX6_neededNow_70 : decode cX6_neededNow 70 = .ok (.iinc 2 1, 3) := by decide +kernel
theorem dX6_neededNow_73 : decode cX6_neededNow 73 = .ok (.goto (-46), 3) := by decide +kernel
theorem dX6_neededNow_76 : decode cX6_neededNow 76 = .ok (.aload_n 0, 1) := by decide +kernel
theorem dX6_neededNow_77 : decode cX6_neededNow 77 = .ok (.invokevirtual 208, 3) := by decide +kernel
theorem dX6_neededNow_80 : decode cX6_neededNow 80 = .ok (.iload_n 1, 1) := by decide +kernel
theorem dX6_neededNow_81 : decode cX6_neededNow 81 = .ok (.ireturn, 1) := by decide +kernel
set_option maxRecDepth 20000 in
theorem ggX6_needed_X6_neededNow : GoodIn wsX6_needed wsX6_neededNow := goodIn_r _ [6, 7, 8, 9, 10, 5, 11, 12, 13, 14, 15, 16, 17, 18, 19, 20, 21, 22, 23, 24, 25, 26, 27, 28, 29, 30, 31, 32, 33, 34, 35, 36, 37, 38, 39, 40, 41, 42, 43, 44, 45, 46, 47, 48, 49, 50, 51, 52, 53, 54, 55, 56, 57, 58, 59, 60, 61, 62, 63, 64, 65, 66, 67, 68, 69, 70, 71, 72, 73, 74, 75, 76, 77, 78, 79, 80, 81, 82, 83, 84, 85, 86, 87, 88, 89, 90, 91, 92, 93, 94, 95, 96, 97, 98, 99, 100, 101, 102, 103, 104, 105, 106, 107, 108, 109, 110, 111, 112, 113, 114, 115, 116, 117, 118, 119, 120, 121, 122, 123, 124, 125, 126, 127, 128, 129] (by decide +kernel) (by decide +kernel)
set_option maxRecDepth 20000 in
theorem gX6_needed_X6_neededNow : GoodIn wsX6_needed (wsV RX6 217 RX6 yX6_neededNow wsX6_neededNow) := goodIn_app (goodIn_of _ (by decide +kernel)) ggX6_needed_X6_neededNow
theorem dX6_needed_0 : decode cX6_needed 0 = .ok (.aload_n 0, 1) := by decide +kernel
theorem dX6_needed_1 : decode cX6_needed 1 = .ok (.iconst 0, 1) := by decide +kernel
theorem dX6_needed_2 : decode cX6_needed 2 = .ok (.putfield 34, 3) := by decide +kernel
theorem dX6_needed_5 : decode cX6_needed 5 = .ok (.aload_n 0, 1) := by decide +kernel
theorem dX6_needed_6 : decode cX6_needed 6 = .ok (.invokevirtual 217, 3) := by decide +kernel
theorem dX6_needed_9 : decode cX6_needed 9 = .ok (.ireturn, 1) := by decide +kernel
set_option maxRecDepth 20000 in
theorem ggX6_discord_X6_trustOf : GoodIn wsX6_discord wsX6_trustOf := goodIn_r _ [5, 6, 7, 8, 9, 10, 11, 12, 13, 14, 15, 16, 17, 18, 19, 20, 21] (by decide +kernel) (by decide +kernel)
set_option maxRecDepth 20000 in
theorem gX6_discord_X6_trustOf : GoodIn wsX6_discord (wsV RX6 41 RX6 yX6_trustOf wsX6_trustOf) := goodIn_app (goodIn_of _ (by decide +kernel)) ggX6_discord_X6_trustOf
theorem dX6_discord_0 : decode cX6_discord 0 = .ok (.aload_n 0, 1) := by decide +kernel
theorem dX6_discord_1 : decode cX6_discord 1 = .ok (.iconst 0, 1) := by decide +kernel
theorem dX6_discord_2 : decode cX6_discord 2 = .ok (.iload_n 1, 1) := by decide +kernel
theorem dX6_discord_3 : decode cX6_discord 3 = .ok (.invokevirtual 41, 3) := by decide +kernel
theorem dX6_discord_6 : decode cX6_discord 6 = .ok (.istore_n 2, 1) := by decide +kernel
theorem dX6_discord_7 : decode cX6_discord 7 = .ok (.iload_n 2, 1) := by decide +kernel
theorem dX6_discord_8 : decode cX6_discord 8 = .ok (.istore_n 3, 1) := by decide +kernel
theorem dX6_discord_9 : decode cX6_discord 9 = .ok (.iconst 1, 1) := by decide +kernel
theorem dX6_discord_10 : decode cX6_discord 10 = .ok (.istore 4, 2) := by decide +kernel
theorem dX6_discord_12 : decode cX6_discord 12 = .ok (.iload 4, 2) := by decide +kernel
theorem dX6_discord_14 : decode cX6_discord 14 = .ok (.iconst 4, 1) := by decide +kernel
theorem dX6_discord_15 : decode cX6_discord 15 = .ok (.if_icmp .ge 44, 3) := by decide +kernel
theorem dX6_discord_18 : decode cX6_discord 18 = .ok (.aload_n 0, 1) := by decide +kernel
theorem dX6_discord_19 : decode cX6_discord 19 = .ok (.iload 4, 2) := by decide +kernel
theorem dX6_discord_21 : decode cX6_discord 21 = .ok (.iload_n 1, 1) := by decide +kernel
theorem dX6_discord_22 : decode cX6_discord 22 = .ok (.invokevirtual 41, 3) := by decide +kernel
theorem dX6_discord_25 : decode cX6_discord 25 = .ok (.istore 5, 2) := by decide +kernel
theorem dX6_discord_27 : decode cX6_discord 27 = .ok (.iload 5, 2) := by decide +kernel
theorem dX6_discord_29 : decode cX6_discord 29 = .ok (.iload_n 2, 1) := by decide +kernel
theorem dX6_discord_30 : decode cX6_discord 30 = .ok (.if_icmp .le 8, 3) := by decide +kernel
theorem dX6_discord_33 : decode cX6_discord 33 = .ok (.iload 5, 2) := by decide +kernel
theorem dX6_discord_35 : decode cX6_discord 35 = .ok (.goto 4, 3) := by decide +kernel
theorem dX6_discord_38 : decode cX6_discord 38 = .ok (.iload_n 2, 1) := by decide +kernel
theorem dX6_discord_39 : decode cX6_discord 39 = .ok (.istore_n 2, 1) := by decide +kernel
theorem dX6_discord_40 : decode cX6_discord 40 = .ok (.iload 5, 2) := by decide +kernel
theorem dX6_discord_42 : decode cX6_discord 42 = .ok (.iload_n 3, 1) := by decide +kernel
theorem dX6_discord_43 : decode cX6_discord 43 = .ok (.if_icmp .ge 8, 3) := by decide +kernel
theorem dX6_discord_46 : decode cX6_discord 46 = .ok (.iload 5, 2) := by decide +kernel
theorem dX6_discord_48 : decode cX6_discord 48 = .ok (.goto 4, 3) := by decide +kernel
theorem dX6_discord_51 : decode cX6_discord 51 = .ok (.iload_n 3, 1) := by decide +kernel
theorem dX6_discord_52 : decode cX6_discord 52 = .ok (.istore_n 3, 1) := by decide +kernel
theorem dX6_discord_53 : decode cX6_discord 53 = .ok (.iinc 4 1, 3) := by decide +kernel
theorem dX6_discord_56 : decode cX6_discord 56 = .ok (.goto (-44), 3) := by decide +kernel
theorem dX6_discord_59 : decode cX6_discord 59 = .ok (.iload_n 2, 1) := by decide +kernel
theorem dX6_discord_60 : decode cX6_discord 60 = .ok (.iload_n 3, 1) := by decide +kernel
theorem dX6_discord_61 : decode cX6_discord 61 = .ok (.isub, 1) := by decide +kernel
theorem dX6_discord_62 : decode cX6_discord 62 = .ok (.ireturn, 1) := by decide +kernel
set_option maxRecDepth 20000 in
theorem ggX6_rumoredNow_X6_discord : GoodIn wsX6_rumoredNow wsX6_discord := goodIn_r _ [6, 7, 8, 9, 5, 10, 1, 11, 12, 13, 14, 15, 16, 17, 18, 19, 20, 21, 22, 23, 24, 25] (by decide +kernel) (by decide +kernel)
set_option maxRecDepth 20000 in
theorem gX6_rumoredNow_X6_discord : GoodIn wsX6_rumoredNow (wsV RX6 220 RX6 yX6_discord wsX6_discord) := goodIn_app (goodIn_of _ (by decide +kernel)) ggX6_rumoredNow_X6_discord
theorem dX6_rumoredNow_0 : decode cX6_rumoredNow 0 = .ok (.iconst (-1), 1) := by decide +kernel
theorem dX6_rumoredNow_1 : decode cX6_rumoredNow 1 = .ok (.istore_n 1, 1) := by decide +kernel
theorem dX6_rumoredNow_2 : decode cX6_rumoredNow 2 = .ok (.iconst 0, 1) := by decide +kernel
theorem dX6_rumoredNow_3 : decode cX6_rumoredNow 3 = .ok (.istore_n 2, 1) := by decide +kernel
theorem dX6_rumoredNow_4 : decode cX6_rumoredNow 4 = .ok (.iload_n 2, 1) := by decide +kernel
theorem dX6_rumoredNow_5 : decode cX6_rumoredNow 5 = .ok (.aload_n 0, 1) := by decide +kernel
theorem dX6_rumoredNow_6 : decode cX6_rumoredNow 6 = .ok (.getfield 7, 3) := by decide +kernel
theorem dX6_rumoredNow_9 : decode cX6_rumoredNow 9 = .ok (.iconst 5, 1) := by decide +kernel
theorem dX6_rumoredNow_10 : decode cX6_rumoredNow 10 = .ok (.iaload, 1) := by decide +kernel
theorem dX6_rumoredNow_11 : decode cX6_rumoredNow 11 = .ok (.if_icmp .ge 33, 3) := by decide +kernel
theorem dX6_rumoredNow_14 : decode cX6_rumoredNow 14 = .ok (.iload_n 1, 1) := by decide +kernel
theorem dX6_rumoredNow_15 : decode cX6_rumoredNow 15 = .ok (.iconst (-1), 1) := by decide +kernel
theorem dX6_rumoredNow_16 : decode cX6_rumoredNow 16 = .ok (.if_icmp .eq 16, 3) := by decide +kernel
theorem dX6_rumoredNow_19 : decode cX6_rumoredNow 19 = .ok (.aload_n 0, 1) := by decide +kernel
theorem dX6_rumoredNow_20 : decode cX6_rumoredNow 20 = .ok (.iload_n 2, 1) := by decide +kernel
theorem dX6_rumoredNow_21 : decode cX6_rumoredNow 21 = .ok (.invokevirtual 220, 3) := by decide +kernel
theorem dX6_rumoredNow_24 : decode cX6_rumoredNow 24 = .ok (.aload_n 0, 1) := by decide +kernel
theorem dX6_rumoredNow_25 : decode cX6_rumoredNow 25 = .ok (.iload_n 1, 1) := by decide +kernel
theorem dX6_rumoredNow_26 : decode cX6_rumoredNow 26 = .ok (.invokevirtual 220, 3) := by decide +kernel
theorem dX6_rumoredNow_29 : decode cX6_rumoredNow 29 = .ok (.if_icmp .le 7, 3) := by decide +kernel
theorem dX6_rumoredNow_32 : decode cX6_rumoredNow 32 = .ok (.iload_n 2, 1) := by decide +kernel
theorem dX6_rumoredNow_33 : decode cX6_rumoredNow 33 = .ok (.goto 4, 3) := by decide +kernel
theorem dX6_rumoredNow_36 : decode cX6_rumoredNow 36 = .ok (.iload_n 1, 1) := by decide +kernel
theorem dX6_rumoredNow_37 : decode cX6_rumoredNow 37 = .ok (.istore_n 1, 1) := by decide +kernel
theorem dX6_rumoredNow_38 : decode cX6_rumoredNow 38 = .ok (.iinc 2 1, 3) := by decide +kernel
theorem dX6_rumoredNow_41 : decode cX6_rumoredNow 41 = .ok (.goto (-37), 3) := by decide +kernel
theorem dX6_rumoredNow_44 : decode cX6_rumoredNow 44 = .ok (.iload_n 1, 1) := by decide +kernel
theorem dX6_rumoredNow_45 : decode cX6_rumoredNow 45 = .ok (.ireturn, 1) := by decide +kernel
set_option maxRecDepth 20000 in
theorem ggX6_rumored_X6_rumoredNow : GoodIn wsX6_rumored wsX6_rumoredNow := goodIn_r _ [6, 7, 8, 9, 10, 5, 11, 12, 13, 14, 15, 16, 17, 18, 19, 20, 21, 22, 23, 24, 25, 26, 27, 28, 29, 30] (by decide +kernel) (by decide +kernel)
set_option maxRecDepth 20000 in
theorem gX6_rumored_X6_rumoredNow : GoodIn wsX6_rumored (wsV RX6 223 RX6 yX6_rumoredNow wsX6_rumoredNow) := goodIn_app (goodIn_of _ (by decide +kernel)) ggX6_rumored_X6_rumoredNow
theorem dX6_rumored_0 : decode cX6_rumored 0 = .ok (.aload_n 0, 1) := by decide +kernel
theorem dX6_rumored_1 : decode cX6_rumored 1 = .ok (.iconst 0, 1) := by decide +kernel
theorem dX6_rumored_2 : decode cX6_rumored 2 = .ok (.putfield 34, 3) := by decide +kernel
theorem dX6_rumored_5 : decode cX6_rumored 5 = .ok (.aload_n 0, 1) := by decide +kernel
theorem dX6_rumored_6 : decode cX6_rumored 6 = .ok (.invokevirtual 223, 3) := by decide +kernel
theorem dX6_rumored_9 : decode cX6_rumored 9 = .ok (.ireturn, 1) := by decide +kernel
set_option maxRecDepth 20000 in
theorem ggX6_share_X6_sumOfNozzles : GoodIn wsX6_share wsX6_sumOfNozzles := goodIn_r _ [5, 6, 7, 8, 4, 9, 10, 11, 12, 13, 14, 15, 16, 17, 18, 19, 20, 21, 22, 23, 24, 25] (by decide +kernel) (by decide +kernel)
set_option maxRecDepth 20000 in
theorem gX6_share_X6_sumOfNozzles : GoodIn wsX6_share (wsV RX6 196 RX6 yX6_sumOfNozzles wsX6_sumOfNozzles) := goodIn_app (goodIn_of _ (by decide +kernel)) ggX6_share_X6_sumOfNozzles
theorem dX6_share_0 : decode cX6_share 0 = .ok (.aload_n 0, 1) := by decide +kernel
theorem dX6_share_1 : decode cX6_share 1 = .ok (.iconst 1, 1) := by decide +kernel
theorem dX6_share_2 : decode cX6_share 2 = .ok (.invokevirtual 196, 3) := by decide +kernel
theorem dX6_share_5 : decode cX6_share 5 = .ok (.istore_n 1, 1) := by decide +kernel
theorem dX6_share_6 : decode cX6_share 6 = .ok (.iload_n 1, 1) := by decide +kernel
theorem dX6_share_7 : decode cX6_share 7 = .ok (.ifCond .ne 7, 3) := by decide +kernel
theorem dX6_share_10 : decode cX6_share 10 = .ok (.dconst 0, 1) := by decide +kernel
theorem dX6_share_11 : decode cX6_share 11 = .ok (.goto 12, 3) := by decide +kernel
theorem dX6_share_14 : decode cX6_share 14 = .ok (.aload_n 0, 1) := by decide +kernel
theorem dX6_share_15 : decode cX6_share 15 = .ok (.iconst 2, 1) := by decide +kernel
theorem dX6_share_16 : decode cX6_share 16 = .ok (.invokevirtual 196, 3) := by decide +kernel
theorem dX6_share_19 : decode cX6_share 19 = .ok (.i2d, 1) := by decide +kernel
theorem dX6_share_20 : decode cX6_share 20 = .ok (.iload_n 1, 1) := by decide +kernel
theorem dX6_share_21 : decode cX6_share 21 = .ok (.i2d, 1) := by decide +kernel
theorem dX6_share_22 : decode cX6_share 22 = .ok (.ddiv, 1) := by decide +kernel
theorem dX6_share_23 : decode cX6_share 23 = .ok (.dreturn, 1) := by decide +kernel
set_option maxRecDepth 20000 in
theorem ggX6_missShare_X6_share : GoodIn wsX6_missShare wsX6_share := goodIn_r _ [6, 7, 8, 9, 5, 10, 11, 12, 13, 14, 15, 16, 17, 18, 19, 20, 21, 22, 23, 24, 25, 26, 27, 28, 29, 30] (by decide +kernel) (by decide +kernel)
set_option maxRecDepth 20000 in
theorem gX6_missShare_X6_share : GoodIn wsX6_missShare (wsV RX6 226 RX6 yX6_share wsX6_share) := goodIn_app (goodIn_of _ (by decide +kernel)) ggX6_missShare_X6_share
theorem dX6_missShare_0 : decode cX6_missShare 0 = .ok (.aload_n 0, 1) := by decide +kernel
theorem dX6_missShare_1 : decode cX6_missShare 1 = .ok (.iconst 0, 1) := by decide +kernel
theorem dX6_missShare_2 : decode cX6_missShare 2 = .ok (.putfield 34, 3) := by decide +kernel
theorem dX6_missShare_5 : decode cX6_missShare 5 = .ok (.aload_n 0, 1) := by decide +kernel
theorem dX6_missShare_6 : decode cX6_missShare 6 = .ok (.invokevirtual 226, 3) := by decide +kernel
theorem dX6_missShare_9 : decode cX6_missShare 9 = .ok (.dreturn, 1) := by decide +kernel
theorem dX6_mix_0 : decode cX6_mix 0 = .ok (.aload_n 0, 1) := by decide +kernel
theorem dX6_mix_1 : decode cX6_mix 1 = .ok (.ldc2_w 230, 3) := by decide +kernel
theorem dX6_mix_4 : decode cX6_mix 4 = .ok (.aload_n 0, 1) := by decide +kernel
theorem dX6_mix_5 : decode cX6_mix 5 = .ok (.getfield 232, 3) := by decide +kernel
theorem dX6_mix_8 : decode cX6_mix 8 = .ok (.lmul, 1) := by decide +kernel
theorem dX6_mix_9 : decode cX6_mix 9 = .ok (.lload_n 1, 1) := by decide +kernel
theorem dX6_mix_10 : decode cX6_mix 10 = .ok (.ladd, 1) := by decide +kernel
theorem dX6_mix_11 : decode cX6_mix 11 = .ok (.putfield 232, 3) := by decide +kernel
theorem dX6_mix_14 : decode cX6_mix 14 = .ok (.return_, 1) := by decide +kernel
set_option maxRecDepth 20000 in
theorem ggX6_mixNozzle_X6_ofNozzle : GoodIn wsX6_mixNozzle wsX6_ofNozzle := goodIn_r _ [6, 1, 57, 58, 59, 60, 61, 62, 63, 64, 65, 66, 67, 68, 69, 70, 71] (by decide +kernel) (by decide +kernel)
set_option maxRecDepth 20000 in
theorem gX6_mixNozzle_X6_ofNozzle : GoodIn wsX6_mixNozzle (wsV RX6 78 RX6 yX6_ofNozzle wsX6_ofNozzle) := goodIn_app (goodIn_of _ (by decide +kernel)) ggX6_mixNozzle_X6_ofNozzle
set_option maxRecDepth 20000 in
theorem ggX6_mixNozzle_X6_mix : GoodIn wsX6_mixNozzle wsX6_mix := goodIn_r _ [10, 11, 12, 57, 58, 59, 60, 61, 62, 63, 64, 65, 66, 67, 68, 69, 70, 71] (by decide +kernel) (by decide +kernel)
set_option maxRecDepth 20000 in
theorem gX6_mixNozzle_X6_mix : GoodIn wsX6_mixNozzle (wsV RX6 236 RX6 yX6_mix wsX6_mix) := goodIn_app (goodIn_of _ (by decide +kernel)) ggX6_mixNozzle_X6_mix
set_option maxRecDepth 20000 in
theorem ggX6_mixNozzle_X6_trustOf : GoodIn wsX6_mixNozzle wsX6_trustOf := goodIn_r _ [16, 1, 57, 58, 59, 60, 61, 62, 63, 64, 65, 66, 67, 68, 69, 70, 71] (by decide +kernel) (by decide +kernel)
set_option maxRecDepth 20000 in
theorem gX6_mixNozzle_X6_trustOf : GoodIn wsX6_mixNozzle (wsV RX6 41 RX6 yX6_trustOf wsX6_trustOf) := goodIn_app (goodIn_of _ (by decide +kernel)) ggX6_mixNozzle_X6_trustOf
set_option maxRecDepth 20000 in
theorem ggX6_mixNozzle_X6_choiceOf : GoodIn wsX6_mixNozzle wsX6_choiceOf := goodIn_r _ [20, 1, 21, 22, 23, 5, 24, 25, 26, 27, 28, 29, 30, 31, 32, 13, 14, 15, 16, 33, 34, 35, 57, 58, 59, 60, 61, 62, 63, 64, 65, 66, 67, 68, 69, 70, 71] (by decide +kernel) (by decide +kernel)
set_option maxRecDepth 20000 in
theorem gX6_mixNozzle_X6_choiceOf : GoodIn wsX6_mixNozzle (wsV RX6 115 RX6 yX6_choiceOf wsX6_choiceOf) := goodIn_app (goodIn_of _ (by decide +kernel)) ggX6_mixNozzle_X6_choiceOf
set_option maxRecDepth 20000 in
theorem ggX6_mixNozzle_X6_aimNow : GoodIn wsX6_mixNozzle wsX6_aimNow := goodIn_r _ [39, 40, 41, 42, 43, 5, 44, 45, 46, 47, 48, 1, 49, 50, 51, 52, 2, 3, 4, 6, 17, 18, 19, 20, 21, 22, 23, 24, 25, 26, 27, 28, 29, 30, 31, 32, 13, 14, 15, 16, 33, 34, 35, 53, 54, 55, 56, 57, 58, 59, 60, 61, 62, 63, 64, 65, 66, 67, 68, 69, 70, 71] (by decide +kernel) (by decide +kernel)
set_option maxRecDepth 20000 in
theorem gX6_mixNozzle_X6_aimNow : GoodIn wsX6_mixNozzle (wsV RX6 214 RX6 yX6_aimNow wsX6_aimNow) := goodIn_app (goodIn_of _ (by decide +kernel)) ggX6_mixNozzle_X6_aimNow
theorem dX6_mixNozzle_0 : decode cX6_mixNozzle 0 = .ok (.iconst 0, 1) := by decide +kernel
theorem dX6_mixNozzle_1 : decode cX6_mixNozzle 1 = .ok (.istore_n 2, 1) := by decide +kernel
theorem dX6_mixNozzle_2 : decode cX6_mixNozzle 2 = .ok (.iload_n 2, 1) := by decide +kernel
theorem dX6_mixNozzle_3 : decode cX6_mixNozzle 3 = .ok (.iconst 5, 1) := by decide +kernel
theorem dX6_mixNozzle_4 : decode cX6_mixNozzle 4 = .ok (.if_icmp .ge 20, 3) := by decide +kernel
theorem dX6_mixNozzle_7 : decode cX6_mixNozzle 7 = .ok (.aload_n 0, 1) := by decide +kernel
theorem dX6_mixNozzle_8 : decode cX6_mixNozzle 8 = .ok (.aload_n 0, 1) := by decide +kernel
theorem dX6_mixNozzle_9 : decode cX6_mixNozzle 9 = .ok (.iload_n 1, 1) := by decide +kernel
theorem dX6_mixNozzle_10 : decode cX6_mixNozzle 10 = .ok (.iload_n 2, 1) := by decide +kernel
theorem dX6_mixNozzle_11 : decode cX6_mixNozzle 11 = .ok (.invokevirtual 78, 3) := by decide +kernel
theorem dX6_mixNozzle_14 : decode cX6_mixNozzle 14 = .ok (.i2l, 1) := by decide +kernel
theorem dX6_mixNozzle_15 : decode cX6_mixNozzle 15 = .ok (.invokevirtual 236, 3) := by decide +kernel
theorem dX6_mixNozzle_18 : decode cX6_mixNozzle 18 = .ok (.iinc 2 1, 3) := by decide +kernel
theorem dX6_mixNozzle_21 : decode cX6_mixNozzle 21 = .ok (.goto (-19), 3) := by decide +kernel
theorem dX6_mixNozzle_24 : decode cX6_mixNozzle 24 = .ok (.iconst 0, 1) := by decide +kernel
theorem dX6_mixNozzle_25 : decode cX6_mixNozzle 25 = .ok (.istore_n 2, 1) := by decide +kernel
theorem dX6_mixNozzle_26 : decode cX6_mixNozzle 26 = .ok (.iload_n 2, 1) := by decide +kernel
theorem dX6_mixNozzle_27 : decode cX6_mixNozzle 27 = .ok (.aload_n 0, 1) := by decide +kernel
theorem dX6_mixNozzle_28 : decode cX6_mixNozzle 28 = .ok (.getfield 7, 3) := by decide +kernel
theorem dX6_mixNozzle_31 : decode cX6_mixNozzle 31 = .ok (.iconst 5, 1) := by decide +kernel
theorem dX6_mixNozzle_32 : decode cX6_mixNozzle 32 = .ok (.iaload, 1) := by decide +kernel
theorem dX6_mixNozzle_33 : decode cX6_mixNozzle 33 = .ok (.if_icmp .ge 20, 3) := by decide +kernel
theorem dX6_mixNozzle_36 : decode cX6_mixNozzle 36 = .ok (.aload_n 0, 1) := by decide +kernel
theorem dX6_mixNozzle_37 : decode cX6_mixNozzle 37 = .ok (.aload_n 0, 1) := by decide +kernel
theorem dX6_mixNozzle_38 : decode cX6_mixNozzle 38 = .ok (.iload_n 1, 1) := by decide +kernel
theorem dX6_mixNozzle_39 : decode cX6_mixNozzle 39 = .ok (.iload_n 2, 1) := by decide +kernel
theorem dX6_mixNozzle_40 : decode cX6_mixNozzle 40 = .ok (.invokevirtual 41, 3) := by decide +kernel
theorem dX6_mixNozzle_43 : decode cX6_mixNozzle 43 = .ok (.i2l, 1) := by decide +kernel
theorem dX6_mixNozzle_44 : decode cX6_mixNozzle 44 = .ok (.invokevirtual 236, 3) := by decide +kernel
theorem dX6_mixNozzle_47 : decode cX6_mixNozzle 47 = .ok (.iinc 2 1, 3) := by decide +kernel
theorem dX6_mixNozzle_50 : decode cX6_mixNozzle 50 = .ok (.goto (-24), 3) := by decide +kernel
theorem dX6_mixNozzle_53 : decode cX6_mixNozzle 53 = .ok (.iconst 0, 1) := by decide +kernel
theorem dX6_mixNozzle_54 : decode cX6_mixNozzle 54 = .ok (.istore_n 2, 1) := by decide +kernel
theorem dX6_mixNozzle_55 : decode cX6_mixNozzle 55 = .ok (.iload_n 2, 1) := by decide +kernel
theorem dX6_mixNozzle_56 : decode cX6_mixNozzle 56 = .ok (.bipush 6, 2) := by decide +kernel
theorem dX6_mixNozzle_58 : decode cX6_mixNozzle 58 = .ok (.if_icmp .ge 20, 3) := by decide +kernel
theorem dX6_mixNozzle_61 : decode cX6_mixNozzle 61 = .ok (.aload_n 0, 1) := by decide +kernel
theorem dX6_mixNozzle_62 : decode cX6_mixNozzle 62 = .ok (.aload_n 0, 1) := by decide +kernel
theorem dX6_mixNozzle_63 : decode cX6_mixNozzle 63 = .ok (.iload_n 1, 1) := by decide +kernel
theorem dX6_mixNozzle_64 : decode cX6_mixNozzle 64 = .ok (.iload_n 2, 1) := by decide +kernel
theorem dX6_mixNozzle_65 : decode cX6_mixNozzle 65 = .ok (.invokevirtual 115, 3) := by decide +kernel
theorem dX6_mixNozzle_68 : decode cX6_mixNozzle 68 = .ok (.i2l, 1) := by decide +kernel
theorem dX6_mixNozzle_69 : decode cX6_mixNozzle 69 = .ok (.invokevirtual 236, 3) := by decide +kernel
theorem dX6_mixNozzle_72 : decode cX6_mixNozzle 72 = .ok (.iinc 2 1, 3) := by decide +kernel
theorem dX6_mixNozzle_75 : decode cX6_mixNozzle 75 = .ok (.goto (-20), 3) := by decide +kernel
theorem dX6_mixNozzle_78 : decode cX6_mixNozzle 78 = .ok (.aload_n 0, 1) := by decide +kernel
theorem dX6_mixNozzle_79 : decode cX6_mixNozzle 79 = .ok (.aload_n 0, 1) := by decide +kernel
theorem dX6_mixNozzle_80 : decode cX6_mixNozzle 80 = .ok (.iload_n 1, 1) := by decide +kernel
theorem dX6_mixNozzle_81 : decode cX6_mixNozzle 81 = .ok (.invokevirtual 214, 3) := by decide +kernel
theorem dX6_mixNozzle_84 : decode cX6_mixNozzle 84 = .ok (.i2l, 1) := by decide +kernel
theorem dX6_mixNozzle_85 : decode cX6_mixNozzle 85 = .ok (.invokevirtual 236, 3) := by decide +kernel
theorem dX6_mixNozzle_88 : decode cX6_mixNozzle 88 = .ok (.return_, 1) := by decide +kernel
set_option maxRecDepth 20000 in
theorem ggX6_digest_X6_counted : GoodIn wsX6_digest wsX6_counted := goodIn_r _ [11, 4, 12, 13, 14, 15, 10, 16, 17, 18, 19, 20, 21, 22, 23, 24, 25, 26, 27, 28, 29, 30, 31, 32, 33, 34, 35, 36, 181, 182, 183, 184, 185, 186, 187, 188, 189, 190, 191, 192, 193, 194, 195] (by decide +kernel) (by decide +kernel)
set_option maxRecDepth 20000 in
theorem gX6_digest_X6_counted : GoodIn wsX6_digest (wsV RX6 202 RX6 yX6_counted wsX6_counted) := goodIn_app (goodIn_of _ (by decide +kernel)) ggX6_digest_X6_counted
set_option maxRecDepth 20000 in
theorem ggX6_digest_X6_mix : GoodIn wsX6_digest wsX6_mix := goodIn_r _ [40, 41, 3, 181, 182, 183, 184, 185, 186, 187, 188, 189, 190, 191, 192, 193, 194, 195] (by decide +kernel) (by decide +kernel)
set_option maxRecDepth 20000 in
theorem gX6_digest_X6_mix : GoodIn wsX6_digest (wsV RX6 236 RX6 yX6_mix wsX6_mix) := goodIn_app (goodIn_of _ (by decide +kernel)) ggX6_digest_X6_mix
set_option maxRecDepth 20000 in
theorem ggX6_digest_X6_feederNow : GoodIn wsX6_digest wsX6_feederNow := goodIn_r _ [45, 33, 34, 35, 10, 36, 4, 46, 47, 48, 49, 181, 182, 183, 184, 185, 186, 187, 188, 189, 190, 191, 192, 193, 194, 195] (by decide +kernel) (by decide +kernel)
set_option maxRecDepth 20000 in
theorem gX6_digest_X6_feederNow : GoodIn wsX6_digest (wsV RX6 190 RX6 yX6_feederNow wsX6_feederNow) := goodIn_app (goodIn_of _ (by decide +kernel)) ggX6_digest_X6_feederNow
set_option maxRecDepth 20000 in
theorem ggX6_digest_X6_mixNozzle : GoodIn wsX6_digest wsX6_mixNozzle := goodIn_r _ [53, 4, 25, 26, 27, 10, 28, 37, 38, 39, 40, 41, 3, 46, 47, 48, 49, 54, 55, 56, 57, 58, 59, 60, 61, 33, 34, 35, 36, 62, 63, 64, 65, 66, 67, 68, 69, 70, 71, 72, 73, 74, 75, 76, 77, 78, 79, 80, 81, 17, 18, 19, 20, 82, 83, 84, 85, 181, 182, 183, 184, 185, 186, 187, 188, 189, 190, 191, 192, 193, 194, 195] (by decide +kernel) (by decide +kernel)
set_option maxRecDepth 20000 in
theorem gX6_digest_X6_mixNozzle : GoodIn wsX6_digest (wsV RX6 242 RX6 yX6_mixNozzle wsX6_mixNozzle) := goodIn_app (goodIn_of _ (by decide +kernel)) ggX6_digest_X6_mixNozzle
set_option maxRecDepth 20000 in
theorem ggX6_digest_X6_touredThen : GoodIn wsX6_digest wsX6_touredThen := goodIn_r _ [89, 4, 90, 91, 92, 10, 93, 94, 21, 22, 23, 24, 25, 26, 27, 28, 95, 96, 97, 98, 99, 100, 101, 102, 74, 75, 76, 77, 73, 78, 79, 80, 81, 17, 18, 19, 20, 54, 55, 56, 57, 58, 59, 60, 61, 33, 34, 35, 36, 62, 63, 64, 65, 46, 47, 48, 49, 66, 67, 68, 82, 83, 84, 85, 103, 104, 105, 106, 107, 108, 109, 110, 111, 112, 113, 114, 115, 116, 117, 118, 119, 120, 121, 122, 123, 124, 125, 126, 127, 128, 129, 130, 131, 132, 133, 134, 135, 136, 137, 138, 139, 140, 13, 14, 15, 16, 141, 142, 143, 144, 181, 182, 183, 184, 185, 186, 187, 188, 189, 190, 191, 192, 193, 194, 195] (by decide +kernel) (by decide +kernel)
set_option maxRecDepth 20000 in
theorem gX6_digest_X6_touredThen : GoodIn wsX6_digest (wsV RX6 211 RX6 yX6_touredThen wsX6_touredThen) := goodIn_app (goodIn_of _ (by decide +kernel)) ggX6_digest_X6_touredThen
set_option maxRecDepth 20000 in
theorem ggX6_digest_X6_neededNow : GoodIn wsX6_digest wsX6_neededNow := goodIn_r _ [148, 4, 90, 91, 92, 10, 93, 94, 13, 14, 15, 16, 17, 18, 19, 20, 99, 100, 101, 102, 74, 75, 76, 77, 73, 78, 79, 80, 81, 25, 26, 27, 28, 54, 55, 56, 57, 58, 59, 60, 61, 33, 34, 35, 36, 62, 63, 64, 65, 46, 47, 48, 49, 66, 67, 68, 82, 83, 84, 85, 103, 104, 105, 106, 107, 108, 109, 110, 111, 112, 113, 114, 115, 116, 117, 118, 119, 120, 121, 122, 123, 124, 125, 126, 127, 128, 129, 130, 131, 132, 133, 134, 135, 136, 137, 138, 139, 140, 149, 150, 151, 152, 153, 154, 155, 156, 141, 142, 143, 144, 181, 182, 183, 184, 185, 186, 187, 188, 189, 190, 191, 192, 193, 194, 195] (by decide +kernel) (by decide +kernel)
set_option maxRecDepth 20000 in
theorem gX6_digest_X6_neededNow : GoodIn wsX6_digest (wsV RX6 217 RX6 yX6_neededNow wsX6_neededNow) := goodIn_app (goodIn_of _ (by decide +kernel)) ggX6_digest_X6_neededNow
set_option maxRecDepth 20000 in
theorem ggX6_digest_X6_rumoredNow : GoodIn wsX6_digest wsX6_rumoredNow := goodIn_r _ [160, 4, 161, 162, 163, 10, 164, 46, 47, 48, 49, 181, 182, 183, 184, 185, 186, 187, 188, 189, 190, 191, 192, 193, 194, 195] (by decide +kernel) (by decide +kernel)
set_option maxRecDepth 20000 in
theorem gX6_digest_X6_rumoredNow : GoodIn wsX6_digest (wsV RX6 223 RX6 yX6_rumoredNow wsX6_rumoredNow) := goodIn_app (goodIn_of _ (by decide +kernel)) ggX6_digest_X6_rumoredNow
set_option maxRecDepth 20000 in
theorem ggX6_digest_X6_share : GoodIn wsX6_digest wsX6_share := goodIn_r _ [168, 21, 22, 23, 10, 24, 25, 26, 27, 28, 4, 181, 182, 183, 184, 185, 186, 187, 188, 189, 190, 191, 192, 193, 194, 195] (by decide +kernel) (by decide +kernel)
set_option maxRecDepth 20000 in
theorem gX6_digest_X6_share : GoodIn wsX6_digest (wsV RX6 226 RX6 yX6_share wsX6_share) := goodIn_app (goodIn_of _ (by decide +kernel)) ggX6_digest_X6_share
set_option maxRecDepth 20000 in
theorem ggX6_digest_Jxe99ae_doubleToLongBits_ccdee : GoodIn wsX6_digest wsJxe99ae_doubleToLongBits_ccdee := goodIn_r _ [172, 173, 174, 175, 176, 177, 178, 179, 171, 180] (by decide +kernel) (by decide +kernel)
set_option maxRecDepth 20000 in
theorem gX6_digest_Jxe99ae_doubleToLongBits_ccdee : GoodIn wsX6_digest (va_wsS RX6 245 yJxe99ae_doubleToLongBits_ccdee wsJxe99ae_doubleToLongBits_ccdee) := goodIn_app (goodIn_of _ (by decide +kernel)) ggX6_digest_Jxe99ae_doubleToLongBits_ccdee
theorem dX6_digest_0 : decode cX6_digest 0 = .ok (.aload_n 0, 1) := by decide +kernel
theorem dX6_digest_1 : decode cX6_digest 1 = .ok (.iconst 0, 1) := by decide +kernel
theorem dX6_digest_2 : decode cX6_digest 2 = .ok (.putfield 34, 3) := by decide +kernel
theorem dX6_digest_5 : decode cX6_digest 5 = .ok (.aload_n 0, 1) := by decide +kernel
theorem dX6_digest_6 : decode cX6_digest 6 = .ok (.ldc2_w 240, 3) := by decide +kernel
theorem dX6_digest_9 : decode cX6_digest 9 = .ok (.putfield 232, 3) := by decide +kernel
theorem dX6_digest_12 : decode cX6_digest 12 = .ok (.iconst 0, 1) := by decide +kernel
theorem dX6_digest_13 : decode cX6_digest 13 = .ok (.istore_n 1, 1) := by decide +kernel
theorem dX6_digest_14 : decode cX6_digest 14 = .ok (.iload_n 1, 1) := by decide +kernel
theorem dX6_digest_15 : decode cX6_digest 15 = .ok (.bipush 14, 2) := by decide +kernel
theorem dX6_digest_17 : decode cX6_digest 17 = .ok (.if_icmp .ge 19, 3) := by decide +kernel
theorem dX6_digest_20 : decode cX6_digest 20 = .ok (.aload_n 0, 1) := by decide +kernel
theorem dX6_digest_21 : decode cX6_digest 21 = .ok (.aload_n 0, 1) := by decide +kernel
theorem dX6_digest_22 : decode cX6_digest 22 = .ok (.iload_n 1, 1) := by decide +kernel
theorem dX6_digest_23 : decode cX6_digest 23 = .ok (.invokevirtual 202, 3) := by decide +kernel
theorem dX6_digest_26 : decode cX6_digest 26 = .ok (.i2l, 1) := by decide +kernel
theorem dX6_digest_27 : decode cX6_digest 27 = .ok (.invokevirtual 236, 3) := by decide +kernel
theorem dX6_digest_30 : decode cX6_digest 30 = .ok (.iinc 1 1, 3) := by decide +kernel
theorem dX6_digest_33 : decode cX6_digest 33 = .ok (.goto (-19), 3) := by decide +kernel
theorem dX6_digest_36 : decode cX6_digest 36 = .ok (.iconst 0, 1) := by decide +kernel
theorem dX6_digest_37 : decode cX6_digest 37 = .ok (.istore_n 1, 1) := by decide +kernel
theorem dX6_digest_38 : decode cX6_digest 38 = .ok (.iload_n 1, 1) := by decide +kernel
theorem dX6_digest_39 : decode cX6_digest 39 = .ok (.iconst 5, 1) := by decide +kernel
theorem dX6_digest_40 : decode cX6_digest 40 = .ok (.if_icmp .ge 22, 3) := by decide +kernel
theorem dX6_digest_43 : decode cX6_digest 43 = .ok (.aload_n 0, 1) := by decide +kernel
theorem dX6_digest_44 : decode cX6_digest 44 = .ok (.aload_n 0, 1) := by decide +kernel
theorem dX6_digest_45 : decode cX6_digest 45 = .ok (.getfield 7, 3) := by decide +kernel
theorem dX6_digest_48 : decode cX6_digest 48 = .ok (.iconst 0, 1) := by decide +kernel
theorem dX6_digest_49 : decode cX6_digest 49 = .ok (.iload_n 1, 1) := by decide +kernel
theorem dX6_digest_50 : decode cX6_digest 50 = .ok (.iadd, 1) := by decide +kernel
theorem dX6_digest_51 : decode cX6_digest 51 = .ok (.iaload, 1) := by decide +kernel
theorem dX6_digest_52 : decode cX6_digest 52 = .ok (.i2l, 1) := by decide +kernel
theorem dX6_digest_53 : decode cX6_digest 53 = .ok (.invokevirtual 236, 3) := by decide +kernel
theorem dX6_digest_56 : decode cX6_digest 56 = .ok (.iinc 1 1, 3) := by decide +kernel
theorem dX6_digest_59 : decode cX6_digest 59 = .ok (.goto (-21), 3) := by decide +kernel
theorem dX6_digest_62 : decode cX6_digest 62 = .ok (.iconst 0, 1) := by decide +kernel
theorem dX6_digest_63 : decode cX6_digest 63 = .ok (.istore_n 1, 1) := by decide +kernel
theorem dX6_digest_64 : decode cX6_digest 64 = .ok (.iload_n 1, 1) := by decide +kernel
theorem dX6_digest_65 : decode cX6_digest 65 = .ok (.bipush 9, 2) := by decide +kernel
theorem dX6_digest_67 : decode cX6_digest 67 = .ok (.aload_n 0, 1) := by decide +kernel
theorem dX6_digest_68 : decode cX6_digest 68 = .ok (.getfield 7, 3) := by decide +kernel
theorem dX6_digest_71 : decode cX6_digest 71 = .ok (.iconst 5, 1) := by decide +kernel
theorem dX6_digest_72 : decode cX6_digest 72 = .ok (.iaload, 1) := by decide +kernel
theorem dX6_digest_73 : decode cX6_digest 73 = .ok (.imul, 1) := by decide +kernel
theorem dX6_digest_74 : decode cX6_digest 74 = .ok (.if_icmp .ge 26, 3) := by decide +kernel
theorem dX6_digest_77 : decode cX6_digest 77 = .ok (.aload_n 0, 1) := by decide +kernel
theorem dX6_digest_78 : decode cX6_digest 78 = .ok (.aload_n 0, 1) := by decide +kernel
theorem dX6_digest_79 : decode cX6_digest 79 = .ok (.iload_n 1, 1) := by decide +kernel
theorem dX6_digest_80 : decode cX6_digest 80 = .ok (.bipush 9, 2) := by decide +kernel
theorem dX6_digest_82 : decode cX6_digest 82 = .ok (.idiv, 1) := by decide +kernel
theorem dX6_digest_83 : decode cX6_digest 83 = .ok (.iload_n 1, 1) := by decide +kernel
theorem dX6_digest_84 : decode cX6_digest 84 = .ok (.bipush 9, 2) := by decide +kernel
theorem dX6_digest_86 : decode cX6_digest 86 = .ok (.irem, 1) := by decide +kernel
theorem dX6_digest_87 : decode cX6_digest 87 = .ok (.invokevirtual 190, 3) := by decide +kernel
theorem dX6_digest_90 : decode cX6_digest 90 = .ok (.i2l, 1) := by decide +kernel
theorem dX6_digest_91 : decode cX6_digest 91 = .ok (.invokevirtual 236, 3) := by decide +kernel
theorem dX6_digest_94 : decode cX6_digest 94 = .ok (.iinc 1 1, 3) := by decide +kernel
theorem dX6_digest_97 : decode cX6_digest 97 = .ok (.goto (-33), 3) := by decide +kernel
theorem dX6_digest_100 : decode cX6_digest 100 = .ok (.iconst 0, 1) := by decide +kernel
theorem dX6_digest_101 : decode cX6_digest 101 = .ok (.istore_n 1, 1) := by decide +kernel
theorem dX6_digest_102 : decode cX6_digest 102 = .ok (.iload_n 1, 1) := by decide +kernel
theorem dX6_digest_103 : decode cX6_digest 103 = .ok (.iconst 5, 1) := by decide +kernel
theorem dX6_digest_104 : decode cX6_digest 104 = .ok (.aload_n 0, 1) := by decide +kernel
theorem dX6_digest_105 : decode cX6_digest 105 = .ok (.getfield 7, 3) := by decide +kernel
theorem dX6_digest_108 : decode cX6_digest 108 = .ok (.bipush 6, 2) := by decide +kernel
theorem dX6_digest_110 : decode cX6_digest 110 = .ok (.iaload, 1) := by decide +kernel
theorem dX6_digest_111 : decode cX6_digest 111 = .ok (.imul, 1) := by decide +kernel
theorem dX6_digest_112 : decode cX6_digest 112 = .ok (.if_icmp .ge 23, 3) := by decide +kernel
theorem dX6_digest_115 : decode cX6_digest 115 = .ok (.aload_n 0, 1) := by decide +kernel
theorem dX6_digest_116 : decode cX6_digest 116 = .ok (.aload_n 0, 1) := by decide +kernel
theorem dX6_digest_117 : decode cX6_digest 117 = .ok (.getfield 7, 3) := by decide +kernel
theorem dX6_digest_120 : decode cX6_digest 120 = .ok (.bipush 76, 2) := by decide +kernel
theorem dX6_digest_122 : decode cX6_digest 122 = .ok (.iload_n 1, 1) := by decide +kernel
theorem dX6_digest_123 : decode cX6_digest 123 = .ok (.iadd, 1) := by decide +kernel
theorem dX6_digest_124 : decode cX6_digest 124 = .ok (.iaload, 1) := by decide +kernel
theorem dX6_digest_125 : decode cX6_digest 125 = .ok (.i2l, 1) := by decide +kernel
theorem dX6_digest_126 : decode cX6_digest 126 = .ok (.invokevirtual 236, 3) := by decide +kernel
theorem dX6_digest_129 : decode cX6_digest 129 = .ok (.iinc 1 1, 3) := by decide +kernel
theorem dX6_digest_132 : decode cX6_digest 132 = .ok (.goto (-30), 3) := by decide +kernel
theorem dX6_digest_135 : decode cX6_digest 135 = .ok (.iconst 0, 1) := by decide +kernel
theorem dX6_digest_136 : decode cX6_digest 136 = .ok (.istore_n 1, 1) := by decide +kernel
theorem dX6_digest_137 : decode cX6_digest 137 = .ok (.iload_n 1, 1) := by decide +kernel
theorem dX6_digest_138 : decode cX6_digest 138 = .ok (.iconst 4, 1) := by decide +kernel
theorem dX6_digest_139 : decode cX6_digest 139 = .ok (.if_icmp .ge 14, 3) := by decide +kernel
theorem dX6_digest_142 : decode cX6_digest 142 = .ok (.aload_n 0, 1) := by decide +kernel
theorem dX6_digest_143 : decode cX6_digest 143 = .ok (.iload_n 1, 1) := by decide +kernel
theorem dX6_digest_144 : decode cX6_digest 144 = .ok (.invokevirtual 242, 3) := by decide +kernel
theorem dX6_digest_147 : decode cX6_digest 147 = .ok (.iinc 1 1, 3) := by decide +kernel
theorem dX6_digest_150 : decode cX6_digest 150 = .ok (.goto (-13), 3) := by decide +kernel
theorem dX6_digest_153 : decode cX6_digest 153 = .ok (.iconst 0, 1) := by decide +kernel
theorem dX6_digest_154 : decode cX6_digest 154 = .ok (.istore_n 1, 1) := by decide +kernel
theorem dX6_digest_155 : decode cX6_digest 155 = .ok (.iload_n 1, 1) := by decide +kernel
theorem dX6_digest_156 : decode cX6_digest 156 = .ok (.iconst 4, 1) := by decide +kernel
theorem dX6_digest_157 : decode cX6_digest 157 = .ok (.if_icmp .ge 20, 3) := by decide +kernel
theorem dX6_digest_160 : decode cX6_digest 160 = .ok (.aload_n 0, 1) := by decide +kernel
theorem dX6_digest_161 : decode cX6_digest 161 = .ok (.aload_n 0, 1) := by decide +kernel
theorem dX6_digest_162 : decode cX6_digest 162 = .ok (.iconst 3, 1) := by decide +kernel
theorem dX6_digest_163 : decode cX6_digest 163 = .ok (.iload_n 1, 1) := by decide +kernel
theorem dX6_digest_164 : decode cX6_digest 164 = .ok (.invokevirtual 211, 3) := by decide +kernel
theorem dX6_digest_167 : decode cX6_digest 167 = .ok (.i2l, 1) := by decide +kernel
theorem dX6_digest_168 : decode cX6_digest 168 = .ok (.invokevirtual 236, 3) := by decide +kernel
theorem dX6_digest_171 : decode cX6_digest 171 = .ok (.iinc 1 1, 3) := by decide +kernel
theorem dX6_digest_174 : decode cX6_digest 174 = .ok (.goto (-19), 3) := by decide +kernel
theorem dX6_digest_177 : decode cX6_digest 177 = .ok (.aload_n 0, 1) := by decide +kernel
theorem dX6_digest_178 : decode cX6_digest 178 = .ok (.aload_n 0, 1) := by decide +kernel
theorem dX6_digest_179 : decode cX6_digest 179 = .ok (.invokevirtual 217, 3) := by decide +kernel
theorem dX6_digest_182 : decode cX6_digest 182 = .ok (.i2l, 1) := by decide +kernel
theorem dX6_digest_183 : decode cX6_digest 183 = .ok (.invokevirtual 236, 3) := by decide +kernel
theorem dX6_digest_186 : decode cX6_digest 186 = .ok (.aload_n 0, 1) := by decide +kernel
theorem dX6_digest_187 : decode cX6_digest 187 = .ok (.aload_n 0, 1) := by decide +kernel
theorem dX6_digest_188 : decode cX6_digest 188 = .ok (.invokevirtual 223, 3) := by decide +kernel
theorem dX6_digest_191 : decode cX6_digest 191 = .ok (.i2l, 1) := by decide +kernel
theorem dX6_digest_192 : decode cX6_digest 192 = .ok (.invokevirtual 236, 3) := by decide +kernel
theorem dX6_digest_195 : decode cX6_digest 195 = .ok (.aload_n 0, 1) := by decide +kernel
theorem dX6_digest_196 : decode cX6_digest 196 = .ok (.aload_n 0, 1) := by decide +kernel
theorem dX6_digest_197 : decode cX6_digest 197 = .ok (.invokevirtual 226, 3) := by decide +kernel
theorem dX6_digest_200 : decode cX6_digest 200 = .ok (.invokestatic 245, 3) := by decide +kernel
theorem dX6_digest_203 : decode cX6_digest 203 = .ok (.invokevirtual 236, 3) := by decide +kernel
theorem dX6_digest_206 : decode cX6_digest 206 = .ok (.aload_n 0, 1) := by decide +kernel
theorem dX6_digest_207 : decode cX6_digest 207 = .ok (.aload_n 0, 1) := by decide +kernel
theorem dX6_digest_208 : decode cX6_digest 208 = .ok (.getfield 166, 3) := by decide +kernel
theorem dX6_digest_211 : decode cX6_digest 211 = .ok (.i2l, 1) := by decide +kernel
theorem dX6_digest_212 : decode cX6_digest 212 = .ok (.invokevirtual 236, 3) := by decide +kernel
theorem dX6_digest_215 : decode cX6_digest 215 = .ok (.iconst 0, 1) := by decide +kernel
theorem dX6_digest_216 : decode cX6_digest 216 = .ok (.istore_n 1, 1) := by decide +kernel
theorem dX6_digest_217 : decode cX6_digest 217 = .ok (.iload_n 1, 1) := by decide +kernel
theorem dX6_digest_218 : decode cX6_digest 218 = .ok (.aload_n 0, 1) := by decide +kernel
theorem dX6_digest_219 : decode cX6_digest 219 = .ok (.getfield 166, 3) := by decide +kernel
theorem dX6_digest_222 : decode cX6_digest 222 = .ok (.if_icmp .ge 20, 3) := by decide +kernel
theorem dX6_digest_225 : decode cX6_digest 225 = .ok (.aload_n 0, 1) := by decide +kernel
theorem dX6_digest_226 : decode cX6_digest 226 = .ok (.aload_n 0, 1) := by decide +kernel
theorem dX6_digest_227 : decode cX6_digest 227 = .ok (.getfield 16, 3) := by decide +kernel
theorem dX6_digest_230 : decode cX6_digest 230 = .ok (.iload_n 1, 1) := by decide +kernel
theorem dX6_digest_231 : decode cX6_digest 231 = .ok (.iaload, 1) := by decide +kernel
theorem dX6_digest_232 : decode cX6_digest 232 = .ok (.i2l, 1) := by decide +kernel
theorem dX6_digest_233 : decode cX6_digest 233 = .ok (.invokevirtual 236, 3) := by decide +kernel
theorem dX6_digest_236 : decode cX6_digest 236 = .ok (.iinc 1 1, 3) := by decide +kernel
theorem dX6_digest_239 : decode cX6_digest 239 = .ok (.goto (-22), 3) := by decide +kernel
theorem dX6_digest_242 : decode cX6_digest 242 = .ok (.aload_n 0, 1) := by decide +kernel
theorem dX6_digest_243 : decode cX6_digest 243 = .ok (.getfield 232, 3) := by decide +kernel
theorem dX6_digest_246 : decode cX6_digest 246 = .ok (.lreturn, 1) := by decide +kernel
theorem dJxe99ae_isNaN_b9ae7_0 : decode cJxe99ae_isNaN_b9ae7 0 = .ok (.dload_n 0, 1) := by decide +kernel
theorem dJxe99ae_isNaN_b9ae7_1 : decode cJxe99ae_isNaN_b9ae7 1 = .ok (.dload_n 0, 1) := by decide +kernel
theorem dJxe99ae_isNaN_b9ae7_2 : decode cJxe99ae_isNaN_b9ae7 2 = .ok (.dcmp .l, 1) := by decide +kernel
theorem dJxe99ae_isNaN_b9ae7_3 : decode cJxe99ae_isNaN_b9ae7 3 = .ok (.ifCond .eq 7, 3) := by decide +kernel
theorem dJxe99ae_isNaN_b9ae7_6 : decode cJxe99ae_isNaN_b9ae7 6 = .ok (.iconst 1, 1) := by decide +kernel
theorem dJxe99ae_isNaN_b9ae7_7 : decode cJxe99ae_isNaN_b9ae7 7 = .ok (.goto 4, 3) := by decide +kernel
theorem dJxe99ae_isNaN_b9ae7_10 : decode cJxe99ae_isNaN_b9ae7 10 = .ok (.iconst 0, 1) := by decide +kernel
theorem dJxe99ae_isNaN_b9ae7_11 : decode cJxe99ae_isNaN_b9ae7 11 = .ok (.ireturn, 1) := by decide +kernel
set_option maxRecDepth 20000 in
theorem ggJxe99ae_doubleToLongBits_ccdee_Jxe99ae_isNaN_b9ae7 : GoodIn wsJxe99ae_doubleToLongBits_ccdee wsJxe99ae_isNaN_b9ae7 := goodIn_r _ [9] (by decide +kernel) (by decide +kernel)
set_option maxRecDepth 20000 in
theorem gJxe99ae_doubleToLongBits_ccdee_Jxe99ae_isNaN_b9ae7 : GoodIn wsJxe99ae_doubleToLongBits_ccdee (va_wsS RJxe99ae 122 yJxe99ae_isNaN_b9ae7 wsJxe99ae_isNaN_b9ae7) := goodIn_app (goodIn_of _ (by decide +kernel)) ggJxe99ae_doubleToLongBits_ccdee_Jxe99ae_isNaN_b9ae7
theorem dJxe99ae_doubleToLongBits_ccdee_0 : decode cJxe99ae_doubleToLongBits_ccdee 0 = .ok (.dload_n 0, 1) := by decide +kernel
theorem dJxe99ae_doubleToLongBits_ccdee_1 : decode cJxe99ae_doubleToLongBits_ccdee 1 = .ok (.invokestatic 122, 3) := by decide +kernel
theorem dJxe99ae_doubleToLongBits_ccdee_4 : decode cJxe99ae_doubleToLongBits_ccdee 4 = .ok (.ifCond .ne 8, 3) := by decide +kernel
theorem dJxe99ae_doubleToLongBits_ccdee_7 : decode cJxe99ae_doubleToLongBits_ccdee 7 = .ok (.dload_n 0, 1) := by decide +kernel
theorem dJxe99ae_doubleToLongBits_ccdee_8 : decode cJxe99ae_doubleToLongBits_ccdee 8 = .ok (.invokestatic 134, 3) := by decide +kernel
theorem dJxe99ae_doubleToLongBits_ccdee_11 : decode cJxe99ae_doubleToLongBits_ccdee 11 = .ok (.lreturn, 1) := by decide +kernel
theorem dJxe99ae_doubleToLongBits_ccdee_12 : decode cJxe99ae_doubleToLongBits_ccdee 12 = .ok (.ldc2_w 137, 3) := by decide +kernel
theorem dJxe99ae_doubleToLongBits_ccdee_15 : decode cJxe99ae_doubleToLongBits_ccdee 15 = .ok (.lreturn, 1) := by decide +kernel
theorem dJ9_abs_0f7a4_0 : decode cJ9_abs_0f7a4 0 = .ok (.iload_n 0, 1) := by decide +kernel
theorem dJ9_abs_0f7a4_1 : decode cJ9_abs_0f7a4 1 = .ok (.ifCond .ge 8, 3) := by decide +kernel
theorem dJ9_abs_0f7a4_4 : decode cJ9_abs_0f7a4 4 = .ok (.iload_n 0, 1) := by decide +kernel
theorem dJ9_abs_0f7a4_5 : decode cJ9_abs_0f7a4 5 = .ok (.ineg, 1) := by decide +kernel
theorem dJ9_abs_0f7a4_6 : decode cJ9_abs_0f7a4 6 = .ok (.goto 4, 3) := by decide +kernel
theorem dJ9_abs_0f7a4_9 : decode cJ9_abs_0f7a4 9 = .ok (.iload_n 0, 1) := by decide +kernel
theorem dJ9_abs_0f7a4_10 : decode cJ9_abs_0f7a4 10 = .ok (.ireturn, 1) := by decide +kernel
theorem dJ9_max_7cf53_0 : decode cJ9_max_7cf53 0 = .ok (.iload_n 0, 1) := by decide +kernel
theorem dJ9_max_7cf53_1 : decode cJ9_max_7cf53 1 = .ok (.iload_n 1, 1) := by decide +kernel
theorem dJ9_max_7cf53_2 : decode cJ9_max_7cf53 2 = .ok (.if_icmp .lt 7, 3) := by decide +kernel
theorem dJ9_max_7cf53_5 : decode cJ9_max_7cf53 5 = .ok (.iload_n 0, 1) := by decide +kernel
theorem dJ9_max_7cf53_6 : decode cJ9_max_7cf53 6 = .ok (.goto 4, 3) := by decide +kernel
theorem dJ9_max_7cf53_9 : decode cJ9_max_7cf53 9 = .ok (.iload_n 1, 1) := by decide +kernel
theorem dJ9_max_7cf53_10 : decode cJ9_max_7cf53 10 = .ok (.ireturn, 1) := by decide +kernel
theorem dJ9_min_7cf53_0 : decode cJ9_min_7cf53 0 = .ok (.iload_n 0, 1) := by decide +kernel
theorem dJ9_min_7cf53_1 : decode cJ9_min_7cf53 1 = .ok (.iload_n 1, 1) := by decide +kernel
theorem dJ9_min_7cf53_2 : decode cJ9_min_7cf53 2 = .ok (.if_icmp .gt 7, 3) := by decide +kernel
theorem dJ9_min_7cf53_5 : decode cJ9_min_7cf53 5 = .ok (.iload_n 0, 1) := by decide +kernel
theorem dJ9_min_7cf53_6 : decode cJ9_min_7cf53 6 = .ok (.goto 4, 3) := by decide +kernel
theorem dJ9_min_7cf53_9 : decode cJ9_min_7cf53 9 = .ok (.iload_n 1, 1) := by decide +kernel
theorem dJ9_min_7cf53_10 : decode cJ9_min_7cf53 10 = .ok (.ireturn, 1) := by decide +kernel
set_option maxRecDepth 20000 in
theorem ggL_addFeeder_X5_addFeeder : GoodIn wsL_addFeeder wsX5_addFeeder := goodIn_ca (goodIn_ca (goodIn_r _ [7, 8, 9, 10, 11, 12, 13, 14, 6, 15, 16, 17, 18, 19, 20, 21, 22, 23, 24, 25, 26, 27, 28, 29, 30, 31, 32, 33, 34, 35, 36, 37, 38, 39, 40, 41, 42, 43, 44, 45, 46, 47, 48, 49, 50, 51, 52, 53, 54, 55, 56, 57, 58, 59, 60, 61, 62, 63, 64, 65, 66, 67, 68, 69, 70, 71, 72, 73, 74, 75, 76, 77, 78, 79, 80, 81, 82, 83, 84, 85, 86, 87, 88, 89, 90, 91, 92, 93, 94, 95, 96, 97, 98, 99, 100, 101, 102, 103, 104, 105] (by decide +kernel) (by decide +kernel)) (goodIn_sub (fun _ h => List.mem_cons_of_mem _ (List.mem_append_left _ (List.mem_append_right _ h))) (by decide +kernel))) (goodIn_sub (fun _ h => List.mem_cons_of_mem _ (List.mem_append_right _ h)) (by decide +kernel))
set_option maxRecDepth 20000 in
theorem gL_addFeeder_X5_addFeeder : GoodIn wsL_addFeeder (wsV RL 7 RX5 yX5_addFeeder wsX5_addFeeder) := goodIn_app (goodIn_of _ (by decide +kernel)) ggL_addFeeder_X5_addFeeder
theorem dL_addFeeder_0 : decode cL_addFeeder 0 = .ok (.aload 6, 2) := by decide +kernel
theorem dL_addFeeder_2 : decode cL_addFeeder 2 = .ok (.iconst 0, 1) := by decide +kernel
theorem dL_addFeeder_3 : decode cL_addFeeder 3 = .ok (.aload_n 0, 1) := by decide +kernel
theorem dL_addFeeder_4 : decode cL_addFeeder 4 = .ok (.iload_n 1, 1) := by decide +kernel
theorem dL_addFeeder_5 : decode cL_addFeeder 5 = .ok (.iload_n 2, 1) := by decide +kernel
theorem dL_addFeeder_6 : decode cL_addFeeder 6 = .ok (.iload_n 3, 1) := by decide +kernel
theorem dL_addFeeder_7 : decode cL_addFeeder 7 = .ok (.iload 4, 2) := by decide +kernel
theorem dL_addFeeder_9 : decode cL_addFeeder 9 = .ok (.iload 5, 2) := by decide +kernel
theorem dL_addFeeder_11 : decode cL_addFeeder 11 = .ok (.invokevirtual 7, 3) := by decide +kernel
theorem dL_addFeeder_14 : decode cL_addFeeder 14 = .ok (.i2l, 1) := by decide +kernel
theorem dL_addFeeder_15 : decode cL_addFeeder 15 = .ok (.lastore, 1) := by decide +kernel
theorem dL_addFeeder_16 : decode cL_addFeeder 16 = .ok (.goto 11, 3) := by decide +kernel
theorem dL_addFeeder_19 : decode cL_addFeeder 19 = .ok (.astore 7, 2) := by decide +kernel
theorem dL_addFeeder_21 : decode cL_addFeeder 21 = .ok (.iconst 1, 1) := by decide +kernel
theorem dL_addFeeder_22 : decode cL_addFeeder 22 = .ok (.ireturn, 1) := by decide +kernel
theorem dL_addFeeder_23 : decode cL_addFeeder 23 = .ok (.astore 7, 2) := by decide +kernel
theorem dL_addFeeder_25 : decode cL_addFeeder 25 = .ok (.iconst 2, 1) := by decide +kernel
theorem dL_addFeeder_26 : decode cL_addFeeder 26 = .ok (.ireturn, 1) := by decide +kernel
theorem dL_addFeeder_27 : decode cL_addFeeder 27 = .ok (.iconst 0, 1) := by decide +kernel
theorem dL_addFeeder_28 : decode cL_addFeeder 28 = .ok (.ireturn, 1) := by decide +kernel
set_option maxRecDepth 20000 in
theorem ggL_addPlace_X5_addPlace : GoodIn wsL_addPlace wsX5_addPlace := goodIn_ca (goodIn_ca (goodIn_r _ [7, 8, 9, 10, 11, 12, 13, 14, 6, 15, 16, 17, 18, 19, 20, 21, 22, 23, 24, 25, 26, 27, 28, 29, 30, 31, 32, 33, 34, 35, 36, 37, 38, 39, 40, 41, 42, 43, 44, 45, 46, 47, 48, 49, 50, 51, 52, 53, 54, 55, 56, 57, 58, 59, 60, 61, 62, 63, 64, 65, 66, 67, 68, 69, 70, 71, 72, 73, 74, 75, 76, 77, 78, 79, 80, 81, 82, 83, 84, 85, 86, 87, 88, 89, 90, 91, 92, 93, 94, 95, 96, 97, 98, 99, 100, 101, 102, 103, 104, 105, 106, 107, 108, 109] (by decide +kernel) (by decide +kernel)) (goodIn_sub (fun _ h => List.mem_cons_of_mem _ (List.mem_append_left _ (List.mem_append_right _ h))) (by decide +kernel))) (goodIn_sub (fun _ h => List.mem_cons_of_mem _ (List.mem_append_right _ h)) (by decide +kernel))
set_option maxRecDepth 20000 in
theorem gL_addPlace_X5_addPlace : GoodIn wsL_addPlace (wsV RL 17 RX5 yX5_addPlace wsX5_addPlace) := goodIn_app (goodIn_of _ (by decide +kernel)) ggL_addPlace_X5_addPlace
theorem dL_addPlace_0 : decode cL_addPlace 0 = .ok (.aload_n 3, 1) := by decide +kernel
theorem dL_addPlace_1 : decode cL_addPlace 1 = .ok (.iconst 0, 1) := by decide +kernel
theorem dL_addPlace_2 : decode cL_addPlace 2 = .ok (.aload_n 0, 1) := by decide +kernel
theorem dL_addPlace_3 : decode cL_addPlace 3 = .ok (.iload_n 1, 1) := by decide +kernel
theorem dL_addPlace_4 : decode cL_addPlace 4 = .ok (.iload_n 2, 1) := by decide +kernel
theorem dL_addPlace_5 : decode cL_addPlace 5 = .ok (.invokevirtual 17, 3) := by decide +kernel
theorem dL_addPlace_8 : decode cL_addPlace 8 = .ok (.i2l, 1) := by decide +kernel
theorem dL_addPlace_9 : decode cL_addPlace 9 = .ok (.lastore, 1) := by decide +kernel
theorem dL_addPlace_10 : decode cL_addPlace 10 = .ok (.goto 11, 3) := by decide +kernel
theorem dL_addPlace_13 : decode cL_addPlace 13 = .ok (.astore 4, 2) := by decide +kernel
theorem dL_addPlace_15 : decode cL_addPlace 15 = .ok (.iconst 1, 1) := by decide +kernel
theorem dL_addPlace_16 : decode cL_addPlace 16 = .ok (.ireturn, 1) := by decide +kernel
theorem dL_addPlace_17 : decode cL_addPlace 17 = .ok (.astore 4, 2) := by decide +kernel
theorem dL_addPlace_19 : decode cL_addPlace 19 = .ok (.iconst 2, 1) := by decide +kernel
theorem dL_addPlace_20 : decode cL_addPlace 20 = .ok (.ireturn, 1) := by decide +kernel
theorem dL_addPlace_21 : decode cL_addPlace 21 = .ok (.iconst 0, 1) := by decide +kernel
theorem dL_addPlace_22 : decode cL_addPlace 22 = .ok (.ireturn, 1) := by decide +kernel
set_option maxRecDepth 20000 in
theorem ggL_fill_X5_fill : GoodIn wsL_fill wsX5_fill := goodIn_ca (goodIn_ca (goodIn_ca (goodIn_r _ [8, 9, 10, 11, 12, 13, 14, 15, 16, 7, 17, 18, 19, 20, 21, 22, 23, 24, 25, 26, 27, 28, 29, 30, 31, 32, 33, 34, 35, 36, 37, 38, 39, 40, 41, 42, 43, 44, 45, 46, 47, 48, 49, 50, 51, 52, 53, 54, 55, 56, 57, 58, 59, 60, 61, 62, 63, 64, 65, 66, 67, 68, 69, 70, 71, 72, 73, 74, 75, 76, 77, 78, 79, 80, 81, 82, 83, 84, 85, 86, 87, 88, 89, 90, 91, 92, 93, 94, 95, 96, 97, 98, 99, 100, 101, 102, 103, 104, 105, 106, 107, 108, 109, 110, 111, 112, 113, 114] (by decide +kernel) (by decide +kernel)) (goodIn_sub (fun _ h => List.mem_cons_of_mem _ (List.mem_append_left _ (List.mem_append_left _ (List.mem_append_right _ h)))) (by decide +kernel))) (goodIn_sub (fun _ h => List.mem_cons_of_mem _ (List.mem_append_left _ (List.mem_append_right _ h))) (by decide +kernel))) (goodIn_sub (fun _ h => List.mem_cons_of_mem _ (List.mem_append_right _ h)) (by decide +kernel))
set_option maxRecDepth 20000 in
theorem gL_fill_X5_fill : GoodIn wsL_fill (wsV RL 21 RX5 yX5_fill wsX5_fill) := goodIn_app (goodIn_of _ (by decide +kernel)) ggL_fill_X5_fill
theorem dL_fill_0 : decode cL_fill 0 = .ok (.aload_n 3, 1) := by decide +kernel
theorem dL_fill_1 : decode cL_fill 1 = .ok (.iconst 0, 1) := by decide +kernel
theorem dL_fill_2 : decode cL_fill 2 = .ok (.aload_n 0, 1) := by decide +kernel
theorem dL_fill_3 : decode cL_fill 3 = .ok (.iload_n 1, 1) := by decide +kernel
theorem dL_fill_4 : decode cL_fill 4 = .ok (.iload_n 2, 1) := by decide +kernel
theorem dL_fill_5 : decode cL_fill 5 = .ok (.invokevirtual 21, 3) := by decide +kernel
theorem dL_fill_8 : decode cL_fill 8 = .ok (.i2l, 1) := by decide +kernel
theorem dL_fill_9 : decode cL_fill 9 = .ok (.lastore, 1) := by decide +kernel
theorem dL_fill_10 : decode cL_fill 10 = .ok (.goto 15, 3) := by decide +kernel
theorem dL_fill_13 : decode cL_fill 13 = .ok (.astore 4, 2) := by decide +kernel
theorem dL_fill_15 : decode cL_fill 15 = .ok (.iconst 1, 1) := by decide +kernel
theorem dL_fill_16 : decode cL_fill 16 = .ok (.ireturn, 1) := by decide +kernel
theorem dL_fill_17 : decode cL_fill 17 = .ok (.astore 4, 2) := by decide +kernel
theorem dL_fill_19 : decode cL_fill 19 = .ok (.iconst 2, 1) := by decide +kernel
theorem dL_fill_20 : decode cL_fill 20 = .ok (.ireturn, 1) := by decide +kernel
theorem dL_fill_21 : decode cL_fill 21 = .ok (.astore 4, 2) := by decide +kernel
theorem dL_fill_23 : decode cL_fill 23 = .ok (.iconst 3, 1) := by decide +kernel
theorem dL_fill_24 : decode cL_fill 24 = .ok (.ireturn, 1) := by decide +kernel
theorem dL_fill_25 : decode cL_fill 25 = .ok (.iconst 0, 1) := by decide +kernel
theorem dL_fill_26 : decode cL_fill 26 = .ok (.ireturn, 1) := by decide +kernel
set_option maxRecDepth 20000 in
theorem ggL_repair_X5_repair : GoodIn wsL_repair wsX5_repair := goodIn_ca (goodIn_ca (goodIn_r _ [7, 8, 9, 10, 11, 12, 13, 6, 14, 15, 16, 17, 18, 19, 20, 21, 22, 23, 24, 25, 26, 27, 28, 29, 30, 31, 32, 33, 34, 35, 36, 37, 38, 39, 40, 41, 42, 43, 44, 45, 46, 47, 48, 49, 50, 51, 52, 53, 54, 55, 56, 57, 58, 59, 60, 61, 62, 63, 64, 65, 66, 67, 68, 69, 70, 71, 72, 73, 74, 75, 76, 77, 78, 79, 80, 81, 82, 83, 84, 85, 86, 87, 88, 89, 90, 91, 92, 93, 94, 95, 96, 97, 98, 99, 100, 101, 102, 103, 104, 105, 106, 107, 108, 109, 110, 111] (by decide +kernel) (by decide +kernel)) (goodIn_sub (fun _ h => List.mem_cons_of_mem _ (List.mem_append_left _ (List.mem_append_right _ h))) (by decide +kernel))) (goodIn_sub (fun _ h => List.mem_cons_of_mem _ (List.mem_append_right _ h)) (by decide +kernel))
set_option maxRecDepth 20000 in
theorem gL_repair_X5_repair : GoodIn wsL_repair (wsV RL 26 RX5 yX5_repair wsX5_repair) := goodIn_app (goodIn_of _ (by decide +kernel)) ggL_repair_X5_repair
theorem dL_repair_0 : decode cL_repair 0 = .ok (.aload 4, 2) := by decide +kernel
theorem dL_repair_2 : decode cL_repair 2 = .ok (.iconst 0, 1) := by decide +kernel
theorem dL_repair_3 : decode cL_repair 3 = .ok (.aload_n 0, 1) := by decide +kernel
theorem dL_repair_4 : decode cL_repair 4 = .ok (.iload_n 1, 1) := by decide +kernel
theorem dL_repair_5 : decode cL_repair 5 = .ok (.iload_n 2, 1) := by decide +kernel
theorem dL_repair_6 : decode cL_repair 6 = .ok (.iload_n 3, 1) := by decide +kernel
theorem dL_repair_7 : decode cL_repair 7 = .ok (.invokevirtual 26, 3) := by decide +kernel
theorem dL_repair_10 : decode cL_repair 10 = .ok (.i2l, 1) := by decide +kernel
theorem dL_repair_11 : decode cL_repair 11 = .ok (.lastore, 1) := by decide +kernel
theorem dL_repair_12 : decode cL_repair 12 = .ok (.goto 11, 3) := by decide +kernel
theorem dL_repair_15 : decode cL_repair 15 = .ok (.astore 5, 2) := by decide +kernel
theorem dL_repair_17 : decode cL_repair 17 = .ok (.iconst 1, 1) := by decide +kernel
theorem dL_repair_18 : decode cL_repair 18 = .ok (.ireturn, 1) := by decide +kernel
theorem dL_repair_19 : decode cL_repair 19 = .ok (.astore 5, 2) := by decide +kernel
theorem dL_repair_21 : decode cL_repair 21 = .ok (.iconst 2, 1) := by decide +kernel
theorem dL_repair_22 : decode cL_repair 22 = .ok (.ireturn, 1) := by decide +kernel
theorem dL_repair_23 : decode cL_repair 23 = .ok (.iconst 0, 1) := by decide +kernel
theorem dL_repair_24 : decode cL_repair 24 = .ok (.ireturn, 1) := by decide +kernel
set_option maxRecDepth 20000 in
theorem ggL_fit_X5_fit : GoodIn wsL_fit wsX5_fit := goodIn_ca (goodIn_ca (goodIn_r _ [7, 8, 9, 10, 11, 12, 6, 13, 14, 15, 16, 17, 18, 19, 20, 21, 22, 23, 24, 25, 26, 27, 28, 29, 30, 31, 32, 33, 34, 35, 36, 37, 38, 39, 40, 41, 42, 43, 44, 45, 46, 47, 48, 49, 50, 51, 52, 53, 54, 55, 56, 57, 58, 59, 60, 61, 62, 63, 64, 65, 66, 67, 68, 69, 70, 71, 72, 73, 74, 75, 76, 77, 78, 79, 80, 81, 82, 83, 84, 85, 86, 87, 88, 89, 90, 91, 92, 93, 94, 95, 96, 97, 98, 99, 100, 101, 102, 103, 104, 105, 106, 107, 108, 109] (by decide +kernel) (by decide +kernel)) (goodIn_sub (fun _ h => List.mem_cons_of_mem _ (List.mem_append_left _ (List.mem_append_right _ h))) (by decide +kernel))) (goodIn_sub (fun _ h => List.mem_cons_of_mem _ (List.mem_append_right _ h)) (by decide +kernel))
set_option maxRecDepth 20000 in
theorem gL_fit_X5_fit : GoodIn wsL_fit (wsV RL 30 RX5 yX5_fit wsX5_fit) := goodIn_app (goodIn_of _ (by decide +kernel)) ggL_fit_X5_fit
theorem dL_fit_0 : decode cL_fit 0 = .ok (.aload_n 3, 1) := by decide +kernel
theorem dL_fit_1 : decode cL_fit 1 = .ok (.iconst 0, 1) := by decide +kernel
theorem dL_fit_2 : decode cL_fit 2 = .ok (.aload_n 0, 1) := by decide +kernel
theorem dL_fit_3 : decode cL_fit 3 = .ok (.iload_n 1, 1) := by decide +kernel
theorem dL_fit_4 : decode cL_fit 4 = .ok (.iload_n 2, 1) := by decide +kernel
theorem dL_fit_5 : decode cL_fit 5 = .ok (.invokevirtual 30, 3) := by decide +kernel
theorem dL_fit_8 : decode cL_fit 8 = .ok (.i2l, 1) := by decide +kernel
theorem dL_fit_9 : decode cL_fit 9 = .ok (.lastore, 1) := by decide +kernel
theorem dL_fit_10 : decode cL_fit 10 = .ok (.goto 11, 3) := by decide +kernel
theorem dL_fit_13 : decode cL_fit 13 = .ok (.astore 4, 2) := by decide +kernel
theorem dL_fit_15 : decode cL_fit 15 = .ok (.iconst 1, 1) := by decide +kernel
theorem dL_fit_16 : decode cL_fit 16 = .ok (.ireturn, 1) := by decide +kernel
theorem dL_fit_17 : decode cL_fit 17 = .ok (.astore 4, 2) := by decide +kernel
theorem dL_fit_19 : decode cL_fit 19 = .ok (.iconst 2, 1) := by decide +kernel
theorem dL_fit_20 : decode cL_fit 20 = .ok (.ireturn, 1) := by decide +kernel
theorem dL_fit_21 : decode cL_fit 21 = .ok (.iconst 0, 1) := by decide +kernel
theorem dL_fit_22 : decode cL_fit 22 = .ok (.ireturn, 1) := by decide +kernel
set_option maxRecDepth 20000 in
theorem ggL_set_X5_set : GoodIn wsL_set wsX5_set := goodIn_ca (goodIn_ca (goodIn_r _ [7, 8, 9, 10, 11, 12, 13, 6, 14, 15, 16, 17, 18, 19, 20, 21, 22, 23, 24, 25, 26, 27, 28, 29, 30, 31, 32, 33, 34, 35, 36, 37, 38, 39, 40, 41, 42, 43, 44, 45, 46, 47, 48, 49, 50, 51, 52, 53, 54, 55, 56, 57, 58, 59, 60, 61, 62, 63, 64, 65, 66, 67, 68, 69, 70, 71, 72, 73, 74, 75, 76, 77, 78, 79, 80, 81, 82, 83, 84, 85, 86, 87, 88, 89, 90, 91, 92, 93, 94, 95, 96, 97, 98, 99, 100, 101, 102, 103, 104, 105] (by decide +kernel) (by decide +kernel)) (goodIn_sub (fun _ h => List.mem_cons_of_mem _ (List.mem_append_left _ (List.mem_append_right _ h))) (by decide +kernel))) (goodIn_sub (fun _ h => List.mem_cons_of_mem _ (List.mem_append_right _ h)) (by decide +kernel))
set_option maxRecDepth 20000 in
theorem gL_set_X5_set : GoodIn wsL_set (wsV RL 33 RX5 yX5_set wsX5_set) := goodIn_app (goodIn_of _ (by decide +kernel)) ggL_set_X5_set
theorem dL_set_0 : decode cL_set 0 = .ok (.aload_n 3, 1) := by decide +kernel
theorem dL_set_1 : decode cL_set 1 = .ok (.iconst 0, 1) := by decide +kernel
theorem dL_set_2 : decode cL_set 2 = .ok (.aload_n 0, 1) := by decide +kernel
theorem dL_set_3 : decode cL_set 3 = .ok (.iload_n 1, 1) := by decide +kernel
theorem dL_set_4 : decode cL_set 4 = .ok (.iload_n 2, 1) := by decide +kernel
theorem dL_set_5 : decode cL_set 5 = .ok (.invokevirtual 33, 3) := by decide +kernel
theorem dL_set_8 : decode cL_set 8 = .ok (.i2l, 1) := by decide +kernel
theorem dL_set_9 : decode cL_set 9 = .ok (.lastore, 1) := by decide +kernel
theorem dL_set_10 : decode cL_set 10 = .ok (.goto 11, 3) := by decide +kernel
theorem dL_set_13 : decode cL_set 13 = .ok (.astore 4, 2) := by decide +kernel
theorem dL_set_15 : decode cL_set 15 = .ok (.iconst 1, 1) := by decide +kernel
theorem dL_set_16 : decode cL_set 16 = .ok (.ireturn, 1) := by decide +kernel
theorem dL_set_17 : decode cL_set 17 = .ok (.astore 4, 2) := by decide +kernel
theorem dL_set_19 : decode cL_set 19 = .ok (.iconst 2, 1) := by decide +kernel
theorem dL_set_20 : decode cL_set 20 = .ok (.ireturn, 1) := by decide +kernel
theorem dL_set_21 : decode cL_set 21 = .ok (.iconst 0, 1) := by decide +kernel
theorem dL_set_22 : decode cL_set 22 = .ok (.ireturn, 1) := by decide +kernel
set_option maxRecDepth 20000 in
theorem ggL_tour_X5_tour : GoodIn wsL_tour wsX5_tour := goodIn_ca (goodIn_r _ [6, 7, 8, 9, 10, 11, 5, 12, 13, 14, 15, 16, 17, 18, 19, 20, 21, 22, 23, 24, 25, 26, 27, 28, 29, 30, 31, 32, 33, 34, 35, 36, 37, 38, 39, 40, 41, 42, 43, 44, 45, 46, 47, 48, 49, 50, 51, 52, 53, 54, 55, 56, 57, 58, 59, 60, 61, 62, 63, 64, 65, 66, 67, 68, 69, 70, 71, 72, 73, 74, 75, 76, 77, 78, 79, 80, 81, 82, 83, 84, 85, 86, 87, 88, 89, 90, 91, 92, 93, 94, 95, 96, 97, 98, 99, 100, 101, 102, 103, 104, 105, 106, 107, 108, 109, 110, 111, 112, 113, 114, 115, 116, 117, 118, 119, 120, 121, 122, 123, 124, 125, 126, 127, 128, 129, 130, 131, 132, 133, 134, 135, 136, 137, 138, 139, 140, 141, 142, 143, 144, 145, 146, 147, 148, 149, 150, 151, 152, 153, 154, 155, 156, 157, 158, 159, 160, 161, 162, 163, 164, 165, 166, 167, 168, 169, 170, 171, 172, 173, 174, 175, 176, 177, 178, 179, 180, 181, 182, 183, 184, 185, 186, 187, 188, 189, 190, 191, 192, 193, 194, 195, 196, 197, 198] (by decide +kernel) (by decide +kernel)) (goodIn_sub (fun _ h => List.mem_cons_of_mem _ (List.mem_append_right _ h)) (by decide +kernel))
set_option maxRecDepth 20000 in
theorem gL_tour_X5_tour : GoodIn wsL_tour (wsV RL 36 RX5 yX5_tour wsX5_tour) := goodIn_app (goodIn_of _ (by decide +kernel)) ggL_tour_X5_tour
theorem dL_tour_0 : decode cL_tour 0 = .ok (.aload_n 2, 1) := by decide +kernel
theorem dL_tour_1 : decode cL_tour 1 = .ok (.iconst 0, 1) := by decide +kernel
theorem dL_tour_2 : decode cL_tour 2 = .ok (.aload_n 0, 1) := by decide +kernel
theorem dL_tour_3 : decode cL_tour 3 = .ok (.iload_n 1, 1) := by decide +kernel
theorem dL_tour_4 : decode cL_tour 4 = .ok (.invokevirtual 36, 3) := by decide +kernel
theorem dL_tour_7 : decode cL_tour 7 = .ok (.i2l, 1) := by decide +kernel
theorem dL_tour_8 : decode cL_tour 8 = .ok (.lastore, 1) := by decide +kernel
theorem dL_tour_9 : decode cL_tour 9 = .ok (.goto 6, 3) := by decide +kernel
theorem dL_tour_12 : decode cL_tour 12 = .ok (.astore_n 3, 1) := by decide +kernel
theorem dL_tour_13 : decode cL_tour 13 = .ok (.iconst 1, 1) := by decide +kernel
theorem dL_tour_14 : decode cL_tour 14 = .ok (.ireturn, 1) := by decide +kernel
theorem dL_tour_15 : decode cL_tour 15 = .ok (.iconst 0, 1) := by decide +kernel
theorem dL_tour_16 : decode cL_tour 16 = .ok (.ireturn, 1) := by decide +kernel
set_option maxRecDepth 20000 in
theorem ggL_append_X5_append : GoodIn wsL_append wsX5_append := goodIn_ca (goodIn_ca (goodIn_r _ [7, 8, 9, 10, 11, 12, 13, 14, 6, 15, 16, 17, 18, 19, 20, 21, 22, 23, 24, 25, 26, 27, 28] (by decide +kernel) (by decide +kernel)) (goodIn_sub (fun _ h => List.mem_cons_of_mem _ (List.mem_append_left _ (List.mem_append_right _ h))) (by decide +kernel))) (goodIn_sub (fun _ h => List.mem_cons_of_mem _ (List.mem_append_right _ h)) (by decide +kernel))
set_option maxRecDepth 20000 in
theorem gL_append_X5_append : GoodIn wsL_append (wsV RL 40 RX5 yX5_append wsX5_append) := goodIn_app (goodIn_of _ (by decide +kernel)) ggL_append_X5_append
theorem dL_append_0 : decode cL_append 0 = .ok (.aload_n 2, 1) := by decide +kernel
theorem dL_append_1 : decode cL_append 1 = .ok (.iconst 0, 1) := by decide +kernel
theorem dL_append_2 : decode cL_append 2 = .ok (.aload_n 0, 1) := by decide +kernel
theorem dL_append_3 : decode cL_append 3 = .ok (.iload_n 1, 1) := by decide +kernel
theorem dL_append_4 : decode cL_append 4 = .ok (.invokevirtual 40, 3) := by decide +kernel
theorem dL_append_7 : decode cL_append 7 = .ok (.i2l, 1) := by decide +kernel
theorem dL_append_8 : decode cL_append 8 = .ok (.lastore, 1) := by decide +kernel
theorem dL_append_9 : decode cL_append 9 = .ok (.goto 9, 3) := by decide +kernel
theorem dL_append_12 : decode cL_append 12 = .ok (.astore_n 3, 1) := by decide +kernel
theorem dL_append_13 : decode cL_append 13 = .ok (.iconst 1, 1) := by decide +kernel
theorem dL_append_14 : decode cL_append 14 = .ok (.ireturn, 1) := by decide +kernel
theorem dL_append_15 : decode cL_append 15 = .ok (.astore_n 3, 1) := by decide +kernel
theorem dL_append_16 : decode cL_append 16 = .ok (.iconst 2, 1) := by decide +kernel
theorem dL_append_17 : decode cL_append 17 = .ok (.ireturn, 1) := by decide +kernel
theorem dL_append_18 : decode cL_append 18 = .ok (.iconst 0, 1) := by decide +kernel
theorem dL_append_19 : decode cL_append 19 = .ok (.ireturn, 1) := by decide +kernel
set_option maxRecDepth 20000 in
theorem ggL_read_X5_read : GoodIn wsL_read wsX5_read := goodIn_ca (goodIn_r _ [6, 7, 8, 9, 10, 11, 12, 13, 14, 15, 16, 17, 18, 19, 20, 21, 22, 23, 24, 25, 26, 27, 28, 29, 30, 31, 32, 33, 34, 35, 36, 37, 38, 39, 40, 41, 42, 43, 44, 45, 46, 47, 48, 49, 50, 51, 52, 53, 54, 55, 56, 57, 58, 59, 60, 61, 62, 63, 64, 65, 66, 67, 68, 69, 70, 71, 72, 73, 74, 75, 76, 77, 78, 79, 80, 81, 82, 83, 84, 85, 86, 87, 88, 89, 90, 91, 92, 93, 94, 95, 96, 97, 98, 99, 100, 101, 102, 103, 104, 105, 106, 107, 108, 109, 110, 111, 112, 113, 114, 115, 116, 117, 118, 119, 120, 121, 122, 5, 123, 124, 125, 126, 127, 128, 129, 130, 131, 132, 133, 134, 135, 136, 137, 138, 139, 140, 141, 142, 143, 144, 145, 146, 147, 148, 149, 150, 151, 152, 153, 154, 155, 156, 157, 158, 159, 160, 161, 162, 163, 164, 165, 166, 167, 168, 169, 170, 171, 172, 173] (by decide +kernel) (by decide +kernel)) (goodIn_sub (fun _ h => List.mem_cons_of_mem _ (List.mem_append_right _ h)) (by decide +kernel))
set_option maxRecDepth 20000 in
theorem gL_read_X5_read : GoodIn wsL_read (wsV RL 43 RX5 yX5_read wsX5_read) := goodIn_app (goodIn_of _ (by decide +kernel)) ggL_read_X5_read
theorem dL_read_0 : decode cL_read 0 = .ok (.aload_n 1, 1) := by decide +kernel
theorem dL_read_1 : decode cL_read 1 = .ok (.iconst 0, 1) := by decide +kernel
theorem dL_read_2 : decode cL_read 2 = .ok (.aload_n 0, 1) := by decide +kernel
theorem dL_read_3 : decode cL_read 3 = .ok (.invokevirtual 43, 3) := by decide +kernel
theorem dL_read_6 : decode cL_read 6 = .ok (.i2l, 1) := by decide +kernel
theorem dL_read_7 : decode cL_read 7 = .ok (.lastore, 1) := by decide +kernel
theorem dL_read_8 : decode cL_read 8 = .ok (.goto 6, 3) := by decide +kernel
theorem dL_read_11 : decode cL_read 11 = .ok (.astore_n 2, 1) := by decide +kernel
theorem dL_read_12 : decode cL_read 12 = .ok (.iconst 1, 1) := by decide +kernel
theorem dL_read_13 : decode cL_read 13 = .ok (.ireturn, 1) := by decide +kernel
theorem dL_read_14 : decode cL_read 14 = .ok (.iconst 0, 1) := by decide +kernel
theorem dL_read_15 : decode cL_read 15 = .ok (.ireturn, 1) := by decide +kernel
set_option maxRecDepth 20000 in
theorem ggL_undo_X5_undo : GoodIn wsL_undo wsX5_undo := goodIn_ca (goodIn_r _ [6, 7, 8, 9, 10, 11, 12, 13, 14, 15, 16, 17, 18, 19, 20, 21, 22, 23, 24, 25, 26, 27, 28, 29, 30, 31, 32, 33, 34, 35, 36, 37, 38, 39, 40, 41, 42, 43, 44, 45, 46, 47, 48, 49, 50, 51, 52, 53, 54, 55, 56, 57, 58, 59, 60, 61, 62, 63, 64, 65, 66, 67, 68, 69, 70, 71] (by decide +kernel) (by decide +kernel)) (goodIn_sub (fun _ h => List.mem_cons_of_mem _ (List.mem_append_right _ h)) (by decide +kernel))
set_option maxRecDepth 20000 in
theorem gL_undo_X5_undo : GoodIn wsL_undo (wsV RL 47 RX5 yX5_undo wsX5_undo) := goodIn_app (goodIn_of _ (by decide +kernel)) ggL_undo_X5_undo
theorem dL_undo_0 : decode cL_undo 0 = .ok (.aload_n 1, 1) := by decide +kernel
theorem dL_undo_1 : decode cL_undo 1 = .ok (.iconst 0, 1) := by decide +kernel
theorem dL_undo_2 : decode cL_undo 2 = .ok (.aload_n 0, 1) := by decide +kernel
theorem dL_undo_3 : decode cL_undo 3 = .ok (.invokevirtual 47, 3) := by decide +kernel
theorem dL_undo_6 : decode cL_undo 6 = .ok (.i2l, 1) := by decide +kernel
theorem dL_undo_7 : decode cL_undo 7 = .ok (.lastore, 1) := by decide +kernel
theorem dL_undo_8 : decode cL_undo 8 = .ok (.goto 6, 3) := by decide +kernel
theorem dL_undo_11 : decode cL_undo 11 = .ok (.astore_n 2, 1) := by decide +kernel
theorem dL_undo_12 : decode cL_undo 12 = .ok (.iconst 1, 1) := by decide +kernel
theorem dL_undo_13 : decode cL_undo 13 = .ok (.ireturn, 1) := by decide +kernel
theorem dL_undo_14 : decode cL_undo 14 = .ok (.iconst 0, 1) := by decide +kernel
theorem dL_undo_15 : decode cL_undo 15 = .ok (.ireturn, 1) := by decide +kernel
set_option maxRecDepth 20000 in
theorem ggL_feeder_X5_feeder : GoodIn wsL_feeder wsX5_feeder := goodIn_ca (goodIn_ca (goodIn_r _ [7, 8, 9, 10, 11, 12, 13, 6, 14, 15, 16, 17, 18, 19, 20, 21, 22, 23, 24, 25, 26, 27, 28, 29, 30, 31, 32, 33, 34, 35, 36, 37, 38, 39, 40, 41, 42, 43, 44, 45, 46, 47, 48, 49, 50, 51, 52, 53] (by decide +kernel) (by decide +kernel)) (goodIn_sub (fun _ h => List.mem_cons_of_mem _ (List.mem_append_left _ (List.mem_append_right _ h))) (by decide +kernel))) (goodIn_sub (fun _ h => List.mem_cons_of_mem _ (List.mem_append_right _ h)) (by decide +kernel))
set_option maxRecDepth 20000 in
theorem gL_feeder_X5_feeder : GoodIn wsL_feeder (wsV RL 50 RX5 yX5_feeder wsX5_feeder) := goodIn_app (goodIn_of _ (by decide +kernel)) ggL_feeder_X5_feeder
theorem dL_feeder_0 : decode cL_feeder 0 = .ok (.aload_n 3, 1) := by decide +kernel
theorem dL_feeder_1 : decode cL_feeder 1 = .ok (.iconst 0, 1) := by decide +kernel
theorem dL_feeder_2 : decode cL_feeder 2 = .ok (.aload_n 0, 1) := by decide +kernel
theorem dL_feeder_3 : decode cL_feeder 3 = .ok (.iload_n 1, 1) := by decide +kernel
theorem dL_feeder_4 : decode cL_feeder 4 = .ok (.iload_n 2, 1) := by decide +kernel
theorem dL_feeder_5 : decode cL_feeder 5 = .ok (.invokevirtual 50, 3) := by decide +kernel
theorem dL_feeder_8 : decode cL_feeder 8 = .ok (.i2l, 1) := by decide +kernel
theorem dL_feeder_9 : decode cL_feeder 9 = .ok (.lastore, 1) := by decide +kernel
theorem dL_feeder_10 : decode cL_feeder 10 = .ok (.goto 11, 3) := by decide +kernel
theorem dL_feeder_13 : decode cL_feeder 13 = .ok (.astore 4, 2) := by decide +kernel
theorem dL_feeder_15 : decode cL_feeder 15 = .ok (.iconst 1, 1) := by decide +kernel
theorem dL_feeder_16 : decode cL_feeder 16 = .ok (.ireturn, 1) := by decide +kernel
theorem dL_feeder_17 : decode cL_feeder 17 = .ok (.astore 4, 2) := by decide +kernel
theorem dL_feeder_19 : decode cL_feeder 19 = .ok (.iconst 2, 1) := by decide +kernel
theorem dL_feeder_20 : decode cL_feeder 20 = .ok (.ireturn, 1) := by decide +kernel
theorem dL_feeder_21 : decode cL_feeder 21 = .ok (.iconst 0, 1) := by decide +kernel
theorem dL_feeder_22 : decode cL_feeder 22 = .ok (.ireturn, 1) := by decide +kernel
set_option maxRecDepth 20000 in
theorem ggL_place_X5_place : GoodIn wsL_place wsX5_place := goodIn_ca (goodIn_ca (goodIn_r _ [7, 8, 9, 10, 11, 12, 13, 14, 6, 15, 16, 17, 18, 19, 20, 21, 22, 23, 24, 25, 26, 27, 28, 29, 30, 31, 32, 33, 34, 35, 36, 37, 38, 39, 40, 41, 42, 43] (by decide +kernel) (by decide +kernel)) (goodIn_sub (fun _ h => List.mem_cons_of_mem _ (List.mem_append_left _ (List.mem_append_right _ h))) (by decide +kernel))) (goodIn_sub (fun _ h => List.mem_cons_of_mem _ (List.mem_append_right _ h)) (by decide +kernel))
set_option maxRecDepth 20000 in
theorem gL_place_X5_place : GoodIn wsL_place (wsV RL 53 RX5 yX5_place wsX5_place) := goodIn_app (goodIn_of _ (by decide +kernel)) ggL_place_X5_place
theorem dL_place_0 : decode cL_place 0 = .ok (.aload_n 3, 1) := by decide +kernel
theorem dL_place_1 : decode cL_place 1 = .ok (.iconst 0, 1) := by decide +kernel
theorem dL_place_2 : decode cL_place 2 = .ok (.aload_n 0, 1) := by decide +kernel
theorem dL_place_3 : decode cL_place 3 = .ok (.iload_n 1, 1) := by decide +kernel
theorem dL_place_4 : decode cL_place 4 = .ok (.iload_n 2, 1) := by decide +kernel
theorem dL_place_5 : decode cL_place 5 = .ok (.invokevirtual 53, 3) := by decide +kernel
theorem dL_place_8 : decode cL_place 8 = .ok (.i2l, 1) := by decide +kernel
theorem dL_place_9 : decode cL_place 9 = .ok (.lastore, 1) := by decide +kernel
theorem dL_place_10 : decode cL_place 10 = .ok (.goto 11, 3) := by decide +kernel
theorem dL_place_13 : decode cL_place 13 = .ok (.astore 4, 2) := by decide +kernel
theorem dL_place_15 : decode cL_place 15 = .ok (.iconst 1, 1) := by decide +kernel
theorem dL_place_16 : decode cL_place 16 = .ok (.ireturn, 1) := by decide +kernel
theorem dL_place_17 : decode cL_place 17 = .ok (.astore 4, 2) := by decide +kernel
theorem dL_place_19 : decode cL_place 19 = .ok (.iconst 2, 1) := by decide +kernel
theorem dL_place_20 : decode cL_place 20 = .ok (.ireturn, 1) := by decide +kernel
theorem dL_place_21 : decode cL_place 21 = .ok (.iconst 0, 1) := by decide +kernel
theorem dL_place_22 : decode cL_place 22 = .ok (.ireturn, 1) := by decide +kernel
set_option maxRecDepth 20000 in
theorem ggL_nozzle_X5_nozzle : GoodIn wsL_nozzle wsX5_nozzle := goodIn_ca (goodIn_ca (goodIn_r _ [7, 8, 9, 10, 11, 6, 12, 13, 14, 15, 16, 17, 18, 19, 20, 21, 22, 23, 24, 25, 26, 27, 28, 29, 30, 31, 32, 33, 34, 35, 36, 37, 38, 39, 40, 41, 42, 43, 44, 45] (by decide +kernel) (by decide +kernel)) (goodIn_sub (fun _ h => List.mem_cons_of_mem _ (List.mem_append_left _ (List.mem_append_right _ h))) (by decide +kernel))) (goodIn_sub (fun _ h => List.mem_cons_of_mem _ (List.mem_append_right _ h)) (by decide +kernel))
set_option maxRecDepth 20000 in
theorem gL_nozzle_X5_nozzle : GoodIn wsL_nozzle (wsV RL 56 RX5 yX5_nozzle wsX5_nozzle) := goodIn_app (goodIn_of _ (by decide +kernel)) ggL_nozzle_X5_nozzle
theorem dL_nozzle_0 : decode cL_nozzle 0 = .ok (.aload_n 3, 1) := by decide +kernel
theorem dL_nozzle_1 : decode cL_nozzle 1 = .ok (.iconst 0, 1) := by decide +kernel
theorem dL_nozzle_2 : decode cL_nozzle 2 = .ok (.aload_n 0, 1) := by decide +kernel
theorem dL_nozzle_3 : decode cL_nozzle 3 = .ok (.iload_n 1, 1) := by decide +kernel
theorem dL_nozzle_4 : decode cL_nozzle 4 = .ok (.iload_n 2, 1) := by decide +kernel
theorem dL_nozzle_5 : decode cL_nozzle 5 = .ok (.invokevirtual 56, 3) := by decide +kernel
theorem dL_nozzle_8 : decode cL_nozzle 8 = .ok (.i2l, 1) := by decide +kernel
theorem dL_nozzle_9 : decode cL_nozzle 9 = .ok (.lastore, 1) := by decide +kernel
theorem dL_nozzle_10 : decode cL_nozzle 10 = .ok (.goto 11, 3) := by decide +kernel
theorem dL_nozzle_13 : decode cL_nozzle 13 = .ok (.astore 4, 2) := by decide +kernel
theorem dL_nozzle_15 : decode cL_nozzle 15 = .ok (.iconst 1, 1) := by decide +kernel
theorem dL_nozzle_16 : decode cL_nozzle 16 = .ok (.ireturn, 1) := by decide +kernel
theorem dL_nozzle_17 : decode cL_nozzle 17 = .ok (.astore 4, 2) := by decide +kernel
theorem dL_nozzle_19 : decode cL_nozzle 19 = .ok (.iconst 2, 1) := by decide +kernel
theorem dL_nozzle_20 : decode cL_nozzle 20 = .ok (.ireturn, 1) := by decide +kernel
theorem dL_nozzle_21 : decode cL_nozzle 21 = .ok (.iconst 0, 1) := by decide +kernel
theorem dL_nozzle_22 : decode cL_nozzle 22 = .ok (.ireturn, 1) := by decide +kernel
set_option maxRecDepth 20000 in
theorem ggL_trust_X5_trust : GoodIn wsL_trust wsX5_trust := goodIn_ca (goodIn_r _ [6, 7, 8, 9, 10, 5, 11, 12, 13, 14, 15, 16, 17, 18, 19, 20, 21, 22, 23, 24, 25, 26, 27, 28, 29, 30, 31, 32, 33, 34, 35, 36, 37, 38, 39, 40, 41, 42, 43, 44] (by decide +kernel) (by decide +kernel)) (goodIn_sub (fun _ h => List.mem_cons_of_mem _ (List.mem_append_right _ h)) (by decide +kernel))
set_option maxRecDepth 20000 in
theorem gL_trust_X5_trust : GoodIn wsL_trust (wsV RL 59 RX5 yX5_trust wsX5_trust) := goodIn_app (goodIn_of _ (by decide +kernel)) ggL_trust_X5_trust
theorem dL_trust_0 : decode cL_trust 0 = .ok (.aload_n 3, 1) := by decide +kernel
theorem dL_trust_1 : decode cL_trust 1 = .ok (.iconst 0, 1) := by decide +kernel
theorem dL_trust_2 : decode cL_trust 2 = .ok (.aload_n 0, 1) := by decide +kernel
theorem dL_trust_3 : decode cL_trust 3 = .ok (.iload_n 1, 1) := by decide +kernel
theorem dL_trust_4 : decode cL_trust 4 = .ok (.iload_n 2, 1) := by decide +kernel
theorem dL_trust_5 : decode cL_trust 5 = .ok (.invokevirtual 59, 3) := by decide +kernel
theorem dL_trust_8 : decode cL_trust 8 = .ok (.i2l, 1) := by decide +kernel
theorem dL_trust_9 : decode cL_trust 9 = .ok (.lastore, 1) := by decide +kernel
theorem dL_trust_10 : decode cL_trust 10 = .ok (.goto 7, 3) := by decide +kernel
theorem dL_trust_13 : decode cL_trust 13 = .ok (.astore 4, 2) := by decide +kernel
theorem dL_trust_15 : decode cL_trust 15 = .ok (.iconst 1, 1) := by decide +kernel
theorem dL_trust_16 : decode cL_trust 16 = .ok (.ireturn, 1) := by decide +kernel
theorem dL_trust_17 : decode cL_trust 17 = .ok (.iconst 0, 1) := by decide +kernel
theorem dL_trust_18 : decode cL_trust 18 = .ok (.ireturn, 1) := by decide +kernel
set_option maxRecDepth 20000 in
theorem ggL_count_X5_count : GoodIn wsL_count wsX5_count := goodIn_ca (goodIn_r _ [6, 7, 8, 9, 10, 11, 12, 13, 14, 15, 16, 17, 18, 19, 20, 21, 22, 23, 24, 25, 26, 27, 28, 29, 30, 31, 32, 33, 34, 35, 36, 37, 38, 39, 40, 41, 42, 43, 44, 45, 46, 47, 48, 49, 50, 51, 52, 53, 54, 55, 56, 57, 58, 59, 60, 61, 62, 63, 64, 65, 66] (by decide +kernel) (by decide +kernel)) (goodIn_sub (fun _ h => List.mem_cons_of_mem _ (List.mem_append_right _ h)) (by decide +kernel))
set_option maxRecDepth 20000 in
theorem gL_count_X5_count : GoodIn wsL_count (wsV RL 62 RX5 yX5_count wsX5_count) := goodIn_app (goodIn_of _ (by decide +kernel)) ggL_count_X5_count
theorem dL_count_0 : decode cL_count 0 = .ok (.aload_n 2, 1) := by decide +kernel
theorem dL_count_1 : decode cL_count 1 = .ok (.iconst 0, 1) := by decide +kernel
theorem dL_count_2 : decode cL_count 2 = .ok (.aload_n 0, 1) := by decide +kernel
theorem dL_count_3 : decode cL_count 3 = .ok (.iload_n 1, 1) := by decide +kernel
theorem dL_count_4 : decode cL_count 4 = .ok (.invokevirtual 62, 3) := by decide +kernel
theorem dL_count_7 : decode cL_count 7 = .ok (.i2l, 1) := by decide +kernel
theorem dL_count_8 : decode cL_count 8 = .ok (.lastore, 1) := by decide +kernel
theorem dL_count_9 : decode cL_count 9 = .ok (.goto 6, 3) := by decide +kernel
theorem dL_count_12 : decode cL_count 12 = .ok (.astore_n 3, 1) := by decide +kernel
theorem dL_count_13 : decode cL_count 13 = .ok (.iconst 1, 1) := by decide +kernel
theorem dL_count_14 : decode cL_count 14 = .ok (.ireturn, 1) := by decide +kernel
theorem dL_count_15 : decode cL_count 15 = .ok (.iconst 0, 1) := by decide +kernel
theorem dL_count_16 : decode cL_count 16 = .ok (.ireturn, 1) := by decide +kernel
set_option maxRecDepth 20000 in
theorem ggL_setting_X5_setting : GoodIn wsL_setting wsX5_setting := goodIn_ca (goodIn_r _ [6, 7, 8, 9, 10, 5, 11, 12, 13, 14, 15, 16, 17, 18, 19, 20, 21, 22, 23, 24, 25, 26, 27, 28, 29, 30] (by decide +kernel) (by decide +kernel)) (goodIn_sub (fun _ h => List.mem_cons_of_mem _ (List.mem_append_right _ h)) (by decide +kernel))
set_option maxRecDepth 20000 in
theorem gL_setting_X5_setting : GoodIn wsL_setting (wsV RL 65 RX5 yX5_setting wsX5_setting) := goodIn_app (goodIn_of _ (by decide +kernel)) ggL_setting_X5_setting
theorem dL_setting_0 : decode cL_setting 0 = .ok (.aload_n 2, 1) := by decide +kernel
theorem dL_setting_1 : decode cL_setting 1 = .ok (.iconst 0, 1) := by decide +kernel
theorem dL_setting_2 : decode cL_setting 2 = .ok (.aload_n 0, 1) := by decide +kernel
theorem dL_setting_3 : decode cL_setting 3 = .ok (.iload_n 1, 1) := by decide +kernel
theorem dL_setting_4 : decode cL_setting 4 = .ok (.invokevirtual 65, 3) := by decide +kernel
theorem dL_setting_7 : decode cL_setting 7 = .ok (.i2l, 1) := by decide +kernel
theorem dL_setting_8 : decode cL_setting 8 = .ok (.lastore, 1) := by decide +kernel
theorem dL_setting_9 : decode cL_setting 9 = .ok (.goto 6, 3) := by decide +kernel
theorem dL_setting_12 : decode cL_setting 12 = .ok (.astore_n 3, 1) := by decide +kernel
theorem dL_setting_13 : decode cL_setting 13 = .ok (.iconst 1, 1) := by decide +kernel
theorem dL_setting_14 : decode cL_setting 14 = .ok (.ireturn, 1) := by decide +kernel
theorem dL_setting_15 : decode cL_setting 15 = .ok (.iconst 0, 1) := by decide +kernel
theorem dL_setting_16 : decode cL_setting 16 = .ok (.ireturn, 1) := by decide +kernel
set_option maxRecDepth 20000 in
theorem ggL_ifToured_X5_ifToured : GoodIn wsL_ifToured wsX5_ifToured := goodIn_ca (goodIn_r _ [6, 7, 8, 9, 10, 11, 12, 5, 13, 14, 15, 16, 17, 18, 19, 20, 21, 22, 23, 24, 25, 26, 27, 28, 29, 30, 31, 32, 33, 34, 35, 36, 37, 38, 39, 40, 41, 42, 43, 44, 45, 46, 47, 48, 49, 50, 51, 52, 53, 54, 55, 56, 57, 58, 59, 60, 61, 62, 63, 64, 65, 66, 67, 68, 69, 70, 71, 72, 73, 74, 75, 76, 77, 78, 79, 80, 81, 82, 83, 84, 85, 86, 87, 88, 89, 90, 91, 92, 93, 94, 95, 96, 97, 98, 99, 100, 101, 102, 103, 104, 105, 106, 107, 108, 109, 110, 111, 112, 113, 114, 115, 116, 117, 118, 119, 120, 121, 122, 123, 124, 125, 126, 127, 128, 129, 130, 131, 132, 133, 134, 135, 136, 137, 138, 139, 140, 141, 142, 143, 144, 145, 146, 147, 148, 149, 150, 151, 152, 153, 154, 155, 156, 157, 158, 159, 160, 161, 162, 163, 164, 165, 166, 167, 168, 169, 170, 171, 172, 173, 174, 175, 176, 177, 178, 179, 180, 181, 182, 183] (by decide +kernel) (by decide +kernel)) (goodIn_sub (fun _ h => List.mem_cons_of_mem _ (List.mem_append_right _ h)) (by decide +kernel))
set_option maxRecDepth 20000 in
theorem gL_ifToured_X5_ifToured : GoodIn wsL_ifToured (wsV RL 68 RX5 yX5_ifToured wsX5_ifToured) := goodIn_app (goodIn_of _ (by decide +kernel)) ggL_ifToured_X5_ifToured
theorem dL_ifToured_0 : decode cL_ifToured 0 = .ok (.aload_n 3, 1) := by decide +kernel
theorem dL_ifToured_1 : decode cL_ifToured 1 = .ok (.iconst 0, 1) := by decide +kernel
theorem dL_ifToured_2 : decode cL_ifToured 2 = .ok (.aload_n 0, 1) := by decide +kernel
theorem dL_ifToured_3 : decode cL_ifToured 3 = .ok (.iload_n 1, 1) := by decide +kernel
theorem dL_ifToured_4 : decode cL_ifToured 4 = .ok (.iload_n 2, 1) := by decide +kernel
theorem dL_ifToured_5 : decode cL_ifToured 5 = .ok (.invokevirtual 68, 3) := by decide +kernel
theorem dL_ifToured_8 : decode cL_ifToured 8 = .ok (.i2l, 1) := by decide +kernel
theorem dL_ifToured_9 : decode cL_ifToured 9 = .ok (.lastore, 1) := by decide +kernel
theorem dL_ifToured_10 : decode cL_ifToured 10 = .ok (.goto 7, 3) := by decide +kernel
theorem dL_ifToured_13 : decode cL_ifToured 13 = .ok (.astore 4, 2) := by decide +kernel
theorem dL_ifToured_15 : decode cL_ifToured 15 = .ok (.iconst 1, 1) := by decide +kernel
theorem dL_ifToured_16 : decode cL_ifToured 16 = .ok (.ireturn, 1) := by decide +kernel
theorem dL_ifToured_17 : decode cL_ifToured 17 = .ok (.iconst 0, 1) := by decide +kernel
theorem dL_ifToured_18 : decode cL_ifToured 18 = .ok (.ireturn, 1) := by decide +kernel
set_option maxRecDepth 20000 in
theorem ggL_choice_X5_choice : GoodIn wsL_choice wsX5_choice := goodIn_ca (goodIn_ca (goodIn_r _ [7, 8, 9, 10, 6, 11, 12, 13, 14, 15, 16, 17, 18, 19, 20, 21, 22, 23, 24, 25, 26, 27, 28, 29, 30, 31, 32, 33, 34, 35, 36, 37, 38, 39, 40, 41, 42, 43, 44, 45, 46, 47, 48, 49, 50, 51, 52, 53, 54, 55, 56, 57, 58, 59, 60, 61] (by decide +kernel) (by decide +kernel)) (goodIn_sub (fun _ h => List.mem_cons_of_mem _ (List.mem_append_left _ (List.mem_append_right _ h))) (by decide +kernel))) (goodIn_sub (fun _ h => List.mem_cons_of_mem _ (List.mem_append_right _ h)) (by decide +kernel))
set_option maxRecDepth 20000 in
theorem gL_choice_X5_choice : GoodIn wsL_choice (wsV RL 71 RX5 yX5_choice wsX5_choice) := goodIn_app (goodIn_of _ (by decide +kernel)) ggL_choice_X5_choice
theorem dL_choice_0 : decode cL_choice 0 = .ok (.aload_n 3, 1) := by decide +kernel
theorem dL_choice_1 : decode cL_choice 1 = .ok (.iconst 0, 1) := by decide +kernel
theorem dL_choice_2 : decode cL_choice 2 = .ok (.aload_n 0, 1) := by decide +kernel
theorem dL_choice_3 : decode cL_choice 3 = .ok (.iload_n 1, 1) := by decide +kernel
theorem dL_choice_4 : decode cL_choice 4 = .ok (.iload_n 2, 1) := by decide +kernel
theorem dL_choice_5 : decode cL_choice 5 = .ok (.invokevirtual 71, 3) := by decide +kernel
theorem dL_choice_8 : decode cL_choice 8 = .ok (.i2l, 1) := by decide +kernel
theorem dL_choice_9 : decode cL_choice 9 = .ok (.lastore, 1) := by decide +kernel
theorem dL_choice_10 : decode cL_choice 10 = .ok (.goto 11, 3) := by decide +kernel
theorem dL_choice_13 : decode cL_choice 13 = .ok (.astore 4, 2) := by decide +kernel
theorem dL_choice_15 : decode cL_choice 15 = .ok (.iconst 1, 1) := by decide +kernel
theorem dL_choice_16 : decode cL_choice 16 = .ok (.ireturn, 1) := by decide +kernel
theorem dL_choice_17 : decode cL_choice 17 = .ok (.astore 4, 2) := by decide +kernel
theorem dL_choice_19 : decode cL_choice 19 = .ok (.iconst 2, 1) := by decide +kernel
theorem dL_choice_20 : decode cL_choice 20 = .ok (.ireturn, 1) := by decide +kernel
theorem dL_choice_21 : decode cL_choice 21 = .ok (.iconst 0, 1) := by decide +kernel
theorem dL_choice_22 : decode cL_choice 22 = .ok (.ireturn, 1) := by decide +kernel
set_option maxRecDepth 20000 in
theorem ggL_aim_X5_aim : GoodIn wsL_aim wsX5_aim := goodIn_ca (goodIn_r _ [6, 7, 8, 9, 10, 11, 5, 12, 13, 14, 15, 16, 17, 18, 19, 20, 21, 22, 23, 24, 25, 26, 27, 28, 29, 30, 31, 32, 33, 34, 35, 36, 37, 38, 39, 40, 41, 42, 43, 44, 45, 46, 47, 48, 49, 50, 51, 52, 53, 54, 55, 56, 57, 58, 59, 60, 61, 62, 63] (by decide +kernel) (by decide +kernel)) (goodIn_sub (fun _ h => List.mem_cons_of_mem _ (List.mem_append_right _ h)) (by decide +kernel))
set_option maxRecDepth 20000 in
theorem gL_aim_X5_aim : GoodIn wsL_aim (wsV RL 74 RX5 yX5_aim wsX5_aim) := goodIn_app (goodIn_of _ (by decide +kernel)) ggL_aim_X5_aim
theorem dL_aim_0 : decode cL_aim 0 = .ok (.aload_n 2, 1) := by decide +kernel
theorem dL_aim_1 : decode cL_aim 1 = .ok (.iconst 0, 1) := by decide +kernel
theorem dL_aim_2 : decode cL_aim 2 = .ok (.aload_n 0, 1) := by decide +kernel
theorem dL_aim_3 : decode cL_aim 3 = .ok (.iload_n 1, 1) := by decide +kernel
theorem dL_aim_4 : decode cL_aim 4 = .ok (.invokevirtual 74, 3) := by decide +kernel
theorem dL_aim_7 : decode cL_aim 7 = .ok (.i2l, 1) := by decide +kernel
theorem dL_aim_8 : decode cL_aim 8 = .ok (.lastore, 1) := by decide +kernel
theorem dL_aim_9 : decode cL_aim 9 = .ok (.goto 6, 3) := by decide +kernel
theorem dL_aim_12 : decode cL_aim 12 = .ok (.astore_n 3, 1) := by decide +kernel
theorem dL_aim_13 : decode cL_aim 13 = .ok (.iconst 1, 1) := by decide +kernel
theorem dL_aim_14 : decode cL_aim 14 = .ok (.ireturn, 1) := by decide +kernel
theorem dL_aim_15 : decode cL_aim 15 = .ok (.iconst 0, 1) := by decide +kernel
theorem dL_aim_16 : decode cL_aim 16 = .ok (.ireturn, 1) := by decide +kernel
set_option maxRecDepth 20000 in
theorem ggL_law_X5_init : GoodIn wsL_law wsX5_init := goodIn_r _ [9, 10, 11, 12, 13, 14, 15, 16, 17, 18, 19, 20, 21, 22, 23, 24, 25, 26, 27, 28, 29, 30, 31, 32, 33, 34, 35, 36, 37, 38, 39, 40, 41, 42, 43, 44, 45, 46, 47, 48, 49, 50, 51, 52, 53, 54, 55, 56, 57, 58, 59, 60, 61, 62, 63, 64, 65, 66, 67, 68, 69, 70, 71, 72, 73, 74, 909, 910, 911, 912, 913, 914, 915, 916, 917, 918, 919, 920, 889, 890, 891, 892, 893, 921, 922, 923, 924, 925, 926, 927, 928, 929, 930, 931, 932, 933] (by decide +kernel) (by decide +kernel)
