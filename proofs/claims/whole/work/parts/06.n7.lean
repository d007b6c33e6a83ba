theorem dX6_rumoredNow_33 : decode cX6_rumoredNow 33 = .ok (.goto 4, 3) := by decide +kernel
theorem dX6_rumoredNow_36 : decode cX6_rumoredNow 36 = .ok (.iload_n 1, 1) := by decide +kernel
theorem dX6_rumoredNow_37 : decode cX6_rumoredNow 37 = .ok (.istore_n 1, 1) := by decide +kernel
theorem dX6_rumoredNow_38 : decode cX6_rumoredNow 38 = .ok (.iinc 2 1, 3) := by decide +kernel
theorem dX6_rumoredNow_41 : decode cX6_rumoredNow 41 = .ok (.goto (-37), 3) := by decide +kernel
theorem dX6_rumoredNow_44 : decode cX6_rumoredNow 44 = .ok (.iload_n 1, 1) := by decide +kernel
theorem dX6_rumoredNow_45 : decode cX6_rumoredNow 45 = .ok (.ireturn, 1) := by decide +kernel
set_option maxRecDepth 20000 in
theorem ggX6_rumored_X6_rumoredNow : GoodIn wsX6_rumored wsX6_rumoredNow := goodIn_r _ [6, 7, 8, 9, 10, 5, 11, 12, 13, 14, 15, 16, 17, 18, 19, 20, 21, 22, 23, 24, 25, 26, 27, 28, 29, 30] (by decide +kernel) (by decide +kernel)
set_option maxRecDepth 20000 in
theorem gX6_rumored_X6_rumoredNow : GoodIn wsX6_rumored (wsV RX6 223 RX6 yX6_rumoredNow wsX6_rumoredNow) := goodIn_app (goodIn_of _ (by decide +kernel)) ggX6_rumored_X6_rumoredNow
theorem dX6_rumored_0 : decode cX6_rumored 0 = .ok (.aload_n 0, 1) := by decide +kernel
theorem dX6_rumored_1 : decode cX6_rumored 1 = .ok (.iconst 0, 1) := by decide +kernel
theorem dX6_rumored_2 : decode cX6_rumored 2 = .ok (.putfield 34, 3) := by decide +kernel
theorem dX6_rumored_5 : decode cX6_rumored 5 = .ok (.aload_n 0, 1) := by decide +kernel
theorem dX6_rumored_6 : decode cX6_rumored 6 = .ok (.invokevirtual 223, 3) := by decide +kernel
theorem dX6_rumored_9 : decode cX6_rumored 9 = .ok (.ireturn, 1) := by decide +kernel
set_option maxRecDepth 20000 in
theorem ggX6_share_X6_sumOfNozzles : GoodIn wsX6_share wsX6_sumOfNozzles := goodIn_r _ [5, 6, 7, 8, 4, 9, 10, 11, 12, 13, 14, 15, 16, 17, 18, 19, 20, 21, 22, 23, 24, 25] (by decide +kernel) (by decide +kernel)
set_option maxRecDepth 20000 in
theorem gX6_share_X6_sumOfNozzles : GoodIn wsX6_share (wsV RX6 196 RX6 yX6_sumOfNozzles wsX6_sumOfNozzles) := goodIn_app (goodIn_of _ (by decide +kernel)) ggX6_share_X6_sumOfNozzles
theorem dX6_share_0 : decode cX6_share 0 = .ok (.aload_n 0, 1) := by decide +kernel
theorem dX6_share_1 : decode cX6_share 1 = .ok (.iconst 1, 1) := by decide +kernel
theorem dX6_share_2 : decode cX6_share 2 = .ok (.invokevirtual 196, 3) := by decide +kernel
theorem dX6_share_5 : decode cX6_share 5 = .ok (.istore_n 1, 1) := by decide +kernel
theorem dX6_share_6 : decode cX6_share 6 = .ok (.iload_n 1, 1) := by decide +kernel
theorem dX6_share_7 : decode cX6_share 7 = .ok (.ifCond .ne 7, 3) := by decide +kernel
theorem dX6_share_10 : decode cX6_share 10 = .ok (.dconst 0, 1) := by decide +kernel
theorem dX6_share_11 : decode cX6_share 11 = .ok (.goto 12, 3) := by decide +kernel
theorem dX6_share_14 : decode cX6_share 14 = .ok (.aload_n 0, 1) := by decide +kernel
theorem dX6_share_15 : decode cX6_share 15 = .ok (.iconst 2, 1) := by decide +kernel
theorem dX6_share_16 : decode cX6_share 16 = .ok (.invokevirtual 196, 3) := by decide +kernel
theorem dX6_share_19 : decode cX6_share 19 = .ok (.i2d, 1) := by decide +kernel
theorem dX6_share_20 : decode cX6_share 20 = .ok (.iload_n 1, 1) := by decide +kernel
theorem dX6_share_21 : decode cX6_share 21 = .ok (.i2d, 1) := by decide +kernel
theorem dX6_share_22 : decode cX6_share 22 = .ok (.ddiv, 1) := by decide +kernel
theorem dX6_share_23 : decode cX6_share 23 = .ok (.dreturn, 1) := by decide +kernel
set_option maxRecDepth 20000 in
theorem ggX6_missShare_X6_share : GoodIn wsX6_missShare wsX6_share := goodIn_r _ [6, 7, 8, 9, 5, 10, 11, 12, 13, 14, 15, 16, 17, 18, 19, 20, 21, 22, 23, 24, 25, 26, 27, 28, 29, 30] (by decide +kernel) (by decide +kernel)
set_option maxRecDepth 20000 in
theorem gX6_missShare_X6_share : GoodIn wsX6_missShare (wsV RX6 226 RX6 yX6_share wsX6_share) := goodIn_app (goodIn_of _ (by decide +kernel)) ggX6_missShare_X6_share
theorem dX6_missShare_0 : decode cX6_missShare 0 = .ok (.aload_n 0, 1) := by decide +kernel
theorem dX6_missShare_1 : decode cX6_missShare 1 = .ok (.iconst 0, 1) := by decide +kernel
theorem dX6_missShare_2 : decode cX6_missShare 2 = .ok (.putfield 34, 3) := by decide +kernel
theorem dX6_missShare_5 : decode cX6_missShare 5 = .ok (.aload_n 0, 1) := by decide +kernel
theorem dX6_missShare_6 : decode cX6_missShare 6 = .ok (.invokevirtual 226, 3) := by decide +kernel
theorem dX6_missShare_9 : decode cX6_missShare 9 = .ok (.dreturn, 1) := by decide +kernel
theorem dX6_mix_0 : decode cX6_mix 0 = .ok (.aload_n 0, 1) := by decide +kernel
theorem dX6_mix_1 : decode cX6_mix 1 = .ok (.ldc2_w 230, 3) := by decide +kernel
theorem dX6_mix_4 : decode cX6_mix 4 = .ok (.aload_n 0, 1) := by decide +kernel
theorem dX6_mix_5 : decode cX6_mix 5 = .ok (.getfield 232, 3) := by decide +kernel
theorem dX6_mix_8 : decode cX6_mix 8 = .ok (.lmul, 1) := by decide +kernel
theorem dX6_mix_9 : decode cX6_mix 9 = .ok (.lload_n 1, 1) := by decide +kernel
theorem dX6_mix_10 : decode cX6_mix 10 = .ok (.ladd, 1) := by decide +kernel
theorem dX6_mix_11 : decode cX6_mix 11 = .ok (.putfield 232, 3) := by decide +kernel
theorem dX6_mix_14 : decode cX6_mix 14 = .ok (.return_, 1) := by decide +kernel
set_option maxRecDepth 20000 in
theorem ggX6_mixNozzle_X6_ofNozzle : GoodIn wsX6_mixNozzle wsX6_ofNozzle := goodIn_r _ [6, 1, 57, 58, 59, 60, 61, 62, 63, 64, 65, 66, 67, 68, 69, 70, 71] (by decide +kernel) (by decide +kernel)
set_option maxRecDepth 20000 in
theorem gX6_mixNozzle_X6_ofNozzle : GoodIn wsX6_mixNozzle (wsV RX6 78 RX6 yX6_ofNozzle wsX6_ofNozzle) := goodIn_app (goodIn_of _ (by decide +kernel)) ggX6_mixNozzle_X6_ofNozzle
set_option maxRecDepth 20000 in
theorem ggX6_mixNozzle_X6_mix : GoodIn wsX6_mixNozzle wsX6_mix := goodIn_r _ [10, 11, 12, 57, 58, 59, 60, 61, 62, 63, 64, 65, 66, 67, 68, 69, 70, 71] (by decide +kernel) (by decide +kernel)
set_option maxRecDepth 20000 in
theorem gX6_mixNozzle_X6_mix : GoodIn wsX6_mixNozzle (wsV RX6 236 RX6 yX6_mix wsX6_mix) := goodIn_app (goodIn_of _ (by decide +kernel)) ggX6_mixNozzle_X6_mix
set_option maxRecDepth 20000 in
theorem ggX6_mixNozzle_X6_trustOf : GoodIn wsX6_mixNozzle wsX6_trustOf := goodIn_r _ [16, 1, 57, 58, 59, 60, 61, 62, 63, 64, 65, 66, 67, 68, 69, 70, 71] (by decide +kernel) (by decide +kernel)
set_option maxRecDepth 20000 in
theorem gX6_mixNozzle_X6_trustOf : GoodIn wsX6_mixNozzle (wsV RX6 41 RX6 yX6_trustOf wsX6_trustOf) := goodIn_app (goodIn_of _ (by decide +kernel)) ggX6_mixNozzle_X6_trustOf
set_option maxRecDepth 20000 in
theorem ggX6_mixNozzle_X6_choiceOf : GoodIn wsX6_mixNozzle wsX6_choiceOf := goodIn_r _ [20, 1, 21, 22, 23, 5, 24, 25, 26, 27, 28, 29, 30, 31, 32, 13, 14, 15, 16, 33, 34, 35, 57, 58, 59, 60, 61, 62, 63, 64, 65, 66, 67, 68, 69, 70, 71] (by decide +kernel) (by decide +kernel)
set_option maxRecDepth 20000 in
theorem gX6_mixNozzle_X6_choiceOf : GoodIn wsX6_mixNozzle (wsV RX6 115 RX6 yX6_choiceOf wsX6_choiceOf) := goodIn_app (goodIn_of _ (by decide +kernel)) ggX6_mixNozzle_X6_choiceOf
set_option maxRecDepth 20000 in
theorem ggX6_mixNozzle_X6_aimNow : GoodIn wsX6_mixNozzle wsX6_aimNow := goodIn_r _ [39, 40, 41, 42, 43, 5, 44, 45, 46, 47, 48, 1, 49, 50, 51, 52, 2, 3, 4, 6, 17, 18, 19, 20, 21, 22, 23, 24, 25, 26, 27, 28, 29, 30, 31, 32, 13, 14, 15, 16, 33, 34, 35, 53, 54, 55, 56, 57, 58, 59, 60, 61, 62, 63, 64, 65, 66, 67, 68, 69, 70, 71] (by decide +kernel) (by decide +kernel)
set_option maxRecDepth 20000 in
theorem gX6_mixNozzle_X6_aimNow : GoodIn wsX6_mixNozzle (wsV RX6 214 RX6 yX6_aimNow wsX6_aimNow) := goodIn_app (goodIn_of _ (by decide +kernel)) ggX6_mixNozzle_X6_aimNow
theorem dX6_mixNozzle_0 : decode cX6_mixNozzle 0 = .ok (.iconst 0, 1) := by decide +kernel
theorem dX6_mixNozzle_1 : decode cX6_mixNozzle 1 = .ok (.istore_n 2, 1) := by decide +kernel
theorem dX6_mixNozzle_2 : decode cX6_mixNozzle 2 = .ok (.iload_n 2, 1) := by decide +kernel
theorem dX6_mixNozzle_3 : decode cX6_mixNozzle 3 = .ok (.iconst 5, 1) := by decide +kernel
theorem dX6_mixNozzle_4 : decode cX6_mixNozzle 4 = .ok (.if_icmp .ge 20, 3) := by decide +kernel
theorem dX6_mixNozzle_7 : decode cX6_mixNozzle 7 = .ok (.aload_n 0, 1) := by decide +kernel
theorem dX6_mixNozzle_8 : decode cX6_mixNozzle 8 = .ok (.aload_n 0, 1) := by decide +kernel
theorem dX6_mixNozzle_9 : decode cX6_mixNozzle 9 = .ok (.iload_n 1, 1) := by decide +kernel
theorem dX6_mixNozzle_10 : decode cX6_mixNozzle 10 = .ok (.iload_n 2, 1) := by decide +kernel
theorem dX6_mixNozzle_11 : decode cX6_mixNozzle 11 = .ok (.invokevirtual 78, 3) := by decide +kernel
theorem dX6_mixNozzle_14 : decode cX6_mixNozzle 14 = .ok (.i2l, 1) := by decide +kernel
theorem dX6_mixNozzle_15 : decode cX6_mixNozzle 15 = .ok (.invokevirtual 236, 3) := by decide +kernel
theorem dX6_mixNozzle_18 : decode cX6_mixNozzle 18 = .ok (.iinc 2 1, 3) := by decide +kernel
theorem dX6_mixNozzle_21 : decode cX6_mixNozzle 21 = .ok (.goto (-19), 3) := by decide +kernel
theorem dX6_mixNozzle_24 : decode cX6_mixNozzle 24 = .ok (.iconst 0, 1) := by decide +kernel
theorem dX6_mixNozzle_25 : decode cX6_mixNozzle 25 = .ok (.istore_n 2, 1) := by decide +kernel
theorem dX6_mixNozzle_26 : decode cX6_mixNozzle 26 = .ok (.iload_n 2, 1) := by decide +kernel
theorem dX6_mixNozzle_27 : decode cX6_mixNozzle 27 = .ok (.aload_n 0, 1) := by decide +kernel
theorem dX6_mixNozzle_28 : decode cX6_mixNozzle 28 = .ok (.getfield 7, 3) := by decide +kernel
theorem dX6_mixNozzle_31 : decode cX6_mixNozzle 31 = .ok (.iconst 5, 1) := by decide +kernel
theorem dX6_mixNozzle_32 : decode cX6_mixNozzle 32 = .ok (.iaload, 1) := by decide +kernel
theorem dX6_mixNozzle_33 : decode cX6_mixNozzle 33 = .ok (.if_icmp .ge 20, 3) := by decide +kernel
theorem dX6_mixNozzle_36 : decode cX6_mixNozzle 36 = .ok (.aload_n 0, 1) := by decide +kernel
theorem dX6_mixNozzle_37 : decode cX6_mixNozzle 37 = .ok (.aload_n 0, 1) := by decide +kernel
theorem dX6_mixNozzle_38 : decode cX6_mixNozzle 38 = .ok (.iload_n 1, 1) := by decide +kernel
theorem dX6_mixNozzle_39 : decode cX6_mixNozzle 39 = .ok (.iload_n 2, 1) := by decide +kernel
theorem dX6_mixNozzle_40 : decode cX6_mixNozzle 40 = .ok (.invokevirtual 41, 3) := by decide +kernel
theorem dX6_mixNozzle_43 : decode cX6_mixNozzle 43 = .ok (.i2l, 1) := by decide +kernel
theorem dX6_mixNozzle_44 : decode cX6_mixNozzle 44 = .ok (.invokevirtual 236, 3) := by decide +kernel
theorem dX6_mixNozzle_47 : decode cX6_mixNozzle 47 = .ok (.iinc 2 1, 3) := by decide +kernel
theorem dX6_mixNozzle_50 : decode cX6_mixNozzle 50 = .ok (.goto (-24), 3) := by decide +kernel
theorem dX6_mixNozzle_53 : decode cX6_mixNozzle 53 = .ok (.iconst 0, 1) := by decide +kernel
theorem dX6_mixNozzle_54 : decode cX6_mixNozzle 54 = .ok (.istore_n 2, 1) := by decide +kernel
theorem dX6_mixNozzle_55 : decode cX6_mixNozzle 55 = .ok (.iload_n 2, 1) := by decide +kernel
theorem dX6_mixNozzle_56 : decode cX6_mixNozzle 56 = .ok (.bipush 6, 2) := by decide +kernel
theorem dX6_mixNozzle_58 : decode cX6_mixNozzle 58 = .ok (.if_icmp .ge 20, 3) := by decide +kernel
theorem dX6_mixNozzle_61 : decode cX6_mixNozzle 61 = .ok (.aload_n 0, 1) := by decide +kernel
theorem dX6_mixNozzle_62 : decode cX6_mixNozzle 62 = .ok (.aload_n 0, 1) := by decide +kernel
theorem dX6_mixNozzle_63 : decode cX6_mixNozzle 63 = .ok (.iload_n 1, 1) := by decide +kernel
theorem dX6_mixNozzle_64 : decode cX6_mixNozzle 64 = .ok (.iload_n 2, 1) := by decide +kernel
theorem dX6_mixNozzle_65 : decode cX6_mixNozzle 65 = .ok (.invokevirtual 115, 3) := by decide +kernel
theorem dX6_mixNozzle_68 : decode cX6_mixNozzle 68 = .ok (.i2l, 1) := by decide +kernel
theorem dX6_mixNozzle_69 : decode cX6_mixNozzle 69 = .ok (.invokevirtual 236, 3) := by decide +kernel
theorem dX6_mixNozzle_72 : decode cX6_mixNozzle 72 = .ok (.iinc 2 1, 3) := by decide +kernel
theorem dX6_mixNozzle_75 : decode cX6_mixNozzle 75 = .ok (.goto (-20), 3) := by decide +kernel
theorem dX6_mixNozzle_78 : decode cX6_mixNozzle 78 = .ok (.aload_n 0, 1) := by decide +kernel
theorem dX6_mixNozzle_79 : decode cX6_mixNozzle 79 = .ok (.aload_n 0, 1) := by decide +kernel
theorem dX6_mixNozzle_80 : decode cX6_mixNozzle 80 = .ok (.iload_n 1, 1) := by decide +kernel
theorem dX6_mixNozzle_81 : decode cX6_mixNozzle 81 = .ok (.invokevirtual 214, 3) := by decide +kernel
theorem dX6_mixNozzle_84 : decode cX6_mixNozzle 84 = .ok (.i2l, 1) := by decide +kernel
theorem dX6_mixNozzle_85 : decode cX6_mixNozzle 85 = .ok (.invokevirtual 236, 3) := by decide +kernel
theorem dX6_mixNozzle_88 : decode cX6_mixNozzle 88 = .ok (.return_, 1) := by decide +kernel
set_option maxRecDepth 20000 in
theorem ggX6_digest_X6_counted : GoodIn wsX6_digest wsX6_counted := goodIn_r _ [11, 4, 12, 13, 14, 15, 10, 16, 17, 18, 19, 20, 21, 22, 23, 24, 25, 26, 27, 28, 29, 30, 31, 32, 33, 34, 35, 36, 181, 182, 183, 184, 185, 186, 187, 188, 189, 190, 191, 192, 193, 194, 195] (by decide +kernel) (by decide +kernel)
set_option maxRecDepth 20000 in
theorem gX6_digest_X6_counted : GoodIn wsX6_digest (wsV RX6 202 RX6 yX6_counted wsX6_counted) := goodIn_app (goodIn_of _ (by decide +kernel)) ggX6_digest_X6_counted
set_option maxRecDepth 20000 in
theorem ggX6_digest_X6_mix : GoodIn wsX6_digest wsX6_mix := goodIn_r _ [40, 41, 3, 181, 182, 183, 184, 185, 186, 187, 188, 189, 190, 191, 192, 193, 194, 195] (by decide +kernel) (by decide +kernel)
set_option maxRecDepth 20000 in
theorem gX6_digest_X6_mix : GoodIn wsX6_digest (wsV RX6 236 RX6 yX6_mix wsX6_mix) := goodIn_app (goodIn_of _ (by decide +kernel)) ggX6_digest_X6_mix
set_option maxRecDepth 20000 in
theorem ggX6_digest_X6_feederNow : GoodIn wsX6_digest wsX6_feederNow := goodIn_r _ [45, 33, 34, 35, 10, 36, 4, 46, 47, 48, 49, 181, 182, 183, 184, 185, 186, 187, 188, 189, 190, 191, 192, 193, 194, 195] (by decide +kernel) (by decide +kernel)
set_option maxRecDepth 20000 in
theorem gX6_digest_X6_feederNow : GoodIn wsX6_digest (wsV RX6 190 RX6 yX6_feederNow wsX6_feederNow) := goodIn_app (goodIn_of _ (by decide +kernel)) ggX6_digest_X6_feederNow
set_option maxRecDepth 20000 in
theorem ggX6_digest_X6_mixNozzle : GoodIn wsX6_digest wsX6_mixNozzle := goodIn_r _ [53, 4, 25, 26, 27, 10, 28, 37, 38, 39, 40, 41, 3, 46, 47, 48, 49, 54, 55, 56, 57, 58, 59, 60, 61, 33, 34, 35, 36, 62, 63, 64, 65, 66, 67, 68, 69, 70, 71, 72, 73, 74, 75, 76, 77, 78, 79, 80, 81, 17, 18, 19, 20, 82, 83, 84, 85, 181, 182, 183, 184, 185, 186, 187, 188, 189, 190, 191, 192, 193, 194, 195] (by decide +kernel) (by decide +kernel)
set_option maxRecDepth 20000 in
theorem gX6_digest_X6_mixNozzle : GoodIn wsX6_digest (wsV RX6 242 RX6 yX6_mixNozzle wsX6_mixNozzle) := goodIn_app (goodIn_of _ (by decide +kernel)) ggX6_digest_X6_mixNozzle
set_option maxRecDepth 20000 in
theorem ggX6_digest_X6_touredThen : GoodIn wsX6_digest wsX6_touredThen := goodIn_r _ [89, 4, 90, 91, 92, 10, 93, 94, 21, 22, 23, 24, 25, 26, 27, 28, 95, 96, 97, 98, 99, 100, 101, 102, 74, 75, 76, 77, 73, 78, 79, 80, 81, 17, 18, 19, 20, 54, 55, 56, 57, 58, 59, 60, 61, 33, 34, 35, 36, 62, 63, 64, 65, 46, 47, 48, 49, 66, 67, 68, 82, 83, 84, 85, 103, 104, 105, 106, 107, 108, 109, 110, 111, 112, 113, 114, 115, 116, 117, 118, 119, 120, 121, 122, 123, 124, 125, 126, 127, 128, 129, 130, 131, 132, 133, 134, 135, 136, 137, 138, 139, 140, 13, 14, 15, 16, 141, 142, 143, 144, 181, 182, 183, 184, 185, 186, 187, 188, 189, 190, 191, 192, 193, 194, 195] (by decide +kernel) (by decide +kernel)
set_option maxRecDepth 20000 in
theorem gX6_digest_X6_touredThen : GoodIn wsX6_digest (wsV RX6 211 RX6 yX6_touredThen wsX6_touredThen) := goodIn_app (goodIn_of _ (by decide +kernel)) ggX6_digest_X6_touredThen
set_option maxRecDepth 20000 in
theorem ggX6_digest_X6_neededNow : GoodIn wsX6_digest wsX6_neededNow := goodIn_r _ [148, 4, 90, 91, 92, 10, 93, 94, 13, 14, 15, 16, 17, 18, 19, 20, 99, 100, 101, 102, 74, 75, 76, 77, 73, 78, 79, 80, 81, 25, 26, 27, 28, 54, 55, 56, 57, 58, 59, 60, 61, 33, 34, 35, 36, 62, 63, 64, 65, 46, 47, 48, 49, 66, 67, 68, 82, 83, 84, 85, 103, 104, 105, 106, 107, 108, 109, 110, 111, 112, 113, 114, 115, 116, 117, 118, 119, 120, 121, 122, 123, 124, 125, 126, 127, 128, 129, 130, 131, 132, 133, 134, 135, 136, 137, 138, 139, 140, 149, 150, 151, 152, 153, 154, 155, 156, 141, 142, 143, 144, 181, 182, 183, 184, 185, 186, 187, 188, 189, 190, 191, 192, 193, 194, 195] (by decide +kernel) (by decide +kernel)
set_option maxRecDepth 20000 in
theorem gX6_digest_X6_neededNow : GoodIn wsX6_digest (wsV RX6 217 RX6 yX6_neededNow wsX6_neededNow) := goodIn_app (goodIn_of _ (by decide +kernel)) ggX6_digest_X6_neededNow
set_option maxRecDepth 20000 in
theorem ggX6_digest_X6_rumoredNow : GoodIn wsX6_digest wsX6_rumoredNow := goodIn_r _ [160, 4, 161, 162, 163, 10, 164, 46, 47, 48, 49, 181, 182, 183, 184, 185, 186, 187, 188, 189, 190, 191, 192, 193, 194, 195] (by decide +kernel) (by decide +kernel)
set_option maxRecDepth 20000 in
theorem gX6_digest_X6_rumoredNow : GoodIn wsX6_digest (wsV RX6 223 RX6 yX6_rumoredNow wsX6_rumoredNow) := goodIn_app (goodIn_of _ (by decide +kernel)) ggX6_digest_X6_rumoredNow
set_option maxRecDepth 20000 in
theorem ggX6_digest_X6_share : GoodIn wsX6_digest wsX6_share := goodIn_r _ [168, 21, 22, 23, 10, 24, 25, 26, 27, 28, 4, 181, 182, 183, 184, 185, 186, 187, 188, 189, 190, 191, 192, 193, 194, 195] (by decide +kernel) (by decide +kernel)
set_option maxRecDepth 20000 in
theorem gX6_digest_X6_share : GoodIn wsX6_digest (wsV RX6 226 RX6 yX6_share wsX6_share) := goodIn_app (goodIn_of _ (by decide +kernel)) ggX6_digest_X6_share
set_option maxRecDepth 20000 in
theorem ggX6_digest_Jxe99ae_doubleToLongBits_ccdee : GoodIn wsX6_digest wsJxe99ae_doubleToLongBits_ccdee := goodIn_r _ [172, 173, 174, 175, 176, 177, 178, 179, 171, 180] (by decide +kernel) (by decide +kernel)
set_option maxRecDepth 20000 in
theorem gX6_digest_Jxe99ae_doubleToLongBits_ccdee : GoodIn wsX6_digest (va_wsS RX6 245 yJxe99ae_doubleToLongBits_ccdee wsJxe99ae_doubleToLongBits_ccdee) := goodIn_app (goodIn_of _ (by decide +kernel)) ggX6_digest_Jxe99ae_doubleToLongBits_ccdee
theorem dX6_digest_0 : decode cX6_digest 0 = .ok (.aload_n 0, 1) := by decide +kernel
theorem dX6_digest_1 : decode cX6_digest 1 = .ok (.iconst 0, 1) := by decide +kernel
theorem dX6_digest_2 : decode cX6_digest 2 = .ok (.putfield 34, 3) := by decide +kernel
theorem dX6_digest_5 : decode cX6_digest 5 = .ok (.aload_n 0, 1) := by decide +kernel
theorem dX6_digest_6 : decode cX6_digest 6 = .ok (.ldc2_w 240, 3) := by decide +kernel
theorem dX6_digest_9 : decode cX6_digest 9 = .ok (.putfield 232, 3) := by decide +kernel
theorem dX6_digest_12 : decode cX6_digest 12 = .ok (.iconst 0, 1) := by decide +kernel
theorem dX6_digest_13 : decode cX6_digest 13 = .ok (.istore_n 1, 1) := by decide +kernel
theorem dX6_digest_14 : decode cX6_digest 14 = .ok (.iload_n 1, 1) := by decide +kernel
theorem dX6_digest_15 : decode cX6_digest 15 = .ok (.bipush 14, 2) := by decide +kernel
theorem dX6_digest_17 : decode cX6_digest 17 = .ok (.if_icmp .ge 19, 3) := by decide +kernel
theorem dX6_digest_20 : decode cX6_digest 20 = .ok (.aload_n 0, 1) := by decide +kernel
theorem dX6_digest_21 : decode cX6_digest 21 = .ok (.aload_n 0, 1) := by decide +kernel
theorem dX6_digest_22 : decode cX6_digest 22 = .ok (.iload_n 1, 1) := by decide +kernel
theorem dX6_digest_23 : decode cX6_digest 23 = .ok (.invokevirtual 202, 3) := by decide +kernel
theorem dX6_digest_26 : decode cX6_digest 26 = .ok (.i2l, 1) := by decide +kernel
theorem dX6_digest_27 : decode cX6_digest 27 = .ok (.invokevirtual 236, 3) := by decide +kernel
theorem dX6_digest_30 : decode cX6_digest 30 = .ok (.iinc 1 1, 3) := by decide +kernel
theorem dX6_digest_33 : decode cX6_digest 33 = .ok (.goto (-19), 3) := by decide +kernel
theorem dX6_digest_36 : decode cX6_digest 36 = .ok (.iconst 0, 1) := by decide +kernel
theorem dX6_digest_37 : decode cX6_digest 37 = .ok (.istore_n 1, 1) := by decide +kernel
theorem dX6_digest_38 : decode cX6_digest 38 = .ok (.iload_n 1, 1) := by decide +kernel
theorem dX6_digest_39 : decode cX6_digest 39 = .ok (.iconst 5, 1) := by decide +kernel
theorem dX6_digest_40 : decode cX6_digest 40 = .ok (.if_icmp .ge 22, 3) := by decide +kernel
theorem dX6_digest_43 : decode cX6_digest 43 = .ok (.aload_n 0, 1) := by decide +kernel
theorem dX6_digest_44 : decode cX6_digest 44 = .ok (.aload_n 0, 1) := by decide +kernel
theorem dX6_digest_45 : decode cX6_digest 45 = .ok (.getfield 7, 3) := by decide +kernel
theorem dX6_digest_48 : decode cX6_digest 48 = .ok (.iconst 0, 1) := by decide +kernel
theorem dX6_digest_49 : decode cX6_digest 49 = .ok (.iload_n 1, 1) := by decide +kernel
theorem dX6_digest_50 : decode cX6_digest 50 = .ok (.iadd, 1) := by decide +kernel
theorem dX6_digest_51 : decode cX6_digest 51 = .ok (.iaload, 1) := by decide +kernel
theorem dX6_digest_52 : decode cX6_digest 52 = .ok (.i2l, 1) := by decide +kernel
theorem dX6_digest_53 : decode cX6_digest 53 = .ok (.invokevirtual 236, 3) := by decide +kernel
theorem dX6_digest_56 : decode cX6_digest 56 = .ok (.iinc 1 1, 3) := by decide +kernel
theorem dX6_digest_59 : decode cX6_digest 59 = .ok (.goto (-21), 3) := by decide +kernel
theorem dX6_digest_62 : decode cX6_digest 62 = .ok (.iconst 0, 1) := by decide +kernel
theorem dX6_digest_63 : decode cX6_digest 63 = .ok (.istore_n 1, 1) := by decide +kernel
theorem dX6_digest_64 : decode cX6_digest 64 = .ok (.iload_n 1, 1) := by decide +kernel
theorem dX6_digest_65 : decode cX6_digest 65 = .ok (.bipush 9, 2) := by decide +kernel
theorem dX6_digest_67 : decode cX6_digest 67 = .ok (.aload_n 0, 1) := by decide +kernel
theorem dX6_digest_68 : decode cX6_digest 68 = .ok (.getfield 7, 3) := by decide +kernel
theorem dX6_digest_71 : decode cX6_digest 71 = .ok (.iconst 5, 1) := by decide +kernel
theorem dX6_digest_72 : decode cX6_digest 72 = .ok (.iaload, 1) := by decide +kernel
theorem dX6_digest_73 : decode cX6_digest 73 = .ok (.imul, 1) := by decide +kernel
theorem dX6_digest_74 : decode cX6_digest 74 = .ok (.if_icmp .ge 26, 3) := by decide +kernel
theorem dX6_digest_77 : decode cX6_digest 77 = .ok (.aload_n 0, 1) := by decide +kernel
theorem dX6_digest_78 : decode cX6_digest 78 = .ok (.aload_n 0, 1) := by decide +kernel
theorem dX6_digest_79 : decode cX6_digest 79 = .ok (.iload_n 1, 1) := by decide +kernel
theorem dX6_digest_80 : decode cX6_digest 80 = .ok (.bipush 9, 2) := by decide +kernel
theorem dX6_digest_82 : decode cX6_digest 82 = .ok (.idiv, 1) := by decide +kernel
theorem dX6_digest_83 : decode cX6_digest 83 = .ok (.iload_n 1, 1) := by decide +kernel
theorem dX6_digest_84 : decode cX6_digest 84 = .ok (.bipush 9, 2) := by decide +kernel
theorem dX6_digest_86 : decode cX6_digest 86 = .ok (.irem, 1) := by decide +kernel
theorem dX6_digest_87 : decode cX6_digest 87 = .ok (.invokevirtual 190, 3) := by decide +kernel
theorem dX6_digest_90 : decode cX6_digest 90 = .ok (.i2l, 1) := by decide +kernel
theorem dX6_digest_91 : decode cX6_digest 91 = .ok (.invokevirtual 236, 3) := by decide +kernel
theorem dX6_digest_94 : decode cX6_digest 94 = .ok (.iinc 1 1, 3) := by decide +kernel
theorem dX6_digest_97 : decode cX6_digest 97 = .ok (.goto (-33), 3) := by decide +kernel
theorem dX6_digest_100 : decode cX6_digest 100 = .ok (.iconst 0, 1) := by decide +kernel
theorem dX6_digest_101 : decode cX6_digest 101 = .ok (.istore_n 1, 1) := by decide +kernel
theorem dX6_digest_102 : decode cX6_digest 102 = .ok (.iload_n 1, 1) := by decide +kernel
theorem dX6_digest_103 : decode cX6_digest 103 = .ok (.iconst 5, 1) := by decide +kernel
theorem dX6_digest_104 : decode cX6_digest 104 = .ok (.aload_n 0, 1) := by decide +kernel
theorem dX6_digest_105 : decode cX6_digest 105 = .ok (.getfield 7, 3) := by decide +kernel
theorem dX6_digest_108 : decode cX6_digest 108 = .ok (.bipush 6, 2) := by decide +kernel
theorem dX6_digest_110 : decode cX6_digest 110 = .ok (.iaload, 1) := by decide +kernel
theorem dX6_digest_111 : decode cX6_digest 111 = .ok (.imul, 1) := by decide +kernel
theorem dX6_digest_112 : decode cX6_digest 112 = .ok (.if_icmp .ge 23, 3) := by decide +kernel
theorem dX6_digest_115 : decode cX6_digest 115 = .ok (.aload_n 0, 1) := by decide +kernel
theorem dX6_digest_116 : decode cX6_digest 116 = .ok (.aload_n 0, 1) := by decide +kernel
theorem dX6_digest_117 : decode cX6_digest 117 = .ok (.getfield 7, 3) := by decide +kernel
theorem dX6_digest_120 : decode cX6_digest 120 = .ok (.bipush 76, 2) := by decide +kernel
theorem dX6_digest_122 : decode cX6_digest 122 = .ok (.iload_n 1, 1) := by decide +kernel
theorem dX6_digest_123 : decode cX6_digest 123 = .ok (.iadd, 1) := by decide +kernel
theorem dX6_digest_124 : decode cX6_digest 124 = .ok (.iaload, 1) := by decide +kernel
theorem dX6_digest_125 : decode cX6_digest 125 = .ok (.i2l, 1) := by decide +kernel
theorem dX6_digest_126 : decode cX6_digest 126 = .ok (.invokevirtual 236, 3) := by decide +kernel
theorem dX6_digest_129 : decode cX6_digest 129 = .ok (.iinc 1 1, 3) := by decide +kernel
theorem dX6_digest_132 : decode cX6_digest 132 = .ok (.goto (-30), 3) := by decide +kernel
theorem dX6_digest_135 : decode cX6_digest 135 = .ok (.iconst 0, 1) := by decide +kernel
theorem dX6_digest_136 : decode cX6_digest 136 = .ok (.istore_n 1, 1) := by decide +kernel
theorem dX6_digest_137 : decode cX6_digest 137 = .ok (.iload_n 1, 1) := by decide +kernel
theorem dX6_digest_138 : decode cX6_digest 138 = .ok (.iconst 4, 1) := by decide +kernel
theorem dX6_digest_139 : decode cX6_digest 139 = .ok (.if_icmp .ge 14, 3) := by decide +kernel
theorem dX6_digest_142 : decode cX6_digest 142 = .ok (.aload_n 0, 1) := by decide +kernel
theorem dX6_digest_143 : decode cX6_digest 143 = .ok (.iload_n 1, 1) := by decide +kernel
theorem dX6_digest_144 : decode cX6_digest 144 = .ok (.invokevirtual 242, 3) := by decide +kernel
theorem dX6_digest_147 : decode cX6_digest 147 = .ok (.iinc 1 1, 3) := by decide +kernel
theorem dX6_digest_150 : decode cX6_digest 150 = .ok (.goto (-13), 3) := by decide +kernel
theorem dX6_digest_153 : decode cX6_digest 153 = .ok (.iconst 0, 1) := by decide +kernel
theorem dX6_digest_154 : decode cX6_digest 154 = .ok (.istore_n 1, 1) := by decide +kernel
theorem dX6_digest_155 : decode cX6_digest 155 = .ok (.iload_n 1, 1) := by decide +kernel
theorem dX6_digest_156 : decode cX6_digest 156 = .ok (.iconst 4, 1) := by decide +kernel
theorem dX6_digest_157 : decode cX6_digest 157 = .ok (.if_icmp .ge 20, 3) := by decide +kernel
theorem dX6_digest_160 : decode cX6_digest 160 = .ok (.aload_n 0, 1) := by decide +kernel
theorem dX6_digest_161 : decode cX6_digest 161 = .ok (.aload_n 0, 1) := by decide +kernel
theorem dX6_digest_162 : decode cX6_digest 162 = .ok (.iconst 3, 1) := by decide +kernel
theorem dX6_digest_163 : decode cX6_digest 163 = .ok (.iload_n 1, 1) := by decide +kernel
theorem dX6_digest_164 : decode cX6_digest 164 = .ok (.invokevirtual 211, 3) := by decide +kernel
theorem dX6_digest_167 : decode cX6_digest 167 = .ok (.i2l, 1) := by decide +kernel
theorem dX6_digest_168 : decode cX6_digest 168 = .ok (.invokevirtual 236, 3) := by decide +kernel
theorem dX6_digest_171 : decode cX6_digest 171 = .ok (.iinc 1 1, 3) := by decide +kernel
theorem dX6_digest_174 : decode cX6_digest 174 = .ok (.goto (-19), 3) := by decide +kernel
theorem dX6_digest_177 : decode cX6_digest 177 = .ok (.aload_n 0, 1) := by decide +kernel
theorem dX6_digest_178 : decode cX6_digest 178 = .ok (.aload_n 0, 1) := by decide +kernel
theorem dX6_digest_179 : decode cX6_digest 179 = .ok (.invokevirtual 217, 3) := by decide +kernel
theorem dX6_digest_182 : decode cX6_digest 182 = .ok (.i2l, 1) := by decide +kernel
theorem dX6_digest_183 : decode cX6_digest 183 = .ok (.invokevirtual 236, 3) := by decide +kernel
theorem dX6_digest_186 : decode cX6_digest 186 = .ok (.aload_n 0, 1) := by decide +kernel
theorem dX6_digest_187 : decode cX6_digest 187 = .ok (.aload_n 0, 1) := by decide +kernel
theorem dX6_digest_188 : decode cX6_digest 188 = .ok (.invokevirtual 223, 3) := by decide +kernel
theorem dX6_digest_191 : decode cX6_digest 191 = .ok (.i2l, 1) := by decide +kernel
theorem dX6_digest_192 : decode cX6_digest 192 = .ok (.invokevirtual 236, 3) := by decide +kernel
theorem dX6_digest_195 : decode cX6_digest 195 = .ok (.aload_n 0, 1) := by decide +kernel
theorem dX6_digest_196 : decode cX6_digest 196 = .ok (.aload_n 0, 1) := by decide +kernel
theorem dX6_digest_197 : decode cX6_digest 197 = .ok (.invokevirtual 226, 3) := by decide +kernel
theorem dX6_digest_200 : decode cX6_digest 200 = .ok (.invokestatic 245, 3) := by decide +kernel
theorem dX6_digest_203 : decode cX6_digest 203 = .ok (.invokevirtual 236, 3) := by decide +kernel
theorem dX6_digest_206 : decode cX6_digest 206 = .ok (.aload_n 0, 1) := by decide +kernel
theorem dX6_digest_207 : decode cX6_digest 207 = .ok (.aload_n 0, 1) := by decide +kernel
theorem dX6_digest_208 : decode cX6_digest 208 = .ok (.getfield 166, 3) := by decide +kernel
theorem dX6_digest_211 : decode cX6_digest 211 = .ok (.i2l, 1) := by decide +kernel
theorem dX6_digest_212 : decode cX6_digest 212 = .ok (.invokevirtual 236, 3) := by decide +kernel
theorem dX6_digest_215 : decode cX6_digest 215 = .ok (.iconst 0, 1) := by decide +kernel
theorem dX6_digest_216 : decode cX6_digest 216 = .ok (.istore_n 1, 1) := by decide +kernel
theorem dX6_digest_217 : decode cX6_digest 217 = .ok (.iload_n 1, 1) := by decide +kernel
theorem dX6_digest_218 : decode cX6_digest 218 = .ok (.aload_n 0, 1) := by decide +kernel
theorem dX6_digest_219 : decode cX6_digest 219 = .ok (.getfield 166, 3) := by decide +kernel
theorem dX6_digest_222 : decode cX6_digest 222 = .ok (.if_icmp .ge 20, 3) := by decide +kernel
theorem dX6_digest_225 : decode cX6_digest 225 = .ok (.aload_n 0, 1) := by decide +kernel
theorem dX6_digest_226 : decode cX6_digest 226 = .ok (.aload_n 0, 1) := by decide +kernel
theorem dX6_digest_227 : decode cX6_digest 227 = .ok (.getfield 16, 3) := by decide +kernel
theorem dX6_digest_230 : decode cX6_digest 230 = .ok (.iload_n 1, 1) := by decide +kernel
theorem dX6_digest_231 : decode cX6_digest 231 = .ok (.iaload, 1) := by decide +kernel
theorem dX6_digest_232 : decode cX6_digest 232 = .ok (.i2l, 1) := by decide +kernel
theorem dX6_digest_233 : decode cX6_digest 233 = .ok (.invokevirtual 236, 3) := by decide +kernel
theorem dX6_digest_236 : decode cX6_digest 236 = .ok (.iinc 1 1, 3) := by decide +kernel
theorem dX6_digest_239 : decode cX6_digest 239 = .ok (.goto (-22), 3) := by decide +kernel
theorem dX6_digest_242 : decode cX6_digest 242 = .ok (.aload_n 0, 1) := by decide +kernel
theorem dX6_digest_243 : decode cX6_digest 243 = .ok (.getfield 232, 3) := by decide +kernel
theorem dX6_digest_246 : decode cX6_digest 246 = .ok (.lreturn, 1) := by decide +kernel
theorem dJxe99ae_isNaN_b9ae7_0 : decode cJxe99ae_isNaN_b9ae7 0 = .ok (.dload_n 0, 1) := by decide +kernel
theorem dJxe99ae_isNaN_b9ae7_1 : decode cJxe99ae_isNaN_b9ae7 1 = .ok (.dload_n 0, 1) := by decide +kernel
theorem dJxe99ae_isNaN_b9ae7_2 : decode cJxe99ae_isNaN_b9ae7 2 = .ok (.dcmp .l, 1) := by decide +kernel
theorem dJxe99ae_isNaN_b9ae7_3 : decode cJxe99ae_isNaN_b9ae7 3 = .ok (.ifCond .eq 7, 3) := by decide +kernel
theorem dJxe99ae_isNaN_b9ae7_6 : decode cJxe99ae_isNaN_b9ae7 6 = .ok (.iconst 1, 1) := by decide +kernel
theorem dJxe99ae_isNaN_b9ae7_7 : decode cJxe99ae_isNaN_b9ae7 7 = .ok (.goto 4, 3) := by decide +kernel
theorem dJxe99ae_isNaN_b9ae7_10 : decode cJxe99ae_isNaN_b9ae7 10 = .ok (.iconst 0, 1) := by decide +kernel
theorem dJxe99ae_isNaN_b9ae7_11 : decode cJxe99ae_isNaN_b9ae7 11 = .ok (.ireturn, 1) := by decide +kernel
set_option maxRecDepth 20000 in
theorem ggJxe99ae_doubleToLongBits_ccdee_Jxe99ae_isNaN_b9ae7 : GoodIn wsJxe99ae_doubleToLongBits_ccdee wsJxe99ae_isNaN_b9ae7 := goodIn_r _ [9] (by decide +kernel) (by decide +kernel)
set_option maxRecDepth 20000 in
theorem gJxe99ae_doubleToLongBits_ccdee_Jxe99ae_isNaN_b9ae7 : GoodIn wsJxe99ae_doubleToLongBits_ccdee (va_wsS RJxe99ae 122 yJxe99ae_isNaN_b9ae7 wsJxe99ae_isNaN_b9ae7) := goodIn_app (goodIn_of _ (by decide +kernel)) ggJxe99ae_doubleToLongBits_ccdee_Jxe99ae_isNaN_b9ae7
theorem dJxe99ae_doubleToLongBits_ccdee_0 : decode cJxe99ae_doubleToLongBits_ccdee 0 = .ok (.dload_n 0, 1) := by decide +kernel
theorem dJxe99ae_doubleToLongBits_ccdee_1 : decode cJxe99ae_doubleToLongBits_ccdee 1 = .ok (.invokestatic 122, 3) := by decide +kernel
theorem dJxe99ae_doubleToLongBits_ccdee_4 : decode cJxe99ae_doubleToLongBits_ccdee 4 = .ok (.ifCond .ne 8, 3) := by decide +kernel
theorem dJxe99ae_doubleToLongBits_ccdee_7 : decode cJxe99ae_doubleToLongBits_ccdee 7 = .ok (.dload_n 0, 1) := by decide +kernel
theorem dJxe99ae_doubleToLongBits_ccdee_8 : decode cJxe99ae_doubleToLongBits_ccdee 8 = .ok (.invokestatic 134, 3) := by decide +kernel
theorem dJxe99ae_doubleToLongBits_ccdee_11 : decode cJxe99ae_doubleToLongBits_ccdee 11 = .ok (.lreturn, 1) := by decide +kernel
theorem dJxe99ae_doubleToLongBits_ccdee_12 : decode cJxe99ae_doubleToLongBits_ccdee 12 = .ok (.ldc2_w 137, 3) := by decide +kernel
theorem dJxe99ae_doubleToLongBits_ccdee_15 : decode cJxe99ae_doubleToLongBits_ccdee 15 = .ok (.lreturn, 1) := by decide +kernel
theorem dJ9_abs_0f7a4_0 : decode cJ9_abs_0f7a4 0 = .ok (.iload_n 0, 1) := by decide +kernel
theorem dJ9_abs_0f7a4_1 : decode cJ9_abs_0f7a4 1 = .ok (.ifCond .ge 8, 3) := by decide +kernel
theorem dJ9_abs_0f7a4_4 : decode cJ9_abs_0f7a4 4 = .ok (.iload_n 0, 1) := by decide +kernel
theorem dJ9_abs_0f7a4_5 : decode cJ9_abs_0f7a4 5 = .ok (.ineg, 1) := by decide +kernel
theorem dJ9_abs_0f7a4_6 : decode cJ9_abs_0f7a4 6 = .ok (.goto 4, 3) := by decide +kernel
theorem dJ9_abs_0f7a4_9 : decode cJ9_abs_0f7a4 9 = .ok (.iload_n 0, 1) := by decide +kernel
theorem dJ9_abs_0f7a4_10 : decode cJ9_abs_0f7a4 10 = .ok (.ireturn, 1) := by decide +kernel
theorem dJ9_max_7cf53_0 : decode cJ9_max_7cf53 0 = .ok (.iload_n 0, 1) := by decide +kernel
theorem dJ9_max_7cf53_1 : decode cJ9_max_7cf53 1 = .ok (.iload_n 1, 1) := by decide +kernel
theorem dJ9_max_7cf53_2 : decode cJ9_max_7cf53 2 = .ok (.if_icmp .lt 7, 3) := by decide +kernel
theorem dJ9_max_7cf53_5 : decode cJ9_max_7cf53 5 = .ok (.iload_n 0, 1) := by decide +kernel
theorem dJ9_max_7cf53_6 : decode cJ9_max_7cf53 6 = .ok (.goto 4, 3) := by decide +kernel
theorem dJ9_max_7cf53_9 : decode cJ9_max_7cf53 9 = .ok (.iload_n 1, 1) := by decide +kernel
theorem dJ9_max_7cf53_10 : decode cJ9_max_7cf53 10 = .ok (.ireturn, 1) := by decide +kernel
theorem dJ9_min_7cf53_0 : decode cJ9_min_7cf53 0 = .ok (.iload_n 0, 1) := by decide +kernel
theorem dJ9_min_7cf53_1 : decode cJ9_min_7cf53 1 = .ok (.iload_n 1, 1) := by decide +kernel
theorem dJ9_min_7cf53_2 : decode cJ9_min_7cf53 2 = .ok (.if_icmp .gt 7, 3) := by decide +kernel
theorem dJ9_min_7cf53_5 : decode cJ9_min_7cf53 5 = .ok (.iload_n 0, 1) := by decide +kernel
theorem dJ9_min_7cf53_6 : decode cJ9_min_7cf53 6 = .ok (.goto 4, 3) := by decide +kernel
theorem dJ9_min_7cf53_9 : decode cJ9_min_7cf53 9 = .ok (.iload_n 1, 1) := by decide +kernel
theorem dJ9_min_7cf53_10 : decode cJ9_min_7cf53 10 = .ok (.ireturn, 1) := by decide +kernel
set_option maxRecDepth 20000 in
theorem ggL_addFeeder_X5_addFeeder : GoodIn wsL_addFeeder wsX5_addFeeder := goodIn_ca (goodIn_ca (goodIn_r _ [7, 8, 9, 10, 11, 12, 13, 14, 6, 15, 16, 17, 18, 19, 20, 21, 22, 23, 24, 25, 26, 27, 28, 29, 30, 31, 32, 33, 34, 35, 36, 37, 38, 39, 40, 41, 42, 43, 44, 45, 46, 47, 48, 49, 50, 51, 52, 53, 54, 55, 56, 57, 58, 59, 60, 61, 62, 63, 64, 65, 66, 67, 68, 69, 70, 71, 72, 73, 74, 75, 76, 77, 78, 79, 80, 81, 82, 83, 84, 85, 86, 87, 88, 89, 90, 91, 92, 93, 94, 95, 96, 97, 98, 99, 100, 101, 102, 103, 104, 105] (by decide +kernel) (by decide +kernel)) (goodIn_sub (fun _ h => List.mem_cons_of_mem _ (List.mem_append_left _ (List.mem_append_right _ h))) (by decide +kernel))) (goodIn_sub (fun _ h => List.mem_cons_of_mem _ (List.mem_append_right _ h)) (by decide +kernel))
set_option maxRecDepth 20000 in
theorem gL_addFeeder_X5_addFeeder : GoodIn wsL_addFeeder (wsV RL 7 RX5 yX5_addFeeder wsX5_addFeeder) := goodIn_app (goodIn_of _ (by decide +kernel)) ggL_addFeeder_X5_addFeeder
theorem dL_addFeeder_0 : decode cL_addFeeder 0 = .ok (.aload 6, 2) := by decide +kernel
theorem dL_addFeeder_2 : decode cL_addFeeder 2 = .ok (.iconst 0, 1) := by decide +kernel
theorem dL_addFeeder_3 : decode cL_addFeeder 3 = .ok (.aload_n 0, 1) := by decide +kernel
theorem dL_addFeeder_4 : decode cL_addFeeder 4 = .ok (.iload_n 1, 1) := by decide +kernel
theorem dL_addFeeder_5 : decode cL_addFeeder 5 = .ok (.iload_n 2, 1) := by decide +kernel
theorem dL_addFeeder_6 : decode cL_addFeeder 6 = .ok (.iload_n 3, 1) := by decide +kernel
theorem dL_addFeeder_7 : decode cL_addFeeder 7 = .ok (.iload 4, 2) := by decide +kernel
theorem dL_addFeeder_9 : decode cL_addFeeder 9 = .ok (.iload 5, 2) := by decide +kernel
theorem dL_addFeeder_11 : decode cL_addFeeder 11 = .ok (.invokevirtual 7, 3) := by decide +kernel
theorem dL_addFeeder_14 : decode cL_addFeeder 14 = .ok (.i2l, 1) := by decide +kernel
theorem dL_addFeeder_15 : decode cL_addFeeder 15 = .ok (.lastore, 1) := by decide +kernel
theorem dL_addFeeder_16 : decode cL_addFeeder 16 = .ok (.goto 11, 3) := by decide +kernel
theorem dL_addFeeder_19 : decode cL_addFeeder 19 = .ok (.astore 7, 2) := by decide +kernel
theorem dL_addFeeder_21 : decode cL_addFeeder 21 = .ok (.iconst 1, 1) := by decide +kernel
theorem dL_addFeeder_22 : decode cL_addFeeder 22 = .ok (.ireturn, 1) := by decide +kernel
theorem dL_addFeeder_23 : decode cL_addFeeder 23 = .ok (.astore 7, 2) := by decide +kernel
theorem dL_addFeeder_25 : decode cL_addFeeder 25 = .ok (.iconst 2, 1) := by decide +kernel
theorem dL_addFeeder_26 : decode cL_addFeeder 26 = .ok (.ireturn, 1) := by decide +kernel
theorem dL_addFeeder_27 : decode cL_addFeeder 27 = .ok (.iconst 0, 1) := by decide +kernel
theorem dL_addFeeder_28 : decode cL_addFeeder 28 = .ok (.ireturn, 1) := by decide +kernel
set_option maxRecDepth 20000 in
theorem ggL_addPlace_X5_addPlace : GoodIn wsL_addPlace wsX5_addPlace := goodIn_ca (goodIn_ca (goodIn_r _ [7, 8, 9, 10, 11, 12, 13, 14, 6, 15, 16, 17, 18, 19, 20, 21, 22, 23, 24, 25, 26, 27, 28, 29, 30, 31, 32, 33, 34, 35, 36, 37, 38, 39, 40, 41, 42, 43, 44, 45, 46, 47, 48, 49, 50, 51, 52, 53, 54, 55, 56, 57, 58, 59, 60, 61, 62, 63, 64, 65, 66, 67, 68, 69, 70, 71, 72, 73, 74, 75, 76, 77, 78, 79, 80, 81, 82, 83, 84, 85, 86, 87, 88, 89, 90, 91, 92, 93, 94, 95, 96, 97, 98, 99, 100, 101, 102, 103, 104, 105, 106, 107, 108, 109] (by decide +kernel) (by decide +kernel)) (goodIn_sub (fun _ h => List.mem_cons_of_mem _ (List.mem_append_left _ (List.mem_append_right _ h))) (by decide +kernel))) (goodIn_sub (fun _ h => List.mem_cons_of_mem _ (List.mem_append_right _ h)) (by decide +kernel))
set_option maxRecDepth 20000 in
theorem gL_addPlace_X5_addPlace : GoodIn wsL_addPlace (wsV RL 17 RX5 yX5_addPlace wsX5_addPlace) := goodIn_app (goodIn_of _ (by decide +kernel)) ggL_addPlace_X5_addPlace
theorem dL_addPlace_0 : decode cL_addPlace 0 = .ok (.aload_n 3, 1) := by decide +kernel
theorem dL_addPlace_1 : decode cL_addPlace 1 = .ok (.iconst 0, 1) := by decide +kernel
theorem dL_addPlace_2 : decode cL_addPlace 2 = .ok (.aload_n 0, 1) := by decide +kernel
theorem dL_addPlace_3 : decode cL_addPlace 3 = .ok (.iload_n 1, 1) := by decide +kernel
theorem dL_addPlace_4 : decode cL_addPlace 4 = .ok (.iload_n 2, 1) := by decide +kernel
theorem dL_addPlace_5 : decode cL_addPlace 5 = .ok (.invokevirtual 17, 3) := by decide +kernel
theorem dL_addPlace_8 : decode cL_addPlace 8 = .ok (.i2l, 1) := by decide +kernel
theorem dL_addPlace_9 : decode cL_addPlace 9 = .ok (.lastore, 1) := by decide +kernel
theorem dL_addPlace_10 : decode cL_addPlace 10 = .ok (.goto 11, 3) := by decide +kernel
theorem dL_addPlace_13 : decode cL_addPlace 13 = .ok (.astore 4, 2) := by decide +kernel
theorem dL_addPlace_15 : decode cL_addPlace 15 = .ok (.iconst 1, 1) := by decide +kernel
theorem dL_addPlace_16 : decode cL_addPlace 16 = .ok (.ireturn, 1) := by decide +kernel
theorem dL_addPlace_17 : decode cL_addPlace 17 = .ok (.astore 4, 2) := by decide +kernel
theorem dL_addPlace_19 : decode cL_addPlace 19 = .ok (.iconst 2, 1) := by decide +kernel
theorem dL_addPlace_20 : decode cL_addPlace 20 = .ok (.ireturn, 1) := by decide +kernel
theorem dL_addPlace_21 : decode cL_addPlace 21 = .ok (.iconst 0, 1) := by decide +kernel
theorem dL_addPlace_22 : decode cL_addPlace 22 = .ok (.ireturn, 1) := by decide +kernel
set_option maxRecDepth 20000 in
theorem ggL_fill_X5_fill : GoodIn wsL_fill wsX5_fill := goodIn_ca (goodIn_ca (goodIn_ca (goodIn_r _ [8, 9, 10, 11, 12, 13, 14, 15, 16, 7, 17, 18, 19, 20, 21, 22, 23, 24, 25, 26, 27, 28, 29, 30, 31, 32, 33, 34, 35, 36, 37, 38, 39, 40, 41, 42, 43, 44, 45, 46, 47, 48, 49, 50, 51, 52, 53, 54, 55, 56, 57, 58, 59, 60, 61, 62, 63, 64, 65, 66, 67, 68, 69, 70, 71, 72, 73, 74, 75, 76, 77, 78, 79, 80, 81, 82, 83, 84, 85, 86, 87, 88, 89, 90, 91, 92, 93, 94, 95, 96, 97, 98, 99, 100, 101, 102, 103, 104, 105, 106, 107, 108, 109, 110, 111, 112, 113, 114] (by decide +kernel) (by decide +kernel)) (goodIn_sub (fun _ h => List.mem_cons_of_mem _ (List.mem_append_left _ (List.mem_append_left _ (List.mem_append_right _ h)))) (by decide +kernel))) (goodIn_sub (fun _ h => List.mem_cons_of_mem _ (List.mem_append_left _ (List.mem_append_right _ h))) (by decide +kernel))) (goodIn_sub (fun _ h => List.mem_cons_of_mem _ (List.mem_append_right _ h)) (by decide +kernel))
set_option maxRecDepth 20000 in
theorem gL_fill_X5_fill : GoodIn wsL_fill (wsV RL 21 RX5 yX5_fill wsX5_fill) := goodIn_app (goodIn_of _ (by decide +kernel)) ggL_fill_X5_fill
theorem dL_fill_0 : decode cL_fill 0 = .ok (.aload_n 3, 1) := by decide +kernel
theorem dL_fill_1 : decode cL_fill 1 = .ok (.iconst 0, 1) := by decide +kernel
theorem dL_fill_2 : decode cL_fill 2 = .ok (.aload_n 0, 1) := by decide +kernel
theorem dL_fill_3 : decode cL_fill 3 = .ok (.iload_n 1, 1) := by decide +kernel
theorem dL_fill_4 : decode cL_fill 4 = .ok (.iload_n 2, 1) := by decide +kernel
theorem dL_fill_5 : decode cL_fill 5 = .ok (.invokevirtual 21, 3) := by decide +kernel
theorem dL_fill_8 : decode cL_fill 8 = .ok (.i2l, 1) := by decide +kernel
theorem dL_fill_9 : decode cL_fill 9 = .ok (.lastore, 1) := by decide +kernel
theorem dL_fill_10 : decode cL_fill 10 = .ok (.goto 15, 3) := by decide +kernel
theorem dL_fill_13 : decode cL_fill 13 = .ok (.astore 4, 2) := by decide +kernel
theorem dL_fill_15 : decode cL_fill 15 = .ok (.iconst 1, 1) := by decide +kernel
theorem dL_fill_16 : decode cL_fill 16 = .ok (.ireturn, 1) := by decide +kernel
theorem dL_fill_17 : decode cL_fill 17 = .ok (.astore 4, 2) := by decide +kernel
theorem dL_fill_19 : decode cL_fill 19 = .ok (.iconst 2, 1) := by decide +kernel
theorem dL_fill_20 : decode cL_fill 20 = .ok (.ireturn, 1) := by decide +kernel
theorem dL_fill_21 : decode cL_fill 21 = .ok (.astore 4, 2) := by decide +kernel
theorem dL_fill_23 : decode cL_fill 23 = .ok (.iconst 3, 1) := by decide +kernel
theorem dL_fill_24 : decode cL_fill 24 = .ok (.ireturn, 1) := by decide +kernel
theorem dL_fill_25 : decode cL_fill 25 = .ok (.iconst 0, 1) := by decide +kernel
theorem dL_fill_26 : decode cL_fill 26 = .ok (.ireturn, 1) := by decide +kernel
set_option maxRecDepth 20000 in
theorem ggL_repair_X5_repair : GoodIn wsL_repair wsX5_repair := goodIn_ca (goodIn_ca (goodIn_r _ [7, 8, 9, 10, 11, 12, 13, 6, 14, 15, 16, 17, 18, 19, 20, 21, 22, 23, 24, 25, 26, 27, 28, 29, 30, 31, 32, 33, 34, 35, 36, 37, 38, 39, 40, 41, 42, 43, 44, 45, 46, 47, 48, 49, 50, 51, 52, 53, 54, 55, 56, 57, 58, 59, 60, 61, 62, 63, 64, 65, 66, 67, 68, 69, 70, 71, 72, 73, 74, 75, 76, 77, 78, 79, 80, 81, 82, 83, 84, 85, 86, 87, 88, 89, 90, 91, 92, 93, 94, 95, 96, 97, 98, 99, 100, 101, 102, 103, 104, 105, 106, 107, 108, 109, 110, 111] (by decide +kernel) (by decide +kernel)) (goodIn_sub (fun _ h => List.mem_cons_of_mem _ (List.mem_append_left _ (List.mem_append_right _ h))) (by decide +kernel))) (goodIn_sub (fun _ h => List.mem_cons_of_mem _ (List.mem_append_right _ h)) (by decide +kernel))
set_option maxRecDepth 20000 in
theorem gL_repair_X5_repair : GoodIn wsL_repair (wsV RL 26 RX5 yX5_repair wsX5_repair) := goodIn_app (goodIn_of _ (by decide +kernel)) ggL_repair_X5_repair
theorem dL_repair_0 : decode cL_repair 0 = .ok (.aload 4, 2) := by decide +kernel
theorem dL_repair_2 : decode cL_repair 2 = .ok (.iconst 0, 1) := by decide +kernel
theorem dL_repair_3 : decode cL_repair 3 = .ok (.aload_n 0, 1) := by decide +kernel
theorem dL_repair_4 : decode cL_repair 4 = .ok (.iload_n 1, 1) := by decide +kernel
theorem dL_repair_5 : decode cL_repair 5 = .ok (.iload_n 2, 1) := by decide +kernel
theorem dL_repair_6 : decode cL_repair 6 = .ok (.iload_n 3, 1) := by decide +kernel
theorem dL_repair_7 : decode cL_repair 7 = .ok (.invokevirtual 26, 3) := by decide +kernel
theorem dL_repair_10 : decode cL_repair 10 = .ok (.i2l, 1) := by decide +kernel
theorem dL_repair_11 : decode cL_repair 11 = .ok (.lastore, 1) := by decide +kernel
theorem dL_repair_12 : decode cL_repair 12 = .ok (.goto 11, 3) := by decide +kernel
theorem dL_repair_15 : decode cL_repair 15 = .ok (.astore 5, 2) := by decide +kernel
theorem dL_repair_17 : decode cL_repair 17 = .ok (.iconst 1, 1) := by decide +kernel
theorem dL_repair_18 : decode cL_repair 18 = .ok (.ireturn, 1) := by decide +kernel
theorem dL_repair_19 : decode cL_repair 19 = .ok (.astore 5, 2) := by decide +kernel
theorem dL_repair_21 : decode cL_repair 21 = .ok (.iconst 2, 1) := by decide +kernel
theorem dL_repair_22 : decode cL_repair 22 = .ok (.ireturn, 1) := by decide +kernel
theorem dL_repair_23 : decode cL_repair 23 = .ok (.iconst 0, 1) := by decide +kernel
theorem dL_repair_24 : decode cL_repair 24 = .ok (.ireturn, 1) := by decide +kernel
set_option maxRecDepth 20000 in
theorem ggL_fit_X5_fit : GoodIn wsL_fit wsX5_fit := goodIn_ca (goodIn_ca (goodIn_r _ [7, 8, 9, 10, 11, 12, 6, 13, 14, 15, 16, 17, 18, 19, 20, 21, 22, 23, 24, 25, 26, 27, 28, 29, 30, 31, 32, 33, 34, 35, 36, 37, 38, 39, 40, 41, 42, 43, 44, 45, 46, 47, 48, 49, 50, 51, 52, 53, 54, 55, 56, 57, 58, 59, 60, 61, 62, 63, 64, 65, 66, 67, 68, 69, 70, 71, 72, 73, 74, 75, 76, 77, 78, 79, 80, 81, 82, 83, 84, 85, 86, 87, 88, 89, 90, 91, 92, 93, 94, 95, 96, 97, 98, 99, 100, 101, 102, 103, 104, 105, 106, 107, 108, 109] (by decide +kernel) (by decide +kernel)) (goodIn_sub (fun _ h => List.mem_cons_of_mem _ (List.mem_append_left _ (List.mem_append_right _ h))) (by decide +kernel))) (goodIn_sub (fun _ h => List.mem_cons_of_mem _ (List.mem_append_right _ h)) (by decide +kernel))
set_option maxRecDepth 20000 in
theorem gL_fit_X5_fit : GoodIn wsL_fit (wsV RL 30 RX5 yX5_fit wsX5_fit) := goodIn_app (goodIn_of _ (by decide +kernel)) ggL_fit_X5_fit
theorem dL_fit_0 : decode cL_fit 0 = .ok (.aload_n 3, 1) := by decide +kernel
theorem dL_fit_1 : decode cL_fit 1 = .ok (.iconst 0, 1) := by decide +kernel
theorem dL_fit_2 : decode cL_fit 2 = .ok (.aload_n 0, 1) := by decide +kernel
theorem dL_fit_3 : decode cL_fit 3 = .ok (.iload_n 1, 1) := by decide +kernel
theorem dL_fit_4 : decode cL_fit 4 = .ok (.iload_n 2, 1) := by decide +kernel
theorem dL_fit_5 : decode cL_fit 5 = .ok (.invokevirtual 30, 3) := by decide +kernel
theorem dL_fit_8 : decode cL_fit 8 = .ok (.i2l, 1) := by decide +kernel
theorem dL_fit_9 : decode cL_fit 9 = .ok (.lastore, 1) := by decide +kernel
theorem dL_fit_10 : decode cL_fit 10 = .ok (.goto 11, 3) := by decide +kernel
theorem dL_fit_13 : decode cL_fit 13 = .ok (.astore 4, 2) := by decide +kernel
theorem dL_fit_15 : decode cL_fit 15 = .ok (.iconst 1, 1) := by decide +kernel
theorem dL_fit_16 : decode cL_fit 16 = .ok (.ireturn, 1) := by decide +kernel
theorem dL_fit_17 : decode cL_fit 17 = .ok (.astore 4, 2) := by decide +kernel
theorem dL_fit_19 : decode cL_fit 19 = .ok (.iconst 2, 1) := by decide +kernel
theorem dL_fit_20 : decode cL_fit 20 = .ok (.ireturn, 1) := by decide +kernel
theorem dL_fit_21 : decode cL_fit 21 = .ok (.iconst 0, 1) := by decide +kernel
theorem dL_fit_22 : decode cL_fit 22 = .ok (.ireturn, 1) := by decide +kernel
set_option maxRecDepth 20000 in
theorem ggL_set_X5_set : GoodIn wsL_set wsX5_set := goodIn_ca (goodIn_ca (goodIn_r _ [7, 8, 9, 10, 11, 12, 13, 6, 14, 15, 16, 17, 18, 19, 20, 21, 22, 23, 24, 25, 26, 27, 28, 29, 30, 31, 32, 33, 34, 35, 36, 37, 38, 39, 40, 41, 42, 43, 44, 45, 46, 47, 48, 49, 50, 51, 52, 53, 54, 55, 56, 57, 58, 59, 60, 61, 62, 63, 64, 65, 66, 67, 68, 69, 70, 71, 72, 73, 74, 75, 76, 77, 78, 79, 80, 81, 82, 83, 84, 85, 86, 87, 88, 89, 90, 91, 92, 93, 94, 95, 96, 97, 98, 99, 100, 101, 102, 103, 104, 105] (by decide +kernel) (by decide +kernel)) (goodIn_sub (fun _ h => List.mem_cons_of_mem _ (List.mem_append_left _ (List.mem_append_right _ h))) (by decide +kernel))) (goodIn_sub (fun _ h => List.mem_cons_of_mem _ (List.mem_append_right _ h)) (by decide +kernel))
set_option maxRecDepth 20000 in
theorem gL_set_X5_set : GoodIn wsL_set (wsV RL 33 RX5 yX5_set wsX5_set) := goodIn_app (goodIn_of _ (by decide +kernel)) ggL_set_X5_set
theorem dL_set_0 : decode cL_set 0 = .ok (.aload_n 3, 1) := by decide +kernel
theorem dL_set_1 : decode cL_set 1 = .ok (.iconst 0, 1) := by decide +kernel
theorem dL_set_2 : decode cL_set 2 = .ok (.aload_n 0, 1) := by decide +kernel
theorem dL_set_3 : decode cL_set 3 = .ok (.iload_n 1, 1) := by decide +kernel
theorem dL_set_4 : decode cL_set 4 = .ok (.iload_n 2, 1) := by decide +kernel
theorem dL_set_5 : decode cL_set 5 = .ok (.invokevirtual 33, 3) := by decide +kernel
theorem dL_set_8 : decode cL_set 8 = .ok (.i2l, 1) := by decide +kernel
theorem dL_set_9 : decode cL_set 9 = .ok (.lastore, 1) := by decide +kernel
theorem dL_set_10 : decode cL_set 10 = .ok (.goto 11, 3) := by decide +kernel
theorem dL_set_13 : decode cL_set 13 = .ok (.astore 4, 2) := by decide +kernel
theorem dL_set_15 : decode cL_set 15 = .ok (.iconst 1, 1) := by decide +kernel
theorem dL_set_16 : decode cL_set 16 = .ok (.ireturn, 1) := by decide +kernel
theorem dL_set_17 : decode cL_set 17 = .ok (.astore 4, 2) := by decide +kernel
theorem dL_set_19 : decode cL_set 19 = .ok (.iconst 2, 1) := by decide +kernel
theorem dL_set_20 : decode cL_set 20 = .ok (.ireturn, 1) := by decide +kernel
theorem dL_set_21 : decode cL_set 21 = .ok (.iconst 0, 1) := by decide +kernel
theorem dL_set_22 : decode cL_set 22 = .ok (.ireturn, 1) := by decide +kernel
set_option maxRecDepth 20000 in
theorem ggL_tour_X5_tour : GoodIn wsL_tour wsX5_tour := goodIn_ca (goodIn_r _ [6, 7, 8, 9, 10, 11, 5, 12, 13, 14, 15, 16, 17, 18, 19, 20, 21, 22, 23, 24, 25, 26, 27, 28, 29, 30, 31, 32, 33, 34, 35, 36, 37, 38, 39, 40, 41, 42, 43, 44, 45, 46, 47, 48, 49, 50, 51, 52, 53, 54, 55, 56, 57, 58, 59, 60, 61, 62, 63, 64, 65, 66, 67, 68, 69, 70, 71, 72, 73, 74, 75, 76, 77, 78, 79, 80, 81, 82, 83, 84, 85, 86, 87, 88, 89, 90, 91, 92, 93, 94, 95, 96, 97, 98, 99, 100, 101, 102, 103, 104, 105, 106, 107, 108, 109, 110, 111, 112, 113, 114, 115, 116, 117, 118, 119, 120, 121, 122, 123, 124, 125, 126, 127, 128, 129, 130, 131, 132, 133, 134, 135, 136, 137, 138, 139, 140, 141, 142, 143, 144, 145, 146, 147, 148, 149, 150, 151, 152, 153, 154, 155, 156, 157, 158, 159, 160, 161, 162, 163, 164, 165, 166, 167, 168, 169, 170, 171, 172, 173, 174, 175, 176, 177, 178, 179, 180, 181, 182, 183, 184, 185, 186, 187, 188, 189, 190, 191, 192, 193, 194, 195, 196, 197, 198] (by decide +kernel) (by decide +kernel)) (goodIn_sub (fun _ h => List.mem_cons_of_mem _ (List.mem_append_right _ h)) (by decide +kernel))
set_option maxRecDepth 20000 in
theorem gL_tour_X5_tour : GoodIn wsL_tour (wsV RL 36 RX5 yX5_tour wsX5_tour) := goodIn_app (goodIn_of _ (by decide +kernel)) ggL_tour_X5_tour
theorem dL_tour_0 : decode cL_tour 0 = .ok (.aload_n 2, 1) := by decide +kernel
theorem dL_tour_1 : decode cL_tour 1 = .ok (.iconst 0, 1) := by decide +kernel
theorem dL_tour_2 : decode cL_tour 2 = .ok (.aload_n 0, 1) := by decide +kernel
theorem dL_tour_3 : decode cL_tour 3 = .ok (.iload_n 1, 1) := by decide +kernel
theorem dL_tour_4 : decode cL_tour 4 = .ok (.invokevirtual 36, 3) := by decide +kernel
theorem dL_tour_7 : decode cL_tour 7 = .ok (.i2l, 1) := by decide +kernel
theorem dL_tour_8 : decode cL_tour 8 = .ok (.lastore, 1) := by decide +kernel
theorem dL_tour_9 : decode cL_tour 9 = .ok (.goto 6, 3) := by decide +kernel
theorem dL_tour_12 : decode cL_tour 12 = .ok (.astore_n 3, 1) := by decide +kernel
theorem dL_tour_13 : decode cL_tour 13 = .ok (.iconst 1, 1) := by decide +kernel
theorem dL_tour_14 : decode cL_tour 14 = .ok (.ireturn, 1) := by decide +kernel
theorem dL_tour_15 : decode cL_tour 15 = .ok (.iconst 0, 1) := by decide +kernel
theorem dL_tour_16 : decode cL_tour 16 = .ok (.ireturn, 1) := by decide +kernel
set_option maxRecDepth 20000 in
theorem ggL_append_X5_append : GoodIn wsL_append wsX5_append := goodIn_ca (goodIn_ca (goodIn_r _ [7, 8, 9, 10, 11, 12, 13, 14, 6, 15, 16, 17, 18, 19, 20, 21, 22, 23, 24, 25, 26, 27, 28] (by decide +kernel) (by decide +kernel)) (goodIn_sub (fun _ h => List.mem_cons_of_mem _ (List.mem_append_left _ (List.mem_append_right _ h))) (by decide +kernel))) (goodIn_sub (fun _ h => List.mem_cons_of_mem _ (List.mem_append_right _ h)) (by decide +kernel))
set_option maxRecDepth 20000 in
theorem gL_append_X5_append : GoodIn wsL_append (wsV RL 40 RX5 yX5_append wsX5_append) := goodIn_app (goodIn_of _ (by decide +kernel)) ggL_append_X5_append
theorem dL_append_0 : decode cL_append 0 = .ok (.aload_n 2, 1) := by decide +kernel
theorem dL_append_1 : decode cL_append 1 = .ok (.iconst 0, 1) := by decide +kernel
theorem dL_append_2 : decode cL_append 2 = .ok (.aload_n 0, 1) := by decide +kernel
theorem dL_append_3 : decode cL_append 3 = .ok (.iload_n 1, 1) := by decide +kernel
theorem dL_append_4 : decode cL_append 4 = .ok (.invokevirtual 40, 3) := by decide +kernel
theorem dL_append_7 : decode cL_append 7 = .ok (.i2l, 1) := by decide +kernel
theorem dL_append_8 : decode cL_append 8 = .ok (.lastore, 1) := by decide +kernel
theorem dL_append_9 : decode cL_append 9 = .ok (.goto 9, 3) := by decide +kernel
theorem dL_append_12 : decode cL_append 12 = .ok (.astore_n 3, 1) := by decide +kernel
theorem dL_append_13 : decode cL_append 13 = .ok (.iconst 1, 1) := by decide +kernel
theorem dL_append_14 : decode cL_append 14 = .ok (.ireturn, 1) := by decide +kernel
theorem dL_append_15 : decode cL_append 15 = .ok (.astore_n 3, 1) := by decide +kernel
theorem dL_append_16 : decode cL_append 16 = .ok (.iconst 2, 1) := by decide +kernel
theorem dL_append_17 : decode cL_append 17 = .ok (.ireturn, 1) := by decide +kernel
theorem dL_append_18 : decode cL_append 18 = .ok (.iconst 0, 1) := by decide +kernel
theorem dL_append_19 : decode cL_append 19 = .ok (.ireturn, 1) := by decide +kernel
set_option maxRecDepth 20000 in
theorem ggL_read_X5_read : GoodIn wsL_read wsX5_read := goodIn_ca (goodIn_r _ [6, 7, 8, 9, 10, 11, 12, 13, 14, 15, 16, 17, 18, 19, 20, 21, 22, 23, 24, 25, 26, 27, 28, 29, 30, 31, 32, 33, 34, 35, 36, 37, 38, 39, 40, 41, 42, 43, 44, 45, 46, 47, 48, 49, 50, 51, 52, 53, 54, 55, 56, 57, 58, 59, 60, 61, 62, 63, 64, 65, 66, 67, 68, 69, 70, 71, 72, 73, 74, 75, 76, 77, 78, 79, 80, 81, 82, 83, 84, 85, 86, 87, 88, 89, 90, 91, 92, 93, 94, 95, 96, 97, 98, 99, 100, 101, 102, 103, 104, 105, 106, 107, 108, 109, 110, 111, 112, 113, 114, 115, 116, 117, 118, 119, 120, 121, 122, 5, 123, 124, 125, 126, 127, 128, 129, 130, 131, 132, 133, 134, 135, 136, 137, 138, 139, 140, 141, 142, 143, 144, 145, 146, 147, 148, 149, 150, 151, 152, 153, 154, 155, 156, 157, 158, 159, 160, 161, 162, 163, 164, 165, 166, 167, 168, 169, 170, 171, 172, 173] (by decide +kernel) (by decide +kernel)) (goodIn_sub (fun _ h => List.mem_cons_of_mem _ (List.mem_append_right _ h)) (by decide +kernel))
set_option maxRecDepth 20000 in
theorem gL_read_X5_read : GoodIn wsL_read (wsV RL 43 RX5 yX5_read wsX5_read) := goodIn_app (goodIn_of _ (by decide +kernel)) ggL_read_X5_read
theorem dL_read_0 : decode cL_read 0 = .ok (.aload_n 1, 1) := by decide +kernel
theorem dL_read_1 : decode cL_read 1 = .ok (.iconst 0, 1) := by decide +kernel
theorem dL_read_2 : decode cL_read 2 = .ok (.aload_n 0, 1) := by decide +kernel
theorem dL_read_3 : decode cL_read 3 = .ok (.invokevirtual 43, 3) := by decide +kernel
theorem dL_read_6 : decode cL_read 6 = .ok (.i2l, 1) := by decide +kernel
theorem dL_read_7 : decode cL_read 7 = .ok (.lastore, 1) := by decide +kernel
theorem dL_read_8 : decode cL_read 8 = .ok (.goto 6, 3) := by decide +kernel
theorem dL_read_11 : decode cL_read 11 = .ok (.astore_n 2, 1) := by decide +kernel
theorem dL_read_12 : decode cL_read 12 = .ok (.iconst 1, 1) := by decide +kernel
theorem dL_read_13 : decode cL_read 13 = .ok (.ireturn, 1) := by decide +kernel
theorem dL_read_14 : decode cL_read 14 = .ok (.iconst 0, 1) := by decide +kernel
theorem dL_read_15 : decode cL_read 15 = .ok (.ireturn, 1) := by decide +kernel
set_option maxRecDepth 20000 in
theorem ggL_undo_X5_undo : GoodIn wsL_undo wsX5_undo := goodIn_ca (goodIn_r _ [6, 7, 8, 9, 10, 11, 12, 13, 14, 15, 16, 17, 18, 19, 20, 21, 22, 23, 24, 25, 26, 27, 28, 29, 30, 31, 32, 33, 34, 35, 36, 37, 38, 39, 40, 41, 42, 43, 44, 45, 46, 47, 48, 49, 50, 51, 52, 53, 54, 55, 56, 57, 58, 59, 60, 61, 62, 63, 64, 65, 66, 67, 68, 69, 70, 71] (by decide +kernel) (by decide +kernel)) (goodIn_sub (fun _ h => List.mem_cons_of_mem _ (List.mem_append_right _ h)) (by decide +kernel))
set_option maxRecDepth 20000 in
theorem gL_undo_X5_undo : GoodIn wsL_undo (wsV RL 47 RX5 yX5_undo wsX5_undo) := goodIn_app (goodIn_of _ (by decide +kernel)) ggL_undo_X5_undo
theorem dL_undo_0 : decode cL_undo 0 = .ok (.aload_n 1, 1) := by decide +kernel
theorem dL_undo_1 : decode cL_undo 1 = .ok (.iconst 0, 1) := by decide +kernel
theorem dL_undo_2 : decode cL_undo 2 = .ok (.aload_n 0, 1) := by decide +kernel
theorem dL_undo_3 : decode cL_undo 3 = .ok (.invokevirtual 47, 3) := by decide +kernel
theorem dL_undo_6 : decode cL_undo 6 = .ok (.i2l, 1) := by decide +kernel
theorem dL_undo_7 : decode cL_undo 7 = .ok (.lastore, 1) := by decide +kernel
theorem dL_undo_8 : decode cL_undo 8 = .ok (.goto 6, 3) := by decide +kernel
theorem dL_undo_11 : decode cL_undo 11 = .ok (.astore_n 2, 1) := by decide +kernel
theorem dL_undo_12 : decode cL_undo 12 = .ok (.iconst 1, 1) := by decide +kernel
theorem dL_undo_13 : decode cL_undo 13 = .ok (.ireturn, 1) := by decide +kernel
theorem dL_undo_14 : decode cL_undo 14 = .ok (.iconst 0, 1) := by decide +kernel
theorem dL_undo_15 : decode cL_undo 15 = .ok (.ireturn, 1) := by decide +kernel
set_option maxRecDepth 20000 in
theorem ggL_feeder_X5_feeder : GoodIn wsL_feeder wsX5_feeder := goodIn_ca (goodIn_ca (goodIn_r _ [7, 8, 9, 10, 11, 12, 13, 6, 14, 15, 16, 17, 18, 19, 20, 21, 22, 23, 24, 25, 26, 27, 28, 29, 30, 31, 32, 33, 34, 35, 36, 37, 38, 39, 40, 41, 42, 43, 44, 45, 46, 47, 48, 49, 50, 51, 52, 53] (by decide +kernel) (by decide +kernel)) (goodIn_sub (fun _ h => List.mem_cons_of_mem _ (List.mem_append_left _ (List.mem_append_right _ h))) (by decide +kernel))) (goodIn_sub (fun _ h => List.mem_cons_of_mem _ (List.mem_append_right _ h)) (by decide +kernel))
set_option maxRecDepth 20000 in
theorem gL_feeder_X5_feeder : GoodIn wsL_feeder (wsV RL 50 RX5 yX5_feeder wsX5_feeder) := goodIn_app (goodIn_of _ (by decide +kernel)) ggL_feeder_X5_feeder
theorem dL_feeder_0 : decode cL_feeder 0 = .ok (.aload_n 3, 1) := by decide +kernel
theorem dL_feeder_1 : decode cL_feeder 1 = .ok (.iconst 0, 1) := by decide +kernel
theorem dL_feeder_2 : decode cL_feeder 2 = .ok (.aload_n 0, 1) := by decide +kernel
theorem dL_feeder_3 : decode cL_feeder 3 = .ok (.iload_n 1, 1) := by decide +kernel
theorem dL_feeder_4 : decode cL_feeder 4 = .ok (.iload_n 2, 1) := by decide +kernel
theorem dL_feeder_5 : decode cL_feeder 5 = .ok (.invokevirtual 50, 3) := by decide +kernel
theorem dL_feeder_8 : decode cL_feeder 8 = .ok (.i2l, 1) := by decide +kernel
theorem dL_feeder_9 : decode cL_feeder 9 = .ok (.lastore, 1) := by decide +kernel
theorem dL_feeder_10 : decode cL_feeder 10 = .ok (.goto 11, 3) := by decide +kernel
theorem dL_feeder_13 : decode cL_feeder 13 = .ok (.astore 4, 2) := by decide +kernel
theorem dL_feeder_15 : decode cL_feeder 15 = .ok (.iconst 1, 1) := by decide +kernel
theorem dL_feeder_16 : decode cL_feeder 16 = .ok (.ireturn, 1) := by decide +kernel
theorem dL_feeder_17 : decode cL_feeder 17 = .ok (.astore 4, 2) := by decide +kernel
theorem dL_feeder_19 : decode cL_feeder 19 = .ok (.iconst 2, 1) := by decide +kernel
theorem dL_feeder_20 : decode cL_feeder 20 = .ok (.ireturn, 1) := by decide +kernel
theorem dL_feeder_21 : decode cL_feeder 21 = .ok (.iconst 0, 1) := by decide +kernel
theorem dL_feeder_22 : decode cL_feeder 22 = .ok (.ireturn, 1) := by decide +kernel
set_option maxRecDepth 20000 in
theorem ggL_place_X5_place : GoodIn wsL_place wsX5_place := goodIn_ca (goodIn_ca (goodIn_r _ [7, 8, 9, 10, 11, 12, 13, 14, 6, 15, 16, 17, 18, 19, 20, 21, 22, 23, 24, 25, 26, 27, 28, 29, 30, 31, 32, 33, 34, 35, 36, 37, 38, 39, 40, 41, 42, 43] (by decide +kernel) (by decide +kernel)) (goodIn_sub (fun _ h => List.mem_cons_of_mem _ (List.mem_append_left _ (List.mem_append_right _ h))) (by decide +kernel))) (goodIn_sub (fun _ h => List.mem_cons_of_mem _ (List.mem_append_right _ h)) (by decide +kernel))
set_option maxRecDepth 20000 in
theorem gL_place_X5_place : GoodIn wsL_place (wsV RL 53 RX5 yX5_place wsX5_place) := goodIn_app (goodIn_of _ (by decide +kernel)) ggL_place_X5_place
theorem dL_place_0 : decode cL_place 0 = .ok (.aload_n 3, 1) := by decide +kernel
theorem dL_place_1 : decode cL_place 1 = .ok (.iconst 0, 1) := by decide +kernel
theorem dL_place_2 : decode cL_place 2 = .ok (.aload_n 0, 1) := by decide +kernel
theorem dL_place_3 : decode cL_place 3 = .ok (.iload_n 1, 1) := by decide +kernel
theorem dL_place_4 : decode cL_place 4 = .ok (.iload_n 2, 1) := by decide +kernel
theorem dL_place_5 : decode cL_place 5 = .ok (.invokevirtual 53, 3) := by decide +kernel
theorem dL_place_8 : decode cL_place 8 = .ok (.i2l, 1) := by decide +kernel
theorem dL_place_9 : decode cL_place 9 = .ok (.lastore, 1) := by decide +kernel
theorem dL_place_10 : decode cL_place 10 = .ok (.goto 11, 3) := by decide +kernel
theorem dL_place_13 : decode cL_place 13 = .ok (.astore 4, 2) := by decide +kernel
theorem dL_place_15 : decode cL_place 15 = .ok (.iconst 1, 1) := by decide +kernel
theorem dL_place_16 : decode cL_place 16 = .ok (.ireturn, 1) := by decide +kernel
theorem dL_place_17 : decode cL_place 17 = .ok (.astore 4, 2) := by decide +kernel
theorem dL_place_19 : decode cL_place 19 = .ok (.iconst 2, 1) := by decide +kernel
theorem dL_place_20 : decode cL_place 20 = .ok (.ireturn, 1) := by decide +kernel
theorem dL_place_21 : decode cL_place 21 = .ok (.iconst 0, 1) := by decide +kernel
theorem dL_place_22 : decode cL_place 22 = .ok (.ireturn, 1) := by decide +kernel
set_option maxRecDepth 20000 in
theorem ggL_nozzle_X5_nozzle : GoodIn wsL_nozzle wsX5_nozzle := goodIn_ca (goodIn_ca (goodIn_r _ [7, 8, 9, 10, 11, 6, 12, 13, 14, 15, 16, 17, 18, 19, 20, 21, 22, 23, 24, 25, 26, 27, 28, 29, 30, 31, 32, 33, 34, 35, 36, 37, 38, 39, 40, 41, 42, 43, 44, 45] (by decide +kernel) (by decide +kernel)) (goodIn_sub (fun _ h => List.mem_cons_of_mem _ (List.mem_append_left _ (List.mem_append_right _ h))) (by decide +kernel))) (goodIn_sub (fun _ h => List.mem_cons_of_mem _ (List.mem_append_right _ h)) (by decide +kernel))
set_option maxRecDepth 20000 in
theorem gL_nozzle_X5_nozzle : GoodIn wsL_nozzle (wsV RL 56 RX5 yX5_nozzle wsX5_nozzle) := goodIn_app (goodIn_of _ (by decide +kernel)) ggL_nozzle_X5_nozzle
theorem dL_nozzle_0 : decode cL_nozzle 0 = .ok (.aload_n 3, 1) := by decide +kernel
theorem dL_nozzle_1 : decode cL_nozzle 1 = .ok (.iconst 0, 1) := by decide +kernel
theorem dL_nozzle_2 : decode cL_nozzle 2 = .ok (.aload_n 0, 1) := by decide +kernel
theorem dL_nozzle_3 : decode cL_nozzle 3 = .ok (.iload_n 1, 1) := by decide +kernel
theorem dL_nozzle_4 : decode cL_nozzle 4 = .ok (.iload_n 2, 1) := by decide +kernel
theorem dL_nozzle_5 : decode cL_nozzle 5 = .ok (.invokevirtual 56, 3) := by decide +kernel
theorem dL_nozzle_8 : decode cL_nozzle 8 = .ok (.i2l, 1) := by decide +kernel
theorem dL_nozzle_9 : decode cL_nozzle 9 = .ok (.lastore, 1) := by decide +kernel
theorem dL_nozzle_10 : decode cL_nozzle 10 = .ok (.goto 11, 3) := by decide +kernel
theorem dL_nozzle_13 : decode cL_nozzle 13 = .ok (.astore 4, 2) := by decide +kernel
theorem dL_nozzle_15 : decode cL_nozzle 15 = .ok (.iconst 1, 1) := by decide +kernel
theorem dL_nozzle_16 : decode cL_nozzle 16 = .ok (.ireturn, 1) := by decide +kernel
theorem dL_nozzle_17 : decode cL_nozzle 17 = .ok (.astore 4, 2) := by decide +kernel
theorem dL_nozzle_19 : decode cL_nozzle 19 = .ok (.iconst 2, 1) := by decide +kernel
theorem dL_nozzle_20 : decode cL_nozzle 20 = .ok (.ireturn, 1) := by decide +kernel
theorem dL_nozzle_21 : decode cL_nozzle 21 = .ok (.iconst 0, 1) := by decide +kernel
theorem dL_nozzle_22 : decode cL_nozzle 22 = .ok (.ireturn, 1) := by decide +kernel
set_option maxRecDepth 20000 in
theorem ggL_trust_X5_trust : GoodIn wsL_trust wsX5_trust := goodIn_ca (goodIn_r _ [6, 7, 8, 9, 10, 5, 11, 12, 13, 14, 15, 16, 17, 18, 19, 20, 21, 22, 23, 24, 25, 26, 27, 28, 29, 30, 31, 32, 33, 34, 35, 36, 37, 38, 39, 40, 41, 42, 43, 44] (by decide +kernel) (by decide +kernel)) (goodIn_sub (fun _ h => List.mem_cons_of_mem _ (List.mem_append_right _ h)) (by decide +kernel))
set_option maxRecDepth 20000 in
theorem gL_trust_X5_trust : GoodIn wsL_trust (wsV RL 59 RX5 yX5_trust wsX5_trust) := goodIn_app (goodIn_of _ (by decide +kernel)) ggL_trust_X5_trust
theorem dL_trust_0 : decode cL_trust 0 = .ok (.aload_n 3, 1) := by decide +kernel
theorem dL_trust_1 : decode cL_trust 1 = .ok (.iconst 0, 1) := by decide +kernel
theorem dL_trust_2 : decode cL_trust 2 = .ok (.aload_n 0, 1) := by decide +kernel
theorem dL_trust_3 : decode cL_trust 3 = .ok (.iload_n 1, 1) := by decide +kernel
theorem dL_trust_4 : decode cL_trust 4 = .ok (.iload_n 2, 1) := by decide +kernel
theorem dL_trust_5 : decode cL_trust 5 = .ok (.invokevirtual 59, 3) := by decide +kernel
theorem dL_trust_8 : decode cL_trust 8 = .ok (.i2l, 1) := by decide +kernel
theorem dL_trust_9 : decode cL_trust 9 = .ok (.lastore, 1) := by decide +kernel
theorem dL_trust_10 : decode cL_trust 10 = .ok (.goto 7, 3) := by decide +kernel
theorem dL_trust_13 : decode cL_trust 13 = .ok (.astore 4, 2) := by decide +kernel
theorem dL_trust_15 : decode cL_trust 15 = .ok (.iconst 1, 1) := by decide +kernel
theorem dL_trust_16 : decode cL_trust 16 = .ok (.ireturn, 1) := by decide +kernel
theorem dL_trust_17 : decode cL_trust 17 = .ok (.iconst 0, 1) := by decide +kernel
theorem dL_trust_18 : decode cL_trust 18 = .ok (.ireturn, 1) := by decide +kernel
set_option maxRecDepth 20000 in
theorem ggL_count_X5_count : GoodIn wsL_count wsX5_count := goodIn_ca (goodIn_r _ [6, 7, 8, 9, 10, 11, 12, 13, 14, 15, 16, 17, 18, 19, 20, 21, 22, 23, 24, 25, 26, 27, 28, 29, 30, 31, 32, 33, 34, 35, 36, 37, 38, 39, 40, 41, 42, 43, 44, 45, 46, 47, 48, 49, 50, 51, 52, 53, 54, 55, 56, 57, 58, 59, 60, 61, 62, 63, 64, 65, 66] (by decide +kernel) (by decide +kernel)) (goodIn_sub (fun _ h => List.mem_cons_of_mem _ (List.mem_append_right _ h)) (by decide +kernel))
set_option maxRecDepth 20000 in
theorem gL_count_X5_count : GoodIn wsL_count (wsV RL 62 RX5 yX5_count wsX5_count) := goodIn_app (goodIn_of _ (by decide +kernel)) ggL_count_X5_count
theorem dL_count_0 : decode cL_count 0 = .ok (.aload_n 2, 1) := by decide +kernel
theorem dL_count_1 : decode cL_count 1 = .ok (.iconst 0, 1) := by decide +kernel
theorem dL_count_2 : decode cL_count 2 = .ok (.aload_n 0, 1) := by decide +kernel
theorem dL_count_3 : decode cL_count 3 = .ok (.iload_n 1, 1) := by decide +kernel
theorem dL_count_4 : decode cL_count 4 = .ok (.invokevirtual 62, 3) := by decide +kernel
theorem dL_count_7 : decode cL_count 7 = .ok (.i2l, 1) := by decide +kernel
theorem dL_count_8 : decode cL_count 8 = .ok (.lastore, 1) := by decide +kernel
theorem dL_count_9 : decode cL_count 9 = .ok (.goto 6, 3) := by decide +kernel
theorem dL_count_12 : decode cL_count 12 = .ok (.astore_n 3, 1) := by decide +kernel
theorem dL_count_13 : decode cL_count 13 = .ok (.iconst 1, 1) := by decide +kernel
theorem dL_count_14 : decode cL_count 14 = .ok (.ireturn, 1) := by decide +kernel
theorem dL_count_15 : decode cL_count 15 = .ok (.iconst 0, 1) := by decide +kernel
theorem dL_count_16 : decode cL_count 16 = .ok (.ireturn, 1) := by decide +kernel
set_option maxRecDepth 20000 in
theorem ggL_setting_X5_setting : GoodIn wsL_setting wsX5_setting := goodIn_ca (goodIn_r _ [6, 7, 8, 9, 10, 5, 11, 12, 13, 14, 15, 16, 17, 18, 19, 20, 21, 22, 23, 24, 25, 26, 27, 28, 29, 30] (by decide +kernel) (by decide +kernel)) (goodIn_sub (fun _ h => List.mem_cons_of_mem _ (List.mem_append_right _ h)) (by decide +kernel))
set_option maxRecDepth 20000 in
theorem gL_setting_X5_setting : GoodIn wsL_setting (wsV RL 65 RX5 yX5_setting wsX5_setting) := goodIn_app (goodIn_of _ (by decide +kernel)) ggL_setting_X5_setting
theorem dL_setting_0 : decode cL_setting 0 = .ok (.aload_n 2, 1) := by decide +kernel
theorem dL_setting_1 : decode cL_setting 1 = .ok (.iconst 0, 1) := by decide +kernel
theorem dL_setting_2 : decode cL_setting 2 = .ok (.aload_n 0, 1) := by decide +kernel
theorem dL_setting_3 : decode cL_setting 3 = .ok (.iload_n 1, 1) := by decide +kernel
theorem dL_setting_4 : decode cL_setting 4 = .ok (.invokevirtual 65, 3) := by decide +kernel
theorem dL_setting_7 : decode cL_setting 7 = .ok (.i2l, 1) := by decide +kernel
theorem dL_setting_8 : decode cL_setting 8 = .ok (.lastore, 1) := by decide +kernel
theorem dL_setting_9 : decode cL_setting 9 = .ok (.goto 6, 3) := by decide +kernel
theorem dL_setting_12 : decode cL_setting 12 = .ok (.astore_n 3, 1) := by decide +kernel
theorem dL_setting_13 : decode cL_setting 13 = .ok (.iconst 1, 1) := by decide +kernel
theorem dL_setting_14 : decode cL_setting 14 = .ok (.ireturn, 1) := by decide +kernel
theorem dL_setting_15 : decode cL_setting 15 = .ok (.iconst 0, 1) := by decide +kernel
theorem dL_setting_16 : decode cL_setting 16 = .ok (.ireturn, 1) := by decide +kernel
set_option maxRecDepth 20000 in
theorem ggL_ifToured_X5_ifToured : GoodIn wsL_ifToured wsX5_ifToured := goodIn_ca (goodIn_r _ [6, 7, 8, 9, 10, 11, 12, 5, 13, 14, 15, 16, 17, 18, 19, 20, 21, 22, 23, 24, 25, 26, 27, 28, 29, 30, 31, 32, 33, 34, 35, 36, 37, 38, 39, 40, 41, 42, 43, 44, 45, 46, 47, 48, 49, 50, 51, 52, 53, 54, 55, 56, 57, 58, 59, 60, 61, 62, 63, 64, 65, 66, 67, 68, 69, 70, 71, 72, 73, 74, 75, 76, 77, 78, 79, 80, 81, 82, 83, 84, 85, 86, 87, 88, 89, 90, 91, 92, 93, 94, 95, 96, 97, 98, 99, 100, 101, 102, 103, 104, 105, 106, 107, 108, 109, 110, 111, 112, 113, 114, 115, 116, 117, 118, 119, 120, 121, 122, 123, 124, 125, 126, 127, 128, 129, 130, 131, 132, 133, 134, 135, 136, 137, 138, 139, 140, 141, 142, 143, 144, 145, 146, 147, 148, 149, 150, 151, 152, 153, 154, 155, 156, 157, 158, 159, 160, 161, 162, 163, 164, 165, 166, 167, 168, 169, 170, 171, 172, 173, 174, 175, 176, 177, 178, 179, 180, 181, 182, 183] (by decide +kernel) (by decide +kernel)) (goodIn_sub (fun _ h => List.mem_cons_of_mem _ (List.mem_append_right _ h)) (by decide +kernel))
set_option maxRecDepth 20000 in
theorem gL_ifToured_X5_ifToured : GoodIn wsL_ifToured (wsV RL 68 RX5 yX5_ifToured wsX5_ifToured) := goodIn_app (goodIn_of _ (by decide +kernel)) ggL_ifToured_X5_ifToured
theorem dL_ifToured_0 : decode cL_ifToured 0 = .ok (.aload_n 3, 1) := by decide +kernel
theorem dL_ifToured_1 : decode cL_ifToured 1 = .ok (.iconst 0, 1) := by decide +kernel
theorem dL_ifToured_2 : decode cL_ifToured 2 = .ok (.aload_n 0, 1) := by decide +kernel
theorem dL_ifToured_3 : decode cL_ifToured 3 = .ok (.iload_n 1, 1) := by decide +kernel
theorem dL_ifToured_4 : decode cL_ifToured 4 = .ok (.iload_n 2, 1) := by decide +kernel
theorem dL_ifToured_5 : decode cL_ifToured 5 = .ok (.invokevirtual 68, 3) := by decide +kernel
theorem dL_ifToured_8 : decode cL_ifToured 8 = .ok (.i2l, 1) := by decide +kernel
theorem dL_ifToured_9 : decode cL_ifToured 9 = .ok (.lastore, 1) := by decide +kernel
theorem dL_ifToured_10 : decode cL_ifToured 10 = .ok (.goto 7, 3) := by decide +kernel
theorem dL_ifToured_13 : decode cL_ifToured 13 = .ok (.astore 4, 2) := by decide +kernel
theorem dL_ifToured_15 : decode cL_ifToured 15 = .ok (.iconst 1, 1) := by decide +kernel
theorem dL_ifToured_16 : decode cL_ifToured 16 = .ok (.ireturn, 1) := by decide +kernel
theorem dL_ifToured_17 : decode cL_ifToured 17 = .ok (.iconst 0, 1) := by decide +kernel
theorem dL_ifToured_18 : decode cL_ifToured 18 = .ok (.ireturn, 1) := by decide +kernel
set_option maxRecDepth 20000 in
theorem ggL_choice_X5_choice : GoodIn wsL_choice wsX5_choice := goodIn_ca (goodIn_ca (goodIn_r _ [7, 8, 9, 10, 6, 11, 12, 13, 14, 15, 16, 17, 18, 19, 20, 21, 22, 23, 24, 25, 26, 27, 28, 29, 30, 31, 32, 33, 34, 35, 36, 37, 38, 39, 40, 41, 42, 43, 44, 45, 46, 47, 48, 49, 50, 51, 52, 53, 54, 55, 56, 57, 58, 59, 60, 61] (by decide +kernel) (by decide +kernel)) (goodIn_sub (fun _ h => List.mem_cons_of_mem _ (List.mem_append_left _ (List.mem_append_right _ h))) (by decide +kernel))) (goodIn_sub (fun _ h => List.mem_cons_of_mem _ (List.mem_append_right _ h)) (by decide +kernel))
set_option maxRecDepth 20000 in
theorem gL_choice_X5_choice : GoodIn wsL_choice (wsV RL 71 RX5 yX5_choice wsX5_choice) := goodIn_app (goodIn_of _ (by decide +kernel)) ggL_choice_X5_choice
theorem dL_choice_0 : decode cL_choice 0 = .ok (.aload_n 3, 1) := by decide +kernel
theorem dL_choice_1 : decode cL_choice 1 = .ok (.iconst 0, 1) := by decide +kernel
theorem dL_choice_2 : decode cL_choice 2 = .ok (.aload_n 0, 1) := by decide +kernel
theorem dL_choice_3 : decode cL_choice 3 = .ok (.iload_n 1, 1) := by decide +kernel
theorem dL_choice_4 : decode cL_choice 4 = .ok (.iload_n 2, 1) := by decide +kernel
theorem dL_choice_5 : decode cL_choice 5 = .ok (.invokevirtual 71, 3) := by decide +kernel
theorem dL_choice_8 : decode cL_choice 8 = .ok (.i2l, 1) := by decide +kernel
theorem dL_choice_9 : decode cL_choice 9 = .ok (.lastore, 1) := by decide +kernel
theorem dL_choice_10 : decode cL_choice 10 = .ok (.goto 11, 3) := by decide +kernel
theorem dL_choice_13 : decode cL_choice 13 = .ok (.astore 4, 2) := by decide +kernel
theorem dL_choice_15 : decode cL_choice 15 = .ok (.iconst 1, 1) := by decide +kernel
theorem dL_choice_16 : decode cL_choice 16 = .ok (.ireturn, 1) := by decide +kernel
theorem dL_choice_17 : decode cL_choice 17 = .ok (.astore 4, 2) := by decide +kernel
theorem dL_choice_19 : decode cL_choice 19 = .ok (.iconst 2, 1) := by decide +kernel
theorem dL_choice_20 : decode cL_choice 20 = .ok (.ireturn, 1) := by decide +kernel
theorem dL_choice_21 : decode cL_choice 21 = .ok (.iconst 0, 1) := by decide +kernel
theorem dL_choice_22 : decode cL_choice 22 = .ok (.ireturn, 1) := by decide +kernel
set_option maxRecDepth 20000 in
theorem ggL_aim_X5_aim : GoodIn wsL_aim wsX5_aim := goodIn_ca (goodIn_r _ [6, 7, 8, 9, 10, 11, 5, 12, 13, 14, 15, 16, 17, 18, 19, 20, 21, 22, 23, 24, 25, 26, 27, 28, 29, 30, 31, 32, 33, 34, 35, 36, 37, 38, 39, 40, 41, 42, 43, 44, 45, 46, 47, 48, 49, 50, 51, 52, 53, 54, 55, 56, 57, 58, 59, 60, 61, 62, 63] (by decide +kernel) (by decide +kernel)) (goodIn_sub (fun _ h => List.mem_cons_of_mem _ (List.mem_append_right _ h)) (by decide +kernel))
set_option maxRecDepth 20000 in
theorem gL_aim_X5_aim : GoodIn wsL_aim (wsV RL 74 RX5 yX5_aim wsX5_aim) := goodIn_app (goodIn_of _ (by decide +kernel)) ggL_aim_X5_aim
theorem dL_aim_0 : decode cL_aim 0 = .ok (.aload_n 2, 1) := by decide +kernel
theorem dL_aim_1 : decode cL_aim 1 = .ok (.iconst 0, 1) := by decide +kernel
theorem dL_aim_2 : decode cL_aim 2 = .ok (.aload_n 0, 1) := by decide +kernel
theorem dL_aim_3 : decode cL_aim 3 = .ok (.iload_n 1, 1) := by decide +kernel
theorem dL_aim_4 : decode cL_aim 4 = .ok (.invokevirtual 74, 3) := by decide +kernel
theorem dL_aim_7 : decode cL_aim 7 = .ok (.i2l, 1) := by decide +kernel
theorem dL_aim_8 : decode cL_aim 8 = .ok (.lastore, 1) := by decide +kernel
theorem dL_aim_9 : decode cL_aim 9 = .ok (.goto 6, 3) := by decide +kernel
theorem dL_aim_12 : decode cL_aim 12 = .ok (.astore_n 3, 1) := by decide +kernel
theorem dL_aim_13 : decode cL_aim 13 = .ok (.iconst 1, 1) := by decide +kernel
theorem dL_aim_14 : decode cL_aim 14 = .ok (.ireturn, 1) := by decide +kernel
theorem dL_aim_15 : decode cL_aim 15 = .ok (.iconst 0, 1) := by decide +kernel
theorem dL_aim_16 : decode cL_aim 16 = .ok (.ireturn, 1) := by decide +kernel
set_option maxRecDepth 20000 in
theorem ggL_law_X5_init : GoodIn wsL_law wsX5_init := goodIn_r _ [9, 10, 11, 12, 13, 14, 15, 16, 17, 18, 19, 20, 21, 22, 23, 24, 25, 26, 27, 28, 29, 30, 31, 32, 33, 34, 35, 36, 37, 38, 39, 40, 41, 42, 43, 44, 45, 46, 47, 48, 49, 50, 51, 52, 53, 54, 55, 56, 57, 58, 59, 60, 61, 62, 63, 64, 65, 66, 67, 68, 69, 70, 71, 72, 73, 74, 914, 915, 916, 917, 918, 919, 920, 921, 922, 923, 924, 925, 894, 895, 896, 897, 898, 926, 927, 928, 929, 930, 931, 932, 933, 934, 935, 936, 937, 938] (by decide +kernel) (by decide +kernel)
set_option maxRecDepth 20000 in
theorem gL_law_X5_init : GoodIn wsL_law (wsX5_init) := ggL_law_X5_init
set_option maxRecDepth 20000 in
theorem ggL_law_X6_init : GoodIn wsL_law wsX6_init := goodIn_r _ [77, 78, 11, 12, 35, 79, 80, 81, 82, 83, 84, 85, 86, 899, 900, 901, 902, 903, 904, 905, 906, 907, 908, 909, 910, 911, 912, 913] (by decide +kernel) (by decide +kernel)
set_option maxRecDepth 20000 in
theorem gL_law_X6_init : GoodIn wsL_law (wsX6_init) := ggL_law_X6_init
set_option maxRecDepth 20000 in
theorem ggL_law_L_addFeeder : GoodIn wsL_law wsL_addFeeder := goodIn_ca (goodIn_ca (goodIn_r _ [90, 91, 92, 93, 94, 95, 2, 96, 97, 98, 16, 99, 25, 100, 101, 102, 103, 104, 105, 106, 107, 24, 108, 109, 67, 66, 14, 15, 110, 111, 112, 113, 114, 31, 32, 33, 11, 12, 34, 35, 36, 37, 38, 39, 40, 41, 42, 43, 44, 45, 46, 47, 48, 49, 50, 51, 52, 53, 115, 116, 117, 118, 119, 120, 121, 122, 123, 124, 125, 126, 127, 128, 129, 130, 131, 132, 133, 134, 135, 136, 137, 138, 139, 140, 141, 894, 895, 896, 897, 898, 914, 915, 916, 917, 918, 919, 920, 921, 922, 923, 924, 925, 929, 930, 937, 938] (by decide +kernel) (by decide +kernel)) (goodIn_sub (fun _ h => List.mem_append_left _ (List.mem_append_left _ (List.mem_append_right _ h))) (by decide +kernel))) (goodIn_sub (fun _ h => List.mem_append_left _ (List.mem_append_right _ h)) (by decide +kernel))
set_option maxRecDepth 20000 in
theorem gL_law_L_addFeeder : GoodIn wsL_law (va_wsS RL 81 yL_addFeeder wsL_addFeeder) := goodIn_app (goodIn_of _ (by decide +kernel)) ggL_law_L_addFeeder
set_option maxRecDepth 20000 in
theorem ggL_law_X6_addFeeder : GoodIn wsL_law wsX6_addFeeder := goodIn_r _ [145, 79, 146, 147, 148, 5, 149, 150, 151, 152, 153, 154, 155, 156, 157, 158, 159, 160, 161, 162, 163, 80, 164, 165, 166, 167, 899, 900, 901, 902, 903, 904, 905, 906, 907, 908, 909, 910, 911, 912, 913] (by decide +kernel) (by decide +kernel)
set_option maxRecDepth 20000 in
theorem gL_law_X6_addFeeder : GoodIn wsL_law (wsV RL 86 RX6 yX6_addFeeder wsX6_addFeeder) := goodIn_app (goodIn_of _ (by decide +kernel)) ggL_law_X6_addFeeder
set_option maxRecDepth 20000 in
theorem ggL_law_X6_thrown : GoodIn wsL_law wsX6_thrown := goodIn_r _ [171, 146, 899, 900, 901, 902, 903, 904, 905, 906, 907, 908, 909, 910, 911, 912, 913] (by decide +kernel) (by decide +kernel)
set_option maxRecDepth 20000 in
theorem gL_law_X6_thrown : GoodIn wsL_law (wsV RL 87 RX6 yX6_thrown wsX6_thrown) := goodIn_app (goodIn_of _ (by decide +kernel)) ggL_law_X6_thrown
set_option maxRecDepth 20000 in
theorem ggL_law_L_addPlace : GoodIn wsL_law wsL_addPlace := goodIn_ca (goodIn_ca (goodIn_r _ [174, 91, 92, 175, 176, 177, 2, 178, 97, 98, 16, 179, 25, 100, 101, 102, 103, 104, 105, 106, 107, 24, 108, 109, 67, 66, 14, 15, 110, 111, 112, 113, 114, 31, 32, 33, 11, 12, 34, 35, 36, 37, 38, 39, 40, 41, 42, 43, 44, 45, 46, 47, 48, 49, 50, 51, 52, 53, 115, 116, 117, 118, 119, 120, 121, 122, 123, 124, 125, 126, 127, 128, 129, 130, 131, 132, 133, 134, 135, 136, 137, 180, 181, 182, 183, 184, 185, 186, 187, 894, 895, 896, 897, 898, 914, 915, 916, 917, 918, 919, 920, 921, 922, 923, 924, 925, 929, 930, 937, 938] (by decide +kernel) (by decide +kernel)) (goodIn_sub (fun _ h => List.mem_append_left _ (List.mem_append_left _ (List.mem_append_right _ h))) (by decide +kernel))) (goodIn_sub (fun _ h => List.mem_append_left _ (List.mem_append_right _ h)) (by decide +kernel))
set_option maxRecDepth 20000 in
theorem gL_law_L_addPlace : GoodIn wsL_law (va_wsS RL 90 yL_addPlace wsL_addPlace) := goodIn_app (goodIn_of _ (by decide +kernel)) ggL_law_L_addPlace
set_option maxRecDepth 20000 in
theorem ggL_law_X6_addPlace : GoodIn wsL_law wsX6_addPlace := goodIn_r _ [191, 79, 146, 147, 148, 5, 149, 150, 151, 152, 153, 154, 155, 159, 160, 161, 162, 163, 80, 192, 193, 194, 195, 899, 900, 901, 902, 903, 904, 905, 906, 907, 908, 909, 910, 911, 912, 913] (by decide +kernel) (by decide +kernel)
set_option maxRecDepth 20000 in
theorem gL_law_X6_addPlace : GoodIn wsL_law (wsV RL 93 RX6 yX6_addPlace wsX6_addPlace) := goodIn_app (goodIn_of _ (by decide +kernel)) ggL_law_X6_addPlace
set_option maxRecDepth 20000 in
theorem ggL_law_L_fill : GoodIn wsL_law wsL_fill := goodIn_ca (goodIn_ca (goodIn_ca (goodIn_r _ [198, 199, 91, 92, 200, 201, 202, 2, 203, 97, 98, 16, 204, 25, 205, 206, 207, 208, 209, 210, 99, 100, 101, 102, 103, 104, 211, 212, 213, 39, 214, 49, 48, 105, 106, 107, 24, 108, 109, 67, 66, 14, 15, 110, 111, 112, 113, 114, 31, 32, 33, 11, 12, 34, 35, 36, 37, 38, 40, 41, 42, 43, 44, 45, 46, 47, 50, 51, 52, 53, 115, 116, 117, 118, 119, 120, 121, 122, 123, 124, 125, 126, 127, 128, 129, 130, 131, 132, 133, 134, 135, 136, 137, 215, 894, 895, 896, 897, 898, 914, 915, 916, 917, 918, 919, 920, 921, 922, 923, 924, 925, 937, 938, 929, 930] (by decide +kernel) (by decide +kernel)) (goodIn_sub (fun _ h => List.mem_append_left _ (List.mem_append_left _ (List.mem_append_right _ h))) (by decide +kernel))) (goodIn_sub (fun _ h => List.mem_append_right _ h) (by decide +kernel))) (goodIn_sub (fun _ h => List.mem_append_left _ (List.mem_append_right _ h)) (by decide +kernel))
set_option maxRecDepth 20000 in
theorem gL_law_L_fill : GoodIn wsL_law (va_wsS RL 94 yL_fill wsL_fill) := goodIn_app (goodIn_of _ (by decide +kernel)) ggL_law_L_fill
set_option maxRecDepth 20000 in
theorem ggL_law_X6_fill : GoodIn wsL_law wsX6_fill := goodIn_r _ [219, 146, 79, 220, 221, 222, 5, 223, 150, 151, 152, 224, 225, 226, 227, 159, 160, 161, 162, 163, 80, 899, 900, 901, 902, 903, 904, 905, 906, 907, 908, 909, 910, 911, 912, 913] (by decide +kernel) (by decide +kernel)
set_option maxRecDepth 20000 in
theorem gL_law_X6_fill : GoodIn wsL_law (wsV RL 96 RX6 yX6_fill wsX6_fill) := goodIn_app (goodIn_of _ (by decide +kernel)) ggL_law_X6_fill
set_option maxRecDepth 20000 in
theorem ggL_law_L_repair : GoodIn wsL_law wsL_repair := goodIn_ca (goodIn_ca (goodIn_r _ [230, 199, 91, 231, 232, 233, 2, 234, 25, 16, 204, 205, 206, 207, 208, 209, 210, 99, 100, 101, 102, 103, 104, 105, 106, 107, 24, 108, 109, 67, 66, 14, 15, 110, 111, 112, 113, 114, 31, 32, 33, 11, 12, 34, 35, 36, 37, 38, 39, 40, 41, 42, 43, 44, 45, 46, 47, 48, 49, 50, 51, 52, 53, 115, 116, 117, 118, 119, 120, 121, 122, 123, 124, 125, 126, 127, 128, 129, 130, 131, 132, 133, 134, 135, 136, 137, 211, 212, 213, 214, 215, 894, 895, 896, 897, 898, 914, 915, 916, 917, 918, 919, 920, 921, 922, 923, 924, 925, 929, 930, 937, 938] (by decide +kernel) (by decide +kernel)) (goodIn_sub (fun _ h => List.mem_append_right _ h) (by decide +kernel))) (goodIn_sub (fun _ h => List.mem_append_left _ (List.mem_append_right _ h)) (by decide +kernel))
set_option maxRecDepth 20000 in
theorem gL_law_L_repair : GoodIn wsL_law (va_wsS RL 97 yL_repair wsL_repair) := goodIn_app (goodIn_of _ (by decide +kernel)) ggL_law_L_repair
set_option maxRecDepth 20000 in
theorem ggL_law_X6_repair : GoodIn wsL_law wsX6_repair := goodIn_r _ [238, 146, 79, 220, 221, 222, 5, 223, 150, 151, 152, 156, 157, 158, 159, 160, 161, 162, 163, 80, 224, 225, 226, 227, 899, 900, 901, 902, 903, 904, 905, 906, 907, 908, 909, 910, 911, 912, 913] (by decide +kernel) (by decide +kernel)
set_option maxRecDepth 20000 in
theorem gL_law_X6_repair : GoodIn wsL_law (wsV RL 100 RX6 yX6_repair wsX6_repair) := goodIn_app (goodIn_of _ (by decide +kernel)) ggL_law_X6_repair
set_option maxRecDepth 20000 in
theorem ggL_law_L_fit : GoodIn wsL_law wsL_fit := goodIn_ca (goodIn_ca (goodIn_r _ [241, 199, 91, 242, 243, 244, 2, 245, 25, 16, 246, 247, 248, 249, 209, 210, 100, 101, 102, 103, 104, 105, 106, 107, 24, 108, 109, 67, 66, 14, 15, 110, 111, 112, 113, 114, 31, 32, 33, 11, 12, 34, 35, 36, 37, 38, 39, 40, 41, 42, 43, 44, 45, 46, 47, 48, 49, 50, 51, 52, 53, 115, 116, 117, 118, 119, 120, 121, 122, 123, 124, 125, 126, 127, 128, 129, 130, 131, 132, 133, 134, 135, 136, 137, 211, 212, 213, 214, 215, 894, 895, 896, 897, 898, 914, 915, 916, 917, 918, 919, 920, 921, 922, 923, 924, 925, 929, 930, 937, 938] (by decide +kernel) (by decide +kernel)) (goodIn_sub (fun _ h => List.mem_append_right _ h) (by decide +kernel))) (goodIn_sub (fun _ h => List.mem_append_left _ (List.mem_append_right _ h)) (by decide +kernel))
set_option maxRecDepth 20000 in
theorem gL_law_L_fit : GoodIn wsL_law (va_wsS RL 101 yL_fit wsL_fit) := goodIn_app (goodIn_of _ (by decide +kernel)) ggL_law_L_fit
set_option maxRecDepth 20000 in
theorem ggL_law_X6_fit : GoodIn wsL_law wsX6_fit := goodIn_r _ [253, 146, 79, 254, 255, 5, 256, 150, 151, 152, 159, 160, 161, 162, 163, 80, 257, 258, 259, 260, 899, 900, 901, 902, 903, 904, 905, 906, 907, 908, 909, 910, 911, 912, 913] (by decide +kernel) (by decide +kernel)
set_option maxRecDepth 20000 in
theorem gL_law_X6_fit : GoodIn wsL_law (wsV RL 103 RX6 yX6_fit wsX6_fit) := goodIn_app (goodIn_of _ (by decide +kernel)) ggL_law_X6_fit
set_option maxRecDepth 20000 in
theorem ggL_law_X5_clear : GoodIn wsL_law wsX5_clear := goodIn_r _ [264, 25, 16, 179, 105, 106, 107, 24, 108, 109, 67, 66, 14, 15, 110, 111, 112, 113, 114, 31, 32, 33, 11, 12, 34, 35, 36, 37, 38, 39, 40, 41, 42, 43, 44, 45, 46, 47, 48, 49, 50, 51, 52, 53, 115, 116, 117, 118, 119, 120, 121, 122, 123, 124, 125, 126, 127, 128, 129, 130, 131, 132, 133, 134, 135, 136, 137, 265, 266, 267, 268, 269, 212, 213, 214, 270, 185, 186, 187, 894, 895, 896, 897, 898, 914, 915, 916, 917, 918, 919, 920, 921, 922, 923, 924, 925, 929, 930, 937, 938] (by decide +kernel) (by decide +kernel)
set_option maxRecDepth 20000 in
theorem gL_law_X5_clear : GoodIn wsL_law (wsV RL 104 RX5 yX5_clear wsX5_clear) := goodIn_app (goodIn_of _ (by decide +kernel)) ggL_law_X5_clear
set_option maxRecDepth 20000 in
theorem ggL_law_X6_clear : GoodIn wsL_law wsX6_clear := goodIn_r _ [274, 146, 79, 159, 160, 161, 5, 162, 163, 80, 275, 276, 277, 278, 279, 280, 281, 282, 283, 284, 285, 286, 899, 900, 901, 902, 903, 904, 905, 906, 907, 908, 909, 910, 911, 912, 913] (by decide +kernel) (by decide +kernel)
set_option maxRecDepth 20000 in
theorem gL_law_X6_clear : GoodIn wsL_law (wsV RL 107 RX6 yX6_clear wsX6_clear) := goodIn_app (goodIn_of _ (by decide +kernel)) ggL_law_X6_clear
set_option maxRecDepth 20000 in
theorem ggL_law_L_set : GoodIn wsL_law wsL_set := goodIn_ca (goodIn_ca (goodIn_r _ [289, 199, 91, 290, 291, 292, 2, 293, 294, 25, 16, 295, 296, 297, 298, 209, 210, 100, 101, 102, 103, 104, 105, 106, 107, 24, 108, 109, 67, 66, 14, 15, 110, 111, 112, 113, 114, 31, 32, 33, 11, 12, 34, 35, 36, 37, 38, 39, 40, 41, 42, 43, 44, 45, 46, 47, 48, 49, 50, 51, 52, 53, 115, 116, 117, 118, 119, 120, 121, 122, 123, 124, 125, 126, 127, 128, 129, 130, 131, 132, 133, 134, 135, 136, 137, 894, 895, 896, 897, 898, 914, 915, 916, 917, 918, 919, 920, 921, 922, 923, 924, 925, 929, 930, 937, 938] (by decide +kernel) (by decide +kernel)) (goodIn_sub (fun _ h => List.mem_append_right _ h) (by decide +kernel))) (goodIn_sub (fun _ h => List.mem_append_left _ (List.mem_append_right _ h)) (by decide +kernel))
set_option maxRecDepth 20000 in
theorem gL_law_L_set : GoodIn wsL_law (va_wsS RL 108 yL_set wsL_set) := goodIn_app (goodIn_of _ (by decide +kernel)) ggL_law_L_set
set_option maxRecDepth 20000 in
theorem ggL_law_X6_set : GoodIn wsL_law wsX6_set := goodIn_r _ [302, 146, 79, 303, 304, 5, 305, 150, 151, 152, 306, 307, 308, 159, 160, 161, 162, 163, 80, 899, 900, 901, 902, 903, 904, 905, 906, 907, 908, 909, 910, 911, 912, 913] (by decide +kernel) (by decide +kernel)
set_option maxRecDepth 20000 in
theorem gL_law_X6_set : GoodIn wsL_law (wsV RL 110 RX6 yX6_set wsX6_set) := goodIn_app (goodIn_of _ (by decide +kernel)) ggL_law_X6_set
set_option maxRecDepth 20000 in
theorem ggL_law_L_tour : GoodIn wsL_law wsL_tour := goodIn_ca (goodIn_r _ [311, 91, 312, 313, 314, 2, 315, 25, 16, 21, 100, 101, 102, 103, 104, 105, 106, 107, 24, 108, 109, 67, 66, 14, 15, 110, 111, 112, 113, 114, 31, 32, 33, 11, 12, 34, 35, 36, 37, 38, 39, 40, 41, 42, 43, 44, 45, 46, 47, 48, 49, 50, 51, 52, 53, 115, 116, 117, 118, 119, 120, 121, 122, 123, 124, 125, 126, 127, 128, 129, 130, 131, 132, 133, 134, 135, 136, 137, 316, 317, 318, 20, 319, 320, 321, 322, 323, 324, 325, 58, 326, 327, 328, 329, 269, 212, 213, 214, 330, 331, 332, 333, 334, 335, 336, 337, 338, 339, 59, 61, 340, 341, 342, 343, 344, 345, 346, 347, 348, 349, 350, 351, 352, 353, 354, 355, 356, 357, 358, 359, 360, 361, 362, 363, 364, 365, 366, 367, 368, 369, 370, 371, 372, 373, 374, 375, 376, 377, 378, 379, 380, 381, 382, 383, 384, 385, 386, 387, 388, 389, 390, 391, 392, 393, 394, 395, 396, 397, 398, 399, 400, 401, 402, 403, 404, 894, 895, 896, 897, 898, 929, 930, 914, 915, 916, 917, 918, 919, 920, 921, 922, 923, 924, 925, 937, 938, 926, 927, 928] (by decide +kernel) (by decide +kernel)) (goodIn_sub (fun _ h => List.mem_append_left _ (List.mem_append_right _ h)) (by decide +kernel))
set_option maxRecDepth 20000 in
theorem gL_law_L_tour : GoodIn wsL_law (va_wsS RL 111 yL_tour wsL_tour) := goodIn_app (goodIn_of _ (by decide +kernel)) ggL_law_L_tour
set_option maxRecDepth 20000 in
theorem ggL_law_X6_tour : GoodIn wsL_law wsX6_tour := goodIn_r _ [408, 146, 409, 410, 5, 411, 150, 151, 152, 159, 160, 161, 162, 163, 80, 79, 412, 413, 414, 415, 416, 417, 418, 419, 420, 421, 422, 423, 82, 424, 425, 426, 427, 279, 280, 281, 282, 257, 258, 259, 260, 428, 429, 430, 431, 432, 433, 434, 435, 224, 225, 226, 227, 436, 437, 438, 439, 440, 441, 442, 443, 444, 445, 446, 447, 448, 449, 450, 451, 452, 453, 454, 83, 455, 456, 457, 458, 84, 459, 460, 461, 462, 463, 464, 465, 466, 467, 468, 469, 470, 471, 472, 473, 474, 475, 476, 477, 478, 479, 480, 481, 482, 483, 484, 485, 486, 899, 900, 901, 902, 903, 904, 905, 906, 907, 908, 909, 910, 911, 912, 913] (by decide +kernel) (by decide +kernel)
set_option maxRecDepth 20000 in
theorem gL_law_X6_tour : GoodIn wsL_law (wsV RL 114 RX6 yX6_tour wsX6_tour) := goodIn_app (goodIn_of _ (by decide +kernel)) ggL_law_X6_tour
set_option maxRecDepth 20000 in
theorem ggL_law_X5_inspect : GoodIn wsL_law wsX5_inspect := goodIn_r _ [490, 25, 16, 105, 106, 107, 24, 108, 109, 67, 66, 14, 15, 110, 111, 112, 113, 114, 31, 32, 33, 11, 12, 34, 35, 36, 37, 38, 39, 40, 41, 42, 43, 44, 45, 46, 47, 48, 49, 50, 51, 52, 53, 115, 116, 117, 118, 119, 120, 121, 122, 123, 124, 125, 126, 127, 128, 129, 130, 131, 132, 133, 134, 135, 136, 137, 491, 492, 493, 494, 269, 212, 213, 214, 495, 376, 377, 378, 379, 380, 381, 184, 185, 186, 187, 894, 895, 896, 897, 898, 929, 930, 914, 915, 916, 917, 918, 919, 920, 921, 922, 923, 924, 925, 937, 938] (by decide +kernel) (by decide +kernel)
set_option maxRecDepth 20000 in
theorem gL_law_X5_inspect : GoodIn wsL_law (wsV RL 115 RX5 yX5_inspect wsX5_inspect) := goodIn_app (goodIn_of _ (by decide +kernel)) ggL_law_X5_inspect
set_option maxRecDepth 20000 in
theorem ggL_law_X6_inspect : GoodIn wsL_law wsX6_inspect := goodIn_r _ [499, 146, 159, 160, 161, 5, 162, 163, 80, 79, 500, 501, 502, 503, 279, 280, 281, 282, 471, 472, 473, 474, 440, 441, 442, 443, 283, 284, 285, 286, 899, 900, 901, 902, 903, 904, 905, 906, 907, 908, 909, 910, 911, 912, 913] (by decide +kernel) (by decide +kernel)
set_option maxRecDepth 20000 in
theorem gL_law_X6_inspect : GoodIn wsL_law (wsV RL 118 RX6 yX6_inspect wsX6_inspect) := goodIn_app (goodIn_of _ (by decide +kernel)) ggL_law_X6_inspect
set_option maxRecDepth 20000 in
theorem ggL_law_L_append : GoodIn wsL_law wsL_append := goodIn_ca (goodIn_ca (goodIn_r _ [506, 91, 92, 507, 508, 509, 2, 510, 97, 98, 29, 511, 512, 100, 101, 102, 103, 104, 894, 895, 896, 897, 898, 931, 932, 933, 934, 935, 936] (by decide +kernel) (by decide +kernel)) (goodIn_sub (fun _ h => List.mem_append_left _ (List.mem_append_left _ (List.mem_append_right _ h))) (by decide +kernel))) (goodIn_sub (fun _ h => List.mem_append_left _ (List.mem_append_right _ h)) (by decide +kernel))
set_option maxRecDepth 20000 in
theorem gL_law_L_append : GoodIn wsL_law (va_wsS RL 119 yL_append wsL_append) := goodIn_app (goodIn_of _ (by decide +kernel)) ggL_law_L_append
set_option maxRecDepth 20000 in
theorem ggL_law_X6_append : GoodIn wsL_law wsX6_append := goodIn_r _ [516, 517, 146, 81, 150, 151, 5, 152, 899, 900, 901, 902, 903, 904, 905, 906, 907, 908, 909, 910, 911, 912, 913] (by decide +kernel) (by decide +kernel)
set_option maxRecDepth 20000 in
theorem gL_law_X6_append : GoodIn wsL_law (wsV RL 121 RX6 yX6_append wsX6_append) := goodIn_app (goodIn_of _ (by decide +kernel)) ggL_law_X6_append
set_option maxRecDepth 20000 in
theorem ggL_law_X5_clearBuffer : GoodIn wsL_law wsX5_clearBuffer := goodIn_r _ [521, 29, 511, 894, 895, 896, 897, 898, 931, 932, 933, 934, 935, 936] (by decide +kernel) (by decide +kernel)
set_option maxRecDepth 20000 in
theorem gL_law_X5_clearBuffer : GoodIn wsL_law (wsV RL 122 RX5 yX5_clearBuffer wsX5_clearBuffer) := goodIn_app (goodIn_of _ (by decide +kernel)) ggL_law_X5_clearBuffer
set_option maxRecDepth 20000 in
theorem ggL_law_X6_clearBuffer : GoodIn wsL_law wsX6_clearBuffer := goodIn_r _ [525, 146, 517, 899, 900, 901, 902, 903, 904, 905, 906, 907, 908, 909, 910, 911, 912, 913] (by decide +kernel) (by decide +kernel)
set_option maxRecDepth 20000 in
theorem gL_law_X6_clearBuffer : GoodIn wsL_law (wsV RL 125 RX6 yX6_clearBuffer wsX6_clearBuffer) := goodIn_app (goodIn_of _ (by decide +kernel)) ggL_law_X6_clearBuffer
set_option maxRecDepth 20000 in
theorem ggL_law_X5_firstError : GoodIn wsL_law wsX5_firstError := goodIn_r _ [529, 29, 530, 531, 532, 28, 533, 534, 72, 535, 536, 537, 538, 74, 539, 540, 541, 542, 543, 544, 545, 546, 547, 548, 549, 550, 551, 552, 73, 553, 554, 555, 556, 557, 558, 559, 560, 561, 562, 563, 564, 565, 894, 895, 896, 897, 898, 931, 932, 933, 934, 935, 936] (by decide +kernel) (by decide +kernel)
set_option maxRecDepth 20000 in
theorem gL_law_X5_firstError : GoodIn wsL_law (wsV RL 126 RX5 yX5_firstError wsX5_firstError) := goodIn_app (goodIn_of _ (by decide +kernel)) ggL_law_X5_firstError
set_option maxRecDepth 20000 in
theorem ggL_law_X6_firstError : GoodIn wsL_law wsX6_firstError := goodIn_r _ [569, 146, 570, 571, 572, 5, 573, 574, 575, 517, 81, 576, 577, 578, 579, 580, 85, 153, 154, 155, 150, 151, 152, 581, 582, 583, 584, 899, 900, 901, 902, 903, 904, 905, 906, 907, 908, 909, 910, 911, 912, 913] (by decide +kernel) (by decide +kernel)
set_option maxRecDepth 20000 in
theorem gL_law_X6_firstError : GoodIn wsL_law (wsV RL 129 RX6 yX6_firstError wsX6_firstError) := goodIn_app (goodIn_of _ (by decide +kernel)) ggL_law_X6_firstError
set_option maxRecDepth 20000 in
theorem ggL_law_L_read : GoodIn wsL_law wsL_read := goodIn_ca (goodIn_r _ [587, 91, 588, 589, 590, 2, 591, 103, 104, 29, 25, 16, 511, 592, 593, 594, 28, 595, 534, 74, 552, 596, 531, 532, 533, 72, 535, 536, 537, 538, 539, 540, 541, 542, 543, 544, 545, 546, 547, 548, 549, 550, 551, 73, 553, 554, 555, 556, 557, 558, 559, 560, 561, 562, 563, 564, 565, 105, 106, 107, 24, 108, 109, 67, 66, 14, 15, 110, 111, 112, 113, 114, 31, 32, 33, 11, 12, 34, 35, 36, 37, 38, 39, 40, 41, 42, 43, 44, 45, 46, 47, 48, 49, 50, 51, 52, 53, 115, 116, 117, 118, 119, 120, 121, 122, 123, 124, 125, 126, 127, 128, 129, 130, 131, 132, 133, 134, 135, 136, 137, 597, 598, 599, 600, 512, 601, 602, 603, 604, 605, 606, 99, 607, 179, 138, 139, 140, 141, 180, 181, 182, 183, 184, 185, 186, 187, 608, 894, 895, 896, 897, 898, 931, 932, 933, 934, 935, 936, 929, 930, 914, 915, 916, 917, 918, 919, 920, 921, 922, 923, 924, 925, 937, 938] (by decide +kernel) (by decide +kernel)) (goodIn_sub (fun _ h => List.mem_append_left _ (List.mem_append_right _ h)) (by decide +kernel))
set_option maxRecDepth 20000 in
theorem gL_law_L_read : GoodIn wsL_law (va_wsS RL 130 yL_read wsL_read) := goodIn_app (goodIn_of _ (by decide +kernel)) ggL_law_L_read
set_option maxRecDepth 20000 in
theorem ggL_law_X6_read : GoodIn wsL_law wsX6_read := goodIn_r _ [612, 517, 575, 580, 146, 574, 570, 571, 572, 5, 573, 81, 576, 577, 578, 579, 85, 153, 154, 155, 150, 151, 152, 581, 582, 583, 584, 159, 160, 161, 162, 163, 80, 79, 613, 614, 615, 616, 164, 165, 166, 167, 192, 193, 194, 195, 899, 900, 901, 902, 903, 904, 905, 906, 907, 908, 909, 910, 911, 912, 913] (by decide +kernel) (by decide +kernel)
set_option maxRecDepth 20000 in
theorem gL_law_X6_read : GoodIn wsL_law (wsV RL 133 RX6 yX6_read wsX6_read) := goodIn_app (goodIn_of _ (by decide +kernel)) ggL_law_X6_read
set_option maxRecDepth 20000 in
theorem ggL_law_L_undo : GoodIn wsL_law wsL_undo := goodIn_ca (goodIn_r _ [619, 92, 620, 621, 622, 2, 623, 97, 98, 25, 16, 624, 625, 626, 627, 24, 628, 109, 67, 115, 116, 117, 15, 118, 119, 120, 121, 34, 122, 123, 124, 36, 125, 126, 127, 128, 40, 41, 42, 43, 129, 130, 131, 39, 132, 48, 133, 134, 135, 136, 137, 894, 895, 896, 897, 898, 929, 930, 914, 915, 916, 917, 918, 919, 920, 921, 922, 923, 924, 925, 937, 938] (by decide +kernel) (by decide +kernel)) (goodIn_sub (fun _ h => List.mem_append_left _ (List.mem_append_left _ (List.mem_append_right _ h))) (by decide +kernel))
set_option maxRecDepth 20000 in
theorem gL_law_L_undo : GoodIn wsL_law (va_wsS RL 134 yL_undo wsL_undo) := goodIn_app (goodIn_of _ (by decide +kernel)) ggL_law_L_undo
set_option maxRecDepth 20000 in
theorem ggL_law_X6_undo : GoodIn wsL_law wsX6_undo := goodIn_r _ [632, 163, 146, 79, 80, 899, 900, 901, 902, 903, 904, 905, 906, 907, 908, 909, 910, 911, 912, 913] (by decide +kernel) (by decide +kernel)
set_option maxRecDepth 20000 in
theorem gL_law_X6_undo : GoodIn wsL_law (wsV RL 136 RX6 yX6_undo wsX6_undo) := goodIn_app (goodIn_of _ (by decide +kernel)) ggL_law_X6_undo
set_option maxRecDepth 20000 in
theorem ggL_law_L_feeder : GoodIn wsL_law wsL_feeder := goodIn_ca (goodIn_ca (goodIn_r _ [635, 199, 91, 636, 637, 638, 2, 639, 16, 640, 204, 205, 206, 207, 208, 209, 210, 99, 100, 101, 102, 103, 104, 641, 642, 643, 39, 644, 365, 212, 213, 214, 49, 48, 211, 894, 895, 896, 897, 898, 914, 915, 916, 917, 918, 919, 920, 921, 922, 923, 924, 925, 937, 938] (by decide +kernel) (by decide +kernel)) (goodIn_sub (fun _ h => List.mem_append_right _ h) (by decide +kernel))) (goodIn_sub (fun _ h => List.mem_append_left _ (List.mem_append_right _ h)) (by decide +kernel))
set_option maxRecDepth 20000 in
theorem gL_law_L_feeder : GoodIn wsL_law (va_wsS RL 137 yL_feeder wsL_feeder) := goodIn_app (goodIn_of _ (by decide +kernel)) ggL_law_L_feeder
set_option maxRecDepth 20000 in
theorem ggL_law_X6_feeder : GoodIn wsL_law wsX6_feeder := goodIn_r _ [648, 146, 220, 221, 222, 5, 223, 79, 150, 151, 152, 649, 650, 651, 652, 224, 225, 226, 227, 440, 441, 442, 443, 899, 900, 901, 902, 903, 904, 905, 906, 907, 908, 909, 910, 911, 912, 913] (by decide +kernel) (by decide +kernel)
set_option maxRecDepth 20000 in
theorem gL_law_X6_feeder : GoodIn wsL_law (wsV RL 139 RX6 yX6_feeder wsX6_feeder) := goodIn_app (goodIn_of _ (by decide +kernel)) ggL_law_X6_feeder
set_option maxRecDepth 20000 in
theorem ggL_law_L_place : GoodIn wsL_law wsL_place := goodIn_ca (goodIn_ca (goodIn_r _ [655, 199, 91, 656, 657, 658, 2, 659, 209, 210, 16, 179, 660, 100, 101, 102, 103, 104, 211, 212, 213, 39, 214, 49, 48, 894, 895, 896, 897, 898, 914, 915, 916, 917, 918, 919, 920, 921, 922, 923, 924, 925, 937, 938] (by decide +kernel) (by decide +kernel)) (goodIn_sub (fun _ h => List.mem_append_right _ h) (by decide +kernel))) (goodIn_sub (fun _ h => List.mem_append_left _ (List.mem_append_right _ h)) (by decide +kernel))
set_option maxRecDepth 20000 in
theorem gL_law_L_place : GoodIn wsL_law (va_wsS RL 140 yL_place wsL_place) := goodIn_app (goodIn_of _ (by decide +kernel)) ggL_law_L_place
set_option maxRecDepth 20000 in
theorem ggL_law_X6_place : GoodIn wsL_law wsX6_place := goodIn_r _ [664, 146, 665, 666, 667, 5, 668, 79, 150, 151, 152, 279, 280, 281, 282, 899, 900, 901, 902, 903, 904, 905, 906, 907, 908, 909, 910, 911, 912, 913] (by decide +kernel) (by decide +kernel)
set_option maxRecDepth 20000 in
theorem gL_law_X6_place : GoodIn wsL_law (wsV RL 142 RX6 yX6_place wsX6_place) := goodIn_app (goodIn_of _ (by decide +kernel)) ggL_law_X6_place
set_option maxRecDepth 20000 in
theorem ggL_law_L_nozzle : GoodIn wsL_law wsL_nozzle := goodIn_ca (goodIn_ca (goodIn_r _ [671, 199, 91, 672, 673, 674, 2, 675, 16, 246, 247, 248, 249, 209, 210, 100, 101, 102, 103, 104, 211, 212, 213, 39, 214, 49, 48, 894, 895, 896, 897, 898, 914, 915, 916, 917, 918, 919, 920, 921, 922, 923, 924, 925, 937, 938] (by decide +kernel) (by decide +kernel)) (goodIn_sub (fun _ h => List.mem_append_right _ h) (by decide +kernel))) (goodIn_sub (fun _ h => List.mem_append_left _ (List.mem_append_right _ h)) (by decide +kernel))
set_option maxRecDepth 20000 in
theorem gL_law_L_nozzle : GoodIn wsL_law (va_wsS RL 143 yL_nozzle wsL_nozzle) := goodIn_app (goodIn_of _ (by decide +kernel)) ggL_law_L_nozzle
set_option maxRecDepth 20000 in
theorem ggL_law_X6_nozzle : GoodIn wsL_law wsX6_nozzle := goodIn_r _ [679, 146, 254, 255, 5, 256, 150, 151, 152, 257, 258, 259, 260, 79, 899, 900, 901, 902, 903, 904, 905, 906, 907, 908, 909, 910, 911, 912, 913] (by decide +kernel) (by decide +kernel)
set_option maxRecDepth 20000 in
theorem gL_law_X6_nozzle : GoodIn wsL_law (wsV RL 145 RX6 yX6_nozzle wsX6_nozzle) := goodIn_app (goodIn_of _ (by decide +kernel)) ggL_law_X6_nozzle
set_option maxRecDepth 20000 in
theorem ggL_law_L_trust : GoodIn wsL_law wsL_trust := goodIn_ca (goodIn_r _ [682, 199, 683, 684, 685, 2, 686, 16, 640, 247, 248, 249, 209, 210, 205, 206, 207, 208, 99, 211, 212, 213, 39, 214, 49, 48, 894, 895, 896, 897, 898, 914, 915, 916, 917, 918, 919, 920, 921, 922, 923, 924, 925, 937, 938] (by decide +kernel) (by decide +kernel)) (goodIn_sub (fun _ h => List.mem_append_right _ h) (by decide +kernel))
set_option maxRecDepth 20000 in
theorem gL_law_L_trust : GoodIn wsL_law (va_wsS RL 146 yL_trust wsL_trust) := goodIn_app (goodIn_of _ (by decide +kernel)) ggL_law_L_trust
set_option maxRecDepth 20000 in
theorem ggL_law_X6_trust : GoodIn wsL_law wsX6_trust := goodIn_r _ [690, 146, 254, 255, 5, 256, 150, 151, 152, 220, 221, 222, 223, 79, 440, 441, 442, 443, 899, 900, 901, 902, 903, 904, 905, 906, 907, 908, 909, 910, 911, 912, 913] (by decide +kernel) (by decide +kernel)
set_option maxRecDepth 20000 in
theorem gL_law_X6_trust : GoodIn wsL_law (wsV RL 148 RX6 yX6_trust wsX6_trust) := goodIn_app (goodIn_of _ (by decide +kernel)) ggL_law_X6_trust
set_option maxRecDepth 20000 in
theorem ggL_law_L_count : GoodIn wsL_law wsL_count := goodIn_ca (goodIn_r _ [693, 91, 694, 695, 696, 2, 697, 103, 104, 16, 99, 179, 698, 699, 700, 701, 246, 702, 204, 25, 624, 265, 266, 267, 15, 268, 120, 41, 269, 212, 213, 39, 214, 49, 48, 703, 704, 705, 706, 42, 707, 642, 643, 644, 365, 641, 894, 895, 896, 897, 898, 914, 915, 916, 917, 918, 919, 920, 921, 922, 923, 924, 925, 929, 930, 937, 938] (by decide +kernel) (by decide +kernel)) (goodIn_sub (fun _ h => List.mem_append_left _ (List.mem_append_right _ h)) (by decide +kernel))
set_option maxRecDepth 20000 in
theorem gL_law_L_count : GoodIn wsL_law (va_wsS RL 149 yL_count wsL_count) := goodIn_app (goodIn_of _ (by decide +kernel)) ggL_law_L_count
set_option maxRecDepth 20000 in
theorem ggL_law_X6_count : GoodIn wsL_law wsX6_count := goodIn_r _ [711, 146, 150, 151, 5, 152, 712, 713, 714, 715, 79, 163, 275, 276, 277, 278, 279, 280, 281, 282, 716, 717, 718, 719, 257, 258, 259, 260, 720, 721, 722, 723, 224, 225, 226, 227, 899, 900, 901, 902, 903, 904, 905, 906, 907, 908, 909, 910, 911, 912, 913] (by decide +kernel) (by decide +kernel)
set_option maxRecDepth 20000 in
theorem gL_law_X6_count : GoodIn wsL_law (wsV RL 151 RX6 yX6_count wsX6_count) := goodIn_app (goodIn_of _ (by decide +kernel)) ggL_law_X6_count
set_option maxRecDepth 20000 in
theorem ggL_law_L_setting : GoodIn wsL_law wsL_setting := goodIn_ca (goodIn_r _ [726, 199, 727, 728, 729, 2, 730, 16, 295, 296, 297, 298, 209, 210, 894, 895, 896, 897, 898, 914, 915, 916, 917, 918, 919, 920, 921, 922, 923, 924, 925] (by decide +kernel) (by decide +kernel)) (goodIn_sub (fun _ h => List.mem_append_right _ h) (by decide +kernel))
set_option maxRecDepth 20000 in
theorem gL_law_L_setting : GoodIn wsL_law (va_wsS RL 152 yL_setting wsL_setting) := goodIn_app (goodIn_of _ (by decide +kernel)) ggL_law_L_setting
set_option maxRecDepth 20000 in
theorem ggL_law_X6_setting : GoodIn wsL_law wsX6_setting := goodIn_r _ [734, 146, 79, 303, 304, 5, 305, 150, 151, 152, 899, 900, 901, 902, 903, 904, 905, 906, 907, 908, 909, 910, 911, 912, 913] (by decide +kernel) (by decide +kernel)
set_option maxRecDepth 20000 in
theorem gL_law_X6_setting : GoodIn wsL_law (wsV RL 154 RX6 yX6_setting wsX6_setting) := goodIn_app (goodIn_of _ (by decide +kernel)) ggL_law_X6_setting
set_option maxRecDepth 20000 in
theorem ggL_law_L_ifToured : GoodIn wsL_law wsL_ifToured := goodIn_ca (goodIn_r _ [737, 91, 738, 739, 740, 2, 741, 17, 16, 21, 698, 100, 101, 102, 103, 104, 742, 116, 117, 15, 118, 119, 120, 121, 34, 122, 123, 124, 36, 125, 126, 127, 128, 40, 41, 42, 43, 129, 130, 131, 39, 132, 48, 133, 134, 135, 136, 137, 316, 317, 318, 20, 319, 320, 321, 322, 323, 324, 325, 58, 326, 327, 328, 329, 269, 212, 213, 214, 49, 330, 331, 332, 333, 334, 335, 336, 337, 338, 339, 59, 61, 340, 341, 342, 343, 344, 345, 346, 347, 348, 349, 350, 351, 352, 353, 354, 355, 356, 357, 358, 359, 360, 361, 362, 363, 364, 365, 366, 51, 52, 53, 367, 368, 369, 370, 371, 372, 373, 374, 375, 376, 377, 378, 379, 380, 381, 50, 382, 383, 384, 385, 386, 387, 388, 389, 390, 391, 392, 393, 394, 395, 396, 397, 398, 399, 400, 401, 402, 403, 404, 703, 704, 705, 706, 707, 642, 643, 644, 265, 266, 267, 268, 894, 895, 896, 897, 898, 914, 915, 916, 917, 918, 919, 920, 921, 922, 923, 924, 925, 937, 938, 926, 927, 928] (by decide +kernel) (by decide +kernel)) (goodIn_sub (fun _ h => List.mem_append_left _ (List.mem_append_right _ h)) (by decide +kernel))
set_option maxRecDepth 20000 in
theorem gL_law_L_ifToured : GoodIn wsL_law (va_wsS RL 155 yL_ifToured wsL_ifToured) := goodIn_app (goodIn_of _ (by decide +kernel)) ggL_law_L_ifToured
set_option maxRecDepth 20000 in
theorem ggL_law_X6_ifToured : GoodIn wsL_law wsX6_ifToured := goodIn_r _ [746, 146, 409, 410, 5, 411, 150, 151, 152, 747, 748, 749, 750, 79, 751, 752, 753, 754, 86, 716, 717, 718, 719, 257, 258, 259, 260, 412, 413, 414, 415, 416, 417, 418, 419, 420, 421, 422, 423, 82, 424, 425, 426, 427, 279, 280, 281, 282, 428, 429, 430, 431, 432, 433, 434, 435, 224, 225, 226, 227, 436, 437, 438, 439, 440, 441, 442, 443, 444, 445, 446, 447, 448, 449, 450, 451, 452, 453, 454, 83, 455, 456, 457, 458, 84, 459, 460, 461, 462, 463, 464, 465, 466, 467, 468, 469, 470, 471, 472, 473, 474, 475, 476, 477, 478, 479, 480, 481, 482, 483, 484, 485, 486, 275, 276, 277, 278, 755, 756, 757, 758, 899, 900, 901, 902, 903, 904, 905, 906, 907, 908, 909, 910, 911, 912, 913] (by decide +kernel) (by decide +kernel)
set_option maxRecDepth 20000 in
theorem gL_law_X6_ifToured : GoodIn wsL_law (wsV RL 157 RX6 yX6_ifToured wsX6_ifToured) := goodIn_app (goodIn_of _ (by decide +kernel)) ggL_law_X6_ifToured
set_option maxRecDepth 20000 in
theorem ggL_law_L_choice : GoodIn wsL_law wsL_choice := goodIn_ca (goodIn_ca (goodIn_r _ [761, 199, 91, 762, 763, 764, 2, 765, 16, 247, 248, 249, 209, 210, 100, 101, 102, 103, 104, 766, 342, 343, 15, 344, 119, 40, 269, 212, 213, 39, 214, 49, 48, 345, 346, 347, 348, 43, 122, 349, 350, 135, 351, 894, 895, 896, 897, 898, 914, 915, 916, 917, 918, 919, 920, 921, 922, 923, 924, 925, 937, 938] (by decide +kernel) (by decide +kernel)) (goodIn_sub (fun _ h => List.mem_append_right _ h) (by decide +kernel))) (goodIn_sub (fun _ h => List.mem_append_left _ (List.mem_append_right _ h)) (by decide +kernel))
set_option maxRecDepth 20000 in
theorem gL_law_L_choice : GoodIn wsL_law (va_wsS RL 158 yL_choice wsL_choice) := goodIn_app (goodIn_of _ (by decide +kernel)) ggL_law_L_choice
set_option maxRecDepth 20000 in
theorem ggL_law_X6_choice : GoodIn wsL_law wsX6_choice := goodIn_r _ [770, 146, 254, 255, 5, 256, 150, 151, 152, 153, 154, 155, 428, 429, 430, 431, 79, 432, 433, 434, 435, 224, 225, 226, 227, 436, 437, 438, 439, 440, 441, 442, 443, 444, 445, 446, 899, 900, 901, 902, 903, 904, 905, 906, 907, 908, 909, 910, 911, 912, 913] (by decide +kernel) (by decide +kernel)
set_option maxRecDepth 20000 in
theorem gL_law_X6_choice : GoodIn wsL_law (wsV RL 160 RX6 yX6_choice wsX6_choice) := goodIn_app (goodIn_of _ (by decide +kernel)) ggL_law_X6_choice
set_option maxRecDepth 20000 in
theorem ggL_law_L_aim : GoodIn wsL_law wsL_aim := goodIn_ca (goodIn_r _ [773, 199, 774, 775, 776, 2, 777, 21, 16, 778, 247, 248, 249, 209, 210, 779, 322, 323, 20, 324, 325, 58, 326, 327, 328, 15, 329, 119, 40, 269, 212, 213, 39, 214, 49, 48, 330, 331, 332, 333, 334, 335, 894, 895, 896, 897, 898, 926, 927, 928, 914, 915, 916, 917, 918, 919, 920, 921, 922, 923, 924, 925, 937, 938] (by decide +kernel) (by decide +kernel)) (goodIn_sub (fun _ h => List.mem_append_right _ h) (by decide +kernel))
set_option maxRecDepth 20000 in
theorem gL_law_L_aim : GoodIn wsL_law (va_wsS RL 161 yL_aim wsL_aim) := goodIn_app (goodIn_of _ (by decide +kernel)) ggL_law_L_aim
set_option maxRecDepth 20000 in
theorem ggL_law_X6_aim : GoodIn wsL_law wsX6_aim := goodIn_r _ [783, 146, 254, 255, 5, 256, 150, 151, 152, 784, 785, 786, 787, 82, 420, 421, 422, 423, 424, 425, 426, 427, 79, 279, 280, 281, 282, 257, 258, 259, 260, 428, 429, 430, 431, 432, 433, 434, 435, 224, 225, 226, 227, 436, 437, 438, 439, 440, 441, 442, 443, 444, 445, 446, 447, 448, 449, 450, 899, 900, 901, 902, 903, 904, 905, 906, 907, 908, 909, 910, 911, 912, 913] (by decide +kernel) (by decide +kernel)
set_option maxRecDepth 20000 in
theorem gL_law_X6_aim : GoodIn wsL_law (wsV RL 163 RX6 yX6_aim wsX6_aim) := goodIn_app (goodIn_of _ (by decide +kernel)) ggL_law_X6_aim
set_option maxRecDepth 20000 in
theorem ggL_law_X5_needed : GoodIn wsL_law wsX5_needed := goodIn_r _ [791, 17, 16, 21, 742, 116, 117, 15, 118, 119, 120, 121, 34, 122, 123, 124, 36, 125, 126, 127, 128, 40, 41, 42, 43, 129, 130, 131, 39, 132, 48, 133, 134, 135, 136, 137, 792, 793, 794, 795, 796, 266, 267, 268, 269, 212, 213, 214, 49, 316, 317, 318, 20, 319, 320, 321, 322, 323, 324, 325, 58, 326, 327, 328, 329, 330, 331, 332, 333, 334, 335, 336, 337, 338, 339, 59, 61, 340, 341, 342, 343, 344, 345, 346, 347, 348, 349, 350, 351, 352, 353, 354, 355, 356, 357, 358, 359, 360, 361, 362, 363, 364, 365, 366, 51, 52, 53, 367, 368, 369, 370, 371, 372, 373, 374, 375, 376, 377, 378, 379, 380, 381, 50, 382, 383, 384, 385, 386, 387, 388, 389, 390, 391, 392, 393, 394, 395, 396, 397, 398, 399, 400, 401, 402, 403, 404, 491, 492, 493, 494, 495, 184, 185, 186, 187, 894, 895, 896, 897, 898, 914, 915, 916, 917, 918, 919, 920, 921, 922, 923, 924, 925, 937, 938, 926, 927, 928] (by decide +kernel) (by decide +kernel)
set_option maxRecDepth 20000 in
theorem gL_law_X5_needed : GoodIn wsL_law (wsV RL 164 RX5 yX5_needed wsX5_needed) := goodIn_app (goodIn_of _ (by decide +kernel)) ggL_law_X5_needed
set_option maxRecDepth 20000 in
theorem ggL_law_X6_needed : GoodIn wsL_law wsX6_needed := goodIn_r _ [800, 146, 801, 802, 803, 5, 804, 79, 751, 752, 753, 754, 86, 275, 276, 277, 278, 279, 280, 281, 282, 416, 417, 418, 419, 420, 421, 422, 423, 82, 424, 425, 426, 427, 257, 258, 259, 260, 428, 429, 430, 431, 432, 433, 434, 435, 224, 225, 226, 227, 436, 437, 438, 439, 440, 441, 442, 443, 444, 445, 446, 447, 448, 449, 450, 451, 452, 453, 454, 83, 455, 456, 457, 458, 84, 459, 460, 461, 462, 463, 464, 465, 466, 467, 468, 469, 470, 471, 472, 473, 474, 475, 476, 477, 478, 479, 480, 481, 482, 483, 484, 485, 486, 500, 501, 502, 503, 283, 284, 285, 286, 755, 756, 757, 758, 899, 900, 901, 902, 903, 904, 905, 906, 907, 908, 909, 910, 911, 912, 913] (by decide +kernel) (by decide +kernel)
set_option maxRecDepth 20000 in
theorem gL_law_X6_needed : GoodIn wsL_law (wsV RL 167 RX6 yX6_needed wsX6_needed) := goodIn_app (goodIn_of _ (by decide +kernel)) ggL_law_X6_needed
set_option maxRecDepth 20000 in
theorem ggL_law_X5_rumored : GoodIn wsL_law wsX5_rumored := goodIn_r _ [808, 16, 99, 809, 810, 811, 15, 812, 43, 386, 134, 135, 136, 379, 380, 381, 269, 212, 213, 39, 214, 49, 48, 894, 895, 896, 897, 898, 914, 915, 916, 917, 918, 919, 920, 921, 922, 923, 924, 925, 937, 938] (by decide +kernel) (by decide +kernel)
set_option maxRecDepth 20000 in
theorem gL_law_X5_rumored : GoodIn wsL_law (wsV RL 168 RX5 yX5_rumored wsX5_rumored) := goodIn_app (goodIn_of _ (by decide +kernel)) ggL_law_X5_rumored
set_option maxRecDepth 20000 in
theorem ggL_law_X6_rumored : GoodIn wsL_law wsX6_rumored := goodIn_r _ [816, 146, 817, 818, 819, 5, 820, 79, 821, 822, 823, 824, 440, 441, 442, 443, 899, 900, 901, 902, 903, 904, 905, 906, 907, 908, 909, 910, 911, 912, 913] (by decide +kernel) (by decide +kernel)
set_option maxRecDepth 20000 in
theorem gL_law_X6_rumored : GoodIn wsL_law (wsV RL 171 RX6 yX6_rumored wsX6_rumored) := goodIn_app (goodIn_of _ (by decide +kernel)) ggL_law_X6_rumored
set_option maxRecDepth 20000 in
theorem ggL_law_X5_missShare : GoodIn wsL_law wsX5_missShare := goodIn_r _ [828, 16, 246, 641, 642, 643, 39, 644, 365, 212, 213, 214, 49, 48, 703, 704, 705, 15, 706, 42, 707, 894, 895, 896, 897, 898, 914, 915, 916, 917, 918, 919, 920, 921, 922, 923, 924, 925, 937, 938] (by decide +kernel) (by decide +kernel)
set_option maxRecDepth 20000 in
theorem gL_law_X5_missShare : GoodIn wsL_law (wsV RL 172 RX5 yX5_missShare wsX5_missShare) := goodIn_app (goodIn_of _ (by decide +kernel)) ggL_law_X5_missShare
set_option maxRecDepth 20000 in
theorem ggL_law_X6_missShare : GoodIn wsL_law wsX6_missShare := goodIn_r _ [832, 146, 833, 834, 835, 5, 836, 716, 717, 718, 719, 257, 258, 259, 260, 79, 899, 900, 901, 902, 903, 904, 905, 906, 907, 908, 909, 910, 911, 912, 913] (by decide +kernel) (by decide +kernel)
set_option maxRecDepth 20000 in
theorem gL_law_X6_missShare : GoodIn wsL_law (wsV RL 176 RX6 yX6_missShare wsX6_missShare) := goodIn_app (goodIn_of _ (by decide +kernel)) ggL_law_X6_missShare
set_option maxRecDepth 20000 in
theorem ggL_law_X5_digest : GoodIn wsL_law wsX5_digest := goodIn_ca (goodIn_ca (goodIn_r _ [840, 841, 16, 295, 29, 511, 512, 842, 695, 696, 2, 697, 103, 104, 99, 179, 698, 699, 700, 701, 246, 702, 204, 25, 624, 265, 266, 267, 15, 268, 120, 41, 269, 212, 213, 39, 214, 49, 48, 703, 704, 705, 706, 42, 707, 642, 643, 644, 365, 641, 843, 844, 845, 846, 847, 848, 849, 850, 660, 851, 637, 638, 639, 640, 205, 206, 207, 208, 209, 210, 100, 101, 102, 211, 852, 853, 854, 855, 766, 342, 343, 344, 119, 40, 345, 346, 347, 348, 43, 122, 349, 350, 135, 351, 856, 775, 776, 777, 21, 778, 247, 248, 249, 779, 322, 323, 20, 324, 325, 58, 326, 327, 328, 329, 330, 331, 332, 333, 334, 335, 857, 739, 740, 741, 17, 742, 116, 117, 118, 121, 34, 123, 124, 36, 125, 126, 127, 128, 129, 130, 131, 132, 133, 134, 136, 137, 316, 317, 318, 319, 320, 321, 336, 337, 338, 339, 59, 61, 340, 341, 352, 353, 354, 355, 356, 357, 358, 359, 360, 361, 362, 363, 364, 366, 51, 52, 53, 367, 368, 369, 370, 371, 372, 373, 374, 375, 376, 377, 378, 379, 380, 381, 50, 382, 383, 384, 385, 386, 387, 388, 389, 390, 391, 392, 393, 394, 395, 396, 397, 398, 399, 400, 401, 402, 403, 404, 858, 789, 790, 791, 792, 793, 794, 795, 796, 491, 492, 493, 494, 495, 184, 185, 186, 187, 859, 806, 807, 808, 809, 810, 811, 812, 860, 826, 827, 828, 861, 862, 863, 864, 865, 866, 894, 895, 896, 897, 898, 914, 915, 916, 917, 918, 919, 920, 921, 922, 923, 924, 925, 931, 932, 933, 934, 935, 936, 929, 930, 937, 938, 926, 927, 928] (by decide +kernel) (by decide +kernel)) (goodIn_sub (fun _ h => List.mem_append_left _ (List.mem_append_right _ h)) (by decide +kernel))) (goodIn_sub (fun _ h => List.mem_append_right _ h) (by decide +kernel))
set_option maxRecDepth 20000 in
theorem gL_law_X5_digest : GoodIn wsL_law (wsV RL 177 RX5 yX5_digest wsX5_digest) := goodIn_app (goodIn_of _ (by decide +kernel)) ggL_law_X5_digest
set_option maxRecDepth 20000 in
theorem ggL_law_X6_digest : GoodIn wsL_law wsX6_digest := goodIn_r _ [870, 146, 871, 872, 79, 517, 81, 712, 713, 714, 5, 715, 163, 275, 276, 277, 278, 279, 280, 281, 282, 716, 717, 718, 719, 257, 258, 259, 260, 720, 721, 722, 723, 224, 225, 226, 227, 873, 874, 875, 876, 877, 649, 650, 651, 652, 440, 441, 442, 443, 878, 879, 880, 881, 428, 429, 430, 431, 432, 433, 434, 435, 436, 437, 438, 439, 444, 445, 446, 784, 785, 786, 787, 82, 420, 421, 422, 423, 424, 425, 426, 427, 447, 448, 449, 450, 747, 748, 749, 750, 751, 752, 753, 754, 86, 412, 413, 414, 415, 416, 417, 418, 419, 451, 452, 453, 454, 83, 455, 456, 457, 458, 84, 459, 460, 461, 462, 463, 464, 465, 466, 467, 468, 469, 470, 471, 472, 473, 474, 475, 476, 477, 478, 479, 480, 481, 482, 483, 484, 485, 486, 755, 756, 757, 758, 801, 802, 803, 804, 500, 501, 502, 503, 283, 284, 285, 286, 817, 818, 819, 820, 821, 822, 823, 824, 833, 834, 835, 836, 882, 883, 884, 885, 886, 887, 888, 889, 890, 891, 892, 893, 899, 900, 901, 902, 903, 904, 905, 906, 907, 908, 909, 910, 911, 912, 913] (by decide +kernel) (by decide +kernel)
set_option maxRecDepth 20000 in
theorem gL_law_X6_digest : GoodIn wsL_law (wsV RL 181 RX6 yX6_digest wsX6_digest) := goodIn_app (goodIn_of _ (by decide +kernel)) ggL_law_X6_digest
theorem dL_law_0 : decode cL_law 0 = .ok (.new 8, 3) := by decide +kernel
theorem dL_law_3 : decode cL_law 3 = .ok (.dup, 1) := by decide +kernel
theorem dL_law_4 : decode cL_law 4 = .ok (.invokespecial 77, 3) := by decide +kernel
theorem dL_law_7 : decode cL_law 7 = .ok (.astore_n 1, 1) := by decide +kernel
theorem dL_law_8 : decode cL_law 8 = .ok (.new 78, 3) := by decide +kernel
theorem dL_law_11 : decode cL_law 11 = .ok (.dup, 1) := by decide +kernel
theorem dL_law_12 : decode cL_law 12 = .ok (.invokespecial 80, 3) := by decide +kernel
theorem dL_law_15 : decode cL_law 15 = .ok (.astore_n 2, 1) := by decide +kernel
theorem dL_law_16 : decode cL_law 16 = .ok (.iconst 1, 1) := by decide +kernel
theorem dL_law_17 : decode cL_law 17 = .ok (.newarray .long, 2) := by decide +kernel
theorem dL_law_19 : decode cL_law 19 = .ok (.astore_n 3, 1) := by decide +kernel
theorem dL_law_20 : decode cL_law 20 = .ok (.iconst 0, 1) := by decide +kernel
theorem dL_law_21 : decode cL_law 21 = .ok (.istore 4, 2) := by decide +kernel
theorem dL_law_23 : decode cL_law 23 = .ok (.iload 4, 2) := by decide +kernel
theorem dL_law_25 : decode cL_law 25 = .ok (.aload_n 0, 1) := by decide +kernel
theorem dL_law_26 : decode cL_law 26 = .ok (.arraylength, 1) := by decide +kernel
theorem dL_law_27 : decode cL_law 27 = .ok (.bipush 6, 2) := by decide +kernel
theorem dL_law_29 : decode cL_law 29 = .ok (.isub, 1) := by decide +kernel
theorem dL_law_30 : decode cL_law 30 = .ok (.if_icmp .gt 1505, 3) := by decide +kernel
theorem dL_law_33 : decode cL_law 33 = .ok (.aload_n 0, 1) := by decide +kernel
theorem dL_law_34 : decode cL_law 34 = .ok (.iload 4, 2) := by decide +kernel
theorem dL_law_36 : decode cL_law 36 = .ok (.iaload, 1) := by decide +kernel
theorem dL_law_37 : decode cL_law 37 = .ok (.bipush 31, 2) := by decide +kernel
theorem dL_law_39 : decode cL_law 39 = .ok (.iand, 1) := by decide +kernel
theorem dL_law_40 : decode cL_law 40 = .ok (.tableswitch 1489 0 26 #[124, 228, 296, 364, 444, 512, 525, 593, 649, 662, 718, 731, 744, 788, 832, 900, 968, 1036, 1104, 1160, 1216, 1284, 1352, 1408, 1421, 1434, 1475], 124) := by decide +kernel
theorem dL_law_164 : decode cL_law 164 = .ok (.aload_n 1, 1) := by decide +kernel
theorem dL_law_165 : decode cL_law 165 = .ok (.aload_n 0, 1) := by decide +kernel
theorem dL_law_166 : decode cL_law 166 = .ok (.iload 4, 2) := by decide +kernel
theorem dL_law_168 : decode cL_law 168 = .ok (.iconst 1, 1) := by decide +kernel
theorem dL_law_169 : decode cL_law 169 = .ok (.iadd, 1) := by decide +kernel
theorem dL_law_170 : decode cL_law 170 = .ok (.iaload, 1) := by decide +kernel
theorem dL_law_171 : decode cL_law 171 = .ok (.aload_n 0, 1) := by decide +kernel
theorem dL_law_172 : decode cL_law 172 = .ok (.iload 4, 2) := by decide +kernel
theorem dL_law_174 : decode cL_law 174 = .ok (.iconst 2, 1) := by decide +kernel
theorem dL_law_175 : decode cL_law 175 = .ok (.iadd, 1) := by decide +kernel
theorem dL_law_176 : decode cL_law 176 = .ok (.iaload, 1) := by decide +kernel
theorem dL_law_177 : decode cL_law 177 = .ok (.aload_n 0, 1) := by decide +kernel
theorem dL_law_178 : decode cL_law 178 = .ok (.iload 4, 2) := by decide +kernel
theorem dL_law_180 : decode cL_law 180 = .ok (.iconst 3, 1) := by decide +kernel
theorem dL_law_181 : decode cL_law 181 = .ok (.iadd, 1) := by decide +kernel
theorem dL_law_182 : decode cL_law 182 = .ok (.iaload, 1) := by decide +kernel
theorem dL_law_183 : decode cL_law 183 = .ok (.aload_n 0, 1) := by decide +kernel
theorem dL_law_184 : decode cL_law 184 = .ok (.iload 4, 2) := by decide +kernel
theorem dL_law_186 : decode cL_law 186 = .ok (.iconst 4, 1) := by decide +kernel
theorem dL_law_187 : decode cL_law 187 = .ok (.iadd, 1) := by decide +kernel
theorem dL_law_188 : decode cL_law 188 = .ok (.iaload, 1) := by decide +kernel
theorem dL_law_189 : decode cL_law 189 = .ok (.aload_n 0, 1) := by decide +kernel
theorem dL_law_190 : decode cL_law 190 = .ok (.iload 4, 2) := by decide +kernel
theorem dL_law_192 : decode cL_law 192 = .ok (.iconst 5, 1) := by decide +kernel
theorem dL_law_193 : decode cL_law 193 = .ok (.iadd, 1) := by decide +kernel
theorem dL_law_194 : decode cL_law 194 = .ok (.iaload, 1) := by decide +kernel
theorem dL_law_195 : decode cL_law 195 = .ok (.aload_n 3, 1) := by decide +kernel
theorem dL_law_196 : decode cL_law 196 = .ok (.invokestatic 81, 3) := by decide +kernel
theorem dL_law_199 : decode cL_law 199 = .ok (.istore 5, 2) := by decide +kernel
theorem dL_law_201 : decode cL_law 201 = .ok (.aload_n 2, 1) := by decide +kernel
theorem dL_law_202 : decode cL_law 202 = .ok (.aload_n 0, 1) := by decide +kernel
theorem dL_law_203 : decode cL_law 203 = .ok (.iload 4, 2) := by decide +kernel
theorem dL_law_205 : decode cL_law 205 = .ok (.iconst 1, 1) := by decide +kernel
theorem dL_law_206 : decode cL_law 206 = .ok (.iadd, 1) := by decide +kernel
theorem dL_law_207 : decode cL_law 207 = .ok (.iaload, 1) := by decide +kernel
theorem dL_law_208 : decode cL_law 208 = .ok (.aload_n 0, 1) := by decide +kernel
theorem dL_law_209 : decode cL_law 209 = .ok (.iload 4, 2) := by decide +kernel
theorem dL_law_211 : decode cL_law 211 = .ok (.iconst 2, 1) := by decide +kernel
