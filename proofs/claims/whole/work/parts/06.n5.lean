theorem dX6_look_44 : decode cX6_look 44 = .ok (.iconst 1, 1) := by decide +kernel
theorem dX6_look_45 : decode cX6_look 45 = .ok (.if_icmp .ne 60, 3) := by decide +kernel
theorem dX6_look_48 : decode cX6_look 48 = .ok (.aload_n 0, 1) := by decide +kernel
theorem dX6_look_49 : decode cX6_look 49 = .ok (.iload_n 1, 1) := by decide +kernel
theorem dX6_look_50 : decode cX6_look 50 = .ok (.iload_n 2, 1) := by decide +kernel
theorem dX6_look_51 : decode cX6_look 51 = .ok (.aload_n 0, 1) := by decide +kernel
theorem dX6_look_52 : decode cX6_look 52 = .ok (.getfield 7, 3) := by decide +kernel
theorem dX6_look_55 : decode cX6_look 55 = .ok (.iconst 1, 1) := by decide +kernel
theorem dX6_look_56 : decode cX6_look 56 = .ok (.iaload, 1) := by decide +kernel
theorem dX6_look_57 : decode cX6_look 57 = .ok (.ineg, 1) := by decide +kernel
theorem dX6_look_58 : decode cX6_look 58 = .ok (.invokevirtual 131, 3) := by decide +kernel
theorem dX6_look_61 : decode cX6_look 61 = .ok (.aload_n 0, 1) := by decide +kernel
theorem dX6_look_62 : decode cX6_look 62 = .ok (.getfield 7, 3) := by decide +kernel
theorem dX6_look_65 : decode cX6_look 65 = .ok (.bipush 12, 2) := by decide +kernel
theorem dX6_look_67 : decode cX6_look 67 = .ok (.bipush 8, 2) := by decide +kernel
theorem dX6_look_69 : decode cX6_look 69 = .ok (.iload_n 2, 1) := by decide +kernel
theorem dX6_look_70 : decode cX6_look 70 = .ok (.imul, 1) := by decide +kernel
theorem dX6_look_71 : decode cX6_look 71 = .ok (.iadd, 1) := by decide +kernel
theorem dX6_look_72 : decode cX6_look 72 = .ok (.bipush 7, 2) := by decide +kernel
theorem dX6_look_74 : decode cX6_look 74 = .ok (.iadd, 1) := by decide +kernel
theorem dX6_look_75 : decode cX6_look 75 = .ok (.dup2, 1) := by decide +kernel
theorem dX6_look_76 : decode cX6_look 76 = .ok (.iaload, 1) := by decide +kernel
theorem dX6_look_77 : decode cX6_look 77 = .ok (.iconst 1, 1) := by decide +kernel
theorem dX6_look_78 : decode cX6_look 78 = .ok (.iadd, 1) := by decide +kernel
theorem dX6_look_79 : decode cX6_look 79 = .ok (.iastore, 1) := by decide +kernel
theorem dX6_look_80 : decode cX6_look 80 = .ok (.aload_n 0, 1) := by decide +kernel
theorem dX6_look_81 : decode cX6_look 81 = .ok (.getfield 7, 3) := by decide +kernel
theorem dX6_look_84 : decode cX6_look 84 = .ok (.sipush 196, 3) := by decide +kernel
theorem dX6_look_87 : decode cX6_look 87 = .ok (.iconst 5, 1) := by decide +kernel
theorem dX6_look_88 : decode cX6_look 88 = .ok (.iload_n 1, 1) := by decide +kernel
theorem dX6_look_89 : decode cX6_look 89 = .ok (.imul, 1) := by decide +kernel
theorem dX6_look_90 : decode cX6_look 90 = .ok (.iadd, 1) := by decide +kernel
theorem dX6_look_91 : decode cX6_look 91 = .ok (.iconst 4, 1) := by decide +kernel
theorem dX6_look_92 : decode cX6_look 92 = .ok (.iadd, 1) := by decide +kernel
theorem dX6_look_93 : decode cX6_look 93 = .ok (.dup2, 1) := by decide +kernel
theorem dX6_look_94 : decode cX6_look 94 = .ok (.iaload, 1) := by decide +kernel
theorem dX6_look_95 : decode cX6_look 95 = .ok (.iconst 1, 1) := by decide +kernel
theorem dX6_look_96 : decode cX6_look 96 = .ok (.iadd, 1) := by decide +kernel
theorem dX6_look_97 : decode cX6_look 97 = .ok (.iastore, 1) := by decide +kernel
theorem dX6_look_98 : decode cX6_look 98 = .ok (.aload_n 0, 1) := by decide +kernel
theorem dX6_look_99 : decode cX6_look 99 = .ok (.getfield 22, 3) := by decide +kernel
theorem dX6_look_102 : decode cX6_look 102 = .ok (.iload_n 1, 1) := by decide +kernel
theorem dX6_look_103 : decode cX6_look 103 = .ok (.iconst (-1), 1) := by decide +kernel
theorem dX6_look_104 : decode cX6_look 104 = .ok (.iastore, 1) := by decide +kernel
theorem dX6_look_105 : decode cX6_look 105 = .ok (.return_, 1) := by decide +kernel
set_option maxRecDepth 20000 in
theorem ggX6_lay_X6_go : GoodIn wsX6_lay wsX6_go := goodIn_r _ [9, 3, 10, 11, 8, 12, 13, 14, 15, 16, 17, 18, 19, 20, 21, 22, 23, 24, 25, 26, 27] (by decide +kernel) (by decide +kernel)
set_option maxRecDepth 20000 in
theorem gX6_lay_X6_go : GoodIn wsX6_lay (wsV RX6 124 RX6 yX6_go wsX6_go) := goodIn_app (goodIn_of _ (by decide +kernel)) ggX6_lay_X6_go
theorem dX6_lay_0 : decode cX6_lay 0 = .ok (.aload_n 0, 1) := by decide +kernel
theorem dX6_lay_1 : decode cX6_lay 1 = .ok (.getfield 22, 3) := by decide +kernel
theorem dX6_lay_4 : decode cX6_lay 4 = .ok (.iload_n 1, 1) := by decide +kernel
theorem dX6_lay_5 : decode cX6_lay 5 = .ok (.iaload, 1) := by decide +kernel
theorem dX6_lay_6 : decode cX6_lay 6 = .ok (.iconst (-1), 1) := by decide +kernel
theorem dX6_lay_7 : decode cX6_lay 7 = .ok (.if_icmp .ne 5, 3) := by decide +kernel
theorem dX6_lay_10 : decode cX6_lay 10 = .ok (.iconst 0, 1) := by decide +kernel
theorem dX6_lay_11 : decode cX6_lay 11 = .ok (.ireturn, 1) := by decide +kernel
theorem dX6_lay_12 : decode cX6_lay 12 = .ok (.bipush 76, 2) := by decide +kernel
theorem dX6_lay_14 : decode cX6_lay 14 = .ok (.iconst 5, 1) := by decide +kernel
theorem dX6_lay_15 : decode cX6_lay 15 = .ok (.aload_n 0, 1) := by decide +kernel
theorem dX6_lay_16 : decode cX6_lay 16 = .ok (.getfield 19, 3) := by decide +kernel
theorem dX6_lay_19 : decode cX6_lay 19 = .ok (.iload_n 1, 1) := by decide +kernel
theorem dX6_lay_20 : decode cX6_lay 20 = .ok (.iaload, 1) := by decide +kernel
theorem dX6_lay_21 : decode cX6_lay 21 = .ok (.imul, 1) := by decide +kernel
theorem dX6_lay_22 : decode cX6_lay 22 = .ok (.iadd, 1) := by decide +kernel
theorem dX6_lay_23 : decode cX6_lay 23 = .ok (.istore_n 2, 1) := by decide +kernel
theorem dX6_lay_24 : decode cX6_lay 24 = .ok (.aload_n 0, 1) := by decide +kernel
theorem dX6_lay_25 : decode cX6_lay 25 = .ok (.aload_n 0, 1) := by decide +kernel
theorem dX6_lay_26 : decode cX6_lay 26 = .ok (.getfield 7, 3) := by decide +kernel
theorem dX6_lay_29 : decode cX6_lay 29 = .ok (.iload_n 2, 1) := by decide +kernel
theorem dX6_lay_30 : decode cX6_lay 30 = .ok (.iconst 0, 1) := by decide +kernel
theorem dX6_lay_31 : decode cX6_lay 31 = .ok (.iadd, 1) := by decide +kernel
theorem dX6_lay_32 : decode cX6_lay 32 = .ok (.iaload, 1) := by decide +kernel
theorem dX6_lay_33 : decode cX6_lay 33 = .ok (.iconst 1, 1) := by decide +kernel
theorem dX6_lay_34 : decode cX6_lay 34 = .ok (.invokevirtual 124, 3) := by decide +kernel
theorem dX6_lay_37 : decode cX6_lay 37 = .ok (.aload_n 0, 1) := by decide +kernel
theorem dX6_lay_38 : decode cX6_lay 38 = .ok (.getfield 7, 3) := by decide +kernel
theorem dX6_lay_41 : decode cX6_lay 41 = .ok (.iload_n 2, 1) := by decide +kernel
theorem dX6_lay_42 : decode cX6_lay 42 = .ok (.iconst 2, 1) := by decide +kernel
theorem dX6_lay_43 : decode cX6_lay 43 = .ok (.iadd, 1) := by decide +kernel
theorem dX6_lay_44 : decode cX6_lay 44 = .ok (.aload_n 0, 1) := by decide +kernel
theorem dX6_lay_45 : decode cX6_lay 45 = .ok (.getfield 25, 3) := by decide +kernel
theorem dX6_lay_48 : decode cX6_lay 48 = .ok (.iload_n 1, 1) := by decide +kernel
theorem dX6_lay_49 : decode cX6_lay 49 = .ok (.iaload, 1) := by decide +kernel
theorem dX6_lay_50 : decode cX6_lay 50 = .ok (.iconst 1, 1) := by decide +kernel
theorem dX6_lay_51 : decode cX6_lay 51 = .ok (.if_icmp .ne 7, 3) := by decide +kernel
theorem dX6_lay_54 : decode cX6_lay 54 = .ok (.iconst 2, 1) := by decide +kernel
theorem dX6_lay_55 : decode cX6_lay 55 = .ok (.goto 4, 3) := by decide +kernel
theorem dX6_lay_58 : decode cX6_lay 58 = .ok (.iconst 1, 1) := by decide +kernel
theorem dX6_lay_59 : decode cX6_lay 59 = .ok (.iastore, 1) := by decide +kernel
theorem dX6_lay_60 : decode cX6_lay 60 = .ok (.aload_n 0, 1) := by decide +kernel
theorem dX6_lay_61 : decode cX6_lay 61 = .ok (.getfield 7, 3) := by decide +kernel
theorem dX6_lay_64 : decode cX6_lay 64 = .ok (.iload_n 2, 1) := by decide +kernel
theorem dX6_lay_65 : decode cX6_lay 65 = .ok (.iconst 3, 1) := by decide +kernel
theorem dX6_lay_66 : decode cX6_lay 66 = .ok (.iadd, 1) := by decide +kernel
theorem dX6_lay_67 : decode cX6_lay 67 = .ok (.iload_n 1, 1) := by decide +kernel
theorem dX6_lay_68 : decode cX6_lay 68 = .ok (.iastore, 1) := by decide +kernel
theorem dX6_lay_69 : decode cX6_lay 69 = .ok (.aload_n 0, 1) := by decide +kernel
theorem dX6_lay_70 : decode cX6_lay 70 = .ok (.getfield 7, 3) := by decide +kernel
theorem dX6_lay_73 : decode cX6_lay 73 = .ok (.iload_n 2, 1) := by decide +kernel
theorem dX6_lay_74 : decode cX6_lay 74 = .ok (.iconst 4, 1) := by decide +kernel
theorem dX6_lay_75 : decode cX6_lay 75 = .ok (.iadd, 1) := by decide +kernel
theorem dX6_lay_76 : decode cX6_lay 76 = .ok (.aload_n 0, 1) := by decide +kernel
theorem dX6_lay_77 : decode cX6_lay 77 = .ok (.getfield 22, 3) := by decide +kernel
theorem dX6_lay_80 : decode cX6_lay 80 = .ok (.iload_n 1, 1) := by decide +kernel
theorem dX6_lay_81 : decode cX6_lay 81 = .ok (.iaload, 1) := by decide +kernel
theorem dX6_lay_82 : decode cX6_lay 82 = .ok (.iastore, 1) := by decide +kernel
theorem dX6_lay_83 : decode cX6_lay 83 = .ok (.aload_n 0, 1) := by decide +kernel
theorem dX6_lay_84 : decode cX6_lay 84 = .ok (.getfield 7, 3) := by decide +kernel
theorem dX6_lay_87 : decode cX6_lay 87 = .ok (.sipush 196, 3) := by decide +kernel
theorem dX6_lay_90 : decode cX6_lay 90 = .ok (.iconst 5, 1) := by decide +kernel
theorem dX6_lay_91 : decode cX6_lay 91 = .ok (.iload_n 1, 1) := by decide +kernel
theorem dX6_lay_92 : decode cX6_lay 92 = .ok (.imul, 1) := by decide +kernel
theorem dX6_lay_93 : decode cX6_lay 93 = .ok (.iadd, 1) := by decide +kernel
theorem dX6_lay_94 : decode cX6_lay 94 = .ok (.iconst 3, 1) := by decide +kernel
theorem dX6_lay_95 : decode cX6_lay 95 = .ok (.iadd, 1) := by decide +kernel
theorem dX6_lay_96 : decode cX6_lay 96 = .ok (.dup2, 1) := by decide +kernel
theorem dX6_lay_97 : decode cX6_lay 97 = .ok (.iaload, 1) := by decide +kernel
theorem dX6_lay_98 : decode cX6_lay 98 = .ok (.iconst 1, 1) := by decide +kernel
theorem dX6_lay_99 : decode cX6_lay 99 = .ok (.iadd, 1) := by decide +kernel
theorem dX6_lay_100 : decode cX6_lay 100 = .ok (.iastore, 1) := by decide +kernel
theorem dX6_lay_101 : decode cX6_lay 101 = .ok (.iconst 1, 1) := by decide +kernel
theorem dX6_lay_102 : decode cX6_lay 102 = .ok (.ireturn, 1) := by decide +kernel
set_option maxRecDepth 20000 in
theorem ggX6_gossip_X6_trustOf : GoodIn wsX6_gossip wsX6_trustOf := goodIn_r _ [6, 1, 11, 12, 13, 14, 15, 16, 17, 18, 19, 20, 21, 22, 23, 24, 25] (by decide +kernel) (by decide +kernel)
set_option maxRecDepth 20000 in
theorem gX6_gossip_X6_trustOf : GoodIn wsX6_gossip (wsV RX6 41 RX6 yX6_trustOf wsX6_trustOf) := goodIn_app (goodIn_of _ (by decide +kernel)) ggX6_gossip_X6_trustOf
set_option maxRecDepth 20000 in
theorem ggX6_gossip_X6_trustMore : GoodIn wsX6_gossip wsX6_trustMore := goodIn_r _ [10, 1, 2, 3, 4, 5, 6, 11, 12, 13, 14, 15, 16, 17, 18, 19, 20, 21, 22, 23, 24, 25] (by decide +kernel) (by decide +kernel)
set_option maxRecDepth 20000 in
theorem gX6_gossip_X6_trustMore : GoodIn wsX6_gossip (wsV RX6 131 RX6 yX6_trustMore wsX6_trustMore) := goodIn_app (goodIn_of _ (by decide +kernel)) ggX6_gossip_X6_trustMore
theorem dX6_gossip_0 : decode cX6_gossip 0 = .ok (.iconst 0, 1) := by decide +kernel
theorem dX6_gossip_1 : decode cX6_gossip 1 = .ok (.istore_n 2, 1) := by decide +kernel
theorem dX6_gossip_2 : decode cX6_gossip 2 = .ok (.iload_n 2, 1) := by decide +kernel
theorem dX6_gossip_3 : decode cX6_gossip 3 = .ok (.aload_n 0, 1) := by decide +kernel
theorem dX6_gossip_4 : decode cX6_gossip 4 = .ok (.getfield 7, 3) := by decide +kernel
theorem dX6_gossip_7 : decode cX6_gossip 7 = .ok (.iconst 5, 1) := by decide +kernel
theorem dX6_gossip_8 : decode cX6_gossip 8 = .ok (.iaload, 1) := by decide +kernel
theorem dX6_gossip_9 : decode cX6_gossip 9 = .ok (.if_icmp .ge 53, 3) := by decide +kernel
theorem dX6_gossip_12 : decode cX6_gossip 12 = .ok (.aload_n 0, 1) := by decide +kernel
theorem dX6_gossip_13 : decode cX6_gossip 13 = .ok (.iload_n 1, 1) := by decide +kernel
theorem dX6_gossip_14 : decode cX6_gossip 14 = .ok (.iconst 1, 1) := by decide +kernel
theorem dX6_gossip_15 : decode cX6_gossip 15 = .ok (.iadd, 1) := by decide +kernel
theorem dX6_gossip_16 : decode cX6_gossip 16 = .ok (.iload_n 2, 1) := by decide +kernel
theorem dX6_gossip_17 : decode cX6_gossip 17 = .ok (.invokevirtual 41, 3) := by decide +kernel
theorem dX6_gossip_20 : decode cX6_gossip 20 = .ok (.aload_n 0, 1) := by decide +kernel
theorem dX6_gossip_21 : decode cX6_gossip 21 = .ok (.iload_n 1, 1) := by decide +kernel
theorem dX6_gossip_22 : decode cX6_gossip 22 = .ok (.iload_n 2, 1) := by decide +kernel
theorem dX6_gossip_23 : decode cX6_gossip 23 = .ok (.invokevirtual 41, 3) := by decide +kernel
theorem dX6_gossip_26 : decode cX6_gossip 26 = .ok (.isub, 1) := by decide +kernel
theorem dX6_gossip_27 : decode cX6_gossip 27 = .ok (.aload_n 0, 1) := by decide +kernel
theorem dX6_gossip_28 : decode cX6_gossip 28 = .ok (.getfield 7, 3) := by decide +kernel
theorem dX6_gossip_31 : decode cX6_gossip 31 = .ok (.iconst 4, 1) := by decide +kernel
theorem dX6_gossip_32 : decode cX6_gossip 32 = .ok (.iaload, 1) := by decide +kernel
theorem dX6_gossip_33 : decode cX6_gossip 33 = .ok (.imul, 1) := by decide +kernel
theorem dX6_gossip_34 : decode cX6_gossip 34 = .ok (.sipush 200, 3) := by decide +kernel
theorem dX6_gossip_37 : decode cX6_gossip 37 = .ok (.idiv, 1) := by decide +kernel
theorem dX6_gossip_38 : decode cX6_gossip 38 = .ok (.istore_n 3, 1) := by decide +kernel
theorem dX6_gossip_39 : decode cX6_gossip 39 = .ok (.aload_n 0, 1) := by decide +kernel
theorem dX6_gossip_40 : decode cX6_gossip 40 = .ok (.iload_n 1, 1) := by decide +kernel
theorem dX6_gossip_41 : decode cX6_gossip 41 = .ok (.iload_n 2, 1) := by decide +kernel
theorem dX6_gossip_42 : decode cX6_gossip 42 = .ok (.iload_n 3, 1) := by decide +kernel
theorem dX6_gossip_43 : decode cX6_gossip 43 = .ok (.invokevirtual 131, 3) := by decide +kernel
theorem dX6_gossip_46 : decode cX6_gossip 46 = .ok (.aload_n 0, 1) := by decide +kernel
theorem dX6_gossip_47 : decode cX6_gossip 47 = .ok (.iload_n 1, 1) := by decide +kernel
theorem dX6_gossip_48 : decode cX6_gossip 48 = .ok (.iconst 1, 1) := by decide +kernel
theorem dX6_gossip_49 : decode cX6_gossip 49 = .ok (.iadd, 1) := by decide +kernel
theorem dX6_gossip_50 : decode cX6_gossip 50 = .ok (.iload_n 2, 1) := by decide +kernel
theorem dX6_gossip_51 : decode cX6_gossip 51 = .ok (.iload_n 3, 1) := by decide +kernel
theorem dX6_gossip_52 : decode cX6_gossip 52 = .ok (.ineg, 1) := by decide +kernel
theorem dX6_gossip_53 : decode cX6_gossip 53 = .ok (.invokevirtual 131, 3) := by decide +kernel
theorem dX6_gossip_56 : decode cX6_gossip 56 = .ok (.iinc 2 1, 3) := by decide +kernel
theorem dX6_gossip_59 : decode cX6_gossip 59 = .ok (.goto (-57), 3) := by decide +kernel
theorem dX6_gossip_62 : decode cX6_gossip 62 = .ok (.return_, 1) := by decide +kernel
set_option maxRecDepth 20000 in
theorem ggX6_tourOnce_X6_layAims : GoodIn wsX6_tourOnce wsX6_layAims := goodIn_r _ [6, 7, 8, 9, 10, 5, 11, 1, 12, 13, 14, 15, 16, 17, 18, 19, 20, 21, 22, 23, 24, 25, 26, 27, 28, 29, 30, 31, 32, 33, 34, 35, 36, 37, 38, 39, 40, 41, 42, 43, 44, 45, 46, 85, 86, 87, 88, 89, 90, 91, 92, 93, 94, 95, 96, 97, 98, 99] (by decide +kernel) (by decide +kernel)
set_option maxRecDepth 20000 in
theorem gX6_tourOnce_X6_layAims : GoodIn wsX6_tourOnce (wsV RX6 138 RX6 yX6_layAims wsX6_layAims) := goodIn_app (goodIn_of _ (by decide +kernel)) ggX6_tourOnce_X6_layAims
set_option maxRecDepth 20000 in
theorem ggX6_tourOnce_X6_pick : GoodIn wsX6_tourOnce wsX6_pick := goodIn_r _ [50, 51, 7, 1, 12, 13, 14, 5, 15, 20, 21, 22, 23, 24, 25, 26, 27, 28, 29, 30, 31, 32, 33, 34, 35, 36, 37, 38, 39, 40, 41, 42, 52, 53, 54, 55, 56, 57, 58, 59, 60, 61, 62, 63, 64, 65, 66, 67, 68, 69, 70, 71, 72, 85, 86, 87, 88, 89, 90, 91, 92, 93, 94, 95, 96, 97, 98, 99] (by decide +kernel) (by decide +kernel)
set_option maxRecDepth 20000 in
theorem gX6_tourOnce_X6_pick : GoodIn wsX6_tourOnce (wsV RX6 141 RX6 yX6_pick wsX6_pick) := goodIn_app (goodIn_of _ (by decide +kernel)) ggX6_tourOnce_X6_pick
set_option maxRecDepth 20000 in
theorem ggX6_tourOnce_X6_look : GoodIn wsX6_tourOnce wsX6_look := goodIn_r _ [76, 51, 1, 56, 61, 62, 63, 5, 64, 65, 66, 67, 68, 69, 70, 71, 72, 36, 37, 38, 39, 85, 86, 87, 88, 89, 90, 91, 92, 93, 94, 95, 96, 97, 98, 99] (by decide +kernel) (by decide +kernel)
set_option maxRecDepth 20000 in
theorem gX6_tourOnce_X6_look : GoodIn wsX6_tourOnce (wsV RX6 144 RX6 yX6_look wsX6_look) := goodIn_app (goodIn_of _ (by decide +kernel)) ggX6_tourOnce_X6_look
set_option maxRecDepth 20000 in
theorem ggX6_tourOnce_X6_lay : GoodIn wsX6_tourOnce wsX6_lay := goodIn_r _ [80, 51, 7, 1, 56, 57, 58, 59, 5, 60, 40, 41, 42, 85, 86, 87, 88, 89, 90, 91, 92, 93, 94, 95, 96, 97, 98, 99] (by decide +kernel) (by decide +kernel)
set_option maxRecDepth 20000 in
theorem gX6_tourOnce_X6_lay : GoodIn wsX6_tourOnce (wsV RX6 147 RX6 yX6_lay wsX6_lay) := goodIn_app (goodIn_of _ (by decide +kernel)) ggX6_tourOnce_X6_lay
set_option maxRecDepth 20000 in
theorem ggX6_tourOnce_X6_gossip : GoodIn wsX6_tourOnce wsX6_gossip := goodIn_r _ [84, 1, 36, 37, 38, 5, 39, 69, 70, 71, 72, 85, 86, 87, 88, 89, 90, 91, 92, 93, 94, 95, 96, 97, 98, 99] (by decide +kernel) (by decide +kernel)
set_option maxRecDepth 20000 in
theorem gX6_tourOnce_X6_gossip : GoodIn wsX6_tourOnce (wsV RX6 150 RX6 yX6_gossip wsX6_gossip) := goodIn_app (goodIn_of _ (by decide +kernel)) ggX6_tourOnce_X6_gossip
theorem dX6_tourOnce_0 : decode cX6_tourOnce 0 = .ok (.aload_n 0, 1) := by decide +kernel
theorem dX6_tourOnce_1 : decode cX6_tourOnce 1 = .ok (.invokevirtual 138, 3) := by decide +kernel
theorem dX6_tourOnce_4 : decode cX6_tourOnce 4 = .ok (.iconst 0, 1) := by decide +kernel
theorem dX6_tourOnce_5 : decode cX6_tourOnce 5 = .ok (.istore_n 1, 1) := by decide +kernel
theorem dX6_tourOnce_6 : decode cX6_tourOnce 6 = .ok (.iload_n 1, 1) := by decide +kernel
theorem dX6_tourOnce_7 : decode cX6_tourOnce 7 = .ok (.iconst 4, 1) := by decide +kernel
theorem dX6_tourOnce_8 : decode cX6_tourOnce 8 = .ok (.if_icmp .ge 14, 3) := by decide +kernel
theorem dX6_tourOnce_11 : decode cX6_tourOnce 11 = .ok (.aload_n 0, 1) := by decide +kernel
theorem dX6_tourOnce_12 : decode cX6_tourOnce 12 = .ok (.iload_n 1, 1) := by decide +kernel
theorem dX6_tourOnce_13 : decode cX6_tourOnce 13 = .ok (.invokevirtual 141, 3) := by decide +kernel
theorem dX6_tourOnce_16 : decode cX6_tourOnce 16 = .ok (.iinc 1 1, 3) := by decide +kernel
theorem dX6_tourOnce_19 : decode cX6_tourOnce 19 = .ok (.goto (-13), 3) := by decide +kernel
theorem dX6_tourOnce_22 : decode cX6_tourOnce 22 = .ok (.iconst 0, 1) := by decide +kernel
theorem dX6_tourOnce_23 : decode cX6_tourOnce 23 = .ok (.istore_n 1, 1) := by decide +kernel
theorem dX6_tourOnce_24 : decode cX6_tourOnce 24 = .ok (.iload_n 1, 1) := by decide +kernel
theorem dX6_tourOnce_25 : decode cX6_tourOnce 25 = .ok (.iconst 4, 1) := by decide +kernel
theorem dX6_tourOnce_26 : decode cX6_tourOnce 26 = .ok (.if_icmp .ge 14, 3) := by decide +kernel
theorem dX6_tourOnce_29 : decode cX6_tourOnce 29 = .ok (.aload_n 0, 1) := by decide +kernel
theorem dX6_tourOnce_30 : decode cX6_tourOnce 30 = .ok (.iload_n 1, 1) := by decide +kernel
theorem dX6_tourOnce_31 : decode cX6_tourOnce 31 = .ok (.invokevirtual 144, 3) := by decide +kernel
theorem dX6_tourOnce_34 : decode cX6_tourOnce 34 = .ok (.iinc 1 1, 3) := by decide +kernel
theorem dX6_tourOnce_37 : decode cX6_tourOnce 37 = .ok (.goto (-13), 3) := by decide +kernel
theorem dX6_tourOnce_40 : decode cX6_tourOnce 40 = .ok (.iconst 0, 1) := by decide +kernel
theorem dX6_tourOnce_41 : decode cX6_tourOnce 41 = .ok (.istore_n 1, 1) := by decide +kernel
theorem dX6_tourOnce_42 : decode cX6_tourOnce 42 = .ok (.iconst 0, 1) := by decide +kernel
theorem dX6_tourOnce_43 : decode cX6_tourOnce 43 = .ok (.istore_n 2, 1) := by decide +kernel
theorem dX6_tourOnce_44 : decode cX6_tourOnce 44 = .ok (.iload_n 2, 1) := by decide +kernel
theorem dX6_tourOnce_45 : decode cX6_tourOnce 45 = .ok (.iconst 4, 1) := by decide +kernel
theorem dX6_tourOnce_46 : decode cX6_tourOnce 46 = .ok (.if_icmp .ge 19, 3) := by decide +kernel
theorem dX6_tourOnce_49 : decode cX6_tourOnce 49 = .ok (.aload_n 0, 1) := by decide +kernel
theorem dX6_tourOnce_50 : decode cX6_tourOnce 50 = .ok (.iload_n 2, 1) := by decide +kernel
theorem dX6_tourOnce_51 : decode cX6_tourOnce 51 = .ok (.invokevirtual 147, 3) := by decide +kernel
theorem dX6_tourOnce_54 : decode cX6_tourOnce 54 = .ok (.istore_n 3, 1) := by decide +kernel
theorem dX6_tourOnce_55 : decode cX6_tourOnce 55 = .ok (.iload_n 1, 1) := by decide +kernel
theorem dX6_tourOnce_56 : decode cX6_tourOnce 56 = .ok (.iload_n 3, 1) := by decide +kernel
theorem dX6_tourOnce_57 : decode cX6_tourOnce 57 = .ok (.iadd, 1) := by decide +kernel
theorem dX6_tourOnce_58 : decode cX6_tourOnce 58 = .ok (.istore_n 1, 1) := by decide +kernel
theorem dX6_tourOnce_59 : decode cX6_tourOnce 59 = .ok (.iinc 2 1, 3) := by decide +kernel
theorem dX6_tourOnce_62 : decode cX6_tourOnce 62 = .ok (.goto (-18), 3) := by decide +kernel
theorem dX6_tourOnce_65 : decode cX6_tourOnce 65 = .ok (.iconst 0, 1) := by decide +kernel
theorem dX6_tourOnce_66 : decode cX6_tourOnce 66 = .ok (.istore_n 2, 1) := by decide +kernel
theorem dX6_tourOnce_67 : decode cX6_tourOnce 67 = .ok (.iload_n 2, 1) := by decide +kernel
theorem dX6_tourOnce_68 : decode cX6_tourOnce 68 = .ok (.iconst 3, 1) := by decide +kernel
theorem dX6_tourOnce_69 : decode cX6_tourOnce 69 = .ok (.if_icmp .ge 14, 3) := by decide +kernel
theorem dX6_tourOnce_72 : decode cX6_tourOnce 72 = .ok (.aload_n 0, 1) := by decide +kernel
theorem dX6_tourOnce_73 : decode cX6_tourOnce 73 = .ok (.iload_n 2, 1) := by decide +kernel
theorem dX6_tourOnce_74 : decode cX6_tourOnce 74 = .ok (.invokevirtual 150, 3) := by decide +kernel
theorem dX6_tourOnce_77 : decode cX6_tourOnce 77 = .ok (.iinc 2 1, 3) := by decide +kernel
theorem dX6_tourOnce_80 : decode cX6_tourOnce 80 = .ok (.goto (-13), 3) := by decide +kernel
theorem dX6_tourOnce_83 : decode cX6_tourOnce 83 = .ok (.aload_n 0, 1) := by decide +kernel
theorem dX6_tourOnce_84 : decode cX6_tourOnce 84 = .ok (.getfield 7, 3) := by decide +kernel
theorem dX6_tourOnce_87 : decode cX6_tourOnce 87 = .ok (.bipush 10, 2) := by decide +kernel
theorem dX6_tourOnce_89 : decode cX6_tourOnce 89 = .ok (.dup2, 1) := by decide +kernel
theorem dX6_tourOnce_90 : decode cX6_tourOnce 90 = .ok (.iaload, 1) := by decide +kernel
theorem dX6_tourOnce_91 : decode cX6_tourOnce 91 = .ok (.iconst 1, 1) := by decide +kernel
theorem dX6_tourOnce_92 : decode cX6_tourOnce 92 = .ok (.iadd, 1) := by decide +kernel
theorem dX6_tourOnce_93 : decode cX6_tourOnce 93 = .ok (.iastore, 1) := by decide +kernel
theorem dX6_tourOnce_94 : decode cX6_tourOnce 94 = .ok (.iload_n 1, 1) := by decide +kernel
theorem dX6_tourOnce_95 : decode cX6_tourOnce 95 = .ok (.ireturn, 1) := by decide +kernel
set_option maxRecDepth 20000 in
theorem ggX6_tours_X6_tourOnce : GoodIn wsX6_tours wsX6_tourOnce := goodIn_r _ [5, 6, 7, 8, 9, 4, 10, 11, 12, 13, 14, 15, 16, 17, 18, 19, 20, 21, 22, 23, 24, 25, 26, 27, 28, 29, 30, 31, 32, 33, 34, 35, 36, 37, 38, 39, 40, 41, 42, 43, 44, 45, 46, 47, 48, 49, 50, 51, 52, 53, 54, 55, 56, 57, 58, 59, 60, 61, 62, 63, 64, 65, 66, 67, 68, 69, 70, 71, 72, 73, 74, 75, 76, 77, 78, 79, 80, 81, 82, 83, 84, 85, 86, 87, 88, 89, 90, 91, 92, 93, 94, 95, 96, 97, 98, 99, 100, 101, 102, 103] (by decide +kernel) (by decide +kernel)
set_option maxRecDepth 20000 in
theorem gX6_tours_X6_tourOnce : GoodIn wsX6_tours (wsV RX6 153 RX6 yX6_tourOnce wsX6_tourOnce) := goodIn_app (goodIn_of _ (by decide +kernel)) ggX6_tours_X6_tourOnce
theorem dX6_tours_0 : decode cX6_tours 0 = .ok (.iconst 0, 1) := by decide +kernel
theorem dX6_tours_1 : decode cX6_tours 1 = .ok (.istore_n 2, 1) := by decide +kernel
theorem dX6_tours_2 : decode cX6_tours 2 = .ok (.iconst 0, 1) := by decide +kernel
theorem dX6_tours_3 : decode cX6_tours 3 = .ok (.istore_n 3, 1) := by decide +kernel
theorem dX6_tours_4 : decode cX6_tours 4 = .ok (.iload_n 3, 1) := by decide +kernel
theorem dX6_tours_5 : decode cX6_tours 5 = .ok (.iload_n 1, 1) := by decide +kernel
theorem dX6_tours_6 : decode cX6_tours 6 = .ok (.if_icmp .ge 20, 3) := by decide +kernel
theorem dX6_tours_9 : decode cX6_tours 9 = .ok (.aload_n 0, 1) := by decide +kernel
theorem dX6_tours_10 : decode cX6_tours 10 = .ok (.invokevirtual 153, 3) := by decide +kernel
theorem dX6_tours_13 : decode cX6_tours 13 = .ok (.istore 4, 2) := by decide +kernel
theorem dX6_tours_15 : decode cX6_tours 15 = .ok (.iload_n 2, 1) := by decide +kernel
theorem dX6_tours_16 : decode cX6_tours 16 = .ok (.iload 4, 2) := by decide +kernel
theorem dX6_tours_18 : decode cX6_tours 18 = .ok (.iadd, 1) := by decide +kernel
theorem dX6_tours_19 : decode cX6_tours 19 = .ok (.istore_n 2, 1) := by decide +kernel
theorem dX6_tours_20 : decode cX6_tours 20 = .ok (.iinc 3 1, 3) := by decide +kernel
theorem dX6_tours_23 : decode cX6_tours 23 = .ok (.goto (-19), 3) := by decide +kernel
theorem dX6_tours_26 : decode cX6_tours 26 = .ok (.iload_n 2, 1) := by decide +kernel
theorem dX6_tours_27 : decode cX6_tours 27 = .ok (.ireturn, 1) := by decide +kernel
set_option maxRecDepth 20000 in
theorem ggX6_areTimes_X6_within : GoodIn wsX6_areTimes wsX6_within := goodIn_r _ [4] (by decide +kernel) (by decide +kernel)
set_option maxRecDepth 20000 in
theorem gX6_areTimes_X6_within : GoodIn wsX6_areTimes (va_wsS RX6 45 yX6_within wsX6_within) := goodIn_app (goodIn_of _ (by decide +kernel)) ggX6_areTimes_X6_within
theorem dX6_areTimes_0 : decode cX6_areTimes 0 = .ok (.iload_n 0, 1) := by decide +kernel
theorem dX6_areTimes_1 : decode cX6_areTimes 1 = .ok (.iconst 1, 1) := by decide +kernel
theorem dX6_areTimes_2 : decode cX6_areTimes 2 = .ok (.bipush 20, 2) := by decide +kernel
theorem dX6_areTimes_4 : decode cX6_areTimes 4 = .ok (.invokestatic 45, 3) := by decide +kernel
theorem dX6_areTimes_7 : decode cX6_areTimes 7 = .ok (.ireturn, 1) := by decide +kernel
set_option maxRecDepth 20000 in
theorem ggX6_tour_X6_areTimes : GoodIn wsX6_tour wsX6_areTimes := goodIn_r _ [5, 6, 7, 4, 8] (by decide +kernel) (by decide +kernel)
set_option maxRecDepth 20000 in
theorem gX6_tour_X6_areTimes : GoodIn wsX6_tour (va_wsS RX6 157 yX6_areTimes wsX6_areTimes) := goodIn_app (goodIn_of _ (by decide +kernel)) ggX6_tour_X6_areTimes
set_option maxRecDepth 20000 in
theorem ggX6_tour_X6_save : GoodIn wsX6_tour wsX6_save := goodIn_r _ [12, 13, 14, 15, 106, 107, 108, 109, 110, 111, 112, 113, 114, 115, 116, 117, 118, 119, 120] (by decide +kernel) (by decide +kernel)
set_option maxRecDepth 20000 in
theorem gX6_tour_X6_save : GoodIn wsX6_tour (wsV RX6 59 RX6 yX6_save wsX6_save) := goodIn_app (goodIn_of _ (by decide +kernel)) ggX6_tour_X6_save
set_option maxRecDepth 20000 in
theorem ggX6_tour_X6_tours : GoodIn wsX6_tour wsX6_tours := goodIn_r _ [19, 20, 21, 22, 4, 23, 15, 24, 25, 26, 27, 28, 29, 30, 31, 32, 33, 34, 35, 36, 37, 38, 39, 40, 41, 42, 43, 44, 45, 46, 47, 48, 49, 50, 51, 52, 53, 54, 55, 56, 57, 58, 59, 60, 61, 62, 63, 64, 65, 66, 67, 68, 69, 70, 71, 72, 73, 74, 75, 76, 77, 78, 79, 80, 81, 82, 83, 84, 85, 86, 87, 88, 89, 90, 91, 92, 93, 94, 95, 96, 97, 98, 99, 100, 101, 102, 103, 104, 105, 106, 107, 108, 109, 110, 111, 112, 113, 114, 115, 116, 117, 118, 119, 120] (by decide +kernel) (by decide +kernel)
set_option maxRecDepth 20000 in
theorem gX6_tour_X6_tours : GoodIn wsX6_tour (wsV RX6 160 RX6 yX6_tours wsX6_tours) := goodIn_app (goodIn_of _ (by decide +kernel)) ggX6_tour_X6_tours
theorem dX6_tour_0 : decode cX6_tour 0 = .ok (.aload_n 0, 1) := by decide +kernel
theorem dX6_tour_1 : decode cX6_tour 1 = .ok (.iload_n 1, 1) := by decide +kernel
theorem dX6_tour_2 : decode cX6_tour 2 = .ok (.invokestatic 157, 3) := by decide +kernel
theorem dX6_tour_5 : decode cX6_tour 5 = .ok (.ifCond .eq 7, 3) := by decide +kernel
theorem dX6_tour_8 : decode cX6_tour 8 = .ok (.iconst 0, 1) := by decide +kernel
theorem dX6_tour_9 : decode cX6_tour 9 = .ok (.goto 4, 3) := by decide +kernel
theorem dX6_tour_12 : decode cX6_tour 12 = .ok (.iconst 1, 1) := by decide +kernel
theorem dX6_tour_13 : decode cX6_tour 13 = .ok (.putfield 34, 3) := by decide +kernel
theorem dX6_tour_16 : decode cX6_tour 16 = .ok (.aload_n 0, 1) := by decide +kernel
theorem dX6_tour_17 : decode cX6_tour 17 = .ok (.getfield 34, 3) := by decide +kernel
theorem dX6_tour_20 : decode cX6_tour 20 = .ok (.ifCond .le 5, 3) := by decide +kernel
theorem dX6_tour_23 : decode cX6_tour 23 = .ok (.iconst 0, 1) := by decide +kernel
theorem dX6_tour_24 : decode cX6_tour 24 = .ok (.ireturn, 1) := by decide +kernel
theorem dX6_tour_25 : decode cX6_tour 25 = .ok (.aload_n 0, 1) := by decide +kernel
theorem dX6_tour_26 : decode cX6_tour 26 = .ok (.invokevirtual 59, 3) := by decide +kernel
theorem dX6_tour_29 : decode cX6_tour 29 = .ok (.aload_n 0, 1) := by decide +kernel
theorem dX6_tour_30 : decode cX6_tour 30 = .ok (.iload_n 1, 1) := by decide +kernel
theorem dX6_tour_31 : decode cX6_tour 31 = .ok (.invokevirtual 160, 3) := by decide +kernel
theorem dX6_tour_34 : decode cX6_tour 34 = .ok (.ireturn, 1) := by decide +kernel
set_option maxRecDepth 20000 in
theorem ggX6_inspects_X6_ofPlace : GoodIn wsX6_inspects wsX6_ofPlace := goodIn_r _ [6, 1, 19, 20, 21, 22, 23, 24, 25, 26, 27, 28, 29, 30, 31, 32, 33] (by decide +kernel) (by decide +kernel)
set_option maxRecDepth 20000 in
theorem gX6_inspects_X6_ofPlace : GoodIn wsX6_inspects (wsV RX6 81 RX6 yX6_ofPlace wsX6_ofPlace) := goodIn_app (goodIn_of _ (by decide +kernel)) ggX6_inspects_X6_ofPlace
set_option maxRecDepth 20000 in
theorem ggX6_inspects_X6_trustMore : GoodIn wsX6_inspects wsX6_trustMore := goodIn_r _ [10, 1, 11, 12, 13, 5, 14, 19, 20, 21, 22, 23, 24, 25, 26, 27, 28, 29, 30, 31, 32, 33] (by decide +kernel) (by decide +kernel)
set_option maxRecDepth 20000 in
theorem gX6_inspects_X6_trustMore : GoodIn wsX6_inspects (wsV RX6 131 RX6 yX6_trustMore wsX6_trustMore) := goodIn_app (goodIn_of _ (by decide +kernel)) ggX6_inspects_X6_trustMore
set_option maxRecDepth 20000 in
theorem ggX6_inspects_X6_empty : GoodIn wsX6_inspects wsX6_empty := goodIn_r _ [18, 1, 19, 20, 21, 22, 23, 24, 25, 26, 27, 28, 29, 30, 31, 32, 33] (by decide +kernel) (by decide +kernel)
set_option maxRecDepth 20000 in
theorem gX6_inspects_X6_empty : GoodIn wsX6_inspects (wsV RX6 88 RX6 yX6_empty wsX6_empty) := goodIn_app (goodIn_of _ (by decide +kernel)) ggX6_inspects_X6_empty
theorem dX6_inspects_0 : decode cX6_inspects 0 = .ok (.iconst 0, 1) := by decide +kernel
theorem dX6_inspects_1 : decode cX6_inspects 1 = .ok (.istore_n 1, 1) := by decide +kernel
theorem dX6_inspects_2 : decode cX6_inspects 2 = .ok (.iconst 0, 1) := by decide +kernel
theorem dX6_inspects_3 : decode cX6_inspects 3 = .ok (.istore_n 2, 1) := by decide +kernel
theorem dX6_inspects_4 : decode cX6_inspects 4 = .ok (.iload_n 2, 1) := by decide +kernel
theorem dX6_inspects_5 : decode cX6_inspects 5 = .ok (.aload_n 0, 1) := by decide +kernel
theorem dX6_inspects_6 : decode cX6_inspects 6 = .ok (.getfield 7, 3) := by decide +kernel
theorem dX6_inspects_9 : decode cX6_inspects 9 = .ok (.bipush 6, 2) := by decide +kernel
theorem dX6_inspects_11 : decode cX6_inspects 11 = .ok (.iaload, 1) := by decide +kernel
theorem dX6_inspects_12 : decode cX6_inspects 12 = .ok (.if_icmp .ge 50, 3) := by decide +kernel
theorem dX6_inspects_15 : decode cX6_inspects 15 = .ok (.aload_n 0, 1) := by decide +kernel
theorem dX6_inspects_16 : decode cX6_inspects 16 = .ok (.iload_n 2, 1) := by decide +kernel
theorem dX6_inspects_17 : decode cX6_inspects 17 = .ok (.iconst 2, 1) := by decide +kernel
theorem dX6_inspects_18 : decode cX6_inspects 18 = .ok (.invokevirtual 81, 3) := by decide +kernel
theorem dX6_inspects_21 : decode cX6_inspects 21 = .ok (.iconst 2, 1) := by decide +kernel
theorem dX6_inspects_22 : decode cX6_inspects 22 = .ok (.if_icmp .ne 34, 3) := by decide +kernel
theorem dX6_inspects_25 : decode cX6_inspects 25 = .ok (.aload_n 0, 1) := by decide +kernel
theorem dX6_inspects_26 : decode cX6_inspects 26 = .ok (.aload_n 0, 1) := by decide +kernel
theorem dX6_inspects_27 : decode cX6_inspects 27 = .ok (.iload_n 2, 1) := by decide +kernel
theorem dX6_inspects_28 : decode cX6_inspects 28 = .ok (.iconst 3, 1) := by decide +kernel
theorem dX6_inspects_29 : decode cX6_inspects 29 = .ok (.invokevirtual 81, 3) := by decide +kernel
theorem dX6_inspects_32 : decode cX6_inspects 32 = .ok (.aload_n 0, 1) := by decide +kernel
theorem dX6_inspects_33 : decode cX6_inspects 33 = .ok (.iload_n 2, 1) := by decide +kernel
theorem dX6_inspects_34 : decode cX6_inspects 34 = .ok (.iconst 4, 1) := by decide +kernel
theorem dX6_inspects_35 : decode cX6_inspects 35 = .ok (.invokevirtual 81, 3) := by decide +kernel
theorem dX6_inspects_38 : decode cX6_inspects 38 = .ok (.aload_n 0, 1) := by decide +kernel
theorem dX6_inspects_39 : decode cX6_inspects 39 = .ok (.getfield 7, 3) := by decide +kernel
theorem dX6_inspects_42 : decode cX6_inspects 42 = .ok (.iconst 1, 1) := by decide +kernel
theorem dX6_inspects_43 : decode cX6_inspects 43 = .ok (.iaload, 1) := by decide +kernel
theorem dX6_inspects_44 : decode cX6_inspects 44 = .ok (.ineg, 1) := by decide +kernel
theorem dX6_inspects_45 : decode cX6_inspects 45 = .ok (.invokevirtual 131, 3) := by decide +kernel
theorem dX6_inspects_48 : decode cX6_inspects 48 = .ok (.aload_n 0, 1) := by decide +kernel
theorem dX6_inspects_49 : decode cX6_inspects 49 = .ok (.iload_n 2, 1) := by decide +kernel
theorem dX6_inspects_50 : decode cX6_inspects 50 = .ok (.invokevirtual 88, 3) := by decide +kernel
theorem dX6_inspects_53 : decode cX6_inspects 53 = .ok (.iinc 1 1, 3) := by decide +kernel
theorem dX6_inspects_56 : decode cX6_inspects 56 = .ok (.iinc 2 1, 3) := by decide +kernel
theorem dX6_inspects_59 : decode cX6_inspects 59 = .ok (.goto (-55), 3) := by decide +kernel
theorem dX6_inspects_62 : decode cX6_inspects 62 = .ok (.aload_n 0, 1) := by decide +kernel
theorem dX6_inspects_63 : decode cX6_inspects 63 = .ok (.getfield 7, 3) := by decide +kernel
theorem dX6_inspects_66 : decode cX6_inspects 66 = .ok (.bipush 7, 2) := by decide +kernel
theorem dX6_inspects_68 : decode cX6_inspects 68 = .ok (.dup2, 1) := by decide +kernel
theorem dX6_inspects_69 : decode cX6_inspects 69 = .ok (.iaload, 1) := by decide +kernel
theorem dX6_inspects_70 : decode cX6_inspects 70 = .ok (.bipush 10, 2) := by decide +kernel
theorem dX6_inspects_72 : decode cX6_inspects 72 = .ok (.iadd, 1) := by decide +kernel
theorem dX6_inspects_73 : decode cX6_inspects 73 = .ok (.iastore, 1) := by decide +kernel
theorem dX6_inspects_74 : decode cX6_inspects 74 = .ok (.aload_n 0, 1) := by decide +kernel
theorem dX6_inspects_75 : decode cX6_inspects 75 = .ok (.getfield 7, 3) := by decide +kernel
theorem dX6_inspects_78 : decode cX6_inspects 78 = .ok (.bipush 11, 2) := by decide +kernel
theorem dX6_inspects_80 : decode cX6_inspects 80 = .ok (.dup2, 1) := by decide +kernel
theorem dX6_inspects_81 : decode cX6_inspects 81 = .ok (.iaload, 1) := by decide +kernel
theorem dX6_inspects_82 : decode cX6_inspects 82 = .ok (.iload_n 1, 1) := by decide +kernel
theorem dX6_inspects_83 : decode cX6_inspects 83 = .ok (.iadd, 1) := by decide +kernel
theorem dX6_inspects_84 : decode cX6_inspects 84 = .ok (.iastore, 1) := by decide +kernel
theorem dX6_inspects_85 : decode cX6_inspects 85 = .ok (.iload_n 1, 1) := by decide +kernel
theorem dX6_inspects_86 : decode cX6_inspects 86 = .ok (.ireturn, 1) := by decide +kernel
set_option maxRecDepth 20000 in
theorem ggX6_inspect_X6_save : GoodIn wsX6_inspect wsX6_save := goodIn_r _ [6, 7, 8, 9, 30, 31, 32, 33, 34, 35, 36, 37, 38, 39, 40, 41, 42, 43, 44] (by decide +kernel) (by decide +kernel)
set_option maxRecDepth 20000 in
theorem gX6_inspect_X6_save : GoodIn wsX6_inspect (wsV RX6 59 RX6 yX6_save wsX6_save) := goodIn_app (goodIn_of _ (by decide +kernel)) ggX6_inspect_X6_save
set_option maxRecDepth 20000 in
theorem ggX6_inspect_X6_inspects : GoodIn wsX6_inspect wsX6_inspects := goodIn_r _ [13, 9, 14, 15, 16, 5, 17, 18, 19, 20, 21, 22, 23, 24, 25, 26, 27, 28, 29, 30, 31, 32, 33, 34, 35, 36, 37, 38, 39, 40, 41, 42, 43, 44] (by decide +kernel) (by decide +kernel)
set_option maxRecDepth 20000 in
theorem gX6_inspect_X6_inspects : GoodIn wsX6_inspect (wsV RX6 163 RX6 yX6_inspects wsX6_inspects) := goodIn_app (goodIn_of _ (by decide +kernel)) ggX6_inspect_X6_inspects
theorem dX6_inspect_0 : decode cX6_inspect 0 = .ok (.aload_n 0, 1) := by decide +kernel
theorem dX6_inspect_1 : decode cX6_inspect 1 = .ok (.iconst 0, 1) := by decide +kernel
theorem dX6_inspect_2 : decode cX6_inspect 2 = .ok (.putfield 34, 3) := by decide +kernel
theorem dX6_inspect_5 : decode cX6_inspect 5 = .ok (.aload_n 0, 1) := by decide +kernel
theorem dX6_inspect_6 : decode cX6_inspect 6 = .ok (.invokevirtual 59, 3) := by decide +kernel
theorem dX6_inspect_9 : decode cX6_inspect 9 = .ok (.aload_n 0, 1) := by decide +kernel
theorem dX6_inspect_10 : decode cX6_inspect 10 = .ok (.invokevirtual 163, 3) := by decide +kernel
theorem dX6_inspect_13 : decode cX6_inspect 13 = .ok (.ireturn, 1) := by decide +kernel
set_option maxRecDepth 20000 in
theorem ggX6_append_X6_within : GoodIn wsX6_append wsX6_within := goodIn_r _ [7] (by decide +kernel) (by decide +kernel)
set_option maxRecDepth 20000 in
theorem gX6_append_X6_within : GoodIn wsX6_append (va_wsS RX6 45 yX6_within wsX6_within) := goodIn_app (goodIn_of _ (by decide +kernel)) ggX6_append_X6_within
theorem dX6_append_0 : decode cX6_append 0 = .ok (.aload_n 0, 1) := by decide +kernel
theorem dX6_append_1 : decode cX6_append 1 = .ok (.iload_n 1, 1) := by decide +kernel
theorem dX6_append_2 : decode cX6_append 2 = .ok (.bipush 33, 2) := by decide +kernel
theorem dX6_append_4 : decode cX6_append 4 = .ok (.bipush 126, 2) := by decide +kernel
theorem dX6_append_6 : decode cX6_append 6 = .ok (.invokestatic 45, 3) := by decide +kernel
theorem dX6_append_9 : decode cX6_append 9 = .ok (.ifCond .ne 7, 3) := by decide +kernel
theorem dX6_append_12 : decode cX6_append 12 = .ok (.iconst 1, 1) := by decide +kernel
theorem dX6_append_13 : decode cX6_append 13 = .ok (.goto 17, 3) := by decide +kernel
theorem dX6_append_16 : decode cX6_append 16 = .ok (.aload_n 0, 1) := by decide +kernel
theorem dX6_append_17 : decode cX6_append 17 = .ok (.getfield 166, 3) := by decide +kernel
theorem dX6_append_20 : decode cX6_append 20 = .ok (.bipush 60, 2) := by decide +kernel
theorem dX6_append_22 : decode cX6_append 22 = .ok (.if_icmp .ne 7, 3) := by decide +kernel
theorem dX6_append_25 : decode cX6_append 25 = .ok (.iconst 2, 1) := by decide +kernel
theorem dX6_append_26 : decode cX6_append 26 = .ok (.goto 4, 3) := by decide +kernel
theorem dX6_append_29 : decode cX6_append 29 = .ok (.iconst 0, 1) := by decide +kernel
theorem dX6_append_30 : decode cX6_append 30 = .ok (.putfield 34, 3) := by decide +kernel
theorem dX6_append_33 : decode cX6_append 33 = .ok (.aload_n 0, 1) := by decide +kernel
theorem dX6_append_34 : decode cX6_append 34 = .ok (.getfield 34, 3) := by decide +kernel
theorem dX6_append_37 : decode cX6_append 37 = .ok (.ifCond .le 5, 3) := by decide +kernel
theorem dX6_append_40 : decode cX6_append 40 = .ok (.iconst 0, 1) := by decide +kernel
theorem dX6_append_41 : decode cX6_append 41 = .ok (.ireturn, 1) := by decide +kernel
theorem dX6_append_42 : decode cX6_append 42 = .ok (.aload_n 0, 1) := by decide +kernel
theorem dX6_append_43 : decode cX6_append 43 = .ok (.getfield 16, 3) := by decide +kernel
theorem dX6_append_46 : decode cX6_append 46 = .ok (.aload_n 0, 1) := by decide +kernel
theorem dX6_append_47 : decode cX6_append 47 = .ok (.getfield 166, 3) := by decide +kernel
theorem dX6_append_50 : decode cX6_append 50 = .ok (.iload_n 1, 1) := by decide +kernel
theorem dX6_append_51 : decode cX6_append 51 = .ok (.iastore, 1) := by decide +kernel
theorem dX6_append_52 : decode cX6_append 52 = .ok (.aload_n 0, 1) := by decide +kernel
theorem dX6_append_53 : decode cX6_append 53 = .ok (.dup, 1) := by decide +kernel
theorem dX6_append_54 : decode cX6_append 54 = .ok (.getfield 166, 3) := by decide +kernel
theorem dX6_append_57 : decode cX6_append 57 = .ok (.iconst 1, 1) := by decide +kernel
theorem dX6_append_58 : decode cX6_append 58 = .ok (.iadd, 1) := by decide +kernel
theorem dX6_append_59 : decode cX6_append 59 = .ok (.putfield 166, 3) := by decide +kernel
theorem dX6_append_62 : decode cX6_append 62 = .ok (.aload_n 0, 1) := by decide +kernel
theorem dX6_append_63 : decode cX6_append 63 = .ok (.getfield 166, 3) := by decide +kernel
theorem dX6_append_66 : decode cX6_append 66 = .ok (.ireturn, 1) := by decide +kernel
theorem dX6_clearBuffer_0 : decode cX6_clearBuffer 0 = .ok (.aload_n 0, 1) := by decide +kernel
theorem dX6_clearBuffer_1 : decode cX6_clearBuffer 1 = .ok (.iconst 0, 1) := by decide +kernel
theorem dX6_clearBuffer_2 : decode cX6_clearBuffer 2 = .ok (.putfield 34, 3) := by decide +kernel
theorem dX6_clearBuffer_5 : decode cX6_clearBuffer 5 = .ok (.aload_n 0, 1) := by decide +kernel
theorem dX6_clearBuffer_6 : decode cX6_clearBuffer 6 = .ok (.getfield 166, 3) := by decide +kernel
theorem dX6_clearBuffer_9 : decode cX6_clearBuffer 9 = .ok (.istore_n 1, 1) := by decide +kernel
theorem dX6_clearBuffer_10 : decode cX6_clearBuffer 10 = .ok (.aload_n 0, 1) := by decide +kernel
theorem dX6_clearBuffer_11 : decode cX6_clearBuffer 11 = .ok (.iconst 0, 1) := by decide +kernel
theorem dX6_clearBuffer_12 : decode cX6_clearBuffer 12 = .ok (.putfield 166, 3) := by decide +kernel
theorem dX6_clearBuffer_15 : decode cX6_clearBuffer 15 = .ok (.iload_n 1, 1) := by decide +kernel
theorem dX6_clearBuffer_16 : decode cX6_clearBuffer 16 = .ok (.ireturn, 1) := by decide +kernel
set_option maxRecDepth 20000 in
theorem ggX6_takesDigit_X6_within : GoodIn wsX6_takesDigit wsX6_within := goodIn_r _ [8] (by decide +kernel) (by decide +kernel)
set_option maxRecDepth 20000 in
theorem gX6_takesDigit_X6_within : GoodIn wsX6_takesDigit (va_wsS RX6 45 yX6_within wsX6_within) := goodIn_app (goodIn_of _ (by decide +kernel)) ggX6_takesDigit_X6_within
theorem dX6_takesDigit_0 : decode cX6_takesDigit 0 = .ok (.aload_n 0, 1) := by decide +kernel
theorem dX6_takesDigit_1 : decode cX6_takesDigit 1 = .ok (.getfield 169, 3) := by decide +kernel
theorem dX6_takesDigit_4 : decode cX6_takesDigit 4 = .ok (.iconst (-1), 1) := by decide +kernel
theorem dX6_takesDigit_5 : decode cX6_takesDigit 5 = .ok (.if_icmp .ne 7, 3) := by decide +kernel
theorem dX6_takesDigit_8 : decode cX6_takesDigit 8 = .ok (.iload_n 1, 1) := by decide +kernel
theorem dX6_takesDigit_9 : decode cX6_takesDigit 9 = .ok (.goto 12, 3) := by decide +kernel
theorem dX6_takesDigit_12 : decode cX6_takesDigit 12 = .ok (.bipush 10, 2) := by decide +kernel
theorem dX6_takesDigit_14 : decode cX6_takesDigit 14 = .ok (.aload_n 0, 1) := by decide +kernel
theorem dX6_takesDigit_15 : decode cX6_takesDigit 15 = .ok (.getfield 169, 3) := by decide +kernel
theorem dX6_takesDigit_18 : decode cX6_takesDigit 18 = .ok (.imul, 1) := by decide +kernel
theorem dX6_takesDigit_19 : decode cX6_takesDigit 19 = .ok (.iload_n 1, 1) := by decide +kernel
theorem dX6_takesDigit_20 : decode cX6_takesDigit 20 = .ok (.iadd, 1) := by decide +kernel
theorem dX6_takesDigit_21 : decode cX6_takesDigit 21 = .ok (.istore_n 2, 1) := by decide +kernel
theorem dX6_takesDigit_22 : decode cX6_takesDigit 22 = .ok (.iload_n 1, 1) := by decide +kernel
theorem dX6_takesDigit_23 : decode cX6_takesDigit 23 = .ok (.iconst 0, 1) := by decide +kernel
theorem dX6_takesDigit_24 : decode cX6_takesDigit 24 = .ok (.bipush 9, 2) := by decide +kernel
theorem dX6_takesDigit_26 : decode cX6_takesDigit 26 = .ok (.invokestatic 45, 3) := by decide +kernel
theorem dX6_takesDigit_29 : decode cX6_takesDigit 29 = .ok (.ifCond .eq 34, 3) := by decide +kernel
theorem dX6_takesDigit_32 : decode cX6_takesDigit 32 = .ok (.aload_n 0, 1) := by decide +kernel
theorem dX6_takesDigit_33 : decode cX6_takesDigit 33 = .ok (.getfield 169, 3) := by decide +kernel
theorem dX6_takesDigit_36 : decode cX6_takesDigit 36 = .ok (.ifCond .eq 27, 3) := by decide +kernel
theorem dX6_takesDigit_39 : decode cX6_takesDigit 39 = .ok (.iload_n 2, 1) := by decide +kernel
theorem dX6_takesDigit_40 : decode cX6_takesDigit 40 = .ok (.aload_n 0, 1) := by decide +kernel
theorem dX6_takesDigit_41 : decode cX6_takesDigit 41 = .ok (.getfield 172, 3) := by decide +kernel
theorem dX6_takesDigit_44 : decode cX6_takesDigit 44 = .ok (.iconst 1, 1) := by decide +kernel
theorem dX6_takesDigit_45 : decode cX6_takesDigit 45 = .ok (.if_icmp .ne 8, 3) := by decide +kernel
theorem dX6_takesDigit_48 : decode cX6_takesDigit 48 = .ok (.bipush 99, 2) := by decide +kernel
theorem dX6_takesDigit_50 : decode cX6_takesDigit 50 = .ok (.goto 6, 3) := by decide +kernel
theorem dX6_takesDigit_53 : decode cX6_takesDigit 53 = .ok (.sipush 500, 3) := by decide +kernel
theorem dX6_takesDigit_56 : decode cX6_takesDigit 56 = .ok (.if_icmp .gt 7, 3) := by decide +kernel
theorem dX6_takesDigit_59 : decode cX6_takesDigit 59 = .ok (.iconst 1, 1) := by decide +kernel
theorem dX6_takesDigit_60 : decode cX6_takesDigit 60 = .ok (.goto 4, 3) := by decide +kernel
theorem dX6_takesDigit_63 : decode cX6_takesDigit 63 = .ok (.iconst 0, 1) := by decide +kernel
theorem dX6_takesDigit_64 : decode cX6_takesDigit 64 = .ok (.istore_n 3, 1) := by decide +kernel
theorem dX6_takesDigit_65 : decode cX6_takesDigit 65 = .ok (.aload_n 0, 1) := by decide +kernel
theorem dX6_takesDigit_66 : decode cX6_takesDigit 66 = .ok (.iload_n 3, 1) := by decide +kernel
theorem dX6_takesDigit_67 : decode cX6_takesDigit 67 = .ok (.ifCond .eq 7, 3) := by decide +kernel
theorem dX6_takesDigit_70 : decode cX6_takesDigit 70 = .ok (.iload_n 2, 1) := by decide +kernel
theorem dX6_takesDigit_71 : decode cX6_takesDigit 71 = .ok (.goto 7, 3) := by decide +kernel
theorem dX6_takesDigit_74 : decode cX6_takesDigit 74 = .ok (.aload_n 0, 1) := by decide +kernel
theorem dX6_takesDigit_75 : decode cX6_takesDigit 75 = .ok (.getfield 169, 3) := by decide +kernel
theorem dX6_takesDigit_78 : decode cX6_takesDigit 78 = .ok (.putfield 169, 3) := by decide +kernel
theorem dX6_takesDigit_81 : decode cX6_takesDigit 81 = .ok (.aload_n 0, 1) := by decide +kernel
theorem dX6_takesDigit_82 : decode cX6_takesDigit 82 = .ok (.getfield 28, 3) := by decide +kernel
theorem dX6_takesDigit_85 : decode cX6_takesDigit 85 = .ok (.iconst 4, 1) := by decide +kernel
theorem dX6_takesDigit_86 : decode cX6_takesDigit 86 = .ok (.aload_n 0, 1) := by decide +kernel
theorem dX6_takesDigit_87 : decode cX6_takesDigit 87 = .ok (.getfield 175, 3) := by decide +kernel
theorem dX6_takesDigit_90 : decode cX6_takesDigit 90 = .ok (.imul, 1) := by decide +kernel
theorem dX6_takesDigit_91 : decode cX6_takesDigit 91 = .ok (.aload_n 0, 1) := by decide +kernel
theorem dX6_takesDigit_92 : decode cX6_takesDigit 92 = .ok (.getfield 172, 3) := by decide +kernel
theorem dX6_takesDigit_95 : decode cX6_takesDigit 95 = .ok (.iconst 1, 1) := by decide +kernel
theorem dX6_takesDigit_96 : decode cX6_takesDigit 96 = .ok (.if_icmp .ne 7, 3) := by decide +kernel
theorem dX6_takesDigit_99 : decode cX6_takesDigit 99 = .ok (.iconst 1, 1) := by decide +kernel
theorem dX6_takesDigit_100 : decode cX6_takesDigit 100 = .ok (.goto 4, 3) := by decide +kernel
theorem dX6_takesDigit_103 : decode cX6_takesDigit 103 = .ok (.iconst 3, 1) := by decide +kernel
theorem dX6_takesDigit_104 : decode cX6_takesDigit 104 = .ok (.iadd, 1) := by decide +kernel
theorem dX6_takesDigit_105 : decode cX6_takesDigit 105 = .ok (.aload_n 0, 1) := by decide +kernel
theorem dX6_takesDigit_106 : decode cX6_takesDigit 106 = .ok (.getfield 169, 3) := by decide +kernel
theorem dX6_takesDigit_109 : decode cX6_takesDigit 109 = .ok (.iastore, 1) := by decide +kernel
theorem dX6_takesDigit_110 : decode cX6_takesDigit 110 = .ok (.iload_n 3, 1) := by decide +kernel
theorem dX6_takesDigit_111 : decode cX6_takesDigit 111 = .ok (.ireturn, 1) := by decide +kernel
set_option maxRecDepth 20000 in
theorem ggX6_takes_X6_isKind : GoodIn wsX6_takes wsX6_isKind := goodIn_r _ [8, 9, 10, 7, 11] (by decide +kernel) (by decide +kernel)
set_option maxRecDepth 20000 in
theorem gX6_takes_X6_isKind : GoodIn wsX6_takes (va_wsS RX6 53 yX6_isKind wsX6_isKind) := goodIn_app (goodIn_of _ (by decide +kernel)) ggX6_takes_X6_isKind
set_option maxRecDepth 20000 in
theorem ggX6_takes_X6_takesDigit : GoodIn wsX6_takes wsX6_takesDigit := goodIn_r _ [15, 2, 1, 4, 3, 9, 10, 7, 11, 16, 17, 18, 19, 20, 21, 22, 23, 24, 25, 26, 27, 28, 29, 30] (by decide +kernel) (by decide +kernel)
set_option maxRecDepth 20000 in
theorem gX6_takes_X6_takesDigit : GoodIn wsX6_takes (wsV RX6 178 RX6 yX6_takesDigit wsX6_takesDigit) := goodIn_app (goodIn_of _ (by decide +kernel)) ggX6_takes_X6_takesDigit
theorem dX6_takes_0 : decode cX6_takes 0 = .ok (.iload_n 1, 1) := by decide +kernel
theorem dX6_takes_1 : decode cX6_takes 1 = .ok (.bipush 59, 2) := by decide +kernel
theorem dX6_takes_3 : decode cX6_takes 3 = .ok (.if_icmp .ne 44, 3) := by decide +kernel
theorem dX6_takes_6 : decode cX6_takes 6 = .ok (.aload_n 0, 1) := by decide +kernel
theorem dX6_takes_7 : decode cX6_takes 7 = .ok (.getfield 172, 3) := by decide +kernel
theorem dX6_takes_10 : decode cX6_takes 10 = .ok (.iconst 5, 1) := by decide +kernel
theorem dX6_takes_11 : decode cX6_takes 11 = .ok (.if_icmp .eq 19, 3) := by decide +kernel
theorem dX6_takes_14 : decode cX6_takes 14 = .ok (.aload_n 0, 1) := by decide +kernel
theorem dX6_takes_15 : decode cX6_takes 15 = .ok (.getfield 172, 3) := by decide +kernel
theorem dX6_takes_18 : decode cX6_takes 18 = .ok (.iconst 4, 1) := by decide +kernel
theorem dX6_takes_19 : decode cX6_takes 19 = .ok (.if_icmp .ne 28, 3) := by decide +kernel
theorem dX6_takes_22 : decode cX6_takes 22 = .ok (.aload_n 0, 1) := by decide +kernel
theorem dX6_takes_23 : decode cX6_takes 23 = .ok (.getfield 169, 3) := by decide +kernel
theorem dX6_takes_26 : decode cX6_takes 26 = .ok (.iconst (-1), 1) := by decide +kernel
theorem dX6_takes_27 : decode cX6_takes 27 = .ok (.if_icmp .eq 20, 3) := by decide +kernel
theorem dX6_takes_30 : decode cX6_takes 30 = .ok (.aload_n 0, 1) := by decide +kernel
theorem dX6_takes_31 : decode cX6_takes 31 = .ok (.dup, 1) := by decide +kernel
theorem dX6_takes_32 : decode cX6_takes 32 = .ok (.getfield 175, 3) := by decide +kernel
theorem dX6_takes_35 : decode cX6_takes 35 = .ok (.iconst 1, 1) := by decide +kernel
theorem dX6_takes_36 : decode cX6_takes 36 = .ok (.iadd, 1) := by decide +kernel
theorem dX6_takes_37 : decode cX6_takes 37 = .ok (.putfield 175, 3) := by decide +kernel
theorem dX6_takes_40 : decode cX6_takes 40 = .ok (.aload_n 0, 1) := by decide +kernel
theorem dX6_takes_41 : decode cX6_takes 41 = .ok (.iconst 0, 1) := by decide +kernel
theorem dX6_takes_42 : decode cX6_takes 42 = .ok (.putfield 172, 3) := by decide +kernel
theorem dX6_takes_45 : decode cX6_takes 45 = .ok (.iconst 1, 1) := by decide +kernel
theorem dX6_takes_46 : decode cX6_takes 46 = .ok (.ireturn, 1) := by decide +kernel
theorem dX6_takes_47 : decode cX6_takes 47 = .ok (.aload_n 0, 1) := by decide +kernel
theorem dX6_takes_48 : decode cX6_takes 48 = .ok (.getfield 172, 3) := by decide +kernel
theorem dX6_takes_51 : decode cX6_takes 51 = .ok (.tableswitch 160 0 5 #[37, 160, 87, 141, 160, 158], 37) := by decide +kernel
theorem dX6_takes_88 : decode cX6_takes 88 = .ok (.aload_n 0, 1) := by decide +kernel
theorem dX6_takes_89 : decode cX6_takes 89 = .ok (.getfield 28, 3) := by decide +kernel
theorem dX6_takes_92 : decode cX6_takes 92 = .ok (.iconst 4, 1) := by decide +kernel
theorem dX6_takes_93 : decode cX6_takes 93 = .ok (.aload_n 0, 1) := by decide +kernel
theorem dX6_takes_94 : decode cX6_takes 94 = .ok (.getfield 175, 3) := by decide +kernel
theorem dX6_takes_97 : decode cX6_takes 97 = .ok (.imul, 1) := by decide +kernel
theorem dX6_takes_98 : decode cX6_takes 98 = .ok (.iload_n 1, 1) := by decide +kernel
theorem dX6_takes_99 : decode cX6_takes 99 = .ok (.bipush 102, 2) := by decide +kernel
theorem dX6_takes_101 : decode cX6_takes 101 = .ok (.if_icmp .ne 7, 3) := by decide +kernel
theorem dX6_takes_104 : decode cX6_takes 104 = .ok (.iconst 1, 1) := by decide +kernel
theorem dX6_takes_105 : decode cX6_takes 105 = .ok (.goto 4, 3) := by decide +kernel
theorem dX6_takes_108 : decode cX6_takes 108 = .ok (.iconst 0, 1) := by decide +kernel
theorem dX6_takes_109 : decode cX6_takes 109 = .ok (.iastore, 1) := by decide +kernel
theorem dX6_takes_110 : decode cX6_takes 110 = .ok (.aload_n 0, 1) := by decide +kernel
theorem dX6_takes_111 : decode cX6_takes 111 = .ok (.iconst (-1), 1) := by decide +kernel
theorem dX6_takes_112 : decode cX6_takes 112 = .ok (.putfield 169, 3) := by decide +kernel
theorem dX6_takes_115 : decode cX6_takes 115 = .ok (.aload_n 0, 1) := by decide +kernel
theorem dX6_takes_116 : decode cX6_takes 116 = .ok (.iconst 1, 1) := by decide +kernel
theorem dX6_takes_117 : decode cX6_takes 117 = .ok (.putfield 172, 3) := by decide +kernel
theorem dX6_takes_120 : decode cX6_takes 120 = .ok (.iload_n 1, 1) := by decide +kernel
theorem dX6_takes_121 : decode cX6_takes 121 = .ok (.bipush 112, 2) := by decide +kernel
theorem dX6_takes_123 : decode cX6_takes 123 = .ok (.if_icmp .eq 9, 3) := by decide +kernel
theorem dX6_takes_126 : decode cX6_takes 126 = .ok (.iload_n 1, 1) := by decide +kernel
theorem dX6_takes_127 : decode cX6_takes 127 = .ok (.bipush 102, 2) := by decide +kernel
theorem dX6_takes_129 : decode cX6_takes 129 = .ok (.if_icmp .ne 7, 3) := by decide +kernel
theorem dX6_takes_132 : decode cX6_takes 132 = .ok (.iconst 1, 1) := by decide +kernel
theorem dX6_takes_133 : decode cX6_takes 133 = .ok (.goto 4, 3) := by decide +kernel
theorem dX6_takes_136 : decode cX6_takes 136 = .ok (.iconst 0, 1) := by decide +kernel
theorem dX6_takes_137 : decode cX6_takes 137 = .ok (.ireturn, 1) := by decide +kernel
theorem dX6_takes_138 : decode cX6_takes 138 = .ok (.aload_n 0, 1) := by decide +kernel
theorem dX6_takes_139 : decode cX6_takes 139 = .ok (.getfield 28, 3) := by decide +kernel
theorem dX6_takes_142 : decode cX6_takes 142 = .ok (.iconst 4, 1) := by decide +kernel
theorem dX6_takes_143 : decode cX6_takes 143 = .ok (.aload_n 0, 1) := by decide +kernel
theorem dX6_takes_144 : decode cX6_takes 144 = .ok (.getfield 175, 3) := by decide +kernel
theorem dX6_takes_147 : decode cX6_takes 147 = .ok (.imul, 1) := by decide +kernel
theorem dX6_takes_148 : decode cX6_takes 148 = .ok (.iconst 2, 1) := by decide +kernel
theorem dX6_takes_149 : decode cX6_takes 149 = .ok (.iadd, 1) := by decide +kernel
theorem dX6_takes_150 : decode cX6_takes 150 = .ok (.iload_n 1, 1) := by decide +kernel
theorem dX6_takes_151 : decode cX6_takes 151 = .ok (.bipush 48, 2) := by decide +kernel
theorem dX6_takes_153 : decode cX6_takes 153 = .ok (.isub, 1) := by decide +kernel
theorem dX6_takes_154 : decode cX6_takes 154 = .ok (.iastore, 1) := by decide +kernel
theorem dX6_takes_155 : decode cX6_takes 155 = .ok (.aload_n 0, 1) := by decide +kernel
theorem dX6_takes_156 : decode cX6_takes 156 = .ok (.iconst (-1), 1) := by decide +kernel
theorem dX6_takes_157 : decode cX6_takes 157 = .ok (.putfield 169, 3) := by decide +kernel
theorem dX6_takes_160 : decode cX6_takes 160 = .ok (.aload_n 0, 1) := by decide +kernel
theorem dX6_takes_161 : decode cX6_takes 161 = .ok (.aload_n 0, 1) := by decide +kernel
theorem dX6_takes_162 : decode cX6_takes 162 = .ok (.getfield 28, 3) := by decide +kernel
theorem dX6_takes_165 : decode cX6_takes 165 = .ok (.iconst 4, 1) := by decide +kernel
theorem dX6_takes_166 : decode cX6_takes 166 = .ok (.aload_n 0, 1) := by decide +kernel
theorem dX6_takes_167 : decode cX6_takes 167 = .ok (.getfield 175, 3) := by decide +kernel
theorem dX6_takes_170 : decode cX6_takes 170 = .ok (.imul, 1) := by decide +kernel
theorem dX6_takes_171 : decode cX6_takes 171 = .ok (.iaload, 1) := by decide +kernel
theorem dX6_takes_172 : decode cX6_takes 172 = .ok (.iconst 1, 1) := by decide +kernel
theorem dX6_takes_173 : decode cX6_takes 173 = .ok (.if_icmp .ne 7, 3) := by decide +kernel
theorem dX6_takes_176 : decode cX6_takes 176 = .ok (.iconst 3, 1) := by decide +kernel
theorem dX6_takes_177 : decode cX6_takes 177 = .ok (.goto 4, 3) := by decide +kernel
theorem dX6_takes_180 : decode cX6_takes 180 = .ok (.iconst 5, 1) := by decide +kernel
theorem dX6_takes_181 : decode cX6_takes 181 = .ok (.putfield 172, 3) := by decide +kernel
theorem dX6_takes_184 : decode cX6_takes 184 = .ok (.iload_n 1, 1) := by decide +kernel
theorem dX6_takes_185 : decode cX6_takes 185 = .ok (.bipush 48, 2) := by decide +kernel
theorem dX6_takes_187 : decode cX6_takes 187 = .ok (.isub, 1) := by decide +kernel
theorem dX6_takes_188 : decode cX6_takes 188 = .ok (.invokestatic 53, 3) := by decide +kernel
theorem dX6_takes_191 : decode cX6_takes 191 = .ok (.ireturn, 1) := by decide +kernel
theorem dX6_takes_192 : decode cX6_takes 192 = .ok (.aload_n 0, 1) := by decide +kernel
theorem dX6_takes_193 : decode cX6_takes 193 = .ok (.iconst 4, 1) := by decide +kernel
theorem dX6_takes_194 : decode cX6_takes 194 = .ok (.putfield 172, 3) := by decide +kernel
theorem dX6_takes_197 : decode cX6_takes 197 = .ok (.iload_n 1, 1) := by decide +kernel
theorem dX6_takes_198 : decode cX6_takes 198 = .ok (.bipush 42, 2) := by decide +kernel
theorem dX6_takes_200 : decode cX6_takes 200 = .ok (.if_icmp .ne 7, 3) := by decide +kernel
theorem dX6_takes_203 : decode cX6_takes 203 = .ok (.iconst 1, 1) := by decide +kernel
theorem dX6_takes_204 : decode cX6_takes 204 = .ok (.goto 4, 3) := by decide +kernel
theorem dX6_takes_207 : decode cX6_takes 207 = .ok (.iconst 0, 1) := by decide +kernel
theorem dX6_takes_208 : decode cX6_takes 208 = .ok (.ireturn, 1) := by decide +kernel
theorem dX6_takes_209 : decode cX6_takes 209 = .ok (.iconst 0, 1) := by decide +kernel
theorem dX6_takes_210 : decode cX6_takes 210 = .ok (.ireturn, 1) := by decide +kernel
theorem dX6_takes_211 : decode cX6_takes 211 = .ok (.aload_n 0, 1) := by decide +kernel
theorem dX6_takes_212 : decode cX6_takes 212 = .ok (.getfield 172, 3) := by decide +kernel
theorem dX6_takes_215 : decode cX6_takes 215 = .ok (.iconst 1, 1) := by decide +kernel
theorem dX6_takes_216 : decode cX6_takes 216 = .ok (.if_icmp .ne 24, 3) := by decide +kernel
theorem dX6_takes_219 : decode cX6_takes 219 = .ok (.iload_n 1, 1) := by decide +kernel
theorem dX6_takes_220 : decode cX6_takes 220 = .ok (.bipush 58, 2) := by decide +kernel
theorem dX6_takes_222 : decode cX6_takes 222 = .ok (.if_icmp .ne 18, 3) := by decide +kernel
theorem dX6_takes_225 : decode cX6_takes 225 = .ok (.aload_n 0, 1) := by decide +kernel
theorem dX6_takes_226 : decode cX6_takes 226 = .ok (.getfield 169, 3) := by decide +kernel
theorem dX6_takes_229 : decode cX6_takes 229 = .ok (.iconst (-1), 1) := by decide +kernel
theorem dX6_takes_230 : decode cX6_takes 230 = .ok (.if_icmp .eq 10, 3) := by decide +kernel
theorem dX6_takes_233 : decode cX6_takes 233 = .ok (.aload_n 0, 1) := by decide +kernel
theorem dX6_takes_234 : decode cX6_takes 234 = .ok (.iconst 2, 1) := by decide +kernel
theorem dX6_takes_235 : decode cX6_takes 235 = .ok (.putfield 172, 3) := by decide +kernel
theorem dX6_takes_238 : decode cX6_takes 238 = .ok (.iconst 1, 1) := by decide +kernel
theorem dX6_takes_239 : decode cX6_takes 239 = .ok (.ireturn, 1) := by decide +kernel
theorem dX6_takes_240 : decode cX6_takes 240 = .ok (.aload_n 0, 1) := by decide +kernel
theorem dX6_takes_241 : decode cX6_takes 241 = .ok (.iload_n 1, 1) := by decide +kernel
theorem dX6_takes_242 : decode cX6_takes 242 = .ok (.bipush 48, 2) := by decide +kernel
theorem dX6_takes_244 : decode cX6_takes 244 = .ok (.isub, 1) := by decide +kernel
theorem dX6_takes_245 : decode cX6_takes 245 = .ok (.invokevirtual 178, 3) := by decide +kernel
theorem dX6_takes_248 : decode cX6_takes 248 = .ok (.ireturn, 1) := by decide +kernel
set_option maxRecDepth 20000 in
theorem ggX6_rightUpTo_X6_takes : GoodIn wsX6_rightUpTo wsX6_takes := goodIn_r _ [9, 2, 10, 1, 11, 12, 13, 8, 14, 15, 16, 17, 18, 19, 20, 21, 22, 23, 24, 25, 26, 27, 28, 29, 30, 31, 32, 33, 34, 35, 36] (by decide +kernel) (by decide +kernel)
set_option maxRecDepth 20000 in
theorem gX6_rightUpTo_X6_takes : GoodIn wsX6_rightUpTo (wsV RX6 181 RX6 yX6_takes wsX6_takes) := goodIn_app (goodIn_of _ (by decide +kernel)) ggX6_rightUpTo_X6_takes
theorem dX6_rightUpTo_0 : decode cX6_rightUpTo 0 = .ok (.aload_n 0, 1) := by decide +kernel
theorem dX6_rightUpTo_1 : decode cX6_rightUpTo 1 = .ok (.iconst 0, 1) := by decide +kernel
theorem dX6_rightUpTo_2 : decode cX6_rightUpTo 2 = .ok (.putfield 175, 3) := by decide +kernel
theorem dX6_rightUpTo_5 : decode cX6_rightUpTo 5 = .ok (.aload_n 0, 1) := by decide +kernel
theorem dX6_rightUpTo_6 : decode cX6_rightUpTo 6 = .ok (.iconst 0, 1) := by decide +kernel
theorem dX6_rightUpTo_7 : decode cX6_rightUpTo 7 = .ok (.putfield 172, 3) := by decide +kernel
theorem dX6_rightUpTo_10 : decode cX6_rightUpTo 10 = .ok (.iconst 0, 1) := by decide +kernel
theorem dX6_rightUpTo_11 : decode cX6_rightUpTo 11 = .ok (.istore_n 1, 1) := by decide +kernel
theorem dX6_rightUpTo_12 : decode cX6_rightUpTo 12 = .ok (.iload_n 1, 1) := by decide +kernel
theorem dX6_rightUpTo_13 : decode cX6_rightUpTo 13 = .ok (.aload_n 0, 1) := by decide +kernel
theorem dX6_rightUpTo_14 : decode cX6_rightUpTo 14 = .ok (.getfield 166, 3) := by decide +kernel
theorem dX6_rightUpTo_17 : decode cX6_rightUpTo 17 = .ok (.if_icmp .ge 22, 3) := by decide +kernel
theorem dX6_rightUpTo_20 : decode cX6_rightUpTo 20 = .ok (.aload_n 0, 1) := by decide +kernel
theorem dX6_rightUpTo_21 : decode cX6_rightUpTo 21 = .ok (.aload_n 0, 1) := by decide +kernel
theorem dX6_rightUpTo_22 : decode cX6_rightUpTo 22 = .ok (.getfield 16, 3) := by decide +kernel
theorem dX6_rightUpTo_25 : decode cX6_rightUpTo 25 = .ok (.iload_n 1, 1) := by decide +kernel
theorem dX6_rightUpTo_26 : decode cX6_rightUpTo 26 = .ok (.iaload, 1) := by decide +kernel
theorem dX6_rightUpTo_27 : decode cX6_rightUpTo 27 = .ok (.invokevirtual 181, 3) := by decide +kernel
theorem dX6_rightUpTo_30 : decode cX6_rightUpTo 30 = .ok (.ifCond .eq 9, 3) := by decide +kernel
theorem dX6_rightUpTo_33 : decode cX6_rightUpTo 33 = .ok (.iinc 1 1, 3) := by decide +kernel
theorem dX6_rightUpTo_36 : decode cX6_rightUpTo 36 = .ok (.goto (-24), 3) := by decide +kernel
theorem dX6_rightUpTo_39 : decode cX6_rightUpTo 39 = .ok (.iload_n 1, 1) := by decide +kernel
theorem dX6_rightUpTo_40 : decode cX6_rightUpTo 40 = .ok (.ireturn, 1) := by decide +kernel
set_option maxRecDepth 20000 in
theorem ggX6_firstError_X6_rightUpTo : GoodIn wsX6_firstError wsX6_rightUpTo := goodIn_r _ [6, 7, 8, 9, 10, 11, 12, 13, 5, 14, 15, 16, 17, 18, 19, 20, 21, 22, 23, 24, 25, 26, 27, 28, 29, 30, 31, 32, 33, 34, 35, 36, 37, 38, 39, 40, 41] (by decide +kernel) (by decide +kernel)
set_option maxRecDepth 20000 in
theorem gX6_firstError_X6_rightUpTo : GoodIn wsX6_firstError (wsV RX6 184 RX6 yX6_rightUpTo wsX6_rightUpTo) := goodIn_app (goodIn_of _ (by decide +kernel)) ggX6_firstError_X6_rightUpTo
theorem dX6_firstError_0 : decode cX6_firstError 0 = .ok (.aload_n 0, 1) := by decide +kernel
theorem dX6_firstError_1 : decode cX6_firstError 1 = .ok (.iconst 0, 1) := by decide +kernel
theorem dX6_firstError_2 : decode cX6_firstError 2 = .ok (.putfield 34, 3) := by decide +kernel
theorem dX6_firstError_5 : decode cX6_firstError 5 = .ok (.aload_n 0, 1) := by decide +kernel
theorem dX6_firstError_6 : decode cX6_firstError 6 = .ok (.invokevirtual 184, 3) := by decide +kernel
theorem dX6_firstError_9 : decode cX6_firstError 9 = .ok (.ireturn, 1) := by decide +kernel
set_option maxRecDepth 20000 in
theorem ggX6_adds_X6_addsFeeder : GoodIn wsX6_adds wsX6_addsFeeder := goodIn_r _ [7, 2, 12, 13, 14, 15, 16, 17, 18, 19, 20, 21, 22, 23, 24, 25, 26] (by decide +kernel) (by decide +kernel)
set_option maxRecDepth 20000 in
theorem gX6_adds_X6_addsFeeder : GoodIn wsX6_adds (wsV RX6 62 RX6 yX6_addsFeeder wsX6_addsFeeder) := goodIn_app (goodIn_of _ (by decide +kernel)) ggX6_adds_X6_addsFeeder
set_option maxRecDepth 20000 in
theorem ggX6_adds_X6_addsPlace : GoodIn wsX6_adds wsX6_addsPlace := goodIn_r _ [11, 2, 12, 13, 14, 15, 16, 17, 18, 19, 20, 21, 22, 23, 24, 25, 26] (by decide +kernel) (by decide +kernel)
set_option maxRecDepth 20000 in
theorem gX6_adds_X6_addsPlace : GoodIn wsX6_adds (wsV RX6 66 RX6 yX6_addsPlace wsX6_addsPlace) := goodIn_app (goodIn_of _ (by decide +kernel)) ggX6_adds_X6_addsPlace
theorem dX6_adds_0 : decode cX6_adds 0 = .ok (.iconst 4, 1) := by decide +kernel
theorem dX6_adds_1 : decode cX6_adds 1 = .ok (.iload_n 1, 1) := by decide +kernel
theorem dX6_adds_2 : decode cX6_adds 2 = .ok (.imul, 1) := by decide +kernel
theorem dX6_adds_3 : decode cX6_adds 3 = .ok (.istore_n 2, 1) := by decide +kernel
theorem dX6_adds_4 : decode cX6_adds 4 = .ok (.aload_n 0, 1) := by decide +kernel
theorem dX6_adds_5 : decode cX6_adds 5 = .ok (.getfield 28, 3) := by decide +kernel
theorem dX6_adds_8 : decode cX6_adds 8 = .ok (.iload_n 2, 1) := by decide +kernel
theorem dX6_adds_9 : decode cX6_adds 9 = .ok (.iaload, 1) := by decide +kernel
theorem dX6_adds_10 : decode cX6_adds 10 = .ok (.iconst 1, 1) := by decide +kernel
theorem dX6_adds_11 : decode cX6_adds 11 = .ok (.if_icmp .ne 7, 3) := by decide +kernel
theorem dX6_adds_14 : decode cX6_adds 14 = .ok (.iconst 1, 1) := by decide +kernel
theorem dX6_adds_15 : decode cX6_adds 15 = .ok (.goto 4, 3) := by decide +kernel
theorem dX6_adds_18 : decode cX6_adds 18 = .ok (.iconst 0, 1) := by decide +kernel
theorem dX6_adds_19 : decode cX6_adds 19 = .ok (.istore_n 3, 1) := by decide +kernel
theorem dX6_adds_20 : decode cX6_adds 20 = .ok (.iload_n 3, 1) := by decide +kernel
theorem dX6_adds_21 : decode cX6_adds 21 = .ok (.ifCond .eq 22, 3) := by decide +kernel
theorem dX6_adds_24 : decode cX6_adds 24 = .ok (.aload_n 0, 1) := by decide +kernel
theorem dX6_adds_25 : decode cX6_adds 25 = .ok (.getfield 7, 3) := by decide +kernel
theorem dX6_adds_28 : decode cX6_adds 28 = .ok (.iconst 5, 1) := by decide +kernel
theorem dX6_adds_29 : decode cX6_adds 29 = .ok (.iaload, 1) := by decide +kernel
theorem dX6_adds_30 : decode cX6_adds 30 = .ok (.bipush 8, 2) := by decide +kernel
theorem dX6_adds_32 : decode cX6_adds 32 = .ok (.if_icmp .ge 7, 3) := by decide +kernel
theorem dX6_adds_35 : decode cX6_adds 35 = .ok (.iconst 1, 1) := by decide +kernel
theorem dX6_adds_36 : decode cX6_adds 36 = .ok (.goto 24, 3) := by decide +kernel
theorem dX6_adds_39 : decode cX6_adds 39 = .ok (.iconst 0, 1) := by decide +kernel
theorem dX6_adds_40 : decode cX6_adds 40 = .ok (.goto 20, 3) := by decide +kernel
theorem dX6_adds_43 : decode cX6_adds 43 = .ok (.aload_n 0, 1) := by decide +kernel
theorem dX6_adds_44 : decode cX6_adds 44 = .ok (.getfield 7, 3) := by decide +kernel
theorem dX6_adds_47 : decode cX6_adds 47 = .ok (.bipush 6, 2) := by decide +kernel
theorem dX6_adds_49 : decode cX6_adds 49 = .ok (.iaload, 1) := by decide +kernel
theorem dX6_adds_50 : decode cX6_adds 50 = .ok (.bipush 24, 2) := by decide +kernel
theorem dX6_adds_52 : decode cX6_adds 52 = .ok (.if_icmp .ge 7, 3) := by decide +kernel
theorem dX6_adds_55 : decode cX6_adds 55 = .ok (.iconst 1, 1) := by decide +kernel
theorem dX6_adds_56 : decode cX6_adds 56 = .ok (.goto 4, 3) := by decide +kernel
theorem dX6_adds_59 : decode cX6_adds 59 = .ok (.iconst 0, 1) := by decide +kernel
theorem dX6_adds_60 : decode cX6_adds 60 = .ok (.istore 4, 2) := by decide +kernel
theorem dX6_adds_62 : decode cX6_adds 62 = .ok (.iload 4, 2) := by decide +kernel
theorem dX6_adds_64 : decode cX6_adds 64 = .ok (.ifCond .ne 7, 3) := by decide +kernel
theorem dX6_adds_67 : decode cX6_adds 67 = .ok (.iconst 0, 1) := by decide +kernel
theorem dX6_adds_68 : decode cX6_adds 68 = .ok (.goto 60, 3) := by decide +kernel
theorem dX6_adds_71 : decode cX6_adds 71 = .ok (.iload_n 3, 1) := by decide +kernel
theorem dX6_adds_72 : decode cX6_adds 72 = .ok (.ifCond .eq 36, 3) := by decide +kernel
theorem dX6_adds_75 : decode cX6_adds 75 = .ok (.aload_n 0, 1) := by decide +kernel
theorem dX6_adds_76 : decode cX6_adds 76 = .ok (.aload_n 0, 1) := by decide +kernel
theorem dX6_adds_77 : decode cX6_adds 77 = .ok (.getfield 28, 3) := by decide +kernel
theorem dX6_adds_80 : decode cX6_adds 80 = .ok (.iload_n 2, 1) := by decide +kernel
theorem dX6_adds_81 : decode cX6_adds 81 = .ok (.iconst 1, 1) := by decide +kernel
theorem dX6_adds_82 : decode cX6_adds 82 = .ok (.iadd, 1) := by decide +kernel
theorem dX6_adds_83 : decode cX6_adds 83 = .ok (.iaload, 1) := by decide +kernel
theorem dX6_adds_84 : decode cX6_adds 84 = .ok (.aload_n 0, 1) := by decide +kernel
theorem dX6_adds_85 : decode cX6_adds 85 = .ok (.getfield 28, 3) := by decide +kernel
theorem dX6_adds_88 : decode cX6_adds 88 = .ok (.iload_n 2, 1) := by decide +kernel
theorem dX6_adds_89 : decode cX6_adds 89 = .ok (.iconst 2, 1) := by decide +kernel
theorem dX6_adds_90 : decode cX6_adds 90 = .ok (.iadd, 1) := by decide +kernel
theorem dX6_adds_91 : decode cX6_adds 91 = .ok (.iaload, 1) := by decide +kernel
theorem dX6_adds_92 : decode cX6_adds 92 = .ok (.aload_n 0, 1) := by decide +kernel
theorem dX6_adds_93 : decode cX6_adds 93 = .ok (.getfield 28, 3) := by decide +kernel
theorem dX6_adds_96 : decode cX6_adds 96 = .ok (.iload_n 2, 1) := by decide +kernel
theorem dX6_adds_97 : decode cX6_adds 97 = .ok (.iconst 3, 1) := by decide +kernel
theorem dX6_adds_98 : decode cX6_adds 98 = .ok (.iadd, 1) := by decide +kernel
theorem dX6_adds_99 : decode cX6_adds 99 = .ok (.iaload, 1) := by decide +kernel
theorem dX6_adds_100 : decode cX6_adds 100 = .ok (.iconst 0, 1) := by decide +kernel
theorem dX6_adds_101 : decode cX6_adds 101 = .ok (.iconst 0, 1) := by decide +kernel
theorem dX6_adds_102 : decode cX6_adds 102 = .ok (.invokevirtual 62, 3) := by decide +kernel
theorem dX6_adds_105 : decode cX6_adds 105 = .ok (.goto 23, 3) := by decide +kernel
theorem dX6_adds_108 : decode cX6_adds 108 = .ok (.aload_n 0, 1) := by decide +kernel
theorem dX6_adds_109 : decode cX6_adds 109 = .ok (.aload_n 0, 1) := by decide +kernel
theorem dX6_adds_110 : decode cX6_adds 110 = .ok (.getfield 28, 3) := by decide +kernel
theorem dX6_adds_113 : decode cX6_adds 113 = .ok (.iload_n 2, 1) := by decide +kernel
theorem dX6_adds_114 : decode cX6_adds 114 = .ok (.iconst 1, 1) := by decide +kernel
theorem dX6_adds_115 : decode cX6_adds 115 = .ok (.iadd, 1) := by decide +kernel
theorem dX6_adds_116 : decode cX6_adds 116 = .ok (.iaload, 1) := by decide +kernel
theorem dX6_adds_117 : decode cX6_adds 117 = .ok (.aload_n 0, 1) := by decide +kernel
theorem dX6_adds_118 : decode cX6_adds 118 = .ok (.getfield 28, 3) := by decide +kernel
theorem dX6_adds_121 : decode cX6_adds 121 = .ok (.iload_n 2, 1) := by decide +kernel
theorem dX6_adds_122 : decode cX6_adds 122 = .ok (.iconst 2, 1) := by decide +kernel
theorem dX6_adds_123 : decode cX6_adds 123 = .ok (.iadd, 1) := by decide +kernel
theorem dX6_adds_124 : decode cX6_adds 124 = .ok (.iaload, 1) := by decide +kernel
theorem dX6_adds_125 : decode cX6_adds 125 = .ok (.invokevirtual 66, 3) := by decide +kernel
theorem dX6_adds_128 : decode cX6_adds 128 = .ok (.istore 5, 2) := by decide +kernel
theorem dX6_adds_130 : decode cX6_adds 130 = .ok (.iload 4, 2) := by decide +kernel
theorem dX6_adds_132 : decode cX6_adds 132 = .ok (.ireturn, 1) := by decide +kernel
set_option maxRecDepth 20000 in
theorem ggX6_read_X6_rightUpTo : GoodIn wsX6_read wsX6_rightUpTo := goodIn_r _ [10, 5, 2, 1, 11, 12, 13, 14, 9, 15, 3, 16, 17, 18, 19, 20, 21, 22, 23, 24, 25, 26, 46, 47, 48, 49, 50, 51, 52, 53, 54, 55, 56, 57, 58, 59, 60] (by decide +kernel) (by decide +kernel)
set_option maxRecDepth 20000 in
theorem gX6_read_X6_rightUpTo : GoodIn wsX6_read (wsV RX6 184 RX6 yX6_rightUpTo wsX6_rightUpTo) := goodIn_app (goodIn_of _ (by decide +kernel)) ggX6_read_X6_rightUpTo
set_option maxRecDepth 20000 in
theorem ggX6_read_X6_save : GoodIn wsX6_read wsX6_save := goodIn_r _ [30, 31, 32, 33, 46, 47, 48, 49, 50, 51, 52, 53, 54, 55, 56, 57, 58, 59, 60] (by decide +kernel) (by decide +kernel)
set_option maxRecDepth 20000 in
theorem gX6_read_X6_save : GoodIn wsX6_read (wsV RX6 59 RX6 yX6_save wsX6_save) := goodIn_app (goodIn_of _ (by decide +kernel)) ggX6_read_X6_save
set_option maxRecDepth 20000 in
theorem ggX6_read_X6_adds : GoodIn wsX6_read wsX6_adds := goodIn_r _ [37, 16, 33, 38, 39, 40, 9, 41, 42, 43, 44, 45, 46, 47, 48, 49, 50, 51, 52, 53, 54, 55, 56, 57, 58, 59, 60] (by decide +kernel) (by decide +kernel)
set_option maxRecDepth 20000 in
theorem gX6_read_X6_adds : GoodIn wsX6_read (wsV RX6 187 RX6 yX6_adds wsX6_adds) := goodIn_app (goodIn_of _ (by decide +kernel)) ggX6_read_X6_adds
theorem dX6_read_0 : decode cX6_read 0 = .ok (.aload_n 0, 1) := by decide +kernel
theorem dX6_read_1 : decode cX6_read 1 = .ok (.invokevirtual 184, 3) := by decide +kernel
theorem dX6_read_4 : decode cX6_read 4 = .ok (.aload_n 0, 1) := by decide +kernel
theorem dX6_read_5 : decode cX6_read 5 = .ok (.getfield 166, 3) := by decide +kernel
theorem dX6_read_8 : decode cX6_read 8 = .ok (.if_icmp .ne 31, 3) := by decide +kernel
theorem dX6_read_11 : decode cX6_read 11 = .ok (.aload_n 0, 1) := by decide +kernel
theorem dX6_read_12 : decode cX6_read 12 = .ok (.getfield 172, 3) := by decide +kernel
theorem dX6_read_15 : decode cX6_read 15 = .ok (.iconst 5, 1) := by decide +kernel
theorem dX6_read_16 : decode cX6_read 16 = .ok (.if_icmp .eq 19, 3) := by decide +kernel
theorem dX6_read_19 : decode cX6_read 19 = .ok (.aload_n 0, 1) := by decide +kernel
theorem dX6_read_20 : decode cX6_read 20 = .ok (.getfield 172, 3) := by decide +kernel
theorem dX6_read_23 : decode cX6_read 23 = .ok (.iconst 4, 1) := by decide +kernel
theorem dX6_read_24 : decode cX6_read 24 = .ok (.if_icmp .ne 15, 3) := by decide +kernel
theorem dX6_read_27 : decode cX6_read 27 = .ok (.aload_n 0, 1) := by decide +kernel
theorem dX6_read_28 : decode cX6_read 28 = .ok (.getfield 169, 3) := by decide +kernel
theorem dX6_read_31 : decode cX6_read 31 = .ok (.iconst (-1), 1) := by decide +kernel
theorem dX6_read_32 : decode cX6_read 32 = .ok (.if_icmp .eq 7, 3) := by decide +kernel
theorem dX6_read_35 : decode cX6_read 35 = .ok (.iconst 1, 1) := by decide +kernel
theorem dX6_read_36 : decode cX6_read 36 = .ok (.goto 4, 3) := by decide +kernel
theorem dX6_read_39 : decode cX6_read 39 = .ok (.iconst 0, 1) := by decide +kernel
theorem dX6_read_40 : decode cX6_read 40 = .ok (.istore_n 1, 1) := by decide +kernel
theorem dX6_read_41 : decode cX6_read 41 = .ok (.aload_n 0, 1) := by decide +kernel
theorem dX6_read_42 : decode cX6_read 42 = .ok (.iload_n 1, 1) := by decide +kernel
theorem dX6_read_43 : decode cX6_read 43 = .ok (.ifCond .eq 7, 3) := by decide +kernel
theorem dX6_read_46 : decode cX6_read 46 = .ok (.iconst 0, 1) := by decide +kernel
theorem dX6_read_47 : decode cX6_read 47 = .ok (.goto 4, 3) := by decide +kernel
theorem dX6_read_50 : decode cX6_read 50 = .ok (.iconst 1, 1) := by decide +kernel
theorem dX6_read_51 : decode cX6_read 51 = .ok (.putfield 34, 3) := by decide +kernel
theorem dX6_read_54 : decode cX6_read 54 = .ok (.aload_n 0, 1) := by decide +kernel
theorem dX6_read_55 : decode cX6_read 55 = .ok (.getfield 34, 3) := by decide +kernel
theorem dX6_read_58 : decode cX6_read 58 = .ok (.ifCond .le 5, 3) := by decide +kernel
theorem dX6_read_61 : decode cX6_read 61 = .ok (.iconst 0, 1) := by decide +kernel
theorem dX6_read_62 : decode cX6_read 62 = .ok (.ireturn, 1) := by decide +kernel
theorem dX6_read_63 : decode cX6_read 63 = .ok (.aload_n 0, 1) := by decide +kernel
theorem dX6_read_64 : decode cX6_read 64 = .ok (.invokevirtual 59, 3) := by decide +kernel
theorem dX6_read_67 : decode cX6_read 67 = .ok (.aload_n 0, 1) := by decide +kernel
theorem dX6_read_68 : decode cX6_read 68 = .ok (.iconst 0, 1) := by decide +kernel
theorem dX6_read_69 : decode cX6_read 69 = .ok (.putfield 166, 3) := by decide +kernel
theorem dX6_read_72 : decode cX6_read 72 = .ok (.iconst 0, 1) := by decide +kernel
theorem dX6_read_73 : decode cX6_read 73 = .ok (.istore_n 2, 1) := by decide +kernel
theorem dX6_read_74 : decode cX6_read 74 = .ok (.iload_n 2, 1) := by decide +kernel
theorem dX6_read_75 : decode cX6_read 75 = .ok (.aload_n 0, 1) := by decide +kernel
theorem dX6_read_76 : decode cX6_read 76 = .ok (.getfield 175, 3) := by decide +kernel
theorem dX6_read_79 : decode cX6_read 79 = .ok (.if_icmp .gt 17, 3) := by decide +kernel
theorem dX6_read_82 : decode cX6_read 82 = .ok (.aload_n 0, 1) := by decide +kernel
theorem dX6_read_83 : decode cX6_read 83 = .ok (.iload_n 2, 1) := by decide +kernel
theorem dX6_read_84 : decode cX6_read 84 = .ok (.invokevirtual 187, 3) := by decide +kernel
theorem dX6_read_87 : decode cX6_read 87 = .ok (.ifCond .eq 9, 3) := by decide +kernel
theorem dX6_read_90 : decode cX6_read 90 = .ok (.iinc 2 1, 3) := by decide +kernel
theorem dX6_read_93 : decode cX6_read 93 = .ok (.goto (-19), 3) := by decide +kernel
theorem dX6_read_96 : decode cX6_read 96 = .ok (.iload_n 2, 1) := by decide +kernel
theorem dX6_read_97 : decode cX6_read 97 = .ok (.ireturn, 1) := by decide +kernel
theorem dX6_undo_0 : decode cX6_undo 0 = .ok (.aload_n 0, 1) := by decide +kernel
theorem dX6_undo_1 : decode cX6_undo 1 = .ok (.aload_n 0, 1) := by decide +kernel
theorem dX6_undo_2 : decode cX6_undo 2 = .ok (.getfield 38, 3) := by decide +kernel
theorem dX6_undo_5 : decode cX6_undo 5 = .ok (.ifCond .le 7, 3) := by decide +kernel
theorem dX6_undo_8 : decode cX6_undo 8 = .ok (.iconst 0, 1) := by decide +kernel
theorem dX6_undo_9 : decode cX6_undo 9 = .ok (.goto 4, 3) := by decide +kernel
theorem dX6_undo_12 : decode cX6_undo 12 = .ok (.iconst 1, 1) := by decide +kernel
theorem dX6_undo_13 : decode cX6_undo 13 = .ok (.putfield 34, 3) := by decide +kernel
theorem dX6_undo_16 : decode cX6_undo 16 = .ok (.aload_n 0, 1) := by decide +kernel
theorem dX6_undo_17 : decode cX6_undo 17 = .ok (.getfield 34, 3) := by decide +kernel
theorem dX6_undo_20 : decode cX6_undo 20 = .ok (.ifCond .le 5, 3) := by decide +kernel
theorem dX6_undo_23 : decode cX6_undo 23 = .ok (.iconst 0, 1) := by decide +kernel
theorem dX6_undo_24 : decode cX6_undo 24 = .ok (.ireturn, 1) := by decide +kernel
theorem dX6_undo_25 : decode cX6_undo 25 = .ok (.aload_n 0, 1) := by decide +kernel
theorem dX6_undo_26 : decode cX6_undo 26 = .ok (.dup, 1) := by decide +kernel
theorem dX6_undo_27 : decode cX6_undo 27 = .ok (.getfield 38, 3) := by decide +kernel
theorem dX6_undo_30 : decode cX6_undo 30 = .ok (.iconst 1, 1) := by decide +kernel
theorem dX6_undo_31 : decode cX6_undo 31 = .ok (.isub, 1) := by decide +kernel
theorem dX6_undo_32 : decode cX6_undo 32 = .ok (.putfield 38, 3) := by decide +kernel
theorem dX6_undo_35 : decode cX6_undo 35 = .ok (.iconst 0, 1) := by decide +kernel
theorem dX6_undo_36 : decode cX6_undo 36 = .ok (.istore_n 1, 1) := by decide +kernel
theorem dX6_undo_37 : decode cX6_undo 37 = .ok (.iload_n 1, 1) := by decide +kernel
theorem dX6_undo_38 : decode cX6_undo 38 = .ok (.sipush 248, 3) := by decide +kernel
theorem dX6_undo_41 : decode cX6_undo 41 = .ok (.if_icmp .ge 30, 3) := by decide +kernel
theorem dX6_undo_44 : decode cX6_undo 44 = .ok (.aload_n 0, 1) := by decide +kernel
theorem dX6_undo_45 : decode cX6_undo 45 = .ok (.getfield 7, 3) := by decide +kernel
theorem dX6_undo_48 : decode cX6_undo 48 = .ok (.iload_n 1, 1) := by decide +kernel
theorem dX6_undo_49 : decode cX6_undo 49 = .ok (.aload_n 0, 1) := by decide +kernel
theorem dX6_undo_50 : decode cX6_undo 50 = .ok (.getfield 13, 3) := by decide +kernel
theorem dX6_undo_53 : decode cX6_undo 53 = .ok (.sipush 248, 3) := by decide +kernel
theorem dX6_undo_56 : decode cX6_undo 56 = .ok (.aload_n 0, 1) := by decide +kernel
theorem dX6_undo_57 : decode cX6_undo 57 = .ok (.getfield 38, 3) := by decide +kernel
theorem dX6_undo_60 : decode cX6_undo 60 = .ok (.imul, 1) := by decide +kernel
theorem dX6_undo_61 : decode cX6_undo 61 = .ok (.iload_n 1, 1) := by decide +kernel
theorem dX6_undo_62 : decode cX6_undo 62 = .ok (.iadd, 1) := by decide +kernel
theorem dX6_undo_63 : decode cX6_undo 63 = .ok (.iaload, 1) := by decide +kernel
theorem dX6_undo_64 : decode cX6_undo 64 = .ok (.iastore, 1) := by decide +kernel
theorem dX6_undo_65 : decode cX6_undo 65 = .ok (.iinc 1 1, 3) := by decide +kernel
theorem dX6_undo_68 : decode cX6_undo 68 = .ok (.goto (-31), 3) := by decide +kernel
theorem dX6_undo_71 : decode cX6_undo 71 = .ok (.aload_n 0, 1) := by decide +kernel
theorem dX6_undo_72 : decode cX6_undo 72 = .ok (.getfield 38, 3) := by decide +kernel
theorem dX6_undo_75 : decode cX6_undo 75 = .ok (.ireturn, 1) := by decide +kernel
set_option maxRecDepth 20000 in
theorem ggX6_feederNow_X6_ofFeeder : GoodIn wsX6_feederNow wsX6_ofFeeder := goodIn_r _ [5, 6, 11, 12, 13, 14, 15, 16, 17, 18, 19, 20, 21, 22, 23, 24, 25] (by decide +kernel) (by decide +kernel)
set_option maxRecDepth 20000 in
theorem gX6_feederNow_X6_ofFeeder : GoodIn wsX6_feederNow (wsV RX6 72 RX6 yX6_ofFeeder wsX6_ofFeeder) := goodIn_app (goodIn_of _ (by decide +kernel)) ggX6_feederNow_X6_ofFeeder
set_option maxRecDepth 20000 in
theorem ggX6_feederNow_X6_trustOf : GoodIn wsX6_feederNow wsX6_trustOf := goodIn_r _ [10, 6, 11, 12, 13, 14, 15, 16, 17, 18, 19, 20, 21, 22, 23, 24, 25] (by decide +kernel) (by decide +kernel)
set_option maxRecDepth 20000 in
theorem gX6_feederNow_X6_trustOf : GoodIn wsX6_feederNow (wsV RX6 41 RX6 yX6_trustOf wsX6_trustOf) := goodIn_app (goodIn_of _ (by decide +kernel)) ggX6_feederNow_X6_trustOf
theorem dX6_feederNow_0 : decode cX6_feederNow 0 = .ok (.iload_n 2, 1) := by decide +kernel
theorem dX6_feederNow_1 : decode cX6_feederNow 1 = .ok (.bipush 8, 2) := by decide +kernel
theorem dX6_feederNow_3 : decode cX6_feederNow 3 = .ok (.if_icmp .ge 10, 3) := by decide +kernel
theorem dX6_feederNow_6 : decode cX6_feederNow 6 = .ok (.aload_n 0, 1) := by decide +kernel
theorem dX6_feederNow_7 : decode cX6_feederNow 7 = .ok (.iload_n 1, 1) := by decide +kernel
theorem dX6_feederNow_8 : decode cX6_feederNow 8 = .ok (.iload_n 2, 1) := by decide +kernel
theorem dX6_feederNow_9 : decode cX6_feederNow 9 = .ok (.invokevirtual 72, 3) := by decide +kernel
theorem dX6_feederNow_12 : decode cX6_feederNow 12 = .ok (.ireturn, 1) := by decide +kernel
theorem dX6_feederNow_13 : decode cX6_feederNow 13 = .ok (.iconst 0, 1) := by decide +kernel
theorem dX6_feederNow_14 : decode cX6_feederNow 14 = .ok (.istore_n 3, 1) := by decide +kernel
theorem dX6_feederNow_15 : decode cX6_feederNow 15 = .ok (.iconst 0, 1) := by decide +kernel
theorem dX6_feederNow_16 : decode cX6_feederNow 16 = .ok (.istore 4, 2) := by decide +kernel
theorem dX6_feederNow_18 : decode cX6_feederNow 18 = .ok (.iload 4, 2) := by decide +kernel
theorem dX6_feederNow_20 : decode cX6_feederNow 20 = .ok (.iconst 4, 1) := by decide +kernel
theorem dX6_feederNow_21 : decode cX6_feederNow 21 = .ok (.if_icmp .ge 19, 3) := by decide +kernel
theorem dX6_feederNow_24 : decode cX6_feederNow 24 = .ok (.iload_n 3, 1) := by decide +kernel
theorem dX6_feederNow_25 : decode cX6_feederNow 25 = .ok (.aload_n 0, 1) := by decide +kernel
theorem dX6_feederNow_26 : decode cX6_feederNow 26 = .ok (.iload 4, 2) := by decide +kernel
theorem dX6_feederNow_28 : decode cX6_feederNow 28 = .ok (.iload_n 1, 1) := by decide +kernel
theorem dX6_feederNow_29 : decode cX6_feederNow 29 = .ok (.invokevirtual 41, 3) := by decide +kernel
theorem dX6_feederNow_32 : decode cX6_feederNow 32 = .ok (.iadd, 1) := by decide +kernel
theorem dX6_feederNow_33 : decode cX6_feederNow 33 = .ok (.istore_n 3, 1) := by decide +kernel
theorem dX6_feederNow_34 : decode cX6_feederNow 34 = .ok (.iinc 4 1, 3) := by decide +kernel
theorem dX6_feederNow_37 : decode cX6_feederNow 37 = .ok (.goto (-19), 3) := by decide +kernel
theorem dX6_feederNow_40 : decode cX6_feederNow 40 = .ok (.iload_n 3, 1) := by decide +kernel
theorem dX6_feederNow_41 : decode cX6_feederNow 41 = .ok (.ireturn, 1) := by decide +kernel
set_option maxRecDepth 20000 in
theorem ggX6_feeder_X6_isFeeder : GoodIn wsX6_feeder wsX6_isFeeder := goodIn_r _ [6, 7, 8, 9, 5, 10, 23, 24, 25, 26, 27, 28, 29, 30, 31, 32, 33, 34, 35, 36, 37] (by decide +kernel) (by decide +kernel)
set_option maxRecDepth 20000 in
theorem gX6_feeder_X6_isFeeder : GoodIn wsX6_feeder (wsV RX6 69 RX6 yX6_isFeeder wsX6_isFeeder) := goodIn_app (goodIn_of _ (by decide +kernel)) ggX6_feeder_X6_isFeeder
set_option maxRecDepth 20000 in
theorem ggX6_feeder_X6_within : GoodIn wsX6_feeder wsX6_within := goodIn_r _ [10] (by decide +kernel) (by decide +kernel)
set_option maxRecDepth 20000 in
theorem gX6_feeder_X6_within : GoodIn wsX6_feeder (va_wsS RX6 45 yX6_within wsX6_within) := goodIn_app (goodIn_of _ (by decide +kernel)) ggX6_feeder_X6_within
set_option maxRecDepth 20000 in
theorem ggX6_feeder_X6_feederNow : GoodIn wsX6_feeder wsX6_feederNow := goodIn_r _ [14, 15, 16, 17, 5, 18, 7, 19, 20, 21, 22, 23, 24, 25, 26, 27, 28, 29, 30, 31, 32, 33, 34, 35, 36, 37] (by decide +kernel) (by decide +kernel)
set_option maxRecDepth 20000 in
theorem gX6_feeder_X6_feederNow : GoodIn wsX6_feeder (wsV RX6 190 RX6 yX6_feederNow wsX6_feederNow) := goodIn_app (goodIn_of _ (by decide +kernel)) ggX6_feeder_X6_feederNow
theorem dX6_feeder_0 : decode cX6_feeder 0 = .ok (.aload_n 0, 1) := by decide +kernel
theorem dX6_feeder_1 : decode cX6_feeder 1 = .ok (.aload_n 0, 1) := by decide +kernel
theorem dX6_feeder_2 : decode cX6_feeder 2 = .ok (.iload_n 1, 1) := by decide +kernel
theorem dX6_feeder_3 : decode cX6_feeder 3 = .ok (.invokevirtual 69, 3) := by decide +kernel
theorem dX6_feeder_6 : decode cX6_feeder 6 = .ok (.ifCond .ne 7, 3) := by decide +kernel
theorem dX6_feeder_9 : decode cX6_feeder 9 = .ok (.iconst 1, 1) := by decide +kernel
theorem dX6_feeder_10 : decode cX6_feeder 10 = .ok (.goto 18, 3) := by decide +kernel
theorem dX6_feeder_13 : decode cX6_feeder 13 = .ok (.iload_n 2, 1) := by decide +kernel
theorem dX6_feeder_14 : decode cX6_feeder 14 = .ok (.iconst 0, 1) := by decide +kernel
theorem dX6_feeder_15 : decode cX6_feeder 15 = .ok (.bipush 8, 2) := by decide +kernel
theorem dX6_feeder_17 : decode cX6_feeder 17 = .ok (.invokestatic 45, 3) := by decide +kernel
theorem dX6_feeder_20 : decode cX6_feeder 20 = .ok (.ifCond .eq 7, 3) := by decide +kernel
theorem dX6_feeder_23 : decode cX6_feeder 23 = .ok (.iconst 0, 1) := by decide +kernel
theorem dX6_feeder_24 : decode cX6_feeder 24 = .ok (.goto 4, 3) := by decide +kernel
theorem dX6_feeder_27 : decode cX6_feeder 27 = .ok (.iconst 2, 1) := by decide +kernel
theorem dX6_feeder_28 : decode cX6_feeder 28 = .ok (.putfield 34, 3) := by decide +kernel
theorem dX6_feeder_31 : decode cX6_feeder 31 = .ok (.aload_n 0, 1) := by decide +kernel
theorem dX6_feeder_32 : decode cX6_feeder 32 = .ok (.getfield 34, 3) := by decide +kernel
theorem dX6_feeder_35 : decode cX6_feeder 35 = .ok (.ifCond .le 7, 3) := by decide +kernel
theorem dX6_feeder_38 : decode cX6_feeder 38 = .ok (.iconst 0, 1) := by decide +kernel
theorem dX6_feeder_39 : decode cX6_feeder 39 = .ok (.goto 9, 3) := by decide +kernel
theorem dX6_feeder_42 : decode cX6_feeder 42 = .ok (.aload_n 0, 1) := by decide +kernel
theorem dX6_feeder_43 : decode cX6_feeder 43 = .ok (.iload_n 1, 1) := by decide +kernel
theorem dX6_feeder_44 : decode cX6_feeder 44 = .ok (.iload_n 2, 1) := by decide +kernel
theorem dX6_feeder_45 : decode cX6_feeder 45 = .ok (.invokevirtual 190, 3) := by decide +kernel
theorem dX6_feeder_48 : decode cX6_feeder 48 = .ok (.ireturn, 1) := by decide +kernel
set_option maxRecDepth 20000 in
theorem ggX6_place_X6_isPlace : GoodIn wsX6_place wsX6_isPlace := goodIn_r _ [6, 7, 8, 9, 5, 10, 15, 16, 17, 18, 19, 20, 21, 22, 23, 24, 25, 26, 27, 28, 29] (by decide +kernel) (by decide +kernel)
set_option maxRecDepth 20000 in
theorem gX6_place_X6_isPlace : GoodIn wsX6_place (wsV RX6 193 RX6 yX6_isPlace wsX6_isPlace) := goodIn_app (goodIn_of _ (by decide +kernel)) ggX6_place_X6_isPlace
set_option maxRecDepth 20000 in
theorem ggX6_place_X6_within : GoodIn wsX6_place wsX6_within := goodIn_r _ [10] (by decide +kernel) (by decide +kernel)
set_option maxRecDepth 20000 in
theorem gX6_place_X6_within : GoodIn wsX6_place (va_wsS RX6 45 yX6_within wsX6_within) := goodIn_app (goodIn_of _ (by decide +kernel)) ggX6_place_X6_within
set_option maxRecDepth 20000 in
theorem ggX6_place_X6_ofPlace : GoodIn wsX6_place wsX6_ofPlace := goodIn_r _ [14, 7, 15, 16, 17, 18, 19, 20, 21, 22, 23, 24, 25, 26, 27, 28, 29] (by decide +kernel) (by decide +kernel)
set_option maxRecDepth 20000 in
theorem gX6_place_X6_ofPlace : GoodIn wsX6_place (wsV RX6 81 RX6 yX6_ofPlace wsX6_ofPlace) := goodIn_app (goodIn_of _ (by decide +kernel)) ggX6_place_X6_ofPlace
theorem dX6_place_0 : decode cX6_place 0 = .ok (.aload_n 0, 1) := by decide +kernel
theorem dX6_place_1 : decode cX6_place 1 = .ok (.aload_n 0, 1) := by decide +kernel
theorem dX6_place_2 : decode cX6_place 2 = .ok (.iload_n 1, 1) := by decide +kernel
theorem dX6_place_3 : decode cX6_place 3 = .ok (.invokevirtual 193, 3) := by decide +kernel
theorem dX6_place_6 : decode cX6_place 6 = .ok (.ifCond .ne 7, 3) := by decide +kernel
theorem dX6_place_9 : decode cX6_place 9 = .ok (.iconst 1, 1) := by decide +kernel
theorem dX6_place_10 : decode cX6_place 10 = .ok (.goto 17, 3) := by decide +kernel
theorem dX6_place_13 : decode cX6_place 13 = .ok (.iload_n 2, 1) := by decide +kernel
theorem dX6_place_14 : decode cX6_place 14 = .ok (.iconst 0, 1) := by decide +kernel
theorem dX6_place_15 : decode cX6_place 15 = .ok (.iconst 4, 1) := by decide +kernel
theorem dX6_place_16 : decode cX6_place 16 = .ok (.invokestatic 45, 3) := by decide +kernel
theorem dX6_place_19 : decode cX6_place 19 = .ok (.ifCond .eq 7, 3) := by decide +kernel
theorem dX6_place_22 : decode cX6_place 22 = .ok (.iconst 0, 1) := by decide +kernel
theorem dX6_place_23 : decode cX6_place 23 = .ok (.goto 4, 3) := by decide +kernel
theorem dX6_place_26 : decode cX6_place 26 = .ok (.iconst 2, 1) := by decide +kernel
theorem dX6_place_27 : decode cX6_place 27 = .ok (.putfield 34, 3) := by decide +kernel
theorem dX6_place_30 : decode cX6_place 30 = .ok (.aload_n 0, 1) := by decide +kernel
theorem dX6_place_31 : decode cX6_place 31 = .ok (.getfield 34, 3) := by decide +kernel
theorem dX6_place_34 : decode cX6_place 34 = .ok (.ifCond .le 7, 3) := by decide +kernel
theorem dX6_place_37 : decode cX6_place 37 = .ok (.iconst 0, 1) := by decide +kernel
theorem dX6_place_38 : decode cX6_place 38 = .ok (.goto 9, 3) := by decide +kernel
theorem dX6_place_41 : decode cX6_place 41 = .ok (.aload_n 0, 1) := by decide +kernel
theorem dX6_place_42 : decode cX6_place 42 = .ok (.iload_n 1, 1) := by decide +kernel
theorem dX6_place_43 : decode cX6_place 43 = .ok (.iload_n 2, 1) := by decide +kernel
theorem dX6_place_44 : decode cX6_place 44 = .ok (.invokevirtual 81, 3) := by decide +kernel
theorem dX6_place_47 : decode cX6_place 47 = .ok (.ireturn, 1) := by decide +kernel
set_option maxRecDepth 20000 in
theorem ggX6_nozzle_X6_isNozzle : GoodIn wsX6_nozzle wsX6_isNozzle := goodIn_r _ [5, 6, 7, 4, 8] (by decide +kernel) (by decide +kernel)
set_option maxRecDepth 20000 in
theorem gX6_nozzle_X6_isNozzle : GoodIn wsX6_nozzle (va_wsS RX6 75 yX6_isNozzle wsX6_isNozzle) := goodIn_app (goodIn_of _ (by decide +kernel)) ggX6_nozzle_X6_isNozzle
set_option maxRecDepth 20000 in
theorem ggX6_nozzle_X6_within : GoodIn wsX6_nozzle wsX6_within := goodIn_r _ [8] (by decide +kernel) (by decide +kernel)
set_option maxRecDepth 20000 in
theorem gX6_nozzle_X6_within : GoodIn wsX6_nozzle (va_wsS RX6 45 yX6_within wsX6_within) := goodIn_app (goodIn_of _ (by decide +kernel)) ggX6_nozzle_X6_within
set_option maxRecDepth 20000 in
theorem ggX6_nozzle_X6_ofNozzle : GoodIn wsX6_nozzle wsX6_ofNozzle := goodIn_r _ [12, 13, 14, 15, 16, 17, 18, 19, 20, 21, 22, 23, 24, 25, 26, 27, 28] (by decide +kernel) (by decide +kernel)
set_option maxRecDepth 20000 in
theorem gX6_nozzle_X6_ofNozzle : GoodIn wsX6_nozzle (wsV RX6 78 RX6 yX6_ofNozzle wsX6_ofNozzle) := goodIn_app (goodIn_of _ (by decide +kernel)) ggX6_nozzle_X6_ofNozzle
theorem dX6_nozzle_0 : decode cX6_nozzle 0 = .ok (.aload_n 0, 1) := by decide +kernel
theorem dX6_nozzle_1 : decode cX6_nozzle 1 = .ok (.iload_n 1, 1) := by decide +kernel
theorem dX6_nozzle_2 : decode cX6_nozzle 2 = .ok (.invokestatic 75, 3) := by decide +kernel
theorem dX6_nozzle_5 : decode cX6_nozzle 5 = .ok (.ifCond .ne 7, 3) := by decide +kernel
theorem dX6_nozzle_8 : decode cX6_nozzle 8 = .ok (.iconst 1, 1) := by decide +kernel
theorem dX6_nozzle_9 : decode cX6_nozzle 9 = .ok (.goto 17, 3) := by decide +kernel
theorem dX6_nozzle_12 : decode cX6_nozzle 12 = .ok (.iload_n 2, 1) := by decide +kernel
theorem dX6_nozzle_13 : decode cX6_nozzle 13 = .ok (.iconst 0, 1) := by decide +kernel
theorem dX6_nozzle_14 : decode cX6_nozzle 14 = .ok (.iconst 4, 1) := by decide +kernel
theorem dX6_nozzle_15 : decode cX6_nozzle 15 = .ok (.invokestatic 45, 3) := by decide +kernel
theorem dX6_nozzle_18 : decode cX6_nozzle 18 = .ok (.ifCond .eq 7, 3) := by decide +kernel
theorem dX6_nozzle_21 : decode cX6_nozzle 21 = .ok (.iconst 0, 1) := by decide +kernel
theorem dX6_nozzle_22 : decode cX6_nozzle 22 = .ok (.goto 4, 3) := by decide +kernel
theorem dX6_nozzle_25 : decode cX6_nozzle 25 = .ok (.iconst 2, 1) := by decide +kernel
theorem dX6_nozzle_26 : decode cX6_nozzle 26 = .ok (.putfield 34, 3) := by decide +kernel
theorem dX6_nozzle_29 : decode cX6_nozzle 29 = .ok (.aload_n 0, 1) := by decide +kernel
theorem dX6_nozzle_30 : decode cX6_nozzle 30 = .ok (.getfield 34, 3) := by decide +kernel
theorem dX6_nozzle_33 : decode cX6_nozzle 33 = .ok (.ifCond .le 7, 3) := by decide +kernel
theorem dX6_nozzle_36 : decode cX6_nozzle 36 = .ok (.iconst 0, 1) := by decide +kernel
theorem dX6_nozzle_37 : decode cX6_nozzle 37 = .ok (.goto 9, 3) := by decide +kernel
theorem dX6_nozzle_40 : decode cX6_nozzle 40 = .ok (.aload_n 0, 1) := by decide +kernel
theorem dX6_nozzle_41 : decode cX6_nozzle 41 = .ok (.iload_n 1, 1) := by decide +kernel
theorem dX6_nozzle_42 : decode cX6_nozzle 42 = .ok (.iload_n 2, 1) := by decide +kernel
theorem dX6_nozzle_43 : decode cX6_nozzle 43 = .ok (.invokevirtual 78, 3) := by decide +kernel
theorem dX6_nozzle_46 : decode cX6_nozzle 46 = .ok (.ireturn, 1) := by decide +kernel
set_option maxRecDepth 20000 in
theorem ggX6_trust_X6_isNozzle : GoodIn wsX6_trust wsX6_isNozzle := goodIn_r _ [5, 6, 7, 4, 8] (by decide +kernel) (by decide +kernel)
set_option maxRecDepth 20000 in
theorem gX6_trust_X6_isNozzle : GoodIn wsX6_trust (va_wsS RX6 75 yX6_isNozzle wsX6_isNozzle) := goodIn_app (goodIn_of _ (by decide +kernel)) ggX6_trust_X6_isNozzle
set_option maxRecDepth 20000 in
theorem ggX6_trust_X6_isFeeder : GoodIn wsX6_trust wsX6_isFeeder := goodIn_r _ [12, 13, 6, 7, 4, 8, 18, 19, 20, 21, 22, 23, 24, 25, 26, 27, 28, 29, 30, 31, 32] (by decide +kernel) (by decide +kernel)
set_option maxRecDepth 20000 in
theorem gX6_trust_X6_isFeeder : GoodIn wsX6_trust (wsV RX6 69 RX6 yX6_isFeeder wsX6_isFeeder) := goodIn_app (goodIn_of _ (by decide +kernel)) ggX6_trust_X6_isFeeder
set_option maxRecDepth 20000 in
theorem ggX6_trust_X6_trustOf : GoodIn wsX6_trust wsX6_trustOf := goodIn_r _ [17, 13, 18, 19, 20, 21, 22, 23, 24, 25, 26, 27, 28, 29, 30, 31, 32] (by decide +kernel) (by decide +kernel)
set_option maxRecDepth 20000 in
theorem gX6_trust_X6_trustOf : GoodIn wsX6_trust (wsV RX6 41 RX6 yX6_trustOf wsX6_trustOf) := goodIn_app (goodIn_of _ (by decide +kernel)) ggX6_trust_X6_trustOf
theorem dX6_trust_0 : decode cX6_trust 0 = .ok (.aload_n 0, 1) := by decide +kernel
theorem dX6_trust_1 : decode cX6_trust 1 = .ok (.iload_n 1, 1) := by decide +kernel
theorem dX6_trust_2 : decode cX6_trust 2 = .ok (.invokestatic 75, 3) := by decide +kernel
theorem dX6_trust_5 : decode cX6_trust 5 = .ok (.ifCond .eq 15, 3) := by decide +kernel
theorem dX6_trust_8 : decode cX6_trust 8 = .ok (.aload_n 0, 1) := by decide +kernel
theorem dX6_trust_9 : decode cX6_trust 9 = .ok (.iload_n 2, 1) := by decide +kernel
theorem dX6_trust_10 : decode cX6_trust 10 = .ok (.invokevirtual 69, 3) := by decide +kernel
theorem dX6_trust_13 : decode cX6_trust 13 = .ok (.ifCond .eq 7, 3) := by decide +kernel
theorem dX6_trust_16 : decode cX6_trust 16 = .ok (.iconst 0, 1) := by decide +kernel
theorem dX6_trust_17 : decode cX6_trust 17 = .ok (.goto 4, 3) := by decide +kernel
theorem dX6_trust_20 : decode cX6_trust 20 = .ok (.iconst 1, 1) := by decide +kernel
theorem dX6_trust_21 : decode cX6_trust 21 = .ok (.putfield 34, 3) := by decide +kernel
theorem dX6_trust_24 : decode cX6_trust 24 = .ok (.aload_n 0, 1) := by decide +kernel
theorem dX6_trust_25 : decode cX6_trust 25 = .ok (.getfield 34, 3) := by decide +kernel
theorem dX6_trust_28 : decode cX6_trust 28 = .ok (.ifCond .le 7, 3) := by decide +kernel
theorem dX6_trust_31 : decode cX6_trust 31 = .ok (.iconst 0, 1) := by decide +kernel
theorem dX6_trust_32 : decode cX6_trust 32 = .ok (.goto 9, 3) := by decide +kernel
theorem dX6_trust_35 : decode cX6_trust 35 = .ok (.aload_n 0, 1) := by decide +kernel
theorem dX6_trust_36 : decode cX6_trust 36 = .ok (.iload_n 1, 1) := by decide +kernel
theorem dX6_trust_37 : decode cX6_trust 37 = .ok (.iload_n 2, 1) := by decide +kernel
theorem dX6_trust_38 : decode cX6_trust 38 = .ok (.invokevirtual 41, 3) := by decide +kernel
theorem dX6_trust_41 : decode cX6_trust 41 = .ok (.ireturn, 1) := by decide +kernel
set_option maxRecDepth 20000 in
theorem ggX6_sumOfNozzles_X6_ofNozzle : GoodIn wsX6_sumOfNozzles wsX6_ofNozzle := goodIn_r _ [5, 6, 7, 8, 9, 10, 11, 12, 13, 14, 15, 16, 17, 18, 19, 20, 21] (by decide +kernel) (by decide +kernel)
set_option maxRecDepth 20000 in
theorem gX6_sumOfNozzles_X6_ofNozzle : GoodIn wsX6_sumOfNozzles (wsV RX6 78 RX6 yX6_ofNozzle wsX6_ofNozzle) := goodIn_app (goodIn_of _ (by decide +kernel)) ggX6_sumOfNozzles_X6_ofNozzle
theorem dX6_sumOfNozzles_0 : decode cX6_sumOfNozzles 0 = .ok (.iconst 0, 1) := by decide +kernel
theorem dX6_sumOfNozzles_1 : decode cX6_sumOfNozzles 1 = .ok (.istore_n 2, 1) := by decide +kernel
theorem dX6_sumOfNozzles_2 : decode cX6_sumOfNozzles 2 = .ok (.iconst 0, 1) := by decide +kernel
theorem dX6_sumOfNozzles_3 : decode cX6_sumOfNozzles 3 = .ok (.istore_n 3, 1) := by decide +kernel
theorem dX6_sumOfNozzles_4 : decode cX6_sumOfNozzles 4 = .ok (.iload_n 3, 1) := by decide +kernel
theorem dX6_sumOfNozzles_5 : decode cX6_sumOfNozzles 5 = .ok (.iconst 4, 1) := by decide +kernel
theorem dX6_sumOfNozzles_6 : decode cX6_sumOfNozzles 6 = .ok (.if_icmp .ge 18, 3) := by decide +kernel
theorem dX6_sumOfNozzles_9 : decode cX6_sumOfNozzles 9 = .ok (.iload_n 2, 1) := by decide +kernel
theorem dX6_sumOfNozzles_10 : decode cX6_sumOfNozzles 10 = .ok (.aload_n 0, 1) := by decide +kernel
theorem dX6_sumOfNozzles_11 : decode cX6_sumOfNozzles 11 = .ok (.iload_n 3, 1) := by decide +kernel
theorem dX6_sumOfNozzles_12 : decode cX6_sumOfNozzles 12 = .ok (.iload_n 1, 1) := by decide +kernel
theorem dX6_sumOfNozzles_13 : decode cX6_sumOfNozzles 13 = .ok (.invokevirtual 78, 3) := by decide +kernel
theorem dX6_sumOfNozzles_16 : decode cX6_sumOfNozzles 16 = .ok (.iadd, 1) := by decide +kernel
theorem dX6_sumOfNozzles_17 : decode cX6_sumOfNozzles 17 = .ok (.istore_n 2, 1) := by decide +kernel
theorem dX6_sumOfNozzles_18 : decode cX6_sumOfNozzles 18 = .ok (.iinc 3 1, 3) := by decide +kernel
theorem dX6_sumOfNozzles_21 : decode cX6_sumOfNozzles 21 = .ok (.goto (-17), 3) := by decide +kernel
theorem dX6_sumOfNozzles_24 : decode cX6_sumOfNozzles 24 = .ok (.iload_n 2, 1) := by decide +kernel
theorem dX6_sumOfNozzles_25 : decode cX6_sumOfNozzles 25 = .ok (.ireturn, 1) := by decide +kernel
set_option maxRecDepth 20000 in
theorem ggX6_allParts_X6_ofFeeder : GoodIn wsX6_allParts wsX6_ofFeeder := goodIn_r _ [6, 1, 7, 8, 9, 10, 11, 12, 13, 14, 15, 16, 17, 18, 19, 20, 21] (by decide +kernel) (by decide +kernel)
set_option maxRecDepth 20000 in
theorem gX6_allParts_X6_ofFeeder : GoodIn wsX6_allParts (wsV RX6 72 RX6 yX6_ofFeeder wsX6_ofFeeder) := goodIn_app (goodIn_of _ (by decide +kernel)) ggX6_allParts_X6_ofFeeder
theorem dX6_allParts_0 : decode cX6_allParts 0 = .ok (.iconst 0, 1) := by decide +kernel
theorem dX6_allParts_1 : decode cX6_allParts 1 = .ok (.istore_n 1, 1) := by decide +kernel
theorem dX6_allParts_2 : decode cX6_allParts 2 = .ok (.iconst 0, 1) := by decide +kernel
theorem dX6_allParts_3 : decode cX6_allParts 3 = .ok (.istore_n 2, 1) := by decide +kernel
theorem dX6_allParts_4 : decode cX6_allParts 4 = .ok (.iload_n 2, 1) := by decide +kernel
theorem dX6_allParts_5 : decode cX6_allParts 5 = .ok (.aload_n 0, 1) := by decide +kernel
theorem dX6_allParts_6 : decode cX6_allParts 6 = .ok (.getfield 7, 3) := by decide +kernel
theorem dX6_allParts_9 : decode cX6_allParts 9 = .ok (.iconst 5, 1) := by decide +kernel
theorem dX6_allParts_10 : decode cX6_allParts 10 = .ok (.iaload, 1) := by decide +kernel
theorem dX6_allParts_11 : decode cX6_allParts 11 = .ok (.if_icmp .ge 18, 3) := by decide +kernel
theorem dX6_allParts_14 : decode cX6_allParts 14 = .ok (.iload_n 1, 1) := by decide +kernel
theorem dX6_allParts_15 : decode cX6_allParts 15 = .ok (.aload_n 0, 1) := by decide +kernel
theorem dX6_allParts_16 : decode cX6_allParts 16 = .ok (.iload_n 2, 1) := by decide +kernel
theorem dX6_allParts_17 : decode cX6_allParts 17 = .ok (.iconst 2, 1) := by decide +kernel
theorem dX6_allParts_18 : decode cX6_allParts 18 = .ok (.invokevirtual 72, 3) := by decide +kernel
theorem dX6_allParts_21 : decode cX6_allParts 21 = .ok (.iadd, 1) := by decide +kernel
theorem dX6_allParts_22 : decode cX6_allParts 22 = .ok (.istore_n 1, 1) := by decide +kernel
theorem dX6_allParts_23 : decode cX6_allParts 23 = .ok (.iinc 2 1, 3) := by decide +kernel
theorem dX6_allParts_26 : decode cX6_allParts 26 = .ok (.goto (-22), 3) := by decide +kernel
theorem dX6_allParts_29 : decode cX6_allParts 29 = .ok (.iload_n 1, 1) := by decide +kernel
theorem dX6_allParts_30 : decode cX6_allParts 30 = .ok (.ireturn, 1) := by decide +kernel
set_option maxRecDepth 20000 in
theorem ggX6_counted_X6_placesThat : GoodIn wsX6_counted wsX6_placesThat := goodIn_r _ [7, 1, 8, 9, 10, 6, 11, 28, 29, 30, 31, 32, 33, 34, 35, 36, 37, 38, 39, 40, 41, 42] (by decide +kernel) (by decide +kernel)
set_option maxRecDepth 20000 in
theorem gX6_counted_X6_placesThat : GoodIn wsX6_counted (wsV RX6 84 RX6 yX6_placesThat wsX6_placesThat) := goodIn_app (goodIn_of _ (by decide +kernel)) ggX6_counted_X6_placesThat
set_option maxRecDepth 20000 in
theorem ggX6_counted_X6_sumOfNozzles : GoodIn wsX6_counted wsX6_sumOfNozzles := goodIn_r _ [15, 16, 17, 18, 6, 19, 1, 28, 29, 30, 31, 32, 33, 34, 35, 36, 37, 38, 39, 40, 41, 42] (by decide +kernel) (by decide +kernel)
set_option maxRecDepth 20000 in
theorem gX6_counted_X6_sumOfNozzles : GoodIn wsX6_counted (wsV RX6 196 RX6 yX6_sumOfNozzles wsX6_sumOfNozzles) := goodIn_app (goodIn_of _ (by decide +kernel)) ggX6_counted_X6_sumOfNozzles
set_option maxRecDepth 20000 in
theorem ggX6_counted_X6_allParts : GoodIn wsX6_counted wsX6_allParts := goodIn_r _ [23, 1, 24, 25, 26, 6, 27, 28, 29, 30, 31, 32, 33, 34, 35, 36, 37, 38, 39, 40, 41, 42] (by decide +kernel) (by decide +kernel)
set_option maxRecDepth 20000 in
theorem gX6_counted_X6_allParts : GoodIn wsX6_counted (wsV RX6 199 RX6 yX6_allParts wsX6_allParts) := goodIn_app (goodIn_of _ (by decide +kernel)) ggX6_counted_X6_allParts
theorem dX6_counted_0 : decode cX6_counted 0 = .ok (.iload_n 1, 1) := by decide +kernel
theorem dX6_counted_1 : decode cX6_counted 1 = .ok (.tableswitch 86 6 13 #[47, 47, 47, 56, 62, 68, 76, 81], 47) := by decide +kernel
theorem dX6_counted_48 : decode cX6_counted 48 = .ok (.aload_n 0, 1) := by decide +kernel
theorem dX6_counted_49 : decode cX6_counted 49 = .ok (.iload_n 1, 1) := by decide +kernel
theorem dX6_counted_50 : decode cX6_counted 50 = .ok (.bipush 6, 2) := by decide +kernel
theorem dX6_counted_52 : decode cX6_counted 52 = .ok (.isub, 1) := by decide +kernel
theorem dX6_counted_53 : decode cX6_counted 53 = .ok (.invokevirtual 84, 3) := by decide +kernel
theorem dX6_counted_56 : decode cX6_counted 56 = .ok (.ireturn, 1) := by decide +kernel
theorem dX6_counted_57 : decode cX6_counted 57 = .ok (.aload_n 0, 1) := by decide +kernel
theorem dX6_counted_58 : decode cX6_counted 58 = .ok (.iconst 2, 1) := by decide +kernel
theorem dX6_counted_59 : decode cX6_counted 59 = .ok (.invokevirtual 196, 3) := by decide +kernel
theorem dX6_counted_62 : decode cX6_counted 62 = .ok (.ireturn, 1) := by decide +kernel
theorem dX6_counted_63 : decode cX6_counted 63 = .ok (.aload_n 0, 1) := by decide +kernel
theorem dX6_counted_64 : decode cX6_counted 64 = .ok (.iconst 4, 1) := by decide +kernel
theorem dX6_counted_65 : decode cX6_counted 65 = .ok (.invokevirtual 196, 3) := by decide +kernel
