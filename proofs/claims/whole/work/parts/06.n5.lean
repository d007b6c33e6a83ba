theorem dX6_gives_10 : decode cX6_gives 10 = .ok (.aload_n 0, 1) := by decide +kernel
theorem dX6_gives_11 : decode cX6_gives 11 = .ok (.iload_n 1, 1) := by decide +kernel
theorem dX6_gives_12 : decode cX6_gives 12 = .ok (.iconst 2, 1) := by decide +kernel
theorem dX6_gives_13 : decode cX6_gives 13 = .ok (.invokevirtual 72, 3) := by decide +kernel
theorem dX6_gives_16 : decode cX6_gives 16 = .ok (.ifCond .le 7, 3) := by decide +kernel
theorem dX6_gives_19 : decode cX6_gives 19 = .ok (.iconst 1, 1) := by decide +kernel
theorem dX6_gives_20 : decode cX6_gives 20 = .ok (.goto 4, 3) := by decide +kernel
theorem dX6_gives_23 : decode cX6_gives 23 = .ok (.iconst 0, 1) := by decide +kernel
theorem dX6_gives_24 : decode cX6_gives 24 = .ok (.ireturn, 1) := by decide +kernel
set_option maxRecDepth 20000 in
theorem ggX6_isBetter_X6_trustOf : GoodIn wsX6_isBetter wsX6_trustOf := goodIn_r _ [6, 1, 14, 15, 16, 17, 18, 19, 20, 21, 22, 23, 24, 25, 26, 27, 28] (by decide +kernel) (by decide +kernel)
set_option maxRecDepth 20000 in
theorem gX6_isBetter_X6_trustOf : GoodIn wsX6_isBetter (wsV RX6 41 RX6 yX6_trustOf wsX6_trustOf) := goodIn_app (goodIn_of _ (by decide +kernel)) ggX6_isBetter_X6_trustOf
set_option maxRecDepth 20000 in
theorem ggX6_isBetter_X6_ofFeeder : GoodIn wsX6_isBetter wsX6_ofFeeder := goodIn_r _ [10, 1, 14, 15, 16, 17, 18, 19, 20, 21, 22, 23, 24, 25, 26, 27, 28] (by decide +kernel) (by decide +kernel)
set_option maxRecDepth 20000 in
theorem gX6_isBetter_X6_ofFeeder : GoodIn wsX6_isBetter (wsV RX6 72 RX6 yX6_ofFeeder wsX6_ofFeeder) := goodIn_app (goodIn_of _ (by decide +kernel)) ggX6_isBetter_X6_ofFeeder
set_option maxRecDepth 20000 in
theorem ggX6_isBetter_X6_apart : GoodIn wsX6_isBetter wsX6_apart := goodIn_r _ [13] (by decide +kernel) (by decide +kernel)
set_option maxRecDepth 20000 in
theorem gX6_isBetter_X6_apart : GoodIn wsX6_isBetter (va_wsS RX6 105 yX6_apart wsX6_apart) := goodIn_app (goodIn_of _ (by decide +kernel)) ggX6_isBetter_X6_apart
theorem dX6_isBetter_0 : decode cX6_isBetter 0 = .ok (.aload_n 0, 1) := by decide +kernel
theorem dX6_isBetter_1 : decode cX6_isBetter 1 = .ok (.iload_n 1, 1) := by decide +kernel
theorem dX6_isBetter_2 : decode cX6_isBetter 2 = .ok (.iload_n 2, 1) := by decide +kernel
theorem dX6_isBetter_3 : decode cX6_isBetter 3 = .ok (.invokevirtual 41, 3) := by decide +kernel
theorem dX6_isBetter_6 : decode cX6_isBetter 6 = .ok (.aload_n 0, 1) := by decide +kernel
theorem dX6_isBetter_7 : decode cX6_isBetter 7 = .ok (.iload_n 1, 1) := by decide +kernel
theorem dX6_isBetter_8 : decode cX6_isBetter 8 = .ok (.iload_n 3, 1) := by decide +kernel
theorem dX6_isBetter_9 : decode cX6_isBetter 9 = .ok (.invokevirtual 41, 3) := by decide +kernel
theorem dX6_isBetter_12 : decode cX6_isBetter 12 = .ok (.isub, 1) := by decide +kernel
theorem dX6_isBetter_13 : decode cX6_isBetter 13 = .ok (.istore 4, 2) := by decide +kernel
theorem dX6_isBetter_15 : decode cX6_isBetter 15 = .ok (.iload 4, 2) := by decide +kernel
theorem dX6_isBetter_17 : decode cX6_isBetter 17 = .ok (.ifCond .gt 43, 3) := by decide +kernel
theorem dX6_isBetter_20 : decode cX6_isBetter 20 = .ok (.iload 4, 2) := by decide +kernel
theorem dX6_isBetter_22 : decode cX6_isBetter 22 = .ok (.ifCond .ne 42, 3) := by decide +kernel
theorem dX6_isBetter_25 : decode cX6_isBetter 25 = .ok (.aload_n 0, 1) := by decide +kernel
theorem dX6_isBetter_26 : decode cX6_isBetter 26 = .ok (.iload_n 2, 1) := by decide +kernel
theorem dX6_isBetter_27 : decode cX6_isBetter 27 = .ok (.iconst 0, 1) := by decide +kernel
theorem dX6_isBetter_28 : decode cX6_isBetter 28 = .ok (.invokevirtual 72, 3) := by decide +kernel
theorem dX6_isBetter_31 : decode cX6_isBetter 31 = .ok (.aload_n 0, 1) := by decide +kernel
theorem dX6_isBetter_32 : decode cX6_isBetter 32 = .ok (.getfield 7, 3) := by decide +kernel
theorem dX6_isBetter_35 : decode cX6_isBetter 35 = .ok (.bipush 9, 2) := by decide +kernel
theorem dX6_isBetter_37 : decode cX6_isBetter 37 = .ok (.iaload, 1) := by decide +kernel
theorem dX6_isBetter_38 : decode cX6_isBetter 38 = .ok (.invokestatic 105, 3) := by decide +kernel
theorem dX6_isBetter_41 : decode cX6_isBetter 41 = .ok (.aload_n 0, 1) := by decide +kernel
theorem dX6_isBetter_42 : decode cX6_isBetter 42 = .ok (.iload_n 3, 1) := by decide +kernel
theorem dX6_isBetter_43 : decode cX6_isBetter 43 = .ok (.iconst 0, 1) := by decide +kernel
theorem dX6_isBetter_44 : decode cX6_isBetter 44 = .ok (.invokevirtual 72, 3) := by decide +kernel
theorem dX6_isBetter_47 : decode cX6_isBetter 47 = .ok (.aload_n 0, 1) := by decide +kernel
theorem dX6_isBetter_48 : decode cX6_isBetter 48 = .ok (.getfield 7, 3) := by decide +kernel
theorem dX6_isBetter_51 : decode cX6_isBetter 51 = .ok (.bipush 9, 2) := by decide +kernel
theorem dX6_isBetter_53 : decode cX6_isBetter 53 = .ok (.iaload, 1) := by decide +kernel
theorem dX6_isBetter_54 : decode cX6_isBetter 54 = .ok (.invokestatic 105, 3) := by decide +kernel
theorem dX6_isBetter_57 : decode cX6_isBetter 57 = .ok (.if_icmp .ge 7, 3) := by decide +kernel
theorem dX6_isBetter_60 : decode cX6_isBetter 60 = .ok (.iconst 1, 1) := by decide +kernel
theorem dX6_isBetter_61 : decode cX6_isBetter 61 = .ok (.goto 4, 3) := by decide +kernel
theorem dX6_isBetter_64 : decode cX6_isBetter 64 = .ok (.iconst 0, 1) := by decide +kernel
theorem dX6_isBetter_65 : decode cX6_isBetter 65 = .ok (.ireturn, 1) := by decide +kernel
set_option maxRecDepth 20000 in
theorem ggX6_choiceOf_X6_gives : GoodIn wsX6_choiceOf wsX6_gives := goodIn_r _ [6, 7, 8, 9, 5, 10, 1, 22, 23, 24, 25, 26, 27, 28, 29, 30, 31, 32, 33, 34, 35, 36] (by decide +kernel) (by decide +kernel)
set_option maxRecDepth 20000 in
theorem gX6_choiceOf_X6_gives : GoodIn wsX6_choiceOf (wsV RX6 108 RX6 yX6_gives wsX6_gives) := goodIn_app (goodIn_of _ (by decide +kernel)) ggX6_choiceOf_X6_gives
set_option maxRecDepth 20000 in
theorem ggX6_choiceOf_X6_isBetter : GoodIn wsX6_choiceOf wsX6_isBetter := goodIn_r _ [14, 1, 15, 16, 17, 5, 18, 7, 8, 9, 10, 19, 20, 21, 22, 23, 24, 25, 26, 27, 28, 29, 30, 31, 32, 33, 34, 35, 36] (by decide +kernel) (by decide +kernel)
set_option maxRecDepth 20000 in
theorem gX6_choiceOf_X6_isBetter : GoodIn wsX6_choiceOf (wsV RX6 112 RX6 yX6_isBetter wsX6_isBetter) := goodIn_app (goodIn_of _ (by decide +kernel)) ggX6_choiceOf_X6_isBetter
theorem dX6_choiceOf_0 : decode cX6_choiceOf 0 = .ok (.iconst (-1), 1) := by decide +kernel
theorem dX6_choiceOf_1 : decode cX6_choiceOf 1 = .ok (.istore_n 3, 1) := by decide +kernel
theorem dX6_choiceOf_2 : decode cX6_choiceOf 2 = .ok (.iconst 0, 1) := by decide +kernel
theorem dX6_choiceOf_3 : decode cX6_choiceOf 3 = .ok (.istore 4, 2) := by decide +kernel
theorem dX6_choiceOf_5 : decode cX6_choiceOf 5 = .ok (.iload 4, 2) := by decide +kernel
theorem dX6_choiceOf_7 : decode cX6_choiceOf 7 = .ok (.aload_n 0, 1) := by decide +kernel
theorem dX6_choiceOf_8 : decode cX6_choiceOf 8 = .ok (.getfield 7, 3) := by decide +kernel
theorem dX6_choiceOf_11 : decode cX6_choiceOf 11 = .ok (.iconst 5, 1) := by decide +kernel
theorem dX6_choiceOf_12 : decode cX6_choiceOf 12 = .ok (.iaload, 1) := by decide +kernel
theorem dX6_choiceOf_13 : decode cX6_choiceOf 13 = .ok (.if_icmp .ge 42, 3) := by decide +kernel
theorem dX6_choiceOf_16 : decode cX6_choiceOf 16 = .ok (.aload_n 0, 1) := by decide +kernel
theorem dX6_choiceOf_17 : decode cX6_choiceOf 17 = .ok (.iload 4, 2) := by decide +kernel
theorem dX6_choiceOf_19 : decode cX6_choiceOf 19 = .ok (.iload_n 2, 1) := by decide +kernel
theorem dX6_choiceOf_20 : decode cX6_choiceOf 20 = .ok (.invokevirtual 108, 3) := by decide +kernel
theorem dX6_choiceOf_23 : decode cX6_choiceOf 23 = .ok (.ifCond .eq 24, 3) := by decide +kernel
theorem dX6_choiceOf_26 : decode cX6_choiceOf 26 = .ok (.iload_n 3, 1) := by decide +kernel
theorem dX6_choiceOf_27 : decode cX6_choiceOf 27 = .ok (.iconst (-1), 1) := by decide +kernel
theorem dX6_choiceOf_28 : decode cX6_choiceOf 28 = .ok (.if_icmp .eq 14, 3) := by decide +kernel
theorem dX6_choiceOf_31 : decode cX6_choiceOf 31 = .ok (.aload_n 0, 1) := by decide +kernel
theorem dX6_choiceOf_32 : decode cX6_choiceOf 32 = .ok (.iload_n 1, 1) := by decide +kernel
theorem dX6_choiceOf_33 : decode cX6_choiceOf 33 = .ok (.iload 4, 2) := by decide +kernel
theorem dX6_choiceOf_35 : decode cX6_choiceOf 35 = .ok (.iload_n 3, 1) := by decide +kernel
theorem dX6_choiceOf_36 : decode cX6_choiceOf 36 = .ok (.invokevirtual 112, 3) := by decide +kernel
theorem dX6_choiceOf_39 : decode cX6_choiceOf 39 = .ok (.ifCond .eq 8, 3) := by decide +kernel
theorem dX6_choiceOf_42 : decode cX6_choiceOf 42 = .ok (.iload 4, 2) := by decide +kernel
theorem dX6_choiceOf_44 : decode cX6_choiceOf 44 = .ok (.goto 4, 3) := by decide +kernel
theorem dX6_choiceOf_47 : decode cX6_choiceOf 47 = .ok (.iload_n 3, 1) := by decide +kernel
theorem dX6_choiceOf_48 : decode cX6_choiceOf 48 = .ok (.istore_n 3, 1) := by decide +kernel
theorem dX6_choiceOf_49 : decode cX6_choiceOf 49 = .ok (.iinc 4 1, 3) := by decide +kernel
theorem dX6_choiceOf_52 : decode cX6_choiceOf 52 = .ok (.goto (-47), 3) := by decide +kernel
theorem dX6_choiceOf_55 : decode cX6_choiceOf 55 = .ok (.iload_n 3, 1) := by decide +kernel
theorem dX6_choiceOf_56 : decode cX6_choiceOf 56 = .ok (.ireturn, 1) := by decide +kernel
set_option maxRecDepth 20000 in
theorem ggX6_go_X6_apart : GoodIn wsX6_go wsX6_apart := goodIn_r _ [5] (by decide +kernel) (by decide +kernel)
set_option maxRecDepth 20000 in
theorem gX6_go_X6_apart : GoodIn wsX6_go (va_wsS RX6 105 yX6_apart wsX6_apart) := goodIn_app (goodIn_of _ (by decide +kernel)) ggX6_go_X6_apart
theorem dX6_go_0 : decode cX6_go 0 = .ok (.aload_n 0, 1) := by decide +kernel
theorem dX6_go_1 : decode cX6_go 1 = .ok (.getfield 7, 3) := by decide +kernel
theorem dX6_go_4 : decode cX6_go 4 = .ok (.bipush 7, 2) := by decide +kernel
theorem dX6_go_6 : decode cX6_go 6 = .ok (.dup2, 1) := by decide +kernel
theorem dX6_go_7 : decode cX6_go 7 = .ok (.iaload, 1) := by decide +kernel
theorem dX6_go_8 : decode cX6_go 8 = .ok (.aload_n 0, 1) := by decide +kernel
theorem dX6_go_9 : decode cX6_go 9 = .ok (.getfield 7, 3) := by decide +kernel
theorem dX6_go_12 : decode cX6_go 12 = .ok (.bipush 9, 2) := by decide +kernel
theorem dX6_go_14 : decode cX6_go 14 = .ok (.iaload, 1) := by decide +kernel
theorem dX6_go_15 : decode cX6_go 15 = .ok (.iload_n 1, 1) := by decide +kernel
theorem dX6_go_16 : decode cX6_go 16 = .ok (.invokestatic 105, 3) := by decide +kernel
theorem dX6_go_19 : decode cX6_go 19 = .ok (.iload_n 2, 1) := by decide +kernel
theorem dX6_go_20 : decode cX6_go 20 = .ok (.iadd, 1) := by decide +kernel
theorem dX6_go_21 : decode cX6_go 21 = .ok (.iadd, 1) := by decide +kernel
theorem dX6_go_22 : decode cX6_go 22 = .ok (.iastore, 1) := by decide +kernel
theorem dX6_go_23 : decode cX6_go 23 = .ok (.aload_n 0, 1) := by decide +kernel
theorem dX6_go_24 : decode cX6_go 24 = .ok (.getfield 7, 3) := by decide +kernel
theorem dX6_go_27 : decode cX6_go 27 = .ok (.bipush 9, 2) := by decide +kernel
theorem dX6_go_29 : decode cX6_go 29 = .ok (.iload_n 1, 1) := by decide +kernel
theorem dX6_go_30 : decode cX6_go 30 = .ok (.iastore, 1) := by decide +kernel
theorem dX6_go_31 : decode cX6_go 31 = .ok (.return_, 1) := by decide +kernel
theorem dX6_isAim_0 : decode cX6_isAim 0 = .ok (.iconst 0, 1) := by decide +kernel
theorem dX6_isAim_1 : decode cX6_isAim 1 = .ok (.istore_n 3, 1) := by decide +kernel
theorem dX6_isAim_2 : decode cX6_isAim 2 = .ok (.iconst 0, 1) := by decide +kernel
theorem dX6_isAim_3 : decode cX6_isAim 3 = .ok (.istore 4, 2) := by decide +kernel
theorem dX6_isAim_5 : decode cX6_isAim 5 = .ok (.iload 4, 2) := by decide +kernel
theorem dX6_isAim_7 : decode cX6_isAim 7 = .ok (.iload_n 2, 1) := by decide +kernel
theorem dX6_isAim_8 : decode cX6_isAim 8 = .ok (.if_icmp .ge 30, 3) := by decide +kernel
theorem dX6_isAim_11 : decode cX6_isAim 11 = .ok (.iload_n 3, 1) := by decide +kernel
theorem dX6_isAim_12 : decode cX6_isAim 12 = .ok (.ifCond .ne 14, 3) := by decide +kernel
theorem dX6_isAim_15 : decode cX6_isAim 15 = .ok (.aload_n 0, 1) := by decide +kernel
theorem dX6_isAim_16 : decode cX6_isAim 16 = .ok (.getfield 19, 3) := by decide +kernel
theorem dX6_isAim_19 : decode cX6_isAim 19 = .ok (.iload 4, 2) := by decide +kernel
theorem dX6_isAim_21 : decode cX6_isAim 21 = .ok (.iaload, 1) := by decide +kernel
theorem dX6_isAim_22 : decode cX6_isAim 22 = .ok (.iload_n 1, 1) := by decide +kernel
theorem dX6_isAim_23 : decode cX6_isAim 23 = .ok (.if_icmp .ne 7, 3) := by decide +kernel
theorem dX6_isAim_26 : decode cX6_isAim 26 = .ok (.iconst 1, 1) := by decide +kernel
theorem dX6_isAim_27 : decode cX6_isAim 27 = .ok (.goto 4, 3) := by decide +kernel
theorem dX6_isAim_30 : decode cX6_isAim 30 = .ok (.iconst 0, 1) := by decide +kernel
theorem dX6_isAim_31 : decode cX6_isAim 31 = .ok (.istore_n 3, 1) := by decide +kernel
theorem dX6_isAim_32 : decode cX6_isAim 32 = .ok (.iinc 4 1, 3) := by decide +kernel
theorem dX6_isAim_35 : decode cX6_isAim 35 = .ok (.goto (-30), 3) := by decide +kernel
theorem dX6_isAim_38 : decode cX6_isAim 38 = .ok (.iload_n 3, 1) := by decide +kernel
theorem dX6_isAim_39 : decode cX6_isAim 39 = .ok (.ireturn, 1) := by decide +kernel
set_option maxRecDepth 20000 in
theorem ggX6_aimOf_X6_ofPlace : GoodIn wsX6_aimOf wsX6_ofPlace := goodIn_r _ [6, 1, 39, 40, 41, 42, 43, 44, 45, 46, 47, 48, 49, 50, 51, 52, 53] (by decide +kernel) (by decide +kernel)
set_option maxRecDepth 20000 in
theorem gX6_aimOf_X6_ofPlace : GoodIn wsX6_aimOf (wsV RX6 81 RX6 yX6_ofPlace wsX6_ofPlace) := goodIn_app (goodIn_of _ (by decide +kernel)) ggX6_aimOf_X6_ofPlace
set_option maxRecDepth 20000 in
theorem ggX6_aimOf_X6_ofNozzle : GoodIn wsX6_aimOf wsX6_ofNozzle := goodIn_r _ [10, 1, 39, 40, 41, 42, 43, 44, 45, 46, 47, 48, 49, 50, 51, 52, 53] (by decide +kernel) (by decide +kernel)
set_option maxRecDepth 20000 in
theorem gX6_aimOf_X6_ofNozzle : GoodIn wsX6_aimOf (wsV RX6 78 RX6 yX6_ofNozzle wsX6_ofNozzle) := goodIn_app (goodIn_of _ (by decide +kernel)) ggX6_aimOf_X6_ofNozzle
set_option maxRecDepth 20000 in
theorem ggX6_aimOf_X6_choiceOf : GoodIn wsX6_aimOf wsX6_choiceOf := goodIn_r _ [14, 1, 15, 16, 17, 5, 18, 19, 20, 21, 22, 23, 24, 25, 26, 27, 28, 29, 30, 31, 32, 33, 39, 40, 41, 42, 43, 44, 45, 46, 47, 48, 49, 50, 51, 52, 53] (by decide +kernel) (by decide +kernel)
set_option maxRecDepth 20000 in
theorem gX6_aimOf_X6_choiceOf : GoodIn wsX6_aimOf (wsV RX6 115 RX6 yX6_choiceOf wsX6_choiceOf) := goodIn_app (goodIn_of _ (by decide +kernel)) ggX6_aimOf_X6_choiceOf
set_option maxRecDepth 20000 in
theorem ggX6_aimOf_X6_isAim : GoodIn wsX6_aimOf wsX6_isAim := goodIn_r _ [37, 38, 39, 40, 41, 42, 43, 44, 45, 46, 47, 48, 49, 50, 51, 52, 53] (by decide +kernel) (by decide +kernel)
set_option maxRecDepth 20000 in
theorem gX6_aimOf_X6_isAim : GoodIn wsX6_aimOf (wsV RX6 118 RX6 yX6_isAim wsX6_isAim) := goodIn_app (goodIn_of _ (by decide +kernel)) ggX6_aimOf_X6_isAim
theorem dX6_aimOf_0 : decode cX6_aimOf 0 = .ok (.iconst 0, 1) := by decide +kernel
theorem dX6_aimOf_1 : decode cX6_aimOf 1 = .ok (.istore_n 2, 1) := by decide +kernel
theorem dX6_aimOf_2 : decode cX6_aimOf 2 = .ok (.iload_n 2, 1) := by decide +kernel
theorem dX6_aimOf_3 : decode cX6_aimOf 3 = .ok (.aload_n 0, 1) := by decide +kernel
theorem dX6_aimOf_4 : decode cX6_aimOf 4 = .ok (.getfield 7, 3) := by decide +kernel
theorem dX6_aimOf_7 : decode cX6_aimOf 7 = .ok (.bipush 6, 2) := by decide +kernel
theorem dX6_aimOf_9 : decode cX6_aimOf 9 = .ok (.iaload, 1) := by decide +kernel
theorem dX6_aimOf_10 : decode cX6_aimOf 10 = .ok (.if_icmp .ge 72, 3) := by decide +kernel
theorem dX6_aimOf_13 : decode cX6_aimOf 13 = .ok (.aload_n 0, 1) := by decide +kernel
theorem dX6_aimOf_14 : decode cX6_aimOf 14 = .ok (.iload_n 2, 1) := by decide +kernel
theorem dX6_aimOf_15 : decode cX6_aimOf 15 = .ok (.iconst 1, 1) := by decide +kernel
theorem dX6_aimOf_16 : decode cX6_aimOf 16 = .ok (.invokevirtual 81, 3) := by decide +kernel
theorem dX6_aimOf_19 : decode cX6_aimOf 19 = .ok (.istore_n 3, 1) := by decide +kernel
theorem dX6_aimOf_20 : decode cX6_aimOf 20 = .ok (.aload_n 0, 1) := by decide +kernel
theorem dX6_aimOf_21 : decode cX6_aimOf 21 = .ok (.iload_n 1, 1) := by decide +kernel
theorem dX6_aimOf_22 : decode cX6_aimOf 22 = .ok (.iconst 0, 1) := by decide +kernel
theorem dX6_aimOf_23 : decode cX6_aimOf 23 = .ok (.invokevirtual 78, 3) := by decide +kernel
theorem dX6_aimOf_26 : decode cX6_aimOf 26 = .ok (.iload_n 3, 1) := by decide +kernel
theorem dX6_aimOf_27 : decode cX6_aimOf 27 = .ok (.ishr, 1) := by decide +kernel
theorem dX6_aimOf_28 : decode cX6_aimOf 28 = .ok (.iconst 1, 1) := by decide +kernel
theorem dX6_aimOf_29 : decode cX6_aimOf 29 = .ok (.iand, 1) := by decide +kernel
theorem dX6_aimOf_30 : decode cX6_aimOf 30 = .ok (.iconst 1, 1) := by decide +kernel
theorem dX6_aimOf_31 : decode cX6_aimOf 31 = .ok (.if_icmp .ne 17, 3) := by decide +kernel
theorem dX6_aimOf_34 : decode cX6_aimOf 34 = .ok (.aload_n 0, 1) := by decide +kernel
theorem dX6_aimOf_35 : decode cX6_aimOf 35 = .ok (.iload_n 1, 1) := by decide +kernel
theorem dX6_aimOf_36 : decode cX6_aimOf 36 = .ok (.iload_n 3, 1) := by decide +kernel
theorem dX6_aimOf_37 : decode cX6_aimOf 37 = .ok (.invokevirtual 115, 3) := by decide +kernel
theorem dX6_aimOf_40 : decode cX6_aimOf 40 = .ok (.iconst (-1), 1) := by decide +kernel
theorem dX6_aimOf_41 : decode cX6_aimOf 41 = .ok (.if_icmp .eq 7, 3) := by decide +kernel
theorem dX6_aimOf_44 : decode cX6_aimOf 44 = .ok (.iconst 1, 1) := by decide +kernel
theorem dX6_aimOf_45 : decode cX6_aimOf 45 = .ok (.goto 4, 3) := by decide +kernel
theorem dX6_aimOf_48 : decode cX6_aimOf 48 = .ok (.iconst 0, 1) := by decide +kernel
theorem dX6_aimOf_49 : decode cX6_aimOf 49 = .ok (.istore 4, 2) := by decide +kernel
theorem dX6_aimOf_51 : decode cX6_aimOf 51 = .ok (.iload 4, 2) := by decide +kernel
theorem dX6_aimOf_53 : decode cX6_aimOf 53 = .ok (.ifCond .eq 23, 3) := by decide +kernel
theorem dX6_aimOf_56 : decode cX6_aimOf 56 = .ok (.aload_n 0, 1) := by decide +kernel
theorem dX6_aimOf_57 : decode cX6_aimOf 57 = .ok (.iload_n 2, 1) := by decide +kernel
theorem dX6_aimOf_58 : decode cX6_aimOf 58 = .ok (.iconst 2, 1) := by decide +kernel
theorem dX6_aimOf_59 : decode cX6_aimOf 59 = .ok (.invokevirtual 81, 3) := by decide +kernel
theorem dX6_aimOf_62 : decode cX6_aimOf 62 = .ok (.ifCond .ne 14, 3) := by decide +kernel
theorem dX6_aimOf_65 : decode cX6_aimOf 65 = .ok (.aload_n 0, 1) := by decide +kernel
theorem dX6_aimOf_66 : decode cX6_aimOf 66 = .ok (.iload_n 2, 1) := by decide +kernel
theorem dX6_aimOf_67 : decode cX6_aimOf 67 = .ok (.iload_n 1, 1) := by decide +kernel
theorem dX6_aimOf_68 : decode cX6_aimOf 68 = .ok (.invokevirtual 118, 3) := by decide +kernel
theorem dX6_aimOf_71 : decode cX6_aimOf 71 = .ok (.ifCond .ne 5, 3) := by decide +kernel
theorem dX6_aimOf_74 : decode cX6_aimOf 74 = .ok (.iload_n 2, 1) := by decide +kernel
theorem dX6_aimOf_75 : decode cX6_aimOf 75 = .ok (.ireturn, 1) := by decide +kernel
theorem dX6_aimOf_76 : decode cX6_aimOf 76 = .ok (.iinc 2 1, 3) := by decide +kernel
theorem dX6_aimOf_79 : decode cX6_aimOf 79 = .ok (.goto (-77), 3) := by decide +kernel
theorem dX6_aimOf_82 : decode cX6_aimOf 82 = .ok (.iconst (-1), 1) := by decide +kernel
theorem dX6_aimOf_83 : decode cX6_aimOf 83 = .ok (.ireturn, 1) := by decide +kernel
set_option maxRecDepth 20000 in
theorem ggX6_layAims_X6_aimOf : GoodIn wsX6_layAims wsX6_aimOf := goodIn_r _ [6, 7, 8, 9, 10, 5, 11, 12, 13, 14, 15, 16, 17, 18, 19, 20, 21, 22, 23, 24, 25, 26, 27, 28, 29, 30, 31, 32, 33, 34, 35, 36, 37, 38, 39, 40, 41, 42, 1, 43, 44, 45, 46, 47, 48, 49, 50, 51, 52, 53, 54, 55, 56, 57] (by decide +kernel) (by decide +kernel)
set_option maxRecDepth 20000 in
theorem gX6_layAims_X6_aimOf : GoodIn wsX6_layAims (wsV RX6 121 RX6 yX6_aimOf wsX6_aimOf) := goodIn_app (goodIn_of _ (by decide +kernel)) ggX6_layAims_X6_aimOf
theorem dX6_layAims_0 : decode cX6_layAims 0 = .ok (.iconst 0, 1) := by decide +kernel
theorem dX6_layAims_1 : decode cX6_layAims 1 = .ok (.istore_n 1, 1) := by decide +kernel
theorem dX6_layAims_2 : decode cX6_layAims 2 = .ok (.iload_n 1, 1) := by decide +kernel
theorem dX6_layAims_3 : decode cX6_layAims 3 = .ok (.iconst 4, 1) := by decide +kernel
theorem dX6_layAims_4 : decode cX6_layAims 4 = .ok (.if_icmp .ge 20, 3) := by decide +kernel
theorem dX6_layAims_7 : decode cX6_layAims 7 = .ok (.aload_n 0, 1) := by decide +kernel
theorem dX6_layAims_8 : decode cX6_layAims 8 = .ok (.getfield 19, 3) := by decide +kernel
theorem dX6_layAims_11 : decode cX6_layAims 11 = .ok (.iload_n 1, 1) := by decide +kernel
theorem dX6_layAims_12 : decode cX6_layAims 12 = .ok (.aload_n 0, 1) := by decide +kernel
theorem dX6_layAims_13 : decode cX6_layAims 13 = .ok (.iload_n 1, 1) := by decide +kernel
theorem dX6_layAims_14 : decode cX6_layAims 14 = .ok (.invokevirtual 121, 3) := by decide +kernel
theorem dX6_layAims_17 : decode cX6_layAims 17 = .ok (.iastore, 1) := by decide +kernel
theorem dX6_layAims_18 : decode cX6_layAims 18 = .ok (.iinc 1 1, 3) := by decide +kernel
theorem dX6_layAims_21 : decode cX6_layAims 21 = .ok (.goto (-19), 3) := by decide +kernel
theorem dX6_layAims_24 : decode cX6_layAims 24 = .ok (.return_, 1) := by decide +kernel
set_option maxRecDepth 20000 in
theorem ggX6_tries_X6_go : GoodIn wsX6_tries wsX6_go := goodIn_r _ [8, 1, 9, 10, 7, 11, 28, 29, 30, 31, 32, 33, 34, 35, 36, 37, 38, 39, 40, 41, 42] (by decide +kernel) (by decide +kernel)
set_option maxRecDepth 20000 in
theorem gX6_tries_X6_go : GoodIn wsX6_tries (wsV RX6 124 RX6 yX6_go wsX6_go) := goodIn_app (goodIn_of _ (by decide +kernel)) ggX6_tries_X6_go
set_option maxRecDepth 20000 in
theorem ggX6_tries_X6_draw : GoodIn wsX6_tries wsX6_draw := goodIn_r _ [15, 1, 16, 17, 18, 19, 28, 29, 30, 31, 32, 33, 34, 35, 36, 37, 38, 39, 40, 41, 42] (by decide +kernel) (by decide +kernel)
set_option maxRecDepth 20000 in
theorem gX6_tries_X6_draw : GoodIn wsX6_tries (wsV RX6 128 RX6 yX6_draw wsX6_draw) := goodIn_app (goodIn_of _ (by decide +kernel)) ggX6_tries_X6_draw
set_option maxRecDepth 20000 in
theorem ggX6_tries_X6_trustMore : GoodIn wsX6_tries wsX6_trustMore := goodIn_r _ [23, 1, 24, 25, 26, 7, 27, 28, 29, 30, 31, 32, 33, 34, 35, 36, 37, 38, 39, 40, 41, 42] (by decide +kernel) (by decide +kernel)
set_option maxRecDepth 20000 in
theorem gX6_tries_X6_trustMore : GoodIn wsX6_tries (wsV RX6 131 RX6 yX6_trustMore wsX6_trustMore) := goodIn_app (goodIn_of _ (by decide +kernel)) ggX6_tries_X6_trustMore
theorem dX6_tries_0 : decode cX6_tries 0 = .ok (.bipush 12, 2) := by decide +kernel
theorem dX6_tries_2 : decode cX6_tries 2 = .ok (.bipush 8, 2) := by decide +kernel
theorem dX6_tries_4 : decode cX6_tries 4 = .ok (.iload_n 2, 1) := by decide +kernel
theorem dX6_tries_5 : decode cX6_tries 5 = .ok (.imul, 1) := by decide +kernel
theorem dX6_tries_6 : decode cX6_tries 6 = .ok (.iadd, 1) := by decide +kernel
theorem dX6_tries_7 : decode cX6_tries 7 = .ok (.istore_n 3, 1) := by decide +kernel
theorem dX6_tries_8 : decode cX6_tries 8 = .ok (.aload_n 0, 1) := by decide +kernel
theorem dX6_tries_9 : decode cX6_tries 9 = .ok (.aload_n 0, 1) := by decide +kernel
theorem dX6_tries_10 : decode cX6_tries 10 = .ok (.getfield 7, 3) := by decide +kernel
theorem dX6_tries_13 : decode cX6_tries 13 = .ok (.iload_n 3, 1) := by decide +kernel
theorem dX6_tries_14 : decode cX6_tries 14 = .ok (.iconst 0, 1) := by decide +kernel
theorem dX6_tries_15 : decode cX6_tries 15 = .ok (.iadd, 1) := by decide +kernel
theorem dX6_tries_16 : decode cX6_tries 16 = .ok (.iaload, 1) := by decide +kernel
theorem dX6_tries_17 : decode cX6_tries 17 = .ok (.iconst 2, 1) := by decide +kernel
theorem dX6_tries_18 : decode cX6_tries 18 = .ok (.invokevirtual 124, 3) := by decide +kernel
theorem dX6_tries_21 : decode cX6_tries 21 = .ok (.aload_n 0, 1) := by decide +kernel
theorem dX6_tries_22 : decode cX6_tries 22 = .ok (.getfield 7, 3) := by decide +kernel
theorem dX6_tries_25 : decode cX6_tries 25 = .ok (.iload_n 3, 1) := by decide +kernel
theorem dX6_tries_26 : decode cX6_tries 26 = .ok (.iconst 5, 1) := by decide +kernel
theorem dX6_tries_27 : decode cX6_tries 27 = .ok (.iadd, 1) := by decide +kernel
theorem dX6_tries_28 : decode cX6_tries 28 = .ok (.dup2, 1) := by decide +kernel
theorem dX6_tries_29 : decode cX6_tries 29 = .ok (.iaload, 1) := by decide +kernel
theorem dX6_tries_30 : decode cX6_tries 30 = .ok (.iconst 1, 1) := by decide +kernel
theorem dX6_tries_31 : decode cX6_tries 31 = .ok (.iadd, 1) := by decide +kernel
theorem dX6_tries_32 : decode cX6_tries 32 = .ok (.iastore, 1) := by decide +kernel
theorem dX6_tries_33 : decode cX6_tries 33 = .ok (.aload_n 0, 1) := by decide +kernel
theorem dX6_tries_34 : decode cX6_tries 34 = .ok (.getfield 7, 3) := by decide +kernel
theorem dX6_tries_37 : decode cX6_tries 37 = .ok (.sipush 196, 3) := by decide +kernel
theorem dX6_tries_40 : decode cX6_tries 40 = .ok (.iconst 5, 1) := by decide +kernel
theorem dX6_tries_41 : decode cX6_tries 41 = .ok (.iload_n 1, 1) := by decide +kernel
theorem dX6_tries_42 : decode cX6_tries 42 = .ok (.imul, 1) := by decide +kernel
theorem dX6_tries_43 : decode cX6_tries 43 = .ok (.iadd, 1) := by decide +kernel
theorem dX6_tries_44 : decode cX6_tries 44 = .ok (.iconst 1, 1) := by decide +kernel
theorem dX6_tries_45 : decode cX6_tries 45 = .ok (.iadd, 1) := by decide +kernel
theorem dX6_tries_46 : decode cX6_tries 46 = .ok (.dup2, 1) := by decide +kernel
theorem dX6_tries_47 : decode cX6_tries 47 = .ok (.iaload, 1) := by decide +kernel
theorem dX6_tries_48 : decode cX6_tries 48 = .ok (.iconst 1, 1) := by decide +kernel
theorem dX6_tries_49 : decode cX6_tries 49 = .ok (.iadd, 1) := by decide +kernel
theorem dX6_tries_50 : decode cX6_tries 50 = .ok (.iastore, 1) := by decide +kernel
theorem dX6_tries_51 : decode cX6_tries 51 = .ok (.aload_n 0, 1) := by decide +kernel
theorem dX6_tries_52 : decode cX6_tries 52 = .ok (.bipush 100, 2) := by decide +kernel
theorem dX6_tries_54 : decode cX6_tries 54 = .ok (.invokevirtual 128, 3) := by decide +kernel
theorem dX6_tries_57 : decode cX6_tries 57 = .ok (.aload_n 0, 1) := by decide +kernel
theorem dX6_tries_58 : decode cX6_tries 58 = .ok (.getfield 7, 3) := by decide +kernel
theorem dX6_tries_61 : decode cX6_tries 61 = .ok (.iload_n 3, 1) := by decide +kernel
theorem dX6_tries_62 : decode cX6_tries 62 = .ok (.iconst 3, 1) := by decide +kernel
theorem dX6_tries_63 : decode cX6_tries 63 = .ok (.iadd, 1) := by decide +kernel
theorem dX6_tries_64 : decode cX6_tries 64 = .ok (.iaload, 1) := by decide +kernel
theorem dX6_tries_65 : decode cX6_tries 65 = .ok (.if_icmp .ge 49, 3) := by decide +kernel
theorem dX6_tries_68 : decode cX6_tries 68 = .ok (.aload_n 0, 1) := by decide +kernel
theorem dX6_tries_69 : decode cX6_tries 69 = .ok (.iload_n 1, 1) := by decide +kernel
theorem dX6_tries_70 : decode cX6_tries 70 = .ok (.iload_n 2, 1) := by decide +kernel
theorem dX6_tries_71 : decode cX6_tries 71 = .ok (.aload_n 0, 1) := by decide +kernel
theorem dX6_tries_72 : decode cX6_tries 72 = .ok (.getfield 7, 3) := by decide +kernel
theorem dX6_tries_75 : decode cX6_tries 75 = .ok (.iconst 1, 1) := by decide +kernel
theorem dX6_tries_76 : decode cX6_tries 76 = .ok (.iaload, 1) := by decide +kernel
theorem dX6_tries_77 : decode cX6_tries 77 = .ok (.ineg, 1) := by decide +kernel
theorem dX6_tries_78 : decode cX6_tries 78 = .ok (.invokevirtual 131, 3) := by decide +kernel
theorem dX6_tries_81 : decode cX6_tries 81 = .ok (.aload_n 0, 1) := by decide +kernel
theorem dX6_tries_82 : decode cX6_tries 82 = .ok (.getfield 7, 3) := by decide +kernel
theorem dX6_tries_85 : decode cX6_tries 85 = .ok (.iload_n 3, 1) := by decide +kernel
theorem dX6_tries_86 : decode cX6_tries 86 = .ok (.bipush 6, 2) := by decide +kernel
theorem dX6_tries_88 : decode cX6_tries 88 = .ok (.iadd, 1) := by decide +kernel
theorem dX6_tries_89 : decode cX6_tries 89 = .ok (.dup2, 1) := by decide +kernel
theorem dX6_tries_90 : decode cX6_tries 90 = .ok (.iaload, 1) := by decide +kernel
theorem dX6_tries_91 : decode cX6_tries 91 = .ok (.iconst 1, 1) := by decide +kernel
theorem dX6_tries_92 : decode cX6_tries 92 = .ok (.iadd, 1) := by decide +kernel
theorem dX6_tries_93 : decode cX6_tries 93 = .ok (.iastore, 1) := by decide +kernel
theorem dX6_tries_94 : decode cX6_tries 94 = .ok (.aload_n 0, 1) := by decide +kernel
theorem dX6_tries_95 : decode cX6_tries 95 = .ok (.getfield 7, 3) := by decide +kernel
theorem dX6_tries_98 : decode cX6_tries 98 = .ok (.sipush 196, 3) := by decide +kernel
theorem dX6_tries_101 : decode cX6_tries 101 = .ok (.iconst 5, 1) := by decide +kernel
theorem dX6_tries_102 : decode cX6_tries 102 = .ok (.iload_n 1, 1) := by decide +kernel
theorem dX6_tries_103 : decode cX6_tries 103 = .ok (.imul, 1) := by decide +kernel
theorem dX6_tries_104 : decode cX6_tries 104 = .ok (.iadd, 1) := by decide +kernel
theorem dX6_tries_105 : decode cX6_tries 105 = .ok (.iconst 2, 1) := by decide +kernel
theorem dX6_tries_106 : decode cX6_tries 106 = .ok (.iadd, 1) := by decide +kernel
theorem dX6_tries_107 : decode cX6_tries 107 = .ok (.dup2, 1) := by decide +kernel
theorem dX6_tries_108 : decode cX6_tries 108 = .ok (.iaload, 1) := by decide +kernel
theorem dX6_tries_109 : decode cX6_tries 109 = .ok (.iconst 1, 1) := by decide +kernel
theorem dX6_tries_110 : decode cX6_tries 110 = .ok (.iadd, 1) := by decide +kernel
theorem dX6_tries_111 : decode cX6_tries 111 = .ok (.iastore, 1) := by decide +kernel
theorem dX6_tries_112 : decode cX6_tries 112 = .ok (.iconst 0, 1) := by decide +kernel
theorem dX6_tries_113 : decode cX6_tries 113 = .ok (.ireturn, 1) := by decide +kernel
theorem dX6_tries_114 : decode cX6_tries 114 = .ok (.aload_n 0, 1) := by decide +kernel
theorem dX6_tries_115 : decode cX6_tries 115 = .ok (.getfield 7, 3) := by decide +kernel
theorem dX6_tries_118 : decode cX6_tries 118 = .ok (.iload_n 3, 1) := by decide +kernel
theorem dX6_tries_119 : decode cX6_tries 119 = .ok (.iconst 2, 1) := by decide +kernel
theorem dX6_tries_120 : decode cX6_tries 120 = .ok (.iadd, 1) := by decide +kernel
theorem dX6_tries_121 : decode cX6_tries 121 = .ok (.dup2, 1) := by decide +kernel
theorem dX6_tries_122 : decode cX6_tries 122 = .ok (.iaload, 1) := by decide +kernel
theorem dX6_tries_123 : decode cX6_tries 123 = .ok (.iconst 1, 1) := by decide +kernel
theorem dX6_tries_124 : decode cX6_tries 124 = .ok (.isub, 1) := by decide +kernel
theorem dX6_tries_125 : decode cX6_tries 125 = .ok (.iastore, 1) := by decide +kernel
theorem dX6_tries_126 : decode cX6_tries 126 = .ok (.aload_n 0, 1) := by decide +kernel
theorem dX6_tries_127 : decode cX6_tries 127 = .ok (.iload_n 1, 1) := by decide +kernel
theorem dX6_tries_128 : decode cX6_tries 128 = .ok (.iload_n 2, 1) := by decide +kernel
theorem dX6_tries_129 : decode cX6_tries 129 = .ok (.aload_n 0, 1) := by decide +kernel
theorem dX6_tries_130 : decode cX6_tries 130 = .ok (.getfield 7, 3) := by decide +kernel
theorem dX6_tries_133 : decode cX6_tries 133 = .ok (.iconst 2, 1) := by decide +kernel
theorem dX6_tries_134 : decode cX6_tries 134 = .ok (.iaload, 1) := by decide +kernel
theorem dX6_tries_135 : decode cX6_tries 135 = .ok (.invokevirtual 131, 3) := by decide +kernel
theorem dX6_tries_138 : decode cX6_tries 138 = .ok (.aload_n 0, 1) := by decide +kernel
theorem dX6_tries_139 : decode cX6_tries 139 = .ok (.getfield 22, 3) := by decide +kernel
theorem dX6_tries_142 : decode cX6_tries 142 = .ok (.iload_n 1, 1) := by decide +kernel
theorem dX6_tries_143 : decode cX6_tries 143 = .ok (.iload_n 2, 1) := by decide +kernel
theorem dX6_tries_144 : decode cX6_tries 144 = .ok (.iastore, 1) := by decide +kernel
theorem dX6_tries_145 : decode cX6_tries 145 = .ok (.aload_n 0, 1) := by decide +kernel
theorem dX6_tries_146 : decode cX6_tries 146 = .ok (.getfield 25, 3) := by decide +kernel
theorem dX6_tries_149 : decode cX6_tries 149 = .ok (.iload_n 1, 1) := by decide +kernel
theorem dX6_tries_150 : decode cX6_tries 150 = .ok (.aload_n 0, 1) := by decide +kernel
theorem dX6_tries_151 : decode cX6_tries 151 = .ok (.bipush 100, 2) := by decide +kernel
theorem dX6_tries_153 : decode cX6_tries 153 = .ok (.invokevirtual 128, 3) := by decide +kernel
theorem dX6_tries_156 : decode cX6_tries 156 = .ok (.aload_n 0, 1) := by decide +kernel
theorem dX6_tries_157 : decode cX6_tries 157 = .ok (.getfield 7, 3) := by decide +kernel
theorem dX6_tries_160 : decode cX6_tries 160 = .ok (.iload_n 3, 1) := by decide +kernel
theorem dX6_tries_161 : decode cX6_tries 161 = .ok (.iconst 4, 1) := by decide +kernel
theorem dX6_tries_162 : decode cX6_tries 162 = .ok (.iadd, 1) := by decide +kernel
theorem dX6_tries_163 : decode cX6_tries 163 = .ok (.iaload, 1) := by decide +kernel
theorem dX6_tries_164 : decode cX6_tries 164 = .ok (.if_icmp .ge 7, 3) := by decide +kernel
theorem dX6_tries_167 : decode cX6_tries 167 = .ok (.iconst 1, 1) := by decide +kernel
theorem dX6_tries_168 : decode cX6_tries 168 = .ok (.goto 4, 3) := by decide +kernel
theorem dX6_tries_171 : decode cX6_tries 171 = .ok (.iconst 0, 1) := by decide +kernel
theorem dX6_tries_172 : decode cX6_tries 172 = .ok (.iastore, 1) := by decide +kernel
theorem dX6_tries_173 : decode cX6_tries 173 = .ok (.iconst 1, 1) := by decide +kernel
theorem dX6_tries_174 : decode cX6_tries 174 = .ok (.ireturn, 1) := by decide +kernel
set_option maxRecDepth 20000 in
theorem ggX6_pick_X6_ofPlace : GoodIn wsX6_pick wsX6_ofPlace := goodIn_r _ [8, 3, 53, 54, 55, 56, 57, 58, 59, 60, 61, 62, 63, 64, 65, 66, 67] (by decide +kernel) (by decide +kernel)
set_option maxRecDepth 20000 in
theorem gX6_pick_X6_ofPlace : GoodIn wsX6_pick (wsV RX6 81 RX6 yX6_ofPlace wsX6_ofPlace) := goodIn_app (goodIn_of _ (by decide +kernel)) ggX6_pick_X6_ofPlace
set_option maxRecDepth 20000 in
theorem ggX6_pick_X6_choiceOf : GoodIn wsX6_pick wsX6_choiceOf := goodIn_r _ [12, 3, 13, 14, 15, 7, 16, 17, 18, 19, 20, 21, 22, 23, 24, 25, 26, 27, 28, 29, 30, 31, 53, 54, 55, 56, 57, 58, 59, 60, 61, 62, 63, 64, 65, 66, 67] (by decide +kernel) (by decide +kernel)
set_option maxRecDepth 20000 in
theorem gX6_pick_X6_choiceOf : GoodIn wsX6_pick (wsV RX6 115 RX6 yX6_choiceOf wsX6_choiceOf) := goodIn_app (goodIn_of _ (by decide +kernel)) ggX6_pick_X6_choiceOf
set_option maxRecDepth 20000 in
theorem ggX6_pick_X6_tries : GoodIn wsX6_pick wsX6_tries := goodIn_r _ [35, 3, 1, 36, 37, 38, 39, 7, 40, 29, 30, 31, 41, 42, 43, 44, 45, 46, 47, 48, 49, 50, 51, 52, 25, 26, 27, 28, 53, 54, 55, 56, 57, 58, 59, 60, 61, 62, 63, 64, 65, 66, 67] (by decide +kernel) (by decide +kernel)
set_option maxRecDepth 20000 in
theorem gX6_pick_X6_tries : GoodIn wsX6_pick (wsV RX6 135 RX6 yX6_tries wsX6_tries) := goodIn_app (goodIn_of _ (by decide +kernel)) ggX6_pick_X6_tries
theorem dX6_pick_0 : decode cX6_pick 0 = .ok (.aload_n 0, 1) := by decide +kernel
theorem dX6_pick_1 : decode cX6_pick 1 = .ok (.getfield 22, 3) := by decide +kernel
theorem dX6_pick_4 : decode cX6_pick 4 = .ok (.iload_n 1, 1) := by decide +kernel
theorem dX6_pick_5 : decode cX6_pick 5 = .ok (.iconst (-1), 1) := by decide +kernel
theorem dX6_pick_6 : decode cX6_pick 6 = .ok (.iastore, 1) := by decide +kernel
theorem dX6_pick_7 : decode cX6_pick 7 = .ok (.aload_n 0, 1) := by decide +kernel
theorem dX6_pick_8 : decode cX6_pick 8 = .ok (.getfield 19, 3) := by decide +kernel
theorem dX6_pick_11 : decode cX6_pick 11 = .ok (.iload_n 1, 1) := by decide +kernel
theorem dX6_pick_12 : decode cX6_pick 12 = .ok (.iaload, 1) := by decide +kernel
theorem dX6_pick_13 : decode cX6_pick 13 = .ok (.iconst (-1), 1) := by decide +kernel
theorem dX6_pick_14 : decode cX6_pick 14 = .ok (.if_icmp .eq 7, 3) := by decide +kernel
theorem dX6_pick_17 : decode cX6_pick 17 = .ok (.iconst 1, 1) := by decide +kernel
theorem dX6_pick_18 : decode cX6_pick 18 = .ok (.goto 4, 3) := by decide +kernel
theorem dX6_pick_21 : decode cX6_pick 21 = .ok (.iconst 0, 1) := by decide +kernel
theorem dX6_pick_22 : decode cX6_pick 22 = .ok (.istore_n 2, 1) := by decide +kernel
theorem dX6_pick_23 : decode cX6_pick 23 = .ok (.iconst 0, 1) := by decide +kernel
theorem dX6_pick_24 : decode cX6_pick 24 = .ok (.istore_n 3, 1) := by decide +kernel
theorem dX6_pick_25 : decode cX6_pick 25 = .ok (.iload_n 3, 1) := by decide +kernel
theorem dX6_pick_26 : decode cX6_pick 26 = .ok (.aload_n 0, 1) := by decide +kernel
theorem dX6_pick_27 : decode cX6_pick 27 = .ok (.getfield 7, 3) := by decide +kernel
theorem dX6_pick_30 : decode cX6_pick 30 = .ok (.iconst 0, 1) := by decide +kernel
theorem dX6_pick_31 : decode cX6_pick 31 = .ok (.iaload, 1) := by decide +kernel
theorem dX6_pick_32 : decode cX6_pick 32 = .ok (.if_icmp .gt 53, 3) := by decide +kernel
theorem dX6_pick_35 : decode cX6_pick 35 = .ok (.iload_n 2, 1) := by decide +kernel
theorem dX6_pick_36 : decode cX6_pick 36 = .ok (.ifCond .eq 49, 3) := by decide +kernel
theorem dX6_pick_39 : decode cX6_pick 39 = .ok (.aload_n 0, 1) := by decide +kernel
theorem dX6_pick_40 : decode cX6_pick 40 = .ok (.iload_n 1, 1) := by decide +kernel
theorem dX6_pick_41 : decode cX6_pick 41 = .ok (.aload_n 0, 1) := by decide +kernel
theorem dX6_pick_42 : decode cX6_pick 42 = .ok (.aload_n 0, 1) := by decide +kernel
theorem dX6_pick_43 : decode cX6_pick 43 = .ok (.getfield 19, 3) := by decide +kernel
theorem dX6_pick_46 : decode cX6_pick 46 = .ok (.iload_n 1, 1) := by decide +kernel
theorem dX6_pick_47 : decode cX6_pick 47 = .ok (.iaload, 1) := by decide +kernel
theorem dX6_pick_48 : decode cX6_pick 48 = .ok (.iconst 1, 1) := by decide +kernel
theorem dX6_pick_49 : decode cX6_pick 49 = .ok (.invokevirtual 81, 3) := by decide +kernel
theorem dX6_pick_52 : decode cX6_pick 52 = .ok (.invokevirtual 115, 3) := by decide +kernel
theorem dX6_pick_55 : decode cX6_pick 55 = .ok (.istore 4, 2) := by decide +kernel
theorem dX6_pick_57 : decode cX6_pick 57 = .ok (.iload 4, 2) := by decide +kernel
theorem dX6_pick_59 : decode cX6_pick 59 = .ok (.iconst (-1), 1) := by decide +kernel
theorem dX6_pick_60 : decode cX6_pick 60 = .ok (.if_icmp .eq 17, 3) := by decide +kernel
theorem dX6_pick_63 : decode cX6_pick 63 = .ok (.aload_n 0, 1) := by decide +kernel
theorem dX6_pick_64 : decode cX6_pick 64 = .ok (.iload_n 1, 1) := by decide +kernel
theorem dX6_pick_65 : decode cX6_pick 65 = .ok (.iload 4, 2) := by decide +kernel
theorem dX6_pick_67 : decode cX6_pick 67 = .ok (.invokevirtual 135, 3) := by decide +kernel
theorem dX6_pick_70 : decode cX6_pick 70 = .ok (.ifCond .ne 7, 3) := by decide +kernel
theorem dX6_pick_73 : decode cX6_pick 73 = .ok (.iconst 1, 1) := by decide +kernel
theorem dX6_pick_74 : decode cX6_pick 74 = .ok (.goto 4, 3) := by decide +kernel
theorem dX6_pick_77 : decode cX6_pick 77 = .ok (.iconst 0, 1) := by decide +kernel
theorem dX6_pick_78 : decode cX6_pick 78 = .ok (.istore_n 2, 1) := by decide +kernel
theorem dX6_pick_79 : decode cX6_pick 79 = .ok (.iinc 3 1, 3) := by decide +kernel
theorem dX6_pick_82 : decode cX6_pick 82 = .ok (.goto (-57), 3) := by decide +kernel
theorem dX6_pick_85 : decode cX6_pick 85 = .ok (.return_, 1) := by decide +kernel
set_option maxRecDepth 20000 in
theorem ggX6_look_X6_draw : GoodIn wsX6_look wsX6_draw := goodIn_r _ [8, 2, 9, 10, 11, 12, 21, 22, 23, 24, 25, 26, 27, 28, 29, 30, 31, 32, 33, 34, 35] (by decide +kernel) (by decide +kernel)
set_option maxRecDepth 20000 in
theorem gX6_look_X6_draw : GoodIn wsX6_look (wsV RX6 128 RX6 yX6_draw wsX6_draw) := goodIn_app (goodIn_of _ (by decide +kernel)) ggX6_look_X6_draw
set_option maxRecDepth 20000 in
theorem ggX6_look_X6_trustMore : GoodIn wsX6_look wsX6_trustMore := goodIn_r _ [16, 2, 17, 18, 19, 7, 20, 21, 22, 23, 24, 25, 26, 27, 28, 29, 30, 31, 32, 33, 34, 35] (by decide +kernel) (by decide +kernel)
set_option maxRecDepth 20000 in
theorem gX6_look_X6_trustMore : GoodIn wsX6_look (wsV RX6 131 RX6 yX6_trustMore wsX6_trustMore) := goodIn_app (goodIn_of _ (by decide +kernel)) ggX6_look_X6_trustMore
theorem dX6_look_0 : decode cX6_look 0 = .ok (.aload_n 0, 1) := by decide +kernel
theorem dX6_look_1 : decode cX6_look 1 = .ok (.getfield 22, 3) := by decide +kernel
theorem dX6_look_4 : decode cX6_look 4 = .ok (.iload_n 1, 1) := by decide +kernel
theorem dX6_look_5 : decode cX6_look 5 = .ok (.iaload, 1) := by decide +kernel
theorem dX6_look_6 : decode cX6_look 6 = .ok (.istore_n 2, 1) := by decide +kernel
theorem dX6_look_7 : decode cX6_look 7 = .ok (.iload_n 2, 1) := by decide +kernel
theorem dX6_look_8 : decode cX6_look 8 = .ok (.iconst (-1), 1) := by decide +kernel
theorem dX6_look_9 : decode cX6_look 9 = .ok (.if_icmp .ne 4, 3) := by decide +kernel
theorem dX6_look_12 : decode cX6_look 12 = .ok (.return_, 1) := by decide +kernel
theorem dX6_look_13 : decode cX6_look 13 = .ok (.aload_n 0, 1) := by decide +kernel
theorem dX6_look_14 : decode cX6_look 14 = .ok (.bipush 100, 2) := by decide +kernel
theorem dX6_look_16 : decode cX6_look 16 = .ok (.invokevirtual 128, 3) := by decide +kernel
theorem dX6_look_19 : decode cX6_look 19 = .ok (.aload_n 0, 1) := by decide +kernel
theorem dX6_look_20 : decode cX6_look 20 = .ok (.getfield 7, 3) := by decide +kernel
theorem dX6_look_23 : decode cX6_look 23 = .ok (.iconst 3, 1) := by decide +kernel
theorem dX6_look_24 : decode cX6_look 24 = .ok (.iaload, 1) := by decide +kernel
theorem dX6_look_25 : decode cX6_look 25 = .ok (.if_icmp .ge 7, 3) := by decide +kernel
theorem dX6_look_28 : decode cX6_look 28 = .ok (.iconst 1, 1) := by decide +kernel
theorem dX6_look_29 : decode cX6_look 29 = .ok (.goto 4, 3) := by decide +kernel
theorem dX6_look_32 : decode cX6_look 32 = .ok (.iconst 0, 1) := by decide +kernel
theorem dX6_look_33 : decode cX6_look 33 = .ok (.istore_n 3, 1) := by decide +kernel
theorem dX6_look_34 : decode cX6_look 34 = .ok (.iload_n 3, 1) := by decide +kernel
theorem dX6_look_35 : decode cX6_look 35 = .ok (.ifCond .eq 70, 3) := by decide +kernel
theorem dX6_look_38 : decode cX6_look 38 = .ok (.aload_n 0, 1) := by decide +kernel
theorem dX6_look_39 : decode cX6_look 39 = .ok (.getfield 25, 3) := by decide +kernel
theorem dX6_look_42 : decode cX6_look 42 = .ok (.iload_n 1, 1) := by decide +kernel
theorem dX6_look_43 : decode cX6_look 43 = .ok (.iaload, 1) := by decide +kernel
theorem dX6_look_44 : decode cX6_look 44 = .ok (.iconst 1, 1) := by decide +kernel
theorem dX6_look_45 : decode cX6_look 45 = .ok (.if_icmp .ne 60, 3) := by decide +kernel
theorem dX6_look_48 : decode cX6_look 48 = .ok (.aload_n 0, 1) := by decide +kernel
theorem dX6_look_49 : decode cX6_look 49 = .ok (.iload_n 1, 1) := by decide +kernel
theorem dX6_look_50 : decode cX6_look 50 = .ok (.iload_n 2, 1) := by decide +kernel
theorem dX6_look_51 : decode cX6_look 51 = .ok (.aload_n 0, 1) := by decide +kernel
theorem dX6_look_52 : decode cX6_look 52 = .ok (.getfield 7, 3) := by decide +kernel
theorem dX6_look_55 : decode cX6_look 55 = .ok (.iconst 1, 1) := by decide +kernel
theorem dX6_look_56 : decode cX6_look 56 = .ok (.iaload, 1) := by decide +kernel
theorem dX6_look_57 : decode cX6_look 57 = .ok (.ineg, 1) := by decide +kernel
theorem dX6_look_58 : decode cX6_look 58 = .ok (.invokevirtual 131, 3) := by decide +kernel
theorem dX6_look_61 : decode cX6_look 61 = .ok (.aload_n 0, 1) := by decide +kernel
theorem dX6_look_62 : decode cX6_look 62 = .ok (.getfield 7, 3) := by decide +kernel
theorem dX6_look_65 : decode cX6_look 65 = .ok (.bipush 12, 2) := by decide +kernel
theorem dX6_look_67 : decode cX6_look 67 = .ok (.bipush 8, 2) := by decide +kernel
theorem dX6_look_69 : decode cX6_look 69 = .ok (.iload_n 2, 1) := by decide +kernel
theorem dX6_look_70 : decode cX6_look 70 = .ok (.imul, 1) := by decide +kernel
theorem dX6_look_71 : decode cX6_look 71 = .ok (.iadd, 1) := by decide +kernel
theorem dX6_look_72 : decode cX6_look 72 = .ok (.bipush 7, 2) := by decide +kernel
theorem dX6_look_74 : decode cX6_look 74 = .ok (.iadd, 1) := by decide +kernel
theorem dX6_look_75 : decode cX6_look 75 = .ok (.dup2, 1) := by decide +kernel
theorem dX6_look_76 : decode cX6_look 76 = .ok (.iaload, 1) := by decide +kernel
theorem dX6_look_77 : decode cX6_look 77 = .ok (.iconst 1, 1) := by decide +kernel
theorem dX6_look_78 : decode cX6_look 78 = .ok (.iadd, 1) := by decide +kernel
theorem dX6_look_79 : decode cX6_look 79 = .ok (.iastore, 1) := by decide +kernel
theorem dX6_look_80 : decode cX6_look 80 = .ok (.aload_n 0, 1) := by decide +kernel
theorem dX6_look_81 : decode cX6_look 81 = .ok (.getfield 7, 3) := by decide +kernel
theorem dX6_look_84 : decode cX6_look 84 = .ok (.sipush 196, 3) := by decide +kernel
theorem dX6_look_87 : decode cX6_look 87 = .ok (.iconst 5, 1) := by decide +kernel
theorem dX6_look_88 : decode cX6_look 88 = .ok (.iload_n 1, 1) := by decide +kernel
theorem dX6_look_89 : decode cX6_look 89 = .ok (.imul, 1) := by decide +kernel
theorem dX6_look_90 : decode cX6_look 90 = .ok (.iadd, 1) := by decide +kernel
theorem dX6_look_91 : decode cX6_look 91 = .ok (.iconst 4, 1) := by decide +kernel
theorem dX6_look_92 : decode cX6_look 92 = .ok (.iadd, 1) := by decide +kernel
theorem dX6_look_93 : decode cX6_look 93 = .ok (.dup2, 1) := by decide +kernel
theorem dX6_look_94 : decode cX6_look 94 = .ok (.iaload, 1) := by decide +kernel
theorem dX6_look_95 : decode cX6_look 95 = .ok (.iconst 1, 1) := by decide +kernel
theorem dX6_look_96 : decode cX6_look 96 = .ok (.iadd, 1) := by decide +kernel
theorem dX6_look_97 : decode cX6_look 97 = .ok (.iastore, 1) := by decide +kernel
theorem dX6_look_98 : decode cX6_look 98 = .ok (.aload_n 0, 1) := by decide +kernel
theorem dX6_look_99 : decode cX6_look 99 = .ok (.getfield 22, 3) := by decide +kernel
theorem dX6_look_102 : decode cX6_look 102 = .ok (.iload_n 1, 1) := by decide +kernel
theorem dX6_look_103 : decode cX6_look 103 = .ok (.iconst (-1), 1) := by decide +kernel
theorem dX6_look_104 : decode cX6_look 104 = .ok (.iastore, 1) := by decide +kernel
theorem dX6_look_105 : decode cX6_look 105 = .ok (.return_, 1) := by decide +kernel
set_option maxRecDepth 20000 in
theorem ggX6_lay_X6_go : GoodIn wsX6_lay wsX6_go := goodIn_r _ [9, 3, 10, 11, 8, 12, 13, 14, 15, 16, 17, 18, 19, 20, 21, 22, 23, 24, 25, 26, 27] (by decide +kernel) (by decide +kernel)
set_option maxRecDepth 20000 in
theorem gX6_lay_X6_go : GoodIn wsX6_lay (wsV RX6 124 RX6 yX6_go wsX6_go) := goodIn_app (goodIn_of _ (by decide +kernel)) ggX6_lay_X6_go
theorem dX6_lay_0 : decode cX6_lay 0 = .ok (.aload_n 0, 1) := by decide +kernel
theorem dX6_lay_1 : decode cX6_lay 1 = .ok (.getfield 22, 3) := by decide +kernel
theorem dX6_lay_4 : decode cX6_lay 4 = .ok (.iload_n 1, 1) := by decide +kernel
theorem dX6_lay_5 : decode cX6_lay 5 = .ok (.iaload, 1) := by decide +kernel
theorem dX6_lay_6 : decode cX6_lay 6 = .ok (.iconst (-1), 1) := by decide +kernel
theorem dX6_lay_7 : decode cX6_lay 7 = .ok (.if_icmp .ne 5, 3) := by decide +kernel
theorem dX6_lay_10 : decode cX6_lay 10 = .ok (.iconst 0, 1) := by decide +kernel
theorem dX6_lay_11 : decode cX6_lay 11 = .ok (.ireturn, 1) := by decide +kernel
theorem dX6_lay_12 : decode cX6_lay 12 = .ok (.bipush 76, 2) := by decide +kernel
theorem dX6_lay_14 : decode cX6_lay 14 = .ok (.iconst 5, 1) := by decide +kernel
theorem dX6_lay_15 : decode cX6_lay 15 = .ok (.aload_n 0, 1) := by decide +kernel
theorem dX6_lay_16 : decode cX6_lay 16 = .ok (.getfield 19, 3) := by decide +kernel
theorem dX6_lay_19 : decode cX6_lay 19 = .ok (.iload_n 1, 1) := by decide +kernel
theorem dX6_lay_20 : decode cX6_lay 20 = .ok (.iaload, 1) := by decide +kernel
theorem dX6_lay_21 : decode cX6_lay 21 = .ok (.imul, 1) := by decide +kernel
theorem dX6_lay_22 : decode cX6_lay 22 = .ok (.iadd, 1) := by decide +kernel
theorem dX6_lay_23 : decode cX6_lay 23 = .ok (.istore_n 2, 1) := by decide +kernel
theorem dX6_lay_24 : decode cX6_lay 24 = .ok (.aload_n 0, 1) := by decide +kernel
theorem dX6_lay_25 : decode cX6_lay 25 = .ok (.aload_n 0, 1) := by decide +kernel
theorem dX6_lay_26 : decode cX6_lay 26 = .ok (.getfield 7, 3) := by decide +kernel
theorem dX6_lay_29 : decode cX6_lay 29 = .ok (.iload_n 2, 1) := by decide +kernel
theorem dX6_lay_30 : decode cX6_lay 30 = .ok (.iconst 0, 1) := by decide +kernel
theorem dX6_lay_31 : decode cX6_lay 31 = .ok (.iadd, 1) := by decide +kernel
theorem dX6_lay_32 : decode cX6_lay 32 = .ok (.iaload, 1) := by decide +kernel
theorem dX6_lay_33 : decode cX6_lay 33 = .ok (.iconst 1, 1) := by decide +kernel
theorem dX6_lay_34 : decode cX6_lay 34 = .ok (.invokevirtual 124, 3) := by decide +kernel
theorem dX6_lay_37 : decode cX6_lay 37 = .ok (.aload_n 0, 1) := by decide +kernel
theorem dX6_lay_38 : decode cX6_lay 38 = .ok (.getfield 7, 3) := by decide +kernel
theorem dX6_lay_41 : decode cX6_lay 41 = .ok (.iload_n 2, 1) := by decide +kernel
theorem dX6_lay_42 : decode cX6_lay 42 = .ok (.iconst 2, 1) := by decide +kernel
theorem dX6_lay_43 : decode cX6_lay 43 = .ok (.iadd, 1) := by decide +kernel
theorem dX6_lay_44 : decode cX6_lay 44 = .ok (.aload_n 0, 1) := by decide +kernel
theorem dX6_lay_45 : decode cX6_lay 45 = .ok (.getfield 25, 3) := by decide +kernel
theorem dX6_lay_48 : decode cX6_lay 48 = .ok (.iload_n 1, 1) := by decide +kernel
theorem dX6_lay_49 : decode cX6_lay 49 = .ok (.iaload, 1) := by decide +kernel
theorem dX6_lay_50 : decode cX6_lay 50 = .ok (.iconst 1, 1) := by decide +kernel
theorem dX6_lay_51 : decode cX6_lay 51 = .ok (.if_icmp .ne 7, 3) := by decide +kernel
theorem dX6_lay_54 : decode cX6_lay 54 = .ok (.iconst 2, 1) := by decide +kernel
theorem dX6_lay_55 : decode cX6_lay 55 = .ok (.goto 4, 3) := by decide +kernel
theorem dX6_lay_58 : decode cX6_lay 58 = .ok (.iconst 1, 1) := by decide +kernel
theorem dX6_lay_59 : decode cX6_lay 59 = .ok (.iastore, 1) := by decide +kernel
theorem dX6_lay_60 : decode cX6_lay 60 = .ok (.aload_n 0, 1) := by decide +kernel
theorem dX6_lay_61 : decode cX6_lay 61 = .ok (.getfield 7, 3) := by decide +kernel
theorem dX6_lay_64 : decode cX6_lay 64 = .ok (.iload_n 2, 1) := by decide +kernel
theorem dX6_lay_65 : decode cX6_lay 65 = .ok (.iconst 3, 1) := by decide +kernel
theorem dX6_lay_66 : decode cX6_lay 66 = .ok (.iadd, 1) := by decide +kernel
theorem dX6_lay_67 : decode cX6_lay 67 = .ok (.iload_n 1, 1) := by decide +kernel
theorem dX6_lay_68 : decode cX6_lay 68 = .ok (.iastore, 1) := by decide +kernel
theorem dX6_lay_69 : decode cX6_lay 69 = .ok (.aload_n 0, 1) := by decide +kernel
theorem dX6_lay_70 : decode cX6_lay 70 = .ok (.getfield 7, 3) := by decide +kernel
theorem dX6_lay_73 : decode cX6_lay 73 = .ok (.iload_n 2, 1) := by decide +kernel
theorem dX6_lay_74 : decode cX6_lay 74 = .ok (.iconst 4, 1) := by decide +kernel
theorem dX6_lay_75 : decode cX6_lay 75 = .ok (.iadd, 1) := by decide +kernel
theorem dX6_lay_76 : decode cX6_lay 76 = .ok (.aload_n 0, 1) := by decide +kernel
theorem dX6_lay_77 : decode cX6_lay 77 = .ok (.getfield 22, 3) := by decide +kernel
theorem dX6_lay_80 : decode cX6_lay 80 = .ok (.iload_n 1, 1) := by decide +kernel
theorem dX6_lay_81 : decode cX6_lay 81 = .ok (.iaload, 1) := by decide +kernel
theorem dX6_lay_82 : decode cX6_lay 82 = .ok (.iastore, 1) := by decide +kernel
theorem dX6_lay_83 : decode cX6_lay 83 = .ok (.aload_n 0, 1) := by decide +kernel
theorem dX6_lay_84 : decode cX6_lay 84 = .ok (.getfield 7, 3) := by decide +kernel
theorem dX6_lay_87 : decode cX6_lay 87 = .ok (.sipush 196, 3) := by decide +kernel
theorem dX6_lay_90 : decode cX6_lay 90 = .ok (.iconst 5, 1) := by decide +kernel
theorem dX6_lay_91 : decode cX6_lay 91 = .ok (.iload_n 1, 1) := by decide +kernel
theorem dX6_lay_92 : decode cX6_lay 92 = .ok (.imul, 1) := by decide +kernel
theorem dX6_lay_93 : decode cX6_lay 93 = .ok (.iadd, 1) := by decide +kernel
theorem dX6_lay_94 : decode cX6_lay 94 = .ok (.iconst 3, 1) := by decide +kernel
theorem dX6_lay_95 : decode cX6_lay 95 = .ok (.iadd, 1) := by decide +kernel
theorem dX6_lay_96 : decode cX6_lay 96 = .ok (.dup2, 1) := by decide +kernel
theorem dX6_lay_97 : decode cX6_lay 97 = .ok (.iaload, 1) := by decide +kernel
theorem dX6_lay_98 : decode cX6_lay 98 = .ok (.iconst 1, 1) := by decide +kernel
theorem dX6_lay_99 : decode cX6_lay 99 = .ok (.iadd, 1) := by decide +kernel
theorem dX6_lay_100 : decode cX6_lay 100 = .ok (.iastore, 1) := by decide +kernel
theorem dX6_lay_101 : decode cX6_lay 101 = .ok (.iconst 1, 1) := by decide +kernel
theorem dX6_lay_102 : decode cX6_lay 102 = .ok (.ireturn, 1) := by decide +kernel
set_option maxRecDepth 20000 in
theorem ggX6_gossip_X6_trustOf : GoodIn wsX6_gossip wsX6_trustOf := goodIn_r _ [6, 1, 11, 12, 13, 14, 15, 16, 17, 18, 19, 20, 21, 22, 23, 24, 25] (by decide +kernel) (by decide +kernel)
set_option maxRecDepth 20000 in
theorem gX6_gossip_X6_trustOf : GoodIn wsX6_gossip (wsV RX6 41 RX6 yX6_trustOf wsX6_trustOf) := goodIn_app (goodIn_of _ (by decide +kernel)) ggX6_gossip_X6_trustOf
set_option maxRecDepth 20000 in
theorem ggX6_gossip_X6_trustMore : GoodIn wsX6_gossip wsX6_trustMore := goodIn_r _ [10, 1, 2, 3, 4, 5, 6, 11, 12, 13, 14, 15, 16, 17, 18, 19, 20, 21, 22, 23, 24, 25] (by decide +kernel) (by decide +kernel)
set_option maxRecDepth 20000 in
theorem gX6_gossip_X6_trustMore : GoodIn wsX6_gossip (wsV RX6 131 RX6 yX6_trustMore wsX6_trustMore) := goodIn_app (goodIn_of _ (by decide +kernel)) ggX6_gossip_X6_trustMore
theorem dX6_gossip_0 : decode cX6_gossip 0 = .ok (.iconst 0, 1) := by decide +kernel
theorem dX6_gossip_1 : decode cX6_gossip 1 = .ok (.istore_n 2, 1) := by decide +kernel
theorem dX6_gossip_2 : decode cX6_gossip 2 = .ok (.iload_n 2, 1) := by decide +kernel
theorem dX6_gossip_3 : decode cX6_gossip 3 = .ok (.aload_n 0, 1) := by decide +kernel
theorem dX6_gossip_4 : decode cX6_gossip 4 = .ok (.getfield 7, 3) := by decide +kernel
theorem dX6_gossip_7 : decode cX6_gossip 7 = .ok (.iconst 5, 1) := by decide +kernel
theorem dX6_gossip_8 : decode cX6_gossip 8 = .ok (.iaload, 1) := by decide +kernel
theorem dX6_gossip_9 : decode cX6_gossip 9 = .ok (.if_icmp .ge 53, 3) := by decide +kernel
theorem dX6_gossip_12 : decode cX6_gossip 12 = .ok (.aload_n 0, 1) := by decide +kernel
theorem dX6_gossip_13 : decode cX6_gossip 13 = .ok (.iload_n 1, 1) := by decide +kernel
theorem dX6_gossip_14 : decode cX6_gossip 14 = .ok (.iconst 1, 1) := by decide +kernel
theorem dX6_gossip_15 : decode cX6_gossip 15 = .ok (.iadd, 1) := by decide +kernel
theorem dX6_gossip_16 : decode cX6_gossip 16 = .ok (.iload_n 2, 1) := by decide +kernel
theorem dX6_gossip_17 : decode cX6_gossip 17 = .ok (.invokevirtual 41, 3) := by decide +kernel
theorem dX6_gossip_20 : decode cX6_gossip 20 = .ok (.aload_n 0, 1) := by decide +kernel
theorem dX6_gossip_21 : decode cX6_gossip 21 = .ok (.iload_n 1, 1) := by decide +kernel
theorem dX6_gossip_22 : decode cX6_gossip 22 = .ok (.iload_n 2, 1) := by decide +kernel
theorem dX6_gossip_23 : decode cX6_gossip 23 = .ok (.invokevirtual 41, 3) := by decide +kernel
theorem dX6_gossip_26 : decode cX6_gossip 26 = .ok (.isub, 1) := by decide +kernel
theorem dX6_gossip_27 : decode cX6_gossip 27 = .ok (.aload_n 0, 1) := by decide +kernel
theorem dX6_gossip_28 : decode cX6_gossip 28 = .ok (.getfield 7, 3) := by decide +kernel
theorem dX6_gossip_31 : decode cX6_gossip 31 = .ok (.iconst 4, 1) := by decide +kernel
theorem dX6_gossip_32 : decode cX6_gossip 32 = .ok (.iaload, 1) := by decide +kernel
theorem dX6_gossip_33 : decode cX6_gossip 33 = .ok (.imul, 1) := by decide +kernel
theorem dX6_gossip_34 : decode cX6_gossip 34 = .ok (.sipush 200, 3) := by decide +kernel
theorem dX6_gossip_37 : decode cX6_gossip 37 = .ok (.idiv, 1) := by decide +kernel
theorem dX6_gossip_38 : decode cX6_gossip 38 = .ok (.istore_n 3, 1) := by decide +kernel
theorem dX6_gossip_39 : decode cX6_gossip 39 = .ok (.aload_n 0, 1) := by decide +kernel
theorem dX6_gossip_40 : decode cX6_gossip 40 = .ok (.iload_n 1, 1) := by decide +kernel
theorem dX6_gossip_41 : decode cX6_gossip 41 = .ok (.iload_n 2, 1) := by decide +kernel
theorem dX6_gossip_42 : decode cX6_gossip 42 = .ok (.iload_n 3, 1) := by decide +kernel
theorem dX6_gossip_43 : decode cX6_gossip 43 = .ok (.invokevirtual 131, 3) := by decide +kernel
theorem dX6_gossip_46 : decode cX6_gossip 46 = .ok (.aload_n 0, 1) := by decide +kernel
theorem dX6_gossip_47 : decode cX6_gossip 47 = .ok (.iload_n 1, 1) := by decide +kernel
theorem dX6_gossip_48 : decode cX6_gossip 48 = .ok (.iconst 1, 1) := by decide +kernel
theorem dX6_gossip_49 : decode cX6_gossip 49 = .ok (.iadd, 1) := by decide +kernel
theorem dX6_gossip_50 : decode cX6_gossip 50 = .ok (.iload_n 2, 1) := by decide +kernel
theorem dX6_gossip_51 : decode cX6_gossip 51 = .ok (.iload_n 3, 1) := by decide +kernel
theorem dX6_gossip_52 : decode cX6_gossip 52 = .ok (.ineg, 1) := by decide +kernel
theorem dX6_gossip_53 : decode cX6_gossip 53 = .ok (.invokevirtual 131, 3) := by decide +kernel
theorem dX6_gossip_56 : decode cX6_gossip 56 = .ok (.iinc 2 1, 3) := by decide +kernel
theorem dX6_gossip_59 : decode cX6_gossip 59 = .ok (.goto (-57), 3) := by decide +kernel
theorem dX6_gossip_62 : decode cX6_gossip 62 = .ok (.return_, 1) := by decide +kernel
set_option maxRecDepth 20000 in
theorem ggX6_tourOnce_X6_layAims : GoodIn wsX6_tourOnce wsX6_layAims := goodIn_r _ [6, 7, 8, 9, 10, 5, 11, 1, 12, 13, 14, 15, 16, 17, 18, 19, 20, 21, 22, 23, 24, 25, 26, 27, 28, 29, 30, 31, 32, 33, 34, 35, 36, 37, 38, 39, 40, 41, 42, 43, 44, 45, 46, 85, 86, 87, 88, 89, 90, 91, 92, 93, 94, 95, 96, 97, 98, 99] (by decide +kernel) (by decide +kernel)
set_option maxRecDepth 20000 in
theorem gX6_tourOnce_X6_layAims : GoodIn wsX6_tourOnce (wsV RX6 138 RX6 yX6_layAims wsX6_layAims) := goodIn_app (goodIn_of _ (by decide +kernel)) ggX6_tourOnce_X6_layAims
set_option maxRecDepth 20000 in
theorem ggX6_tourOnce_X6_pick : GoodIn wsX6_tourOnce wsX6_pick := goodIn_r _ [50, 51, 7, 1, 12, 13, 14, 5, 15, 20, 21, 22, 23, 24, 25, 26, 27, 28, 29, 30, 31, 32, 33, 34, 35, 36, 37, 38, 39, 40, 41, 42, 52, 53, 54, 55, 56, 57, 58, 59, 60, 61, 62, 63, 64, 65, 66, 67, 68, 69, 70, 71, 72, 85, 86, 87, 88, 89, 90, 91, 92, 93, 94, 95, 96, 97, 98, 99] (by decide +kernel) (by decide +kernel)
set_option maxRecDepth 20000 in
theorem gX6_tourOnce_X6_pick : GoodIn wsX6_tourOnce (wsV RX6 141 RX6 yX6_pick wsX6_pick) := goodIn_app (goodIn_of _ (by decide +kernel)) ggX6_tourOnce_X6_pick
set_option maxRecDepth 20000 in
theorem ggX6_tourOnce_X6_look : GoodIn wsX6_tourOnce wsX6_look := goodIn_r _ [76, 51, 1, 56, 61, 62, 63, 5, 64, 65, 66, 67, 68, 69, 70, 71, 72, 36, 37, 38, 39, 85, 86, 87, 88, 89, 90, 91, 92, 93, 94, 95, 96, 97, 98, 99] (by decide +kernel) (by decide +kernel)
set_option maxRecDepth 20000 in
theorem gX6_tourOnce_X6_look : GoodIn wsX6_tourOnce (wsV RX6 144 RX6 yX6_look wsX6_look) := goodIn_app (goodIn_of _ (by decide +kernel)) ggX6_tourOnce_X6_look
set_option maxRecDepth 20000 in
theorem ggX6_tourOnce_X6_lay : GoodIn wsX6_tourOnce wsX6_lay := goodIn_r _ [80, 51, 7, 1, 56, 57, 58, 59, 5, 60, 40, 41, 42, 85, 86, 87, 88, 89, 90, 91, 92, 93, 94, 95, 96, 97, 98, 99] (by decide +kernel) (by decide +kernel)
set_option maxRecDepth 20000 in
theorem gX6_tourOnce_X6_lay : GoodIn wsX6_tourOnce (wsV RX6 147 RX6 yX6_lay wsX6_lay) := goodIn_app (goodIn_of _ (by decide +kernel)) ggX6_tourOnce_X6_lay
set_option maxRecDepth 20000 in
theorem ggX6_tourOnce_X6_gossip : GoodIn wsX6_tourOnce wsX6_gossip := goodIn_r _ [84, 1, 36, 37, 38, 5, 39, 69, 70, 71, 72, 85, 86, 87, 88, 89, 90, 91, 92, 93, 94, 95, 96, 97, 98, 99] (by decide +kernel) (by decide +kernel)
set_option maxRecDepth 20000 in
theorem gX6_tourOnce_X6_gossip : GoodIn wsX6_tourOnce (wsV RX6 150 RX6 yX6_gossip wsX6_gossip) := goodIn_app (goodIn_of _ (by decide +kernel)) ggX6_tourOnce_X6_gossip
theorem dX6_tourOnce_0 : decode cX6_tourOnce 0 = .ok (.aload_n 0, 1) := by decide +kernel
theorem dX6_tourOnce_1 : decode cX6_tourOnce 1 = .ok (.invokevirtual 138, 3) := by decide +kernel
theorem dX6_tourOnce_4 : decode cX6_tourOnce 4 = .ok (.iconst 0, 1) := by decide +kernel
theorem dX6_tourOnce_5 : decode cX6_tourOnce 5 = .ok (.istore_n 1, 1) := by decide +kernel
theorem dX6_tourOnce_6 : decode cX6_tourOnce 6 = .ok (.iload_n 1, 1) := by decide +kernel
theorem dX6_tourOnce_7 : decode cX6_tourOnce 7 = .ok (.iconst 4, 1) := by decide +kernel
theorem dX6_tourOnce_8 : decode cX6_tourOnce 8 = .ok (.if_icmp .ge 14, 3) := by decide +kernel
theorem dX6_tourOnce_11 : decode cX6_tourOnce 11 = .ok (.aload_n 0, 1) := by decide +kernel
theorem dX6_tourOnce_12 : decode cX6_tourOnce 12 = .ok (.iload_n 1, 1) := by decide +kernel
theorem dX6_tourOnce_13 : decode cX6_tourOnce 13 = .ok (.invokevirtual 141, 3) := by decide +kernel
theorem dX6_tourOnce_16 : decode cX6_tourOnce 16 = .ok (.iinc 1 1, 3) := by decide +kernel
theorem dX6_tourOnce_19 : decode cX6_tourOnce 19 = .ok (.goto (-13), 3) := by decide +kernel
theorem dX6_tourOnce_22 : decode cX6_tourOnce 22 = .ok (.iconst 0, 1) := by decide +kernel
theorem dX6_tourOnce_23 : decode cX6_tourOnce 23 = .ok (.istore_n 1, 1) := by decide +kernel
theorem dX6_tourOnce_24 : decode cX6_tourOnce 24 = .ok (.iload_n 1, 1) := by decide +kernel
theorem dX6_tourOnce_25 : decode cX6_tourOnce 25 = .ok (.iconst 4, 1) := by decide +kernel
theorem dX6_tourOnce_26 : decode cX6_tourOnce 26 = .ok (.if_icmp .ge 14, 3) := by decide +kernel
theorem dX6_tourOnce_29 : decode cX6_tourOnce 29 = .ok (.aload_n 0, 1) := by decide +kernel
theorem dX6_tourOnce_30 : decode cX6_tourOnce 30 = .ok (.iload_n 1, 1) := by decide +kernel
theorem dX6_tourOnce_31 : decode cX6_tourOnce 31 = .ok (.invokevirtual 144, 3) := by decide +kernel
theorem dX6_tourOnce_34 : decode cX6_tourOnce 34 = .ok (.iinc 1 1, 3) := by decide +kernel
theorem dX6_tourOnce_37 : decode cX6_tourOnce 37 = .ok (.goto (-13), 3) := by decide +kernel
theorem dX6_tourOnce_40 : decode cX6_tourOnce 40 = .ok (.iconst 0, 1) := by decide +kernel
theorem dX6_tourOnce_41 : decode cX6_tourOnce 41 = .ok (.istore_n 1, 1) := by decide +kernel
theorem dX6_tourOnce_42 : decode cX6_tourOnce 42 = .ok (.iconst 0, 1) := by decide +kernel
theorem dX6_tourOnce_43 : decode cX6_tourOnce 43 = .ok (.istore_n 2, 1) := by decide +kernel
theorem dX6_tourOnce_44 : decode cX6_tourOnce 44 = .ok (.iload_n 2, 1) := by decide +kernel
theorem dX6_tourOnce_45 : decode cX6_tourOnce 45 = .ok (.iconst 4, 1) := by decide +kernel
theorem dX6_tourOnce_46 : decode cX6_tourOnce 46 = .ok (.if_icmp .ge 19, 3) := by decide +kernel
theorem dX6_tourOnce_49 : decode cX6_tourOnce 49 = .ok (.aload_n 0, 1) := by decide +kernel
theorem dX6_tourOnce_50 : decode cX6_tourOnce 50 = .ok (.iload_n 2, 1) := by decide +kernel
theorem dX6_tourOnce_51 : decode cX6_tourOnce 51 = .ok (.invokevirtual 147, 3) := by decide +kernel
theorem dX6_tourOnce_54 : decode cX6_tourOnce 54 = .ok (.istore_n 3, 1) := by decide +kernel
theorem dX6_tourOnce_55 : decode cX6_tourOnce 55 = .ok (.iload_n 1, 1) := by decide +kernel
theorem dX6_tourOnce_56 : decode cX6_tourOnce 56 = .ok (.iload_n 3, 1) := by decide +kernel
theorem dX6_tourOnce_57 : decode cX6_tourOnce 57 = .ok (.iadd, 1) := by decide +kernel
theorem dX6_tourOnce_58 : decode cX6_tourOnce 58 = .ok (.istore_n 1, 1) := by decide +kernel
theorem dX6_tourOnce_59 : decode cX6_tourOnce 59 = .ok (.iinc 2 1, 3) := by decide +kernel
theorem dX6_tourOnce_62 : decode cX6_tourOnce 62 = .ok (.goto (-18), 3) := by decide +kernel
theorem dX6_tourOnce_65 : decode cX6_tourOnce 65 = .ok (.iconst 0, 1) := by decide +kernel
theorem dX6_tourOnce_66 : decode cX6_tourOnce 66 = .ok (.istore_n 2, 1) := by decide +kernel
theorem dX6_tourOnce_67 : decode cX6_tourOnce 67 = .ok (.iload_n 2, 1) := by decide +kernel
theorem dX6_tourOnce_68 : decode cX6_tourOnce 68 = .ok (.iconst 3, 1) := by decide +kernel
theorem dX6_tourOnce_69 : decode cX6_tourOnce 69 = .ok (.if_icmp .ge 14, 3) := by decide +kernel
theorem dX6_tourOnce_72 : decode cX6_tourOnce 72 = .ok (.aload_n 0, 1) := by decide +kernel
theorem dX6_tourOnce_73 : decode cX6_tourOnce 73 = .ok (.iload_n 2, 1) := by decide +kernel
theorem dX6_tourOnce_74 : decode cX6_tourOnce 74 = .ok (.invokevirtual 150, 3) := by decide +kernel
theorem dX6_tourOnce_77 : decode cX6_tourOnce 77 = .ok (.iinc 2 1, 3) := by decide +kernel
theorem dX6_tourOnce_80 : decode cX6_tourOnce 80 = .ok (.goto (-13), 3) := by decide +kernel
theorem dX6_tourOnce_83 : decode cX6_tourOnce 83 = .ok (.aload_n 0, 1) := by decide +kernel
theorem dX6_tourOnce_84 : decode cX6_tourOnce 84 = .ok (.getfield 7, 3) := by decide +kernel
theorem dX6_tourOnce_87 : decode cX6_tourOnce 87 = .ok (.bipush 10, 2) := by decide +kernel
theorem dX6_tourOnce_89 : decode cX6_tourOnce 89 = .ok (.dup2, 1) := by decide +kernel
theorem dX6_tourOnce_90 : decode cX6_tourOnce 90 = .ok (.iaload, 1) := by decide +kernel
theorem dX6_tourOnce_91 : decode cX6_tourOnce 91 = .ok (.iconst 1, 1) := by decide +kernel
theorem dX6_tourOnce_92 : decode cX6_tourOnce 92 = .ok (.iadd, 1) := by decide +kernel
theorem dX6_tourOnce_93 : decode cX6_tourOnce 93 = .ok (.iastore, 1) := by decide +kernel
theorem dX6_tourOnce_94 : decode cX6_tourOnce 94 = .ok (.iload_n 1, 1) := by decide +kernel
theorem dX6_tourOnce_95 : decode cX6_tourOnce 95 = .ok (.ireturn, 1) := by decide +kernel
set_option maxRecDepth 20000 in
theorem ggX6_tours_X6_tourOnce : GoodIn wsX6_tours wsX6_tourOnce := goodIn_r _ [5, 6, 7, 8, 9, 4, 10, 11, 12, 13, 14, 15, 16, 17, 18, 19, 20, 21, 22, 23, 24, 25, 26, 27, 28, 29, 30, 31, 32, 33, 34, 35, 36, 37, 38, 39, 40, 41, 42, 43, 44, 45, 46, 47, 48, 49, 50, 51, 52, 53, 54, 55, 56, 57, 58, 59, 60, 61, 62, 63, 64, 65, 66, 67, 68, 69, 70, 71, 72, 73, 74, 75, 76, 77, 78, 79, 80, 81, 82, 83, 84, 85, 86, 87, 88, 89, 90, 91, 92, 93, 94, 95, 96, 97, 98, 99, 100, 101, 102, 103] (by decide +kernel) (by decide +kernel)
set_option maxRecDepth 20000 in
theorem gX6_tours_X6_tourOnce : GoodIn wsX6_tours (wsV RX6 153 RX6 yX6_tourOnce wsX6_tourOnce) := goodIn_app (goodIn_of _ (by decide +kernel)) ggX6_tours_X6_tourOnce
theorem dX6_tours_0 : decode cX6_tours 0 = .ok (.iconst 0, 1) := by decide +kernel
theorem dX6_tours_1 : decode cX6_tours 1 = .ok (.istore_n 2, 1) := by decide +kernel
theorem dX6_tours_2 : decode cX6_tours 2 = .ok (.iconst 0, 1) := by decide +kernel
theorem dX6_tours_3 : decode cX6_tours 3 = .ok (.istore_n 3, 1) := by decide +kernel
theorem dX6_tours_4 : decode cX6_tours 4 = .ok (.iload_n 3, 1) := by decide +kernel
theorem dX6_tours_5 : decode cX6_tours 5 = .ok (.iload_n 1, 1) := by decide +kernel
theorem dX6_tours_6 : decode cX6_tours 6 = .ok (.if_icmp .ge 20, 3) := by decide +kernel
theorem dX6_tours_9 : decode cX6_tours 9 = .ok (.aload_n 0, 1) := by decide +kernel
theorem dX6_tours_10 : decode cX6_tours 10 = .ok (.invokevirtual 153, 3) := by decide +kernel
theorem dX6_tours_13 : decode cX6_tours 13 = .ok (.istore 4, 2) := by decide +kernel
theorem dX6_tours_15 : decode cX6_tours 15 = .ok (.iload_n 2, 1) := by decide +kernel
theorem dX6_tours_16 : decode cX6_tours 16 = .ok (.iload 4, 2) := by decide +kernel
theorem dX6_tours_18 : decode cX6_tours 18 = .ok (.iadd, 1) := by decide +kernel
theorem dX6_tours_19 : decode cX6_tours 19 = .ok (.istore_n 2, 1) := by decide +kernel
theorem dX6_tours_20 : decode cX6_tours 20 = .ok (.iinc 3 1, 3) := by decide +kernel
theorem dX6_tours_23 : decode cX6_tours 23 = .ok (.goto (-19), 3) := by decide +kernel
theorem dX6_tours_26 : decode cX6_tours 26 = .ok (.iload_n 2, 1) := by decide +kernel
theorem dX6_tours_27 : decode cX6_tours 27 = .ok (.ireturn, 1) := by decide +kernel
set_option maxRecDepth 20000 in
theorem ggX6_areTimes_X6_within : GoodIn wsX6_areTimes wsX6_within := goodIn_r _ [4] (by decide +kernel) (by decide +kernel)
set_option maxRecDepth 20000 in
theorem gX6_areTimes_X6_within : GoodIn wsX6_areTimes (va_wsS RX6 45 yX6_within wsX6_within) := goodIn_app (goodIn_of _ (by decide +kernel)) ggX6_areTimes_X6_within
theorem dX6_areTimes_0 : decode cX6_areTimes 0 = .ok (.iload_n 0, 1) := by decide +kernel
theorem dX6_areTimes_1 : decode cX6_areTimes 1 = .ok (.iconst 1, 1) := by decide +kernel
theorem dX6_areTimes_2 : decode cX6_areTimes 2 = .ok (.bipush 20, 2) := by decide +kernel
theorem dX6_areTimes_4 : decode cX6_areTimes 4 = .ok (.invokestatic 45, 3) := by decide +kernel
theorem dX6_areTimes_7 : decode cX6_areTimes 7 = .ok (.ireturn, 1) := by decide +kernel
set_option maxRecDepth 20000 in
theorem ggX6_tour_X6_areTimes : GoodIn wsX6_tour wsX6_areTimes := goodIn_r _ [5, 6, 7, 4, 8] (by decide +kernel) (by decide +kernel)
set_option maxRecDepth 20000 in
theorem gX6_tour_X6_areTimes : GoodIn wsX6_tour (va_wsS RX6 157 yX6_areTimes wsX6_areTimes) := goodIn_app (goodIn_of _ (by decide +kernel)) ggX6_tour_X6_areTimes
set_option maxRecDepth 20000 in
theorem ggX6_tour_X6_save : GoodIn wsX6_tour wsX6_save := goodIn_r _ [12, 13, 14, 15, 106, 107, 108, 109, 110, 111, 112, 113, 114, 115, 116, 117, 118, 119, 120] (by decide +kernel) (by decide +kernel)
set_option maxRecDepth 20000 in
theorem gX6_tour_X6_save : GoodIn wsX6_tour (wsV RX6 59 RX6 yX6_save wsX6_save) := goodIn_app (goodIn_of _ (by decide +kernel)) ggX6_tour_X6_save
set_option maxRecDepth 20000 in
theorem ggX6_tour_X6_tours : GoodIn wsX6_tour wsX6_tours := goodIn_r _ [19, 20, 21, 22, 4, 23, 15, 24, 25, 26, 27, 28, 29, 30, 31, 32, 33, 34, 35, 36, 37, 38, 39, 40, 41, 42, 43, 44, 45, 46, 47, 48, 49, 50, 51, 52, 53, 54, 55, 56, 57, 58, 59, 60, 61, 62, 63, 64, 65, 66, 67, 68, 69, 70, 71, 72, 73, 74, 75, 76, 77, 78, 79, 80, 81, 82, 83, 84, 85, 86, 87, 88, 89, 90, 91, 92, 93, 94, 95, 96, 97, 98, 99, 100, 101, 102, 103, 104, 105, 106, 107, 108, 109, 110, 111, 112, 113, 114, 115, 116, 117, 118, 119, 120] (by decide +kernel) (by decide +kernel)
set_option maxRecDepth 20000 in
theorem gX6_tour_X6_tours : GoodIn wsX6_tour (wsV RX6 160 RX6 yX6_tours wsX6_tours) := goodIn_app (goodIn_of _ (by decide +kernel)) ggX6_tour_X6_tours
theorem dX6_tour_0 : decode cX6_tour 0 = .ok (.aload_n 0, 1) := by decide +kernel
theorem dX6_tour_1 : decode cX6_tour 1 = .ok (.iload_n 1, 1) := by decide +kernel
theorem dX6_tour_2 : decode cX6_tour 2 = .ok (.invokestatic 157, 3) := by decide +kernel
theorem dX6_tour_5 : decode cX6_tour 5 = .ok (.ifCond .eq 7, 3) := by decide +kernel
theorem dX6_tour_8 : decode cX6_tour 8 = .ok (.iconst 0, 1) := by decide +kernel
theorem dX6_tour_9 : decode cX6_tour 9 = .ok (.goto 4, 3) := by decide +kernel
theorem dX6_tour_12 : decode cX6_tour 12 = .ok (.iconst 1, 1) := by decide +kernel
theorem dX6_tour_13 : decode cX6_tour 13 = .ok (.putfield 34, 3) := by decide +kernel
theorem dX6_tour_16 : decode cX6_tour 16 = .ok (.aload_n 0, 1) := by decide +kernel
theorem dX6_tour_17 : decode cX6_tour 17 = .ok (.getfield 34, 3) := by decide +kernel
theorem dX6_tour_20 : decode cX6_tour 20 = .ok (.ifCond .le 5, 3) := by decide +kernel
theorem dX6_tour_23 : decode cX6_tour 23 = .ok (.iconst 0, 1) := by decide +kernel
theorem dX6_tour_24 : decode cX6_tour 24 = .ok (.ireturn, 1) := by decide +kernel
theorem dX6_tour_25 : decode cX6_tour 25 = .ok (.aload_n 0, 1) := by decide +kernel
theorem dX6_tour_26 : decode cX6_tour 26 = .ok (.invokevirtual 59, 3) := by decide +kernel
theorem dX6_tour_29 : decode cX6_tour 29 = .ok (.aload_n 0, 1) := by decide +kernel
theorem dX6_tour_30 : decode cX6_tour 30 = .ok (.iload_n 1, 1) := by decide +kernel
theorem dX6_tour_31 : decode cX6_tour 31 = .ok (.invokevirtual 160, 3) := by decide +kernel
theorem dX6_tour_34 : decode cX6_tour 34 = .ok (.ireturn, 1) := by decide +kernel
set_option maxRecDepth 20000 in
theorem ggX6_inspects_X6_ofPlace : GoodIn wsX6_inspects wsX6_ofPlace := goodIn_r _ [6, 1, 19, 20, 21, 22, 23, 24, 25, 26, 27, 28, 29, 30, 31, 32, 33] (by decide +kernel) (by decide +kernel)
set_option maxRecDepth 20000 in
theorem gX6_inspects_X6_ofPlace : GoodIn wsX6_inspects (wsV RX6 81 RX6 yX6_ofPlace wsX6_ofPlace) := goodIn_app (goodIn_of _ (by decide +kernel)) ggX6_inspects_X6_ofPlace
set_option maxRecDepth 20000 in
theorem ggX6_inspects_X6_trustMore : GoodIn wsX6_inspects wsX6_trustMore := goodIn_r _ [10, 1, 11, 12, 13, 5, 14, 19, 20, 21, 22, 23, 24, 25, 26, 27, 28, 29, 30, 31, 32, 33] (by decide +kernel) (by decide +kernel)
set_option maxRecDepth 20000 in
theorem gX6_inspects_X6_trustMore : GoodIn wsX6_inspects (wsV RX6 131 RX6 yX6_trustMore wsX6_trustMore) := goodIn_app (goodIn_of _ (by decide +kernel)) ggX6_inspects_X6_trustMore
set_option maxRecDepth 20000 in
theorem ggX6_inspects_X6_empty : GoodIn wsX6_inspects wsX6_empty := goodIn_r _ [18, 1, 19, 20, 21, 22, 23, 24, 25, 26, 27, 28, 29, 30, 31, 32, 33] (by decide +kernel) (by decide +kernel)
set_option maxRecDepth 20000 in
theorem gX6_inspects_X6_empty : GoodIn wsX6_inspects (wsV RX6 88 RX6 yX6_empty wsX6_empty) := goodIn_app (goodIn_of _ (by decide +kernel)) ggX6_inspects_X6_empty
theorem dX6_inspects_0 : decode cX6_inspects 0 = .ok (.iconst 0, 1) := by decide +kernel
theorem dX6_inspects_1 : decode cX6_inspects 1 = .ok (.istore_n 1, 1) := by decide +kernel
theorem dX6_inspects_2 : decode cX6_inspects 2 = .ok (.iconst 0, 1) := by decide +kernel
theorem dX6_inspects_3 : decode cX6_inspects 3 = .ok (.istore_n 2, 1) := by decide +kernel
theorem dX6_inspects_4 : decode cX6_inspects 4 = .ok (.iload_n 2, 1) := by decide +kernel
theorem dX6_inspects_5 : decode cX6_inspects 5 = .ok (.aload_n 0, 1) := by decide +kernel
theorem dX6_inspects_6 : decode cX6_inspects 6 = .ok (.getfield 7, 3) := by decide +kernel
theorem dX6_inspects_9 : decode cX6_inspects 9 = .ok (.bipush 6, 2) := by decide +kernel
theorem dX6_inspects_11 : decode cX6_inspects 11 = .ok (.iaload, 1) := by decide +kernel
theorem dX6_inspects_12 : decode cX6_inspects 12 = .ok (.if_icmp .ge 50, 3) := by decide +kernel
theorem dX6_inspects_15 : decode cX6_inspects 15 = .ok (.aload_n 0, 1) := by decide +kernel
theorem dX6_inspects_16 : decode cX6_inspects 16 = .ok (.iload_n 2, 1) := by decide +kernel
theorem dX6_inspects_17 : decode cX6_inspects 17 = .ok (.iconst 2, 1) := by decide +kernel
theorem dX6_inspects_18 : decode cX6_inspects 18 = .ok (.invokevirtual 81, 3) := by decide +kernel
theorem dX6_inspects_21 : decode cX6_inspects 21 = .ok (.iconst 2, 1) := by decide +kernel
theorem dX6_inspects_22 : decode cX6_inspects 22 = .ok (.if_icmp .ne 34, 3) := by decide +kernel
theorem dX6_inspects_25 : decode cX6_inspects 25 = .ok (.aload_n 0, 1) := by decide +kernel
theorem dX6_inspects_26 : decode cX6_inspects 26 = .ok (.aload_n 0, 1) := by decide +kernel
theorem dX6_inspects_27 : decode cX6_inspects 27 = .ok (.iload_n 2, 1) := by decide +kernel
theorem dX6_inspects_28 : decode cX6_inspects 28 = .ok (.iconst 3, 1) := by decide +kernel
theorem dX6_inspects_29 : decode cX6_inspects 29 = .ok (.invokevirtual 81, 3) := by decide +kernel
theorem dX6_inspects_32 : decode cX6_inspects 32 = .ok (.aload_n 0, 1) := by decide +kernel
theorem dX6_inspects_33 : decode cX6_inspects 33 = .ok (.iload_n 2, 1) := by decide +kernel
theorem dX6_inspects_34 : decode cX6_inspects 34 = .ok (.iconst 4, 1) := by decide +kernel
theorem dX6_inspects_35 : decode cX6_inspects 35 = .ok (.invokevirtual 81, 3) := by decide +kernel
theorem dX6_inspects_38 : decode cX6_inspects 38 = .ok (.aload_n 0, 1) := by decide +kernel
theorem dX6_inspects_39 : decode cX6_inspects 39 = .ok (.getfield 7, 3) := by decide +kernel
theorem dX6_inspects_42 : decode cX6_inspects 42 = .ok (.iconst 1, 1) := by decide +kernel
theorem dX6_inspects_43 : decode cX6_inspects 43 = .ok (.iaload, 1) := by decide +kernel
theorem dX6_inspects_44 : decode cX6_inspects 44 = .ok (.ineg, 1) := by decide +kernel
theorem dX6_inspects_45 : decode cX6_inspects 45 = .ok (.invokevirtual 131, 3) := by decide +kernel
theorem dX6_inspects_48 : decode cX6_inspects 48 = .ok (.aload_n 0, 1) := by decide +kernel
theorem dX6_inspects_49 : decode cX6_inspects 49 = .ok (.iload_n 2, 1) := by decide +kernel
theorem dX6_inspects_50 : decode cX6_inspects 50 = .ok (.invokevirtual 88, 3) := by decide +kernel
theorem dX6_inspects_53 : decode cX6_inspects 53 = .ok (.iinc 1 1, 3) := by decide +kernel
theorem dX6_inspects_56 : decode cX6_inspects 56 = .ok (.iinc 2 1, 3) := by decide +kernel
theorem dX6_inspects_59 : decode cX6_inspects 59 = .ok (.goto (-55), 3) := by decide +kernel
theorem dX6_inspects_62 : decode cX6_inspects 62 = .ok (.aload_n 0, 1) := by decide +kernel
theorem dX6_inspects_63 : decode cX6_inspects 63 = .ok (.getfield 7, 3) := by decide +kernel
theorem dX6_inspects_66 : decode cX6_inspects 66 = .ok (.bipush 7, 2) := by decide +kernel
theorem dX6_inspects_68 : decode cX6_inspects 68 = .ok (.dup2, 1) := by decide +kernel
theorem dX6_inspects_69 : decode cX6_inspects 69 = .ok (.iaload, 1) := by decide +kernel
theorem dX6_inspects_70 : decode cX6_inspects 70 = .ok (.bipush 10, 2) := by decide +kernel
theorem dX6_inspects_72 : decode cX6_inspects 72 = .ok (.iadd, 1) := by decide +kernel
theorem dX6_inspects_73 : decode cX6_inspects 73 = .ok (.iastore, 1) := by decide +kernel
theorem dX6_inspects_74 : decode cX6_inspects 74 = .ok (.aload_n 0, 1) := by decide +kernel
theorem dX6_inspects_75 : decode cX6_inspects 75 = .ok (.getfield 7, 3) := by decide +kernel
theorem dX6_inspects_78 : decode cX6_inspects 78 = .ok (.bipush 11, 2) := by decide +kernel
theorem dX6_inspects_80 : decode cX6_inspects 80 = .ok (.dup2, 1) := by decide +kernel
theorem dX6_inspects_81 : decode cX6_inspects 81 = .ok (.iaload, 1) := by decide +kernel
theorem dX6_inspects_82 : decode cX6_inspects 82 = .ok (.iload_n 1, 1) := by decide +kernel
theorem dX6_inspects_83 : decode cX6_inspects 83 = .ok (.iadd, 1) := by decide +kernel
theorem dX6_inspects_84 : decode cX6_inspects 84 = .ok (.iastore, 1) := by decide +kernel
theorem dX6_inspects_85 : decode cX6_inspects 85 = .ok (.iload_n 1, 1) := by decide +kernel
theorem dX6_inspects_86 : decode cX6_inspects 86 = .ok (.ireturn, 1) := by decide +kernel
set_option maxRecDepth 20000 in
theorem ggX6_inspect_X6_save : GoodIn wsX6_inspect wsX6_save := goodIn_r _ [6, 7, 8, 9, 30, 31, 32, 33, 34, 35, 36, 37, 38, 39, 40, 41, 42, 43, 44] (by decide +kernel) (by decide +kernel)
set_option maxRecDepth 20000 in
theorem gX6_inspect_X6_save : GoodIn wsX6_inspect (wsV RX6 59 RX6 yX6_save wsX6_save) := goodIn_app (goodIn_of _ (by decide +kernel)) ggX6_inspect_X6_save
set_option maxRecDepth 20000 in
theorem ggX6_inspect_X6_inspects : GoodIn wsX6_inspect wsX6_inspects := goodIn_r _ [13, 9, 14, 15, 16, 5, 17, 18, 19, 20, 21, 22, 23, 24, 25, 26, 27, 28, 29, 30, 31, 32, 33, 34, 35, 36, 37, 38, 39, 40, 41, 42, 43, 44] (by decide +kernel) (by decide +kernel)
set_option maxRecDepth 20000 in
theorem gX6_inspect_X6_inspects : GoodIn wsX6_inspect (wsV RX6 163 RX6 yX6_inspects wsX6_inspects) := goodIn_app (goodIn_of _ (by decide +kernel)) ggX6_inspect_X6_inspects
theorem dX6_inspect_0 : decode cX6_inspect 0 = .ok (.aload_n 0, 1) := by decide +kernel
theorem dX6_inspect_1 : decode cX6_inspect 1 = .ok (.iconst 0, 1) := by decide +kernel
theorem dX6_inspect_2 : decode cX6_inspect 2 = .ok (.putfield 34, 3) := by decide +kernel
theorem dX6_inspect_5 : decode cX6_inspect 5 = .ok (.aload_n 0, 1) := by decide +kernel
theorem dX6_inspect_6 : decode cX6_inspect 6 = .ok (.invokevirtual 59, 3) := by decide +kernel
theorem dX6_inspect_9 : decode cX6_inspect 9 = .ok (.aload_n 0, 1) := by decide +kernel
theorem dX6_inspect_10 : decode cX6_inspect 10 = .ok (.invokevirtual 163, 3) := by decide +kernel
theorem dX6_inspect_13 : decode cX6_inspect 13 = .ok (.ireturn, 1) := by decide +kernel
set_option maxRecDepth 20000 in
theorem ggX6_append_X6_within : GoodIn wsX6_append wsX6_within := goodIn_r _ [7] (by decide +kernel) (by decide +kernel)
set_option maxRecDepth 20000 in
theorem gX6_append_X6_within : GoodIn wsX6_append (va_wsS RX6 45 yX6_within wsX6_within) := goodIn_app (goodIn_of _ (by decide +kernel)) ggX6_append_X6_within
theorem dX6_append_0 : decode cX6_append 0 = .ok (.aload_n 0, 1) := by decide +kernel
theorem dX6_append_1 : decode cX6_append 1 = .ok (.iload_n 1, 1) := by decide +kernel
theorem dX6_append_2 : decode cX6_append 2 = .ok (.bipush 33, 2) := by decide +kernel
theorem dX6_append_4 : decode cX6_append 4 = .ok (.bipush 126, 2) := by decide +kernel
theorem dX6_append_6 : decode cX6_append 6 = .ok (.invokestatic 45, 3) := by decide +kernel
theorem dX6_append_9 : decode cX6_append 9 = .ok (.ifCond .ne 7, 3) := by decide +kernel
theorem dX6_append_12 : decode cX6_append 12 = .ok (.iconst 1, 1) := by decide +kernel
theorem dX6_append_13 : decode cX6_append 13 = .ok (.goto 17, 3) := by decide +kernel
theorem dX6_append_16 : decode cX6_append 16 = .ok (.aload_n 0, 1) := by decide +kernel
theorem dX6_append_17 : decode cX6_append 17 = .ok (.getfield 166, 3) := by decide +kernel
theorem dX6_append_20 : decode cX6_append 20 = .ok (.bipush 60, 2) := by decide +kernel
theorem dX6_append_22 : decode cX6_append 22 = .ok (.if_icmp .ne 7, 3) := by decide +kernel
theorem dX6_append_25 : decode cX6_append 25 = .ok (.iconst 2, 1) := by decide +kernel
theorem dX6_append_26 : decode cX6_append 26 = .ok (.goto 4, 3) := by decide +kernel
theorem dX6_append_29 : decode cX6_append 29 = .ok (.iconst 0, 1) := by decide +kernel
theorem dX6_append_30 : decode cX6_append 30 = .ok (.putfield 34, 3) := by decide +kernel
theorem dX6_append_33 : decode cX6_append 33 = .ok (.aload_n 0, 1) := by decide +kernel
theorem dX6_append_34 : decode cX6_append 34 = .ok (.getfield 34, 3) := by decide +kernel
theorem dX6_append_37 : decode cX6_append 37 = .ok (.ifCond .le 5, 3) := by decide +kernel
theorem dX6_append_40 : decode cX6_append 40 = .ok (.iconst 0, 1) := by decide +kernel
theorem dX6_append_41 : decode cX6_append 41 = .ok (.ireturn, 1) := by decide +kernel
theorem dX6_append_42 : decode cX6_append 42 = .ok (.aload_n 0, 1) := by decide +kernel
theorem dX6_append_43 : decode cX6_append 43 = .ok (.getfield 16, 3) := by decide +kernel
theorem dX6_append_46 : decode cX6_append 46 = .ok (.aload_n 0, 1) := by decide +kernel
theorem dX6_append_47 : decode cX6_append 47 = .ok (.getfield 166, 3) := by decide +kernel
theorem dX6_append_50 : decode cX6_append 50 = .ok (.iload_n 1, 1) := by decide +kernel
theorem dX6_append_51 : decode cX6_append 51 = .ok (.iastore, 1) := by decide +kernel
theorem dX6_append_52 : decode cX6_append 52 = .ok (.aload_n 0, 1) := by decide +kernel
theorem dX6_append_53 : decode cX6_append 53 = .ok (.dup, 1) := by decide +kernel
theorem dX6_append_54 : decode cX6_append 54 = .ok (.getfield 166, 3) := by decide +kernel
theorem dX6_append_57 : decode cX6_append 57 = .ok (.iconst 1, 1) := by decide +kernel
theorem dX6_append_58 : decode cX6_append 58 = .ok (.iadd, 1) := by decide +kernel
theorem dX6_append_59 : decode cX6_append 59 = .ok (.putfield 166, 3) := by decide +kernel
theorem dX6_append_62 : decode cX6_append 62 = .ok (.aload_n 0, 1) := by decide +kernel
theorem dX6_append_63 : decode cX6_append 63 = .ok (.getfield 166, 3) := by decide +kernel
theorem dX6_append_66 : decode cX6_append 66 = .ok (.ireturn, 1) := by decide +kernel
theorem dX6_clearBuffer_0 : decode cX6_clearBuffer 0 = .ok (.aload_n 0, 1) := by decide +kernel
theorem dX6_clearBuffer_1 : decode cX6_clearBuffer 1 = .ok (.iconst 0, 1) := by decide +kernel
theorem dX6_clearBuffer_2 : decode cX6_clearBuffer 2 = .ok (.putfield 34, 3) := by decide +kernel
theorem dX6_clearBuffer_5 : decode cX6_clearBuffer 5 = .ok (.aload_n 0, 1) := by decide +kernel
theorem dX6_clearBuffer_6 : decode cX6_clearBuffer 6 = .ok (.getfield 166, 3) := by decide +kernel
theorem dX6_clearBuffer_9 : decode cX6_clearBuffer 9 = .ok (.istore_n 1, 1) := by decide +kernel
theorem dX6_clearBuffer_10 : decode cX6_clearBuffer 10 = .ok (.aload_n 0, 1) := by decide +kernel
theorem dX6_clearBuffer_11 : decode cX6_clearBuffer 11 = .ok (.iconst 0, 1) := by decide +kernel
theorem dX6_clearBuffer_12 : decode cX6_clearBuffer 12 = .ok (.putfield 166, 3) := by decide +kernel
theorem dX6_clearBuffer_15 : decode cX6_clearBuffer 15 = .ok (.iload_n 1, 1) := by decide +kernel
theorem dX6_clearBuffer_16 : decode cX6_clearBuffer 16 = .ok (.ireturn, 1) := by decide +kernel
set_option maxRecDepth 20000 in
theorem ggX6_takesDigit_X6_within : GoodIn wsX6_takesDigit wsX6_within := goodIn_r _ [8] (by decide +kernel) (by decide +kernel)
set_option maxRecDepth 20000 in
theorem gX6_takesDigit_X6_within : GoodIn wsX6_takesDigit (va_wsS RX6 45 yX6_within wsX6_within) := goodIn_app (goodIn_of _ (by decide +kernel)) ggX6_takesDigit_X6_within
theorem dX6_takesDigit_0 : decode cX6_takesDigit 0 = .ok (.aload_n 0, 1) := by decide +kernel
theorem dX6_takesDigit_1 : decode cX6_takesDigit 1 = .ok (.getfield 169, 3) := by decide +kernel
theorem dX6_takesDigit_4 : decode cX6_takesDigit 4 = .ok (.iconst (-1), 1) := by decide +kernel
theorem dX6_takesDigit_5 : decode cX6_takesDigit 5 = .ok (.if_icmp .ne 7, 3) := by decide +kernel
theorem dX6_takesDigit_8 : decode cX6_takesDigit 8 = .ok (.iload_n 1, 1) := by decide +kernel
theorem dX6_takesDigit_9 : decode cX6_takesDigit 9 = .ok (.goto 12, 3) := by decide +kernel
theorem dX6_takesDigit_12 : decode cX6_takesDigit 12 = .ok (.bipush 10, 2) := by decide +kernel
theorem dX6_takesDigit_14 : decode cX6_takesDigit 14 = .ok (.aload_n 0, 1) := by decide +kernel
theorem dX6_takesDigit_15 : decode cX6_takesDigit 15 = .ok (.getfield 169, 3) := by decide +kernel
theorem dX6_takesDigit_18 : decode cX6_takesDigit 18 = .ok (.imul, 1) := by decide +kernel
theorem dX6_takesDigit_19 : decode cX6_takesDigit 19 = .ok (.iload_n 1, 1) := by decide +kernel
theorem dX6_takesDigit_20 : decode cX6_takesDigit 20 = .ok (.iadd, 1) := by decide +kernel
theorem dX6_takesDigit_21 : decode cX6_takesDigit 21 = .ok (.istore_n 2, 1) := by decide +kernel
theorem dX6_takesDigit_22 : decode cX6_takesDigit 22 = .ok (.iload_n 1, 1) := by decide +kernel
theorem dX6_takesDigit_23 : decode cX6_takesDigit 23 = .ok (.iconst 0, 1) := by decide +kernel
theorem dX6_takesDigit_24 : decode cX6_takesDigit 24 = .ok (.bipush 9, 2) := by decide +kernel
theorem dX6_takesDigit_26 : decode cX6_takesDigit 26 = .ok (.invokestatic 45, 3) := by decide +kernel
theorem dX6_takesDigit_29 : decode cX6_takesDigit 29 = .ok (.ifCond .eq 34, 3) := by decide +kernel
theorem dX6_takesDigit_32 : decode cX6_takesDigit 32 = .ok (.aload_n 0, 1) := by decide +kernel
theorem dX6_takesDigit_33 : decode cX6_takesDigit 33 = .ok (.getfield 169, 3) := by decide +kernel
theorem dX6_takesDigit_36 : decode cX6_takesDigit 36 = .ok (.ifCond .eq 27, 3) := by decide +kernel
theorem dX6_takesDigit_39 : decode cX6_takesDigit 39 = .ok (.iload_n 2, 1) := by decide +kernel
theorem dX6_takesDigit_40 : decode cX6_takesDigit 40 = .ok (.aload_n 0, 1) := by decide +kernel
theorem dX6_takesDigit_41 : decode cX6_takesDigit 41 = .ok (.getfield 172, 3) := by decide +kernel
theorem dX6_takesDigit_44 : decode cX6_takesDigit 44 = .ok (.iconst 1, 1) := by decide +kernel
theorem dX6_takesDigit_45 : decode cX6_takesDigit 45 = .ok (.if_icmp .ne 8, 3) := by decide +kernel
theorem dX6_takesDigit_48 : decode cX6_takesDigit 48 = .ok (.bipush 99, 2) := by decide +kernel
theorem dX6_takesDigit_50 : decode cX6_takesDigit 50 = .ok (.goto 6, 3) := by decide +kernel
theorem dX6_takesDigit_53 : decode cX6_takesDigit 53 = .ok (.sipush 500, 3) := by decide +kernel
theorem dX6_takesDigit_56 : decode cX6_takesDigit 56 = .ok (.if_icmp .gt 7, 3) := by decide +kernel
theorem dX6_takesDigit_59 : decode cX6_takesDigit 59 = .ok (.iconst 1, 1) := by decide +kernel
theorem dX6_takesDigit_60 : decode cX6_takesDigit 60 = .ok (.goto 4, 3) := by decide +kernel
theorem dX6_takesDigit_63 : decode cX6_takesDigit 63 = .ok (.iconst 0, 1) := by decide +kernel
theorem dX6_takesDigit_64 : decode cX6_takesDigit 64 = .ok (.istore_n 3, 1) := by decide +kernel
theorem dX6_takesDigit_65 : decode cX6_takesDigit 65 = .ok (.aload_n 0, 1) := by decide +kernel
theorem dX6_takesDigit_66 : decode cX6_takesDigit 66 = .ok (.iload_n 3, 1) := by decide +kernel
theorem dX6_takesDigit_67 : decode cX6_takesDigit 67 = .ok (.ifCond .eq 7, 3) := by decide +kernel
theorem dX6_takesDigit_70 : decode cX6_takesDigit 70 = .ok (.iload_n 2, 1) := by decide +kernel
theorem dX6_takesDigit_71 : decode cX6_takesDigit 71 = .ok (.goto 7, 3) := by decide +kernel
theorem dX6_takesDigit_74 : decode cX6_takesDigit 74 = .ok (.aload_n 0, 1) := by decide +kernel
theorem dX6_takesDigit_75 : decode cX6_takesDigit 75 = .ok (.getfield 169, 3) := by decide +kernel
theorem dX6_takesDigit_78 : decode cX6_takesDigit 78 = .ok (.putfield 169, 3) := by decide +kernel
theorem dX6_takesDigit_81 : decode cX6_takesDigit 81 = .ok (.aload_n 0, 1) := by decide +kernel
theorem dX6_takesDigit_82 : decode cX6_takesDigit 82 = .ok (.getfield 28, 3) := by decide +kernel
theorem dX6_takesDigit_85 : decode cX6_takesDigit 85 = .ok (.iconst 4, 1) := by decide +kernel
theorem dX6_takesDigit_86 : decode cX6_takesDigit 86 = .ok (.aload_n 0, 1) := by decide +kernel
theorem dX6_takesDigit_87 : decode cX6_takesDigit 87 = .ok (.getfield 175, 3) := by decide +kernel
theorem dX6_takesDigit_90 : decode cX6_takesDigit 90 = .ok (.imul, 1) := by decide +kernel
theorem dX6_takesDigit_91 : decode cX6_takesDigit 91 = .ok (.aload_n 0, 1) := by decide +kernel
theorem dX6_takesDigit_92 : decode cX6_takesDigit 92 = .ok (.getfield 172, 3) := by decide +kernel
theorem dX6_takesDigit_95 : decode cX6_takesDigit 95 = .ok (.iconst 1, 1) := by decide +kernel
theorem dX6_takesDigit_96 : decode cX6_takesDigit 96 = .ok (.if_icmp .ne 7, 3) := by decide +kernel
theorem dX6_takesDigit_99 : decode cX6_takesDigit 99 = .ok (.iconst 1, 1) := by decide +kernel
theorem dX6_takesDigit_100 : decode cX6_takesDigit 100 = .ok (.goto 4, 3) := by decide +kernel
theorem dX6_takesDigit_103 : decode cX6_takesDigit 103 = .ok (.iconst 3, 1) := by decide +kernel
theorem dX6_takesDigit_104 : decode cX6_takesDigit 104 = .ok (.iadd, 1) := by decide +kernel
theorem dX6_takesDigit_105 : decode cX6_takesDigit 105 = .ok (.aload_n 0, 1) := by decide +kernel
theorem dX6_takesDigit_106 : decode cX6_takesDigit 106 = .ok (.getfield 169, 3) := by decide +kernel
theorem dX6_takesDigit_109 : decode cX6_takesDigit 109 = .ok (.iastore, 1) := by decide +kernel
theorem dX6_takesDigit_110 : decode cX6_takesDigit 110 = .ok (.iload_n 3, 1) := by decide +kernel
theorem dX6_takesDigit_111 : decode cX6_takesDigit 111 = .ok (.ireturn, 1) := by decide +kernel
set_option maxRecDepth 20000 in
theorem ggX6_takes_X6_isKind : GoodIn wsX6_takes wsX6_isKind := goodIn_r _ [8, 9, 10, 7, 11] (by decide +kernel) (by decide +kernel)
set_option maxRecDepth 20000 in
theorem gX6_takes_X6_isKind : GoodIn wsX6_takes (va_wsS RX6 53 yX6_isKind wsX6_isKind) := goodIn_app (goodIn_of _ (by decide +kernel)) ggX6_takes_X6_isKind
set_option maxRecDepth 20000 in
theorem ggX6_takes_X6_takesDigit : GoodIn wsX6_takes wsX6_takesDigit := goodIn_r _ [15, 2, 1, 4, 3, 9, 10, 7, 11, 16, 17, 18, 19, 20, 21, 22, 23, 24, 25, 26, 27, 28, 29, 30] (by decide +kernel) (by decide +kernel)
set_option maxRecDepth 20000 in
theorem gX6_takes_X6_takesDigit : GoodIn wsX6_takes (wsV RX6 178 RX6 yX6_takesDigit wsX6_takesDigit) := goodIn_app (goodIn_of _ (by decide +kernel)) ggX6_takes_X6_takesDigit
theorem dX6_takes_0 : decode cX6_takes 0 = .ok (.iload_n 1, 1) := by decide +kernel
theorem dX6_takes_1 : decode cX6_takes 1 = .ok (.bipush 59, 2) := by decide +kernel
theorem dX6_takes_3 : decode cX6_takes 3 = .ok (.if_icmp .ne 44, 3) := by decide +kernel
theorem dX6_takes_6 : decode cX6_takes 6 = .ok (.aload_n 0, 1) := by decide +kernel
theorem dX6_takes_7 : decode cX6_takes 7 = .ok (.getfield 172, 3) := by decide +kernel
theorem dX6_takes_10 : decode cX6_takes 10 = .ok (.iconst 5, 1) := by decide +kernel
theorem dX6_takes_11 : decode cX6_takes 11 = .ok (.if_icmp .eq 19, 3) := by decide +kernel
theorem dX6_takes_14 : decode cX6_takes 14 = .ok (.aload_n 0, 1) := by decide +kernel
theorem dX6_takes_15 : decode cX6_takes 15 = .ok (.getfield 172, 3) := by decide +kernel
theorem dX6_takes_18 : decode cX6_takes 18 = .ok (.iconst 4, 1) := by decide +kernel
theorem dX6_takes_19 : decode cX6_takes 19 = .ok (.if_icmp .ne 28, 3) := by decide +kernel
theorem dX6_takes_22 : decode cX6_takes 22 = .ok (.aload_n 0, 1) := by decide +kernel
theorem dX6_takes_23 : decode cX6_takes 23 = .ok (.getfield 169, 3) := by decide +kernel
theorem dX6_takes_26 : decode cX6_takes 26 = .ok (.iconst (-1), 1) := by decide +kernel
theorem dX6_takes_27 : decode cX6_takes 27 = .ok (.if_icmp .eq 20, 3) := by decide +kernel
theorem dX6_takes_30 : decode cX6_takes 30 = .ok (.aload_n 0, 1) := by decide +kernel
theorem dX6_takes_31 : decode cX6_takes 31 = .ok (.dup, 1) := by decide +kernel
theorem dX6_takes_32 : decode cX6_takes 32 = .ok (.getfield 175, 3) := by decide +kernel
theorem dX6_takes_35 : decode cX6_takes 35 = .ok (.iconst 1, 1) := by decide +kernel
theorem dX6_takes_36 : decode cX6_takes 36 = .ok (.iadd, 1) := by decide +kernel
