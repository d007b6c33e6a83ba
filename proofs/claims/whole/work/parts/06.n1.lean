set_option maxRecDepth 20000 in
theorem ggX0_acceptLetter_X0_startNumber : GoodIn wsX0_acceptLetter wsX0_startNumber := goodIn_r _ [6, 7, 8, 9, 10, 11, 12, 13, 14, 15] (by decide +kernel) (by decide +kernel)
set_option maxRecDepth 20000 in
theorem gX0_acceptLetter_X0_startNumber : GoodIn wsX0_acceptLetter (wsV RX0 55 RX0 yX0_startNumber wsX0_startNumber) := goodIn_app (goodIn_of _ (by decide +kernel)) ggX0_acceptLetter_X0_startNumber
theorem dX0_acceptLetter_0 : decode cX0_acceptLetter 0 = .ok (.iload_n 1, 1) := by decide +kernel
theorem dX0_acceptLetter_1 : decode cX0_acceptLetter 1 = .ok (.bipush 112, 2) := by decide +kernel
theorem dX0_acceptLetter_3 : decode cX0_acceptLetter 3 = .ok (.if_icmp .eq 11, 3) := by decide +kernel
theorem dX0_acceptLetter_6 : decode cX0_acceptLetter 6 = .ok (.iload_n 1, 1) := by decide +kernel
theorem dX0_acceptLetter_7 : decode cX0_acceptLetter 7 = .ok (.bipush 102, 2) := by decide +kernel
theorem dX0_acceptLetter_9 : decode cX0_acceptLetter 9 = .ok (.if_icmp .eq 5, 3) := by decide +kernel
theorem dX0_acceptLetter_12 : decode cX0_acceptLetter 12 = .ok (.iconst 0, 1) := by decide +kernel
theorem dX0_acceptLetter_13 : decode cX0_acceptLetter 13 = .ok (.ireturn, 1) := by decide +kernel
theorem dX0_acceptLetter_14 : decode cX0_acceptLetter 14 = .ok (.aload_n 0, 1) := by decide +kernel
theorem dX0_acceptLetter_15 : decode cX0_acceptLetter 15 = .ok (.iload_n 1, 1) := by decide +kernel
theorem dX0_acceptLetter_16 : decode cX0_acceptLetter 16 = .ok (.bipush 102, 2) := by decide +kernel
theorem dX0_acceptLetter_18 : decode cX0_acceptLetter 18 = .ok (.if_icmp .ne 7, 3) := by decide +kernel
theorem dX0_acceptLetter_21 : decode cX0_acceptLetter 21 = .ok (.iconst 1, 1) := by decide +kernel
theorem dX0_acceptLetter_22 : decode cX0_acceptLetter 22 = .ok (.goto 4, 3) := by decide +kernel
theorem dX0_acceptLetter_25 : decode cX0_acceptLetter 25 = .ok (.iconst 0, 1) := by decide +kernel
theorem dX0_acceptLetter_26 : decode cX0_acceptLetter 26 = .ok (.putfield 51, 3) := by decide +kernel
theorem dX0_acceptLetter_29 : decode cX0_acceptLetter 29 = .ok (.aload_n 0, 1) := by decide +kernel
theorem dX0_acceptLetter_30 : decode cX0_acceptLetter 30 = .ok (.iconst 0, 1) := by decide +kernel
theorem dX0_acceptLetter_31 : decode cX0_acceptLetter 31 = .ok (.invokevirtual 55, 3) := by decide +kernel
theorem dX0_acceptLetter_34 : decode cX0_acceptLetter 34 = .ok (.iconst 1, 1) := by decide +kernel
theorem dX0_acceptLetter_35 : decode cX0_acceptLetter 35 = .ok (.ireturn, 1) := by decide +kernel
theorem dX0_acceptDigit_0 : decode cX0_acceptDigit 0 = .ok (.bipush 10, 2) := by decide +kernel
theorem dX0_acceptDigit_2 : decode cX0_acceptDigit 2 = .ok (.aload_n 0, 1) := by decide +kernel
theorem dX0_acceptDigit_3 : decode cX0_acceptDigit 3 = .ok (.getfield 15, 3) := by decide +kernel
theorem dX0_acceptDigit_6 : decode cX0_acceptDigit 6 = .ok (.aload_n 0, 1) := by decide +kernel
theorem dX0_acceptDigit_7 : decode cX0_acceptDigit 7 = .ok (.getfield 18, 3) := by decide +kernel
theorem dX0_acceptDigit_10 : decode cX0_acceptDigit 10 = .ok (.iaload, 1) := by decide +kernel
theorem dX0_acceptDigit_11 : decode cX0_acceptDigit 11 = .ok (.imul, 1) := by decide +kernel
theorem dX0_acceptDigit_12 : decode cX0_acceptDigit 12 = .ok (.iload_n 1, 1) := by decide +kernel
theorem dX0_acceptDigit_13 : decode cX0_acceptDigit 13 = .ok (.iadd, 1) := by decide +kernel
theorem dX0_acceptDigit_14 : decode cX0_acceptDigit 14 = .ok (.istore_n 2, 1) := by decide +kernel
theorem dX0_acceptDigit_15 : decode cX0_acceptDigit 15 = .ok (.aload_n 0, 1) := by decide +kernel
theorem dX0_acceptDigit_16 : decode cX0_acceptDigit 16 = .ok (.getfield 29, 3) := by decide +kernel
theorem dX0_acceptDigit_19 : decode cX0_acceptDigit 19 = .ok (.ifCond .le 19, 3) := by decide +kernel
theorem dX0_acceptDigit_22 : decode cX0_acceptDigit 22 = .ok (.aload_n 0, 1) := by decide +kernel
theorem dX0_acceptDigit_23 : decode cX0_acceptDigit 23 = .ok (.getfield 15, 3) := by decide +kernel
theorem dX0_acceptDigit_26 : decode cX0_acceptDigit 26 = .ok (.aload_n 0, 1) := by decide +kernel
theorem dX0_acceptDigit_27 : decode cX0_acceptDigit 27 = .ok (.getfield 18, 3) := by decide +kernel
theorem dX0_acceptDigit_30 : decode cX0_acceptDigit 30 = .ok (.iaload, 1) := by decide +kernel
theorem dX0_acceptDigit_31 : decode cX0_acceptDigit 31 = .ok (.ifCond .ne 7, 3) := by decide +kernel
theorem dX0_acceptDigit_34 : decode cX0_acceptDigit 34 = .ok (.iconst 1, 1) := by decide +kernel
theorem dX0_acceptDigit_35 : decode cX0_acceptDigit 35 = .ok (.goto 4, 3) := by decide +kernel
theorem dX0_acceptDigit_38 : decode cX0_acceptDigit 38 = .ok (.iconst 0, 1) := by decide +kernel
theorem dX0_acceptDigit_39 : decode cX0_acceptDigit 39 = .ok (.istore_n 3, 1) := by decide +kernel
theorem dX0_acceptDigit_40 : decode cX0_acceptDigit 40 = .ok (.iload_n 3, 1) := by decide +kernel
theorem dX0_acceptDigit_41 : decode cX0_acceptDigit 41 = .ok (.ifCond .ne 15, 3) := by decide +kernel
theorem dX0_acceptDigit_44 : decode cX0_acceptDigit 44 = .ok (.iload_n 2, 1) := by decide +kernel
theorem dX0_acceptDigit_45 : decode cX0_acceptDigit 45 = .ok (.getstatic 59, 3) := by decide +kernel
theorem dX0_acceptDigit_48 : decode cX0_acceptDigit 48 = .ok (.aload_n 0, 1) := by decide +kernel
theorem dX0_acceptDigit_49 : decode cX0_acceptDigit 49 = .ok (.getfield 18, 3) := by decide +kernel
theorem dX0_acceptDigit_52 : decode cX0_acceptDigit 52 = .ok (.iaload, 1) := by decide +kernel
theorem dX0_acceptDigit_53 : decode cX0_acceptDigit 53 = .ok (.if_icmp .le 5, 3) := by decide +kernel
theorem dX0_acceptDigit_56 : decode cX0_acceptDigit 56 = .ok (.iconst 0, 1) := by decide +kernel
theorem dX0_acceptDigit_57 : decode cX0_acceptDigit 57 = .ok (.ireturn, 1) := by decide +kernel
theorem dX0_acceptDigit_58 : decode cX0_acceptDigit 58 = .ok (.aload_n 0, 1) := by decide +kernel
theorem dX0_acceptDigit_59 : decode cX0_acceptDigit 59 = .ok (.getfield 15, 3) := by decide +kernel
theorem dX0_acceptDigit_62 : decode cX0_acceptDigit 62 = .ok (.aload_n 0, 1) := by decide +kernel
theorem dX0_acceptDigit_63 : decode cX0_acceptDigit 63 = .ok (.getfield 18, 3) := by decide +kernel
theorem dX0_acceptDigit_66 : decode cX0_acceptDigit 66 = .ok (.iload_n 2, 1) := by decide +kernel
theorem dX0_acceptDigit_67 : decode cX0_acceptDigit 67 = .ok (.iastore, 1) := by decide +kernel
theorem dX0_acceptDigit_68 : decode cX0_acceptDigit 68 = .ok (.aload_n 0, 1) := by decide +kernel
theorem dX0_acceptDigit_69 : decode cX0_acceptDigit 69 = .ok (.dup, 1) := by decide +kernel
theorem dX0_acceptDigit_70 : decode cX0_acceptDigit 70 = .ok (.getfield 29, 3) := by decide +kernel
theorem dX0_acceptDigit_73 : decode cX0_acceptDigit 73 = .ok (.iconst 1, 1) := by decide +kernel
theorem dX0_acceptDigit_74 : decode cX0_acceptDigit 74 = .ok (.iadd, 1) := by decide +kernel
theorem dX0_acceptDigit_75 : decode cX0_acceptDigit 75 = .ok (.putfield 29, 3) := by decide +kernel
theorem dX0_acceptDigit_78 : decode cX0_acceptDigit 78 = .ok (.iconst 1, 1) := by decide +kernel
theorem dX0_acceptDigit_79 : decode cX0_acceptDigit 79 = .ok (.ireturn, 1) := by decide +kernel
set_option maxRecDepth 20000 in
theorem ggX0_acceptEnd_X0_numberEnd : GoodIn wsX0_acceptEnd wsX0_numberEnd := goodIn_r _ [7, 2, 8, 18, 19, 20, 21, 22, 23] (by decide +kernel) (by decide +kernel)
set_option maxRecDepth 20000 in
theorem gX0_acceptEnd_X0_numberEnd : GoodIn wsX0_acceptEnd (wsV RX0 32 RX0 yX0_numberEnd wsX0_numberEnd) := goodIn_app (goodIn_of _ (by decide +kernel)) ggX0_acceptEnd_X0_numberEnd
set_option maxRecDepth 20000 in
theorem ggX0_acceptEnd_X0_startReading : GoodIn wsX0_acceptEnd wsX0_startReading := goodIn_r _ [12, 2, 18, 19, 20, 21, 22, 23] (by decide +kernel) (by decide +kernel)
set_option maxRecDepth 20000 in
theorem gX0_acceptEnd_X0_startReading : GoodIn wsX0_acceptEnd (wsV RX0 35 RX0 yX0_startReading wsX0_startReading) := goodIn_app (goodIn_of _ (by decide +kernel)) ggX0_acceptEnd_X0_startReading
set_option maxRecDepth 20000 in
theorem ggX0_acceptEnd_X0_startNumber : GoodIn wsX0_acceptEnd wsX0_startNumber := goodIn_r _ [16, 2, 1, 17, 18, 19, 20, 21, 22, 23] (by decide +kernel) (by decide +kernel)
set_option maxRecDepth 20000 in
theorem gX0_acceptEnd_X0_startNumber : GoodIn wsX0_acceptEnd (wsV RX0 55 RX0 yX0_startNumber wsX0_startNumber) := goodIn_app (goodIn_of _ (by decide +kernel)) ggX0_acceptEnd_X0_startNumber
theorem dX0_acceptEnd_0 : decode cX0_acceptEnd 0 = .ok (.aload_n 0, 1) := by decide +kernel
theorem dX0_acceptEnd_1 : decode cX0_acceptEnd 1 = .ok (.getfield 29, 3) := by decide +kernel
theorem dX0_acceptEnd_4 : decode cX0_acceptEnd 4 = .ok (.ifCond .eq 11, 3) := by decide +kernel
theorem dX0_acceptEnd_7 : decode cX0_acceptEnd 7 = .ok (.iload_n 1, 1) := by decide +kernel
theorem dX0_acceptEnd_8 : decode cX0_acceptEnd 8 = .ok (.aload_n 0, 1) := by decide +kernel
theorem dX0_acceptEnd_9 : decode cX0_acceptEnd 9 = .ok (.invokevirtual 32, 3) := by decide +kernel
theorem dX0_acceptEnd_12 : decode cX0_acceptEnd 12 = .ok (.if_icmp .eq 5, 3) := by decide +kernel
theorem dX0_acceptEnd_15 : decode cX0_acceptEnd 15 = .ok (.iconst 0, 1) := by decide +kernel
theorem dX0_acceptEnd_16 : decode cX0_acceptEnd 16 = .ok (.ireturn, 1) := by decide +kernel
theorem dX0_acceptEnd_17 : decode cX0_acceptEnd 17 = .ok (.iload_n 1, 1) := by decide +kernel
theorem dX0_acceptEnd_18 : decode cX0_acceptEnd 18 = .ok (.bipush 59, 2) := by decide +kernel
theorem dX0_acceptEnd_20 : decode cX0_acceptEnd 20 = .ok (.if_icmp .ne 10, 3) := by decide +kernel
theorem dX0_acceptEnd_23 : decode cX0_acceptEnd 23 = .ok (.aload_n 0, 1) := by decide +kernel
theorem dX0_acceptEnd_24 : decode cX0_acceptEnd 24 = .ok (.invokevirtual 35, 3) := by decide +kernel
theorem dX0_acceptEnd_27 : decode cX0_acceptEnd 27 = .ok (.goto 13, 3) := by decide +kernel
theorem dX0_acceptEnd_30 : decode cX0_acceptEnd 30 = .ok (.aload_n 0, 1) := by decide +kernel
theorem dX0_acceptEnd_31 : decode cX0_acceptEnd 31 = .ok (.aload_n 0, 1) := by decide +kernel
theorem dX0_acceptEnd_32 : decode cX0_acceptEnd 32 = .ok (.getfield 18, 3) := by decide +kernel
theorem dX0_acceptEnd_35 : decode cX0_acceptEnd 35 = .ok (.iconst 1, 1) := by decide +kernel
theorem dX0_acceptEnd_36 : decode cX0_acceptEnd 36 = .ok (.iadd, 1) := by decide +kernel
theorem dX0_acceptEnd_37 : decode cX0_acceptEnd 37 = .ok (.invokevirtual 55, 3) := by decide +kernel
theorem dX0_acceptEnd_40 : decode cX0_acceptEnd 40 = .ok (.iconst 1, 1) := by decide +kernel
theorem dX0_acceptEnd_41 : decode cX0_acceptEnd 41 = .ok (.ireturn, 1) := by decide +kernel
theorem dX0_startNumber_0 : decode cX0_startNumber 0 = .ok (.aload_n 0, 1) := by decide +kernel
theorem dX0_startNumber_1 : decode cX0_startNumber 1 = .ok (.iload_n 1, 1) := by decide +kernel
theorem dX0_startNumber_2 : decode cX0_startNumber 2 = .ok (.putfield 18, 3) := by decide +kernel
theorem dX0_startNumber_5 : decode cX0_startNumber 5 = .ok (.aload_n 0, 1) := by decide +kernel
theorem dX0_startNumber_6 : decode cX0_startNumber 6 = .ok (.iconst 0, 1) := by decide +kernel
theorem dX0_startNumber_7 : decode cX0_startNumber 7 = .ok (.putfield 29, 3) := by decide +kernel
theorem dX0_startNumber_10 : decode cX0_startNumber 10 = .ok (.iload_n 1, 1) := by decide +kernel
theorem dX0_startNumber_11 : decode cX0_startNumber 11 = .ok (.ifCond .lt 15, 3) := by decide +kernel
theorem dX0_startNumber_14 : decode cX0_startNumber 14 = .ok (.iload_n 1, 1) := by decide +kernel
theorem dX0_startNumber_15 : decode cX0_startNumber 15 = .ok (.iconst 2, 1) := by decide +kernel
theorem dX0_startNumber_16 : decode cX0_startNumber 16 = .ok (.if_icmp .gt 10, 3) := by decide +kernel
theorem dX0_startNumber_19 : decode cX0_startNumber 19 = .ok (.aload_n 0, 1) := by decide +kernel
theorem dX0_startNumber_20 : decode cX0_startNumber 20 = .ok (.getfield 15, 3) := by decide +kernel
theorem dX0_startNumber_23 : decode cX0_startNumber 23 = .ok (.iload_n 1, 1) := by decide +kernel
theorem dX0_startNumber_24 : decode cX0_startNumber 24 = .ok (.iconst 0, 1) := by decide +kernel
theorem dX0_startNumber_25 : decode cX0_startNumber 25 = .ok (.iastore, 1) := by decide +kernel
theorem dX0_startNumber_26 : decode cX0_startNumber 26 = .ok (.return_, 1) := by decide +kernel
theorem dX0_numberEnd_0 : decode cX0_numberEnd 0 = .ok (.aload_n 0, 1) := by decide +kernel
theorem dX0_numberEnd_1 : decode cX0_numberEnd 1 = .ok (.getfield 18, 3) := by decide +kernel
theorem dX0_numberEnd_4 : decode cX0_numberEnd 4 = .ok (.ifCond .ne 6, 3) := by decide +kernel
theorem dX0_numberEnd_7 : decode cX0_numberEnd 7 = .ok (.bipush 58, 2) := by decide +kernel
theorem dX0_numberEnd_9 : decode cX0_numberEnd 9 = .ok (.ireturn, 1) := by decide +kernel
theorem dX0_numberEnd_10 : decode cX0_numberEnd 10 = .ok (.aload_n 0, 1) := by decide +kernel
theorem dX0_numberEnd_11 : decode cX0_numberEnd 11 = .ok (.getfield 18, 3) := by decide +kernel
theorem dX0_numberEnd_14 : decode cX0_numberEnd 14 = .ok (.iconst 1, 1) := by decide +kernel
theorem dX0_numberEnd_15 : decode cX0_numberEnd 15 = .ok (.if_icmp .ne 15, 3) := by decide +kernel
theorem dX0_numberEnd_18 : decode cX0_numberEnd 18 = .ok (.aload_n 0, 1) := by decide +kernel
theorem dX0_numberEnd_19 : decode cX0_numberEnd 19 = .ok (.getfield 51, 3) := by decide +kernel
theorem dX0_numberEnd_22 : decode cX0_numberEnd 22 = .ok (.ifCond .eq 8, 3) := by decide +kernel
theorem dX0_numberEnd_25 : decode cX0_numberEnd 25 = .ok (.bipush 42, 2) := by decide +kernel
theorem dX0_numberEnd_27 : decode cX0_numberEnd 27 = .ok (.goto 5, 3) := by decide +kernel
theorem dX0_numberEnd_30 : decode cX0_numberEnd 30 = .ok (.bipush 59, 2) := by decide +kernel
theorem dX0_numberEnd_32 : decode cX0_numberEnd 32 = .ok (.ireturn, 1) := by decide +kernel
theorem dX1_init_0 : decode cX1_init 0 = .ok (.aload_n 0, 1) := by decide +kernel
theorem dX1_init_1 : decode cX1_init 1 = .ok (.invokespecial 3, 3) := by decide +kernel
theorem dX1_init_4 : decode cX1_init 4 = .ok (.aload_n 0, 1) := by decide +kernel
theorem dX1_init_5 : decode cX1_init 5 = .ok (.bipush 6, 2) := by decide +kernel
theorem dX1_init_7 : decode cX1_init 7 = .ok (.anewarray 9, 3) := by decide +kernel
theorem dX1_init_10 : decode cX1_init 10 = .ok (.putfield 11, 3) := by decide +kernel
theorem dX1_init_13 : decode cX1_init 13 = .ok (.return_, 1) := by decide +kernel
set_option maxRecDepth 20000 in
theorem ggX1_save_X1_dropOldest : GoodIn wsX1_save wsX1_dropOldest := goodIn_r _ [10, 2, 1, 60, 61] (by decide +kernel) (by decide +kernel)
set_option maxRecDepth 20000 in
theorem gX1_save_X1_dropOldest : GoodIn wsX1_save (wsV RX1 21 RX1 yX1_dropOldest wsX1_dropOldest) := goodIn_app (goodIn_of _ (by decide +kernel)) ggX1_save_X1_dropOldest
set_option maxRecDepth 20000 in
theorem ggX1_save_X2_init : GoodIn wsX1_save wsX2_init := goodIn_r _ [13, 14, 15, 16, 17, 18, 19, 20, 21, 22, 23, 24, 25, 26, 27, 28, 29, 30, 31, 32, 33, 34, 35, 36, 62, 63, 64, 65, 66, 67, 68, 69, 70, 71, 72, 73, 74, 75] (by decide +kernel) (by decide +kernel)
set_option maxRecDepth 20000 in
theorem gX1_save_X2_init : GoodIn wsX1_save (wsX2_init) := ggX1_save_X2_init
set_option maxRecDepth 20000 in
theorem ggX1_save_X2_copyFrom : GoodIn wsX1_save wsX2_copyFrom := goodIn_r _ [40, 41, 42, 43, 17, 44, 45, 46, 19, 47, 48, 49, 50, 23, 24, 25, 26, 51, 52, 53, 22, 54, 31, 55, 56, 57, 58, 59, 62, 63, 64, 65, 66, 67, 68, 69, 70, 71, 72, 73, 74, 75] (by decide +kernel) (by decide +kernel)
set_option maxRecDepth 20000 in
theorem gX1_save_X2_copyFrom : GoodIn wsX1_save (wsV RX1 25 RX2 yX2_copyFrom wsX2_copyFrom) := goodIn_app (goodIn_of _ (by decide +kernel)) ggX1_save_X2_copyFrom
theorem dX1_save_0 : decode cX1_save 0 = .ok (.aload_n 0, 1) := by decide +kernel
theorem dX1_save_1 : decode cX1_save 1 = .ok (.getfield 17, 3) := by decide +kernel
theorem dX1_save_4 : decode cX1_save 4 = .ok (.bipush 6, 2) := by decide +kernel
theorem dX1_save_6 : decode cX1_save 6 = .ok (.if_icmp .lt 7, 3) := by decide +kernel
theorem dX1_save_9 : decode cX1_save 9 = .ok (.aload_n 0, 1) := by decide +kernel
theorem dX1_save_10 : decode cX1_save 10 = .ok (.invokevirtual 21, 3) := by decide +kernel
theorem dX1_save_13 : decode cX1_save 13 = .ok (.aload_n 0, 1) := by decide +kernel
theorem dX1_save_14 : decode cX1_save 14 = .ok (.getfield 11, 3) := by decide +kernel
theorem dX1_save_17 : decode cX1_save 17 = .ok (.aload_n 0, 1) := by decide +kernel
theorem dX1_save_18 : decode cX1_save 18 = .ok (.getfield 17, 3) := by decide +kernel
theorem dX1_save_21 : decode cX1_save 21 = .ok (.aaload, 1) := by decide +kernel
theorem dX1_save_22 : decode cX1_save 22 = .ok (.astore_n 2, 1) := by decide +kernel
theorem dX1_save_23 : decode cX1_save 23 = .ok (.aload_n 2, 1) := by decide +kernel
theorem dX1_save_24 : decode cX1_save 24 = .ok (.ifnonnull 21, 3) := by decide +kernel
theorem dX1_save_27 : decode cX1_save 27 = .ok (.new 9, 3) := by decide +kernel
theorem dX1_save_30 : decode cX1_save 30 = .ok (.dup, 1) := by decide +kernel
theorem dX1_save_31 : decode cX1_save 31 = .ok (.invokespecial 24, 3) := by decide +kernel
theorem dX1_save_34 : decode cX1_save 34 = .ok (.astore_n 2, 1) := by decide +kernel
theorem dX1_save_35 : decode cX1_save 35 = .ok (.aload_n 0, 1) := by decide +kernel
theorem dX1_save_36 : decode cX1_save 36 = .ok (.getfield 11, 3) := by decide +kernel
theorem dX1_save_39 : decode cX1_save 39 = .ok (.aload_n 0, 1) := by decide +kernel
theorem dX1_save_40 : decode cX1_save 40 = .ok (.getfield 17, 3) := by decide +kernel
theorem dX1_save_43 : decode cX1_save 43 = .ok (.aload_n 2, 1) := by decide +kernel
theorem dX1_save_44 : decode cX1_save 44 = .ok (.aastore, 1) := by decide +kernel
theorem dX1_save_45 : decode cX1_save 45 = .ok (.aload_n 2, 1) := by decide +kernel
theorem dX1_save_46 : decode cX1_save 46 = .ok (.aload_n 1, 1) := by decide +kernel
theorem dX1_save_47 : decode cX1_save 47 = .ok (.invokevirtual 25, 3) := by decide +kernel
theorem dX1_save_50 : decode cX1_save 50 = .ok (.aload_n 0, 1) := by decide +kernel
theorem dX1_save_51 : decode cX1_save 51 = .ok (.dup, 1) := by decide +kernel
theorem dX1_save_52 : decode cX1_save 52 = .ok (.getfield 17, 3) := by decide +kernel
theorem dX1_save_55 : decode cX1_save 55 = .ok (.iconst 1, 1) := by decide +kernel
theorem dX1_save_56 : decode cX1_save 56 = .ok (.iadd, 1) := by decide +kernel
theorem dX1_save_57 : decode cX1_save 57 = .ok (.putfield 17, 3) := by decide +kernel
theorem dX1_save_60 : decode cX1_save 60 = .ok (.return_, 1) := by decide +kernel
theorem dX1_dropOldest_0 : decode cX1_dropOldest 0 = .ok (.aload_n 0, 1) := by decide +kernel
theorem dX1_dropOldest_1 : decode cX1_dropOldest 1 = .ok (.getfield 11, 3) := by decide +kernel
theorem dX1_dropOldest_4 : decode cX1_dropOldest 4 = .ok (.iconst 0, 1) := by decide +kernel
theorem dX1_dropOldest_5 : decode cX1_dropOldest 5 = .ok (.aaload, 1) := by decide +kernel
theorem dX1_dropOldest_6 : decode cX1_dropOldest 6 = .ok (.astore_n 1, 1) := by decide +kernel
theorem dX1_dropOldest_7 : decode cX1_dropOldest 7 = .ok (.iconst 1, 1) := by decide +kernel
theorem dX1_dropOldest_8 : decode cX1_dropOldest 8 = .ok (.istore_n 2, 1) := by decide +kernel
theorem dX1_dropOldest_9 : decode cX1_dropOldest 9 = .ok (.iload_n 2, 1) := by decide +kernel
theorem dX1_dropOldest_10 : decode cX1_dropOldest 10 = .ok (.bipush 6, 2) := by decide +kernel
theorem dX1_dropOldest_12 : decode cX1_dropOldest 12 = .ok (.if_icmp .ge 23, 3) := by decide +kernel
theorem dX1_dropOldest_15 : decode cX1_dropOldest 15 = .ok (.aload_n 0, 1) := by decide +kernel
theorem dX1_dropOldest_16 : decode cX1_dropOldest 16 = .ok (.getfield 11, 3) := by decide +kernel
theorem dX1_dropOldest_19 : decode cX1_dropOldest 19 = .ok (.iload_n 2, 1) := by decide +kernel
theorem dX1_dropOldest_20 : decode cX1_dropOldest 20 = .ok (.iconst 1, 1) := by decide +kernel
theorem dX1_dropOldest_21 : decode cX1_dropOldest 21 = .ok (.isub, 1) := by decide +kernel
theorem dX1_dropOldest_22 : decode cX1_dropOldest 22 = .ok (.aload_n 0, 1) := by decide +kernel
theorem dX1_dropOldest_23 : decode cX1_dropOldest 23 = .ok (.getfield 11, 3) := by decide +kernel
theorem dX1_dropOldest_26 : decode cX1_dropOldest 26 = .ok (.iload_n 2, 1) := by decide +kernel
theorem dX1_dropOldest_27 : decode cX1_dropOldest 27 = .ok (.aaload, 1) := by decide +kernel
theorem dX1_dropOldest_28 : decode cX1_dropOldest 28 = .ok (.aastore, 1) := by decide +kernel
theorem dX1_dropOldest_29 : decode cX1_dropOldest 29 = .ok (.iinc 2 1, 3) := by decide +kernel
theorem dX1_dropOldest_32 : decode cX1_dropOldest 32 = .ok (.goto (-23), 3) := by decide +kernel
theorem dX1_dropOldest_35 : decode cX1_dropOldest 35 = .ok (.aload_n 0, 1) := by decide +kernel
theorem dX1_dropOldest_36 : decode cX1_dropOldest 36 = .ok (.getfield 11, 3) := by decide +kernel
theorem dX1_dropOldest_39 : decode cX1_dropOldest 39 = .ok (.iconst 5, 1) := by decide +kernel
theorem dX1_dropOldest_40 : decode cX1_dropOldest 40 = .ok (.aload_n 1, 1) := by decide +kernel
theorem dX1_dropOldest_41 : decode cX1_dropOldest 41 = .ok (.aastore, 1) := by decide +kernel
theorem dX1_dropOldest_42 : decode cX1_dropOldest 42 = .ok (.aload_n 0, 1) := by decide +kernel
theorem dX1_dropOldest_43 : decode cX1_dropOldest 43 = .ok (.iconst 5, 1) := by decide +kernel
theorem dX1_dropOldest_44 : decode cX1_dropOldest 44 = .ok (.putfield 17, 3) := by decide +kernel
theorem dX1_dropOldest_47 : decode cX1_dropOldest 47 = .ok (.return_, 1) := by decide +kernel
set_option maxRecDepth 20000 in
theorem ggX1_restore_X2_copyFrom : GoodIn wsX1_restore wsX2_copyFrom := goodIn_r _ [7, 8, 9, 10, 11, 12, 13, 14, 15, 16, 17, 18, 19, 20, 21, 22, 23, 24, 25, 26, 27, 28, 29, 30, 31, 32, 33, 34, 37, 38, 39, 40, 41, 42, 43, 44, 45, 46, 47, 48, 49, 50] (by decide +kernel) (by decide +kernel)
set_option maxRecDepth 20000 in
theorem gX1_restore_X2_copyFrom : GoodIn wsX1_restore (wsV RX1 25 RX2 yX2_copyFrom wsX2_copyFrom) := goodIn_app (goodIn_of _ (by decide +kernel)) ggX1_restore_X2_copyFrom
theorem dX1_restore_0 : decode cX1_restore 0 = .ok (.aload_n 0, 1) := by decide +kernel
theorem dX1_restore_1 : decode cX1_restore 1 = .ok (.getfield 17, 3) := by decide +kernel
theorem dX1_restore_4 : decode cX1_restore 4 = .ok (.ifCond .le 17, 3) := by decide +kernel
theorem dX1_restore_7 : decode cX1_restore 7 = .ok (.aload_n 0, 1) := by decide +kernel
theorem dX1_restore_8 : decode cX1_restore 8 = .ok (.getfield 11, 3) := by decide +kernel
theorem dX1_restore_11 : decode cX1_restore 11 = .ok (.aload_n 0, 1) := by decide +kernel
theorem dX1_restore_12 : decode cX1_restore 12 = .ok (.getfield 17, 3) := by decide +kernel
theorem dX1_restore_15 : decode cX1_restore 15 = .ok (.iconst 1, 1) := by decide +kernel
theorem dX1_restore_16 : decode cX1_restore 16 = .ok (.isub, 1) := by decide +kernel
theorem dX1_restore_17 : decode cX1_restore 17 = .ok (.aaload, 1) := by decide +kernel
theorem dX1_restore_18 : decode cX1_restore 18 = .ok (.goto 4, 3) := by decide +kernel
theorem dX1_restore_21 : decode cX1_restore 21 = .ok (.aconst_null, 1) := by decide +kernel
theorem dX1_restore_22 : decode cX1_restore 22 = .ok (.astore_n 2, 1) := by decide +kernel
theorem dX1_restore_23 : decode cX1_restore 23 = .ok (.aload_n 2, 1) := by decide +kernel
theorem dX1_restore_24 : decode cX1_restore 24 = .ok (.ifnonnull 5, 3) := by decide +kernel
theorem dX1_restore_27 : decode cX1_restore 27 = .ok (.iconst 0, 1) := by decide +kernel
theorem dX1_restore_28 : decode cX1_restore 28 = .ok (.ireturn, 1) := by decide +kernel
theorem dX1_restore_29 : decode cX1_restore 29 = .ok (.aload_n 1, 1) := by decide +kernel
theorem dX1_restore_30 : decode cX1_restore 30 = .ok (.aload_n 2, 1) := by decide +kernel
theorem dX1_restore_31 : decode cX1_restore 31 = .ok (.invokevirtual 25, 3) := by decide +kernel
theorem dX1_restore_34 : decode cX1_restore 34 = .ok (.aload_n 0, 1) := by decide +kernel
theorem dX1_restore_35 : decode cX1_restore 35 = .ok (.dup, 1) := by decide +kernel
theorem dX1_restore_36 : decode cX1_restore 36 = .ok (.getfield 17, 3) := by decide +kernel
theorem dX1_restore_39 : decode cX1_restore 39 = .ok (.iconst 1, 1) := by decide +kernel
theorem dX1_restore_40 : decode cX1_restore 40 = .ok (.isub, 1) := by decide +kernel
theorem dX1_restore_41 : decode cX1_restore 41 = .ok (.putfield 17, 3) := by decide +kernel
theorem dX1_restore_44 : decode cX1_restore 44 = .ok (.iconst 1, 1) := by decide +kernel
theorem dX1_restore_45 : decode cX1_restore 45 = .ok (.ireturn, 1) := by decide +kernel
set_option maxRecDepth 20000 in
theorem ggX2_init_X3_init : GoodIn wsX2_init wsX3_init := goodIn_r _ [16, 17, 2, 3, 18, 19, 36, 37] (by decide +kernel) (by decide +kernel)
set_option maxRecDepth 20000 in
theorem gX2_init_X3_init : GoodIn wsX2_init (wsX3_init) := ggX2_init_X3_init
set_option maxRecDepth 20000 in
theorem ggX2_init_X3_put : GoodIn wsX2_init wsX3_put := goodIn_r _ [23, 19, 18, 36, 37] (by decide +kernel) (by decide +kernel)
set_option maxRecDepth 20000 in
theorem gX2_init_X3_put : GoodIn wsX2_init (wsV RX2 37 RX3 yX3_put wsX3_put) := goodIn_app (goodIn_of _ (by decide +kernel)) ggX2_init_X3_put
theorem dX2_init_0 : decode cX2_init 0 = .ok (.aload_n 0, 1) := by decide +kernel
theorem dX2_init_1 : decode cX2_init 1 = .ok (.invokespecial 3, 3) := by decide +kernel
theorem dX2_init_4 : decode cX2_init 4 = .ok (.aload_n 0, 1) := by decide +kernel
theorem dX2_init_5 : decode cX2_init 5 = .ok (.iconst 1, 1) := by decide +kernel
theorem dX2_init_6 : decode cX2_init 6 = .ok (.putfield 9, 3) := by decide +kernel
theorem dX2_init_9 : decode cX2_init 9 = .ok (.aload_n 0, 1) := by decide +kernel
theorem dX2_init_10 : decode cX2_init 10 = .ok (.iconst 5, 1) := by decide +kernel
theorem dX2_init_11 : decode cX2_init 11 = .ok (.newarray .int, 2) := by decide +kernel
theorem dX2_init_13 : decode cX2_init 13 = .ok (.dup, 1) := by decide +kernel
theorem dX2_init_14 : decode cX2_init 14 = .ok (.iconst 0, 1) := by decide +kernel
theorem dX2_init_15 : decode cX2_init 15 = .ok (.iconst 2, 1) := by decide +kernel
theorem dX2_init_16 : decode cX2_init 16 = .ok (.iastore, 1) := by decide +kernel
theorem dX2_init_17 : decode cX2_init 17 = .ok (.dup, 1) := by decide +kernel
theorem dX2_init_18 : decode cX2_init 18 = .ok (.iconst 1, 1) := by decide +kernel
theorem dX2_init_19 : decode cX2_init 19 = .ok (.bipush 20, 2) := by decide +kernel
theorem dX2_init_21 : decode cX2_init 21 = .ok (.iastore, 1) := by decide +kernel
theorem dX2_init_22 : decode cX2_init 22 = .ok (.dup, 1) := by decide +kernel
theorem dX2_init_23 : decode cX2_init 23 = .ok (.iconst 2, 1) := by decide +kernel
theorem dX2_init_24 : decode cX2_init 24 = .ok (.iconst 5, 1) := by decide +kernel
theorem dX2_init_25 : decode cX2_init 25 = .ok (.iastore, 1) := by decide +kernel
theorem dX2_init_26 : decode cX2_init 26 = .ok (.dup, 1) := by decide +kernel
theorem dX2_init_27 : decode cX2_init 27 = .ok (.iconst 3, 1) := by decide +kernel
theorem dX2_init_28 : decode cX2_init 28 = .ok (.bipush 80, 2) := by decide +kernel
theorem dX2_init_30 : decode cX2_init 30 = .ok (.iastore, 1) := by decide +kernel
theorem dX2_init_31 : decode cX2_init 31 = .ok (.dup, 1) := by decide +kernel
theorem dX2_init_32 : decode cX2_init 32 = .ok (.iconst 4, 1) := by decide +kernel
theorem dX2_init_33 : decode cX2_init 33 = .ok (.bipush 50, 2) := by decide +kernel
theorem dX2_init_35 : decode cX2_init 35 = .ok (.iastore, 1) := by decide +kernel
theorem dX2_init_36 : decode cX2_init 36 = .ok (.putfield 15, 3) := by decide +kernel
theorem dX2_init_39 : decode cX2_init 39 = .ok (.aload_n 0, 1) := by decide +kernel
theorem dX2_init_40 : decode cX2_init 40 = .ok (.new 19, 3) := by decide +kernel
theorem dX2_init_43 : decode cX2_init 43 = .ok (.dup, 1) := by decide +kernel
theorem dX2_init_44 : decode cX2_init 44 = .ok (.bipush 64, 2) := by decide +kernel
theorem dX2_init_46 : decode cX2_init 46 = .ok (.newarray .int, 2) := by decide +kernel
theorem dX2_init_48 : decode cX2_init 48 = .ok (.bipush 8, 2) := by decide +kernel
theorem dX2_init_50 : decode cX2_init 50 = .ok (.invokespecial 21, 3) := by decide +kernel
theorem dX2_init_53 : decode cX2_init 53 = .ok (.putfield 24, 3) := by decide +kernel
theorem dX2_init_56 : decode cX2_init 56 = .ok (.aload_n 0, 1) := by decide +kernel
theorem dX2_init_57 : decode cX2_init 57 = .ok (.new 19, 3) := by decide +kernel
theorem dX2_init_60 : decode cX2_init 60 = .ok (.dup, 1) := by decide +kernel
theorem dX2_init_61 : decode cX2_init 61 = .ok (.bipush 120, 2) := by decide +kernel
theorem dX2_init_63 : decode cX2_init 63 = .ok (.newarray .int, 2) := by decide +kernel
theorem dX2_init_65 : decode cX2_init 65 = .ok (.iconst 5, 1) := by decide +kernel
theorem dX2_init_66 : decode cX2_init 66 = .ok (.invokespecial 21, 3) := by decide +kernel
theorem dX2_init_69 : decode cX2_init 69 = .ok (.putfield 28, 3) := by decide +kernel
theorem dX2_init_72 : decode cX2_init 72 = .ok (.aload_n 0, 1) := by decide +kernel
theorem dX2_init_73 : decode cX2_init 73 = .ok (.new 19, 3) := by decide +kernel
theorem dX2_init_76 : decode cX2_init 76 = .ok (.dup, 1) := by decide +kernel
theorem dX2_init_77 : decode cX2_init 77 = .ok (.bipush 20, 2) := by decide +kernel
theorem dX2_init_79 : decode cX2_init 79 = .ok (.newarray .int, 2) := by decide +kernel
theorem dX2_init_81 : decode cX2_init 81 = .ok (.iconst 5, 1) := by decide +kernel
theorem dX2_init_82 : decode cX2_init 82 = .ok (.invokespecial 21, 3) := by decide +kernel
theorem dX2_init_85 : decode cX2_init 85 = .ok (.putfield 31, 3) := by decide +kernel
theorem dX2_init_88 : decode cX2_init 88 = .ok (.aload_n 0, 1) := by decide +kernel
theorem dX2_init_89 : decode cX2_init 89 = .ok (.new 19, 3) := by decide +kernel
theorem dX2_init_92 : decode cX2_init 92 = .ok (.dup, 1) := by decide +kernel
theorem dX2_init_93 : decode cX2_init 93 = .ok (.bipush 32, 2) := by decide +kernel
theorem dX2_init_95 : decode cX2_init 95 = .ok (.newarray .int, 2) := by decide +kernel
theorem dX2_init_97 : decode cX2_init 97 = .ok (.bipush 8, 2) := by decide +kernel
theorem dX2_init_99 : decode cX2_init 99 = .ok (.invokespecial 21, 3) := by decide +kernel
theorem dX2_init_102 : decode cX2_init 102 = .ok (.putfield 34, 3) := by decide +kernel
theorem dX2_init_105 : decode cX2_init 105 = .ok (.iconst 0, 1) := by decide +kernel
theorem dX2_init_106 : decode cX2_init 106 = .ok (.istore_n 1, 1) := by decide +kernel
theorem dX2_init_107 : decode cX2_init 107 = .ok (.iload_n 1, 1) := by decide +kernel
theorem dX2_init_108 : decode cX2_init 108 = .ok (.iconst 4, 1) := by decide +kernel
theorem dX2_init_109 : decode cX2_init 109 = .ok (.if_icmp .ge 20, 3) := by decide +kernel
theorem dX2_init_112 : decode cX2_init 112 = .ok (.aload_n 0, 1) := by decide +kernel
theorem dX2_init_113 : decode cX2_init 113 = .ok (.getfield 31, 3) := by decide +kernel
theorem dX2_init_116 : decode cX2_init 116 = .ok (.iload_n 1, 1) := by decide +kernel
theorem dX2_init_117 : decode cX2_init 117 = .ok (.iconst 0, 1) := by decide +kernel
theorem dX2_init_118 : decode cX2_init 118 = .ok (.bipush 63, 2) := by decide +kernel
theorem dX2_init_120 : decode cX2_init 120 = .ok (.invokevirtual 37, 3) := by decide +kernel
theorem dX2_init_123 : decode cX2_init 123 = .ok (.iinc 1 1, 3) := by decide +kernel
theorem dX2_init_126 : decode cX2_init 126 = .ok (.goto (-19), 3) := by decide +kernel
theorem dX2_init_129 : decode cX2_init 129 = .ok (.return_, 1) := by decide +kernel
set_option maxRecDepth 20000 in
theorem ggX2_copyFrom_X3_copyFrom : GoodIn wsX2_copyFrom wsX3_copyFrom := goodIn_r _ [21, 22, 23, 24, 25, 26, 27, 10, 11, 12, 40, 41] (by decide +kernel) (by decide +kernel)
set_option maxRecDepth 20000 in
theorem gX2_copyFrom_X3_copyFrom : GoodIn wsX2_copyFrom (wsV RX2 65 RX3 yX3_copyFrom wsX3_copyFrom) := goodIn_app (goodIn_of _ (by decide +kernel)) ggX2_copyFrom_X3_copyFrom
theorem dX2_copyFrom_0 : decode cX2_copyFrom 0 = .ok (.aload_n 0, 1) := by decide +kernel
theorem dX2_copyFrom_1 : decode cX2_copyFrom 1 = .ok (.aload_n 1, 1) := by decide +kernel
theorem dX2_copyFrom_2 : decode cX2_copyFrom 2 = .ok (.getfield 41, 3) := by decide +kernel
theorem dX2_copyFrom_5 : decode cX2_copyFrom 5 = .ok (.putfield 41, 3) := by decide +kernel
theorem dX2_copyFrom_8 : decode cX2_copyFrom 8 = .ok (.aload_n 0, 1) := by decide +kernel
theorem dX2_copyFrom_9 : decode cX2_copyFrom 9 = .ok (.aload_n 1, 1) := by decide +kernel
theorem dX2_copyFrom_10 : decode cX2_copyFrom 10 = .ok (.getfield 44, 3) := by decide +kernel
theorem dX2_copyFrom_13 : decode cX2_copyFrom 13 = .ok (.putfield 44, 3) := by decide +kernel
theorem dX2_copyFrom_16 : decode cX2_copyFrom 16 = .ok (.aload_n 0, 1) := by decide +kernel
theorem dX2_copyFrom_17 : decode cX2_copyFrom 17 = .ok (.aload_n 1, 1) := by decide +kernel
theorem dX2_copyFrom_18 : decode cX2_copyFrom 18 = .ok (.getfield 47, 3) := by decide +kernel
theorem dX2_copyFrom_21 : decode cX2_copyFrom 21 = .ok (.putfield 47, 3) := by decide +kernel
theorem dX2_copyFrom_24 : decode cX2_copyFrom 24 = .ok (.aload_n 0, 1) := by decide +kernel
theorem dX2_copyFrom_25 : decode cX2_copyFrom 25 = .ok (.aload_n 1, 1) := by decide +kernel
theorem dX2_copyFrom_26 : decode cX2_copyFrom 26 = .ok (.getfield 9, 3) := by decide +kernel
theorem dX2_copyFrom_29 : decode cX2_copyFrom 29 = .ok (.putfield 9, 3) := by decide +kernel
theorem dX2_copyFrom_32 : decode cX2_copyFrom 32 = .ok (.aload_n 0, 1) := by decide +kernel
theorem dX2_copyFrom_33 : decode cX2_copyFrom 33 = .ok (.aload_n 1, 1) := by decide +kernel
theorem dX2_copyFrom_34 : decode cX2_copyFrom 34 = .ok (.getfield 50, 3) := by decide +kernel
theorem dX2_copyFrom_37 : decode cX2_copyFrom 37 = .ok (.putfield 50, 3) := by decide +kernel
theorem dX2_copyFrom_40 : decode cX2_copyFrom 40 = .ok (.aload_n 0, 1) := by decide +kernel
theorem dX2_copyFrom_41 : decode cX2_copyFrom 41 = .ok (.aload_n 1, 1) := by decide +kernel
theorem dX2_copyFrom_42 : decode cX2_copyFrom 42 = .ok (.getfield 53, 3) := by decide +kernel
theorem dX2_copyFrom_45 : decode cX2_copyFrom 45 = .ok (.putfield 53, 3) := by decide +kernel
theorem dX2_copyFrom_48 : decode cX2_copyFrom 48 = .ok (.aload_n 0, 1) := by decide +kernel
theorem dX2_copyFrom_49 : decode cX2_copyFrom 49 = .ok (.aload_n 1, 1) := by decide +kernel
theorem dX2_copyFrom_50 : decode cX2_copyFrom 50 = .ok (.getfield 56, 3) := by decide +kernel
theorem dX2_copyFrom_53 : decode cX2_copyFrom 53 = .ok (.putfield 56, 3) := by decide +kernel
theorem dX2_copyFrom_56 : decode cX2_copyFrom 56 = .ok (.aload_n 1, 1) := by decide +kernel
theorem dX2_copyFrom_57 : decode cX2_copyFrom 57 = .ok (.getfield 15, 3) := by decide +kernel
theorem dX2_copyFrom_60 : decode cX2_copyFrom 60 = .ok (.iconst 0, 1) := by decide +kernel
theorem dX2_copyFrom_61 : decode cX2_copyFrom 61 = .ok (.aload_n 0, 1) := by decide +kernel
theorem dX2_copyFrom_62 : decode cX2_copyFrom 62 = .ok (.getfield 15, 3) := by decide +kernel
theorem dX2_copyFrom_65 : decode cX2_copyFrom 65 = .ok (.iconst 0, 1) := by decide +kernel
theorem dX2_copyFrom_66 : decode cX2_copyFrom 66 = .ok (.iconst 5, 1) := by decide +kernel
theorem dX2_copyFrom_67 : decode cX2_copyFrom 67 = .ok (.invokestatic 59, 3) := by decide +kernel
theorem dX2_copyFrom_70 : decode cX2_copyFrom 70 = .ok (.aload_n 0, 1) := by decide +kernel
theorem dX2_copyFrom_71 : decode cX2_copyFrom 71 = .ok (.getfield 24, 3) := by decide +kernel
theorem dX2_copyFrom_74 : decode cX2_copyFrom 74 = .ok (.aload_n 1, 1) := by decide +kernel
theorem dX2_copyFrom_75 : decode cX2_copyFrom 75 = .ok (.getfield 24, 3) := by decide +kernel
theorem dX2_copyFrom_78 : decode cX2_copyFrom 78 = .ok (.invokevirtual 65, 3) := by decide +kernel
theorem dX2_copyFrom_81 : decode cX2_copyFrom 81 = .ok (.aload_n 0, 1) := by decide +kernel
theorem dX2_copyFrom_82 : decode cX2_copyFrom 82 = .ok (.getfield 28, 3) := by decide +kernel
theorem dX2_copyFrom_85 : decode cX2_copyFrom 85 = .ok (.aload_n 1, 1) := by decide +kernel
theorem dX2_copyFrom_86 : decode cX2_copyFrom 86 = .ok (.getfield 28, 3) := by decide +kernel
theorem dX2_copyFrom_89 : decode cX2_copyFrom 89 = .ok (.invokevirtual 65, 3) := by decide +kernel
theorem dX2_copyFrom_92 : decode cX2_copyFrom 92 = .ok (.aload_n 0, 1) := by decide +kernel
theorem dX2_copyFrom_93 : decode cX2_copyFrom 93 = .ok (.getfield 31, 3) := by decide +kernel
theorem dX2_copyFrom_96 : decode cX2_copyFrom 96 = .ok (.aload_n 1, 1) := by decide +kernel
theorem dX2_copyFrom_97 : decode cX2_copyFrom 97 = .ok (.getfield 31, 3) := by decide +kernel
theorem dX2_copyFrom_100 : decode cX2_copyFrom 100 = .ok (.invokevirtual 65, 3) := by decide +kernel
theorem dX2_copyFrom_103 : decode cX2_copyFrom 103 = .ok (.aload_n 0, 1) := by decide +kernel
theorem dX2_copyFrom_104 : decode cX2_copyFrom 104 = .ok (.getfield 34, 3) := by decide +kernel
theorem dX2_copyFrom_107 : decode cX2_copyFrom 107 = .ok (.aload_n 1, 1) := by decide +kernel
theorem dX2_copyFrom_108 : decode cX2_copyFrom 108 = .ok (.getfield 34, 3) := by decide +kernel
theorem dX2_copyFrom_111 : decode cX2_copyFrom 111 = .ok (.invokevirtual 65, 3) := by decide +kernel
theorem dX2_copyFrom_114 : decode cX2_copyFrom 114 = .ok (.return_, 1) := by decide +kernel
set_option maxRecDepth 20000 in
theorem ggX2_newFeeder_X3_put : GoodIn wsX2_newFeeder wsX3_put := goodIn_r _ [8, 9, 10, 23, 24] (by decide +kernel) (by decide +kernel)
set_option maxRecDepth 20000 in
theorem gX2_newFeeder_X3_put : GoodIn wsX2_newFeeder (wsV RX2 37 RX3 yX3_put wsX3_put) := goodIn_app (goodIn_of _ (by decide +kernel)) ggX2_newFeeder_X3_put
theorem dX2_newFeeder_0 : decode cX2_newFeeder 0 = .ok (.aload_n 0, 1) := by decide +kernel
theorem dX2_newFeeder_1 : decode cX2_newFeeder 1 = .ok (.getfield 41, 3) := by decide +kernel
theorem dX2_newFeeder_4 : decode cX2_newFeeder 4 = .ok (.istore 6, 2) := by decide +kernel
theorem dX2_newFeeder_6 : decode cX2_newFeeder 6 = .ok (.aload_n 0, 1) := by decide +kernel
theorem dX2_newFeeder_7 : decode cX2_newFeeder 7 = .ok (.getfield 24, 3) := by decide +kernel
theorem dX2_newFeeder_10 : decode cX2_newFeeder 10 = .ok (.iload 6, 2) := by decide +kernel
theorem dX2_newFeeder_12 : decode cX2_newFeeder 12 = .ok (.iconst 0, 1) := by decide +kernel
theorem dX2_newFeeder_13 : decode cX2_newFeeder 13 = .ok (.iload_n 1, 1) := by decide +kernel
theorem dX2_newFeeder_14 : decode cX2_newFeeder 14 = .ok (.invokevirtual 37, 3) := by decide +kernel
theorem dX2_newFeeder_17 : decode cX2_newFeeder 17 = .ok (.aload_n 0, 1) := by decide +kernel
theorem dX2_newFeeder_18 : decode cX2_newFeeder 18 = .ok (.getfield 24, 3) := by decide +kernel
theorem dX2_newFeeder_21 : decode cX2_newFeeder 21 = .ok (.iload 6, 2) := by decide +kernel
theorem dX2_newFeeder_23 : decode cX2_newFeeder 23 = .ok (.iconst 1, 1) := by decide +kernel
theorem dX2_newFeeder_24 : decode cX2_newFeeder 24 = .ok (.iload_n 2, 1) := by decide +kernel
theorem dX2_newFeeder_25 : decode cX2_newFeeder 25 = .ok (.invokevirtual 37, 3) := by decide +kernel
theorem dX2_newFeeder_28 : decode cX2_newFeeder 28 = .ok (.aload_n 0, 1) := by decide +kernel
theorem dX2_newFeeder_29 : decode cX2_newFeeder 29 = .ok (.getfield 24, 3) := by decide +kernel
theorem dX2_newFeeder_32 : decode cX2_newFeeder 32 = .ok (.iload 6, 2) := by decide +kernel
theorem dX2_newFeeder_34 : decode cX2_newFeeder 34 = .ok (.iconst 2, 1) := by decide +kernel
theorem dX2_newFeeder_35 : decode cX2_newFeeder 35 = .ok (.iload_n 3, 1) := by decide +kernel
theorem dX2_newFeeder_36 : decode cX2_newFeeder 36 = .ok (.invokevirtual 37, 3) := by decide +kernel
theorem dX2_newFeeder_39 : decode cX2_newFeeder 39 = .ok (.aload_n 0, 1) := by decide +kernel
theorem dX2_newFeeder_40 : decode cX2_newFeeder 40 = .ok (.getfield 24, 3) := by decide +kernel
theorem dX2_newFeeder_43 : decode cX2_newFeeder 43 = .ok (.iload 6, 2) := by decide +kernel
theorem dX2_newFeeder_45 : decode cX2_newFeeder 45 = .ok (.iconst 3, 1) := by decide +kernel
theorem dX2_newFeeder_46 : decode cX2_newFeeder 46 = .ok (.iload 4, 2) := by decide +kernel
theorem dX2_newFeeder_48 : decode cX2_newFeeder 48 = .ok (.invokevirtual 37, 3) := by decide +kernel
theorem dX2_newFeeder_51 : decode cX2_newFeeder 51 = .ok (.aload_n 0, 1) := by decide +kernel
theorem dX2_newFeeder_52 : decode cX2_newFeeder 52 = .ok (.getfield 24, 3) := by decide +kernel
theorem dX2_newFeeder_55 : decode cX2_newFeeder 55 = .ok (.iload 6, 2) := by decide +kernel
theorem dX2_newFeeder_57 : decode cX2_newFeeder 57 = .ok (.iconst 4, 1) := by decide +kernel
theorem dX2_newFeeder_58 : decode cX2_newFeeder 58 = .ok (.iload 5, 2) := by decide +kernel
theorem dX2_newFeeder_60 : decode cX2_newFeeder 60 = .ok (.invokevirtual 37, 3) := by decide +kernel
theorem dX2_newFeeder_63 : decode cX2_newFeeder 63 = .ok (.iconst 0, 1) := by decide +kernel
theorem dX2_newFeeder_64 : decode cX2_newFeeder 64 = .ok (.istore 7, 2) := by decide +kernel
theorem dX2_newFeeder_66 : decode cX2_newFeeder 66 = .ok (.iload 7, 2) := by decide +kernel
theorem dX2_newFeeder_68 : decode cX2_newFeeder 68 = .ok (.iconst 4, 1) := by decide +kernel
theorem dX2_newFeeder_69 : decode cX2_newFeeder 69 = .ok (.if_icmp .ge 22, 3) := by decide +kernel
theorem dX2_newFeeder_72 : decode cX2_newFeeder 72 = .ok (.aload_n 0, 1) := by decide +kernel
theorem dX2_newFeeder_73 : decode cX2_newFeeder 73 = .ok (.getfield 34, 3) := by decide +kernel
theorem dX2_newFeeder_76 : decode cX2_newFeeder 76 = .ok (.iload 7, 2) := by decide +kernel
theorem dX2_newFeeder_78 : decode cX2_newFeeder 78 = .ok (.iload 6, 2) := by decide +kernel
theorem dX2_newFeeder_80 : decode cX2_newFeeder 80 = .ok (.bipush 50, 2) := by decide +kernel
theorem dX2_newFeeder_82 : decode cX2_newFeeder 82 = .ok (.invokevirtual 37, 3) := by decide +kernel
theorem dX2_newFeeder_85 : decode cX2_newFeeder 85 = .ok (.iinc 7 1, 3) := by decide +kernel
theorem dX2_newFeeder_88 : decode cX2_newFeeder 88 = .ok (.goto (-22), 3) := by decide +kernel
theorem dX2_newFeeder_91 : decode cX2_newFeeder 91 = .ok (.aload_n 0, 1) := by decide +kernel
theorem dX2_newFeeder_92 : decode cX2_newFeeder 92 = .ok (.dup, 1) := by decide +kernel
theorem dX2_newFeeder_93 : decode cX2_newFeeder 93 = .ok (.getfield 41, 3) := by decide +kernel
theorem dX2_newFeeder_96 : decode cX2_newFeeder 96 = .ok (.iconst 1, 1) := by decide +kernel
theorem dX2_newFeeder_97 : decode cX2_newFeeder 97 = .ok (.iadd, 1) := by decide +kernel
theorem dX2_newFeeder_98 : decode cX2_newFeeder 98 = .ok (.putfield 41, 3) := by decide +kernel
theorem dX2_newFeeder_101 : decode cX2_newFeeder 101 = .ok (.iload 6, 2) := by decide +kernel
theorem dX2_newFeeder_103 : decode cX2_newFeeder 103 = .ok (.ireturn, 1) := by decide +kernel
set_option maxRecDepth 20000 in
theorem ggX2_newPlace_X3_put : GoodIn wsX2_newPlace wsX3_put := goodIn_r _ [7, 8, 9, 27, 28] (by decide +kernel) (by decide +kernel)
set_option maxRecDepth 20000 in
theorem gX2_newPlace_X3_put : GoodIn wsX2_newPlace (wsV RX2 37 RX3 yX3_put wsX3_put) := goodIn_app (goodIn_of _ (by decide +kernel)) ggX2_newPlace_X3_put
set_option maxRecDepth 20000 in
theorem ggX2_newPlace_X2_emptyPlace : GoodIn wsX2_newPlace wsX2_emptyPlace := goodIn_r _ [14, 2, 3, 4, 5, 6, 7, 8, 9, 15, 16, 17, 18, 19, 20, 21, 22, 23, 24, 25, 26, 27, 28] (by decide +kernel) (by decide +kernel)
set_option maxRecDepth 20000 in
theorem gX2_newPlace_X2_emptyPlace : GoodIn wsX2_newPlace (wsV RX2 69 RX2 yX2_emptyPlace wsX2_emptyPlace) := goodIn_app (goodIn_of _ (by decide +kernel)) ggX2_newPlace_X2_emptyPlace
theorem dX2_newPlace_0 : decode cX2_newPlace 0 = .ok (.aload_n 0, 1) := by decide +kernel
theorem dX2_newPlace_1 : decode cX2_newPlace 1 = .ok (.getfield 44, 3) := by decide +kernel
theorem dX2_newPlace_4 : decode cX2_newPlace 4 = .ok (.istore_n 3, 1) := by decide +kernel
theorem dX2_newPlace_5 : decode cX2_newPlace 5 = .ok (.aload_n 0, 1) := by decide +kernel
theorem dX2_newPlace_6 : decode cX2_newPlace 6 = .ok (.getfield 28, 3) := by decide +kernel
theorem dX2_newPlace_9 : decode cX2_newPlace 9 = .ok (.iload_n 3, 1) := by decide +kernel
theorem dX2_newPlace_10 : decode cX2_newPlace 10 = .ok (.iconst 0, 1) := by decide +kernel
theorem dX2_newPlace_11 : decode cX2_newPlace 11 = .ok (.iload_n 1, 1) := by decide +kernel
theorem dX2_newPlace_12 : decode cX2_newPlace 12 = .ok (.invokevirtual 37, 3) := by decide +kernel
theorem dX2_newPlace_15 : decode cX2_newPlace 15 = .ok (.aload_n 0, 1) := by decide +kernel
theorem dX2_newPlace_16 : decode cX2_newPlace 16 = .ok (.getfield 28, 3) := by decide +kernel
theorem dX2_newPlace_19 : decode cX2_newPlace 19 = .ok (.iload_n 3, 1) := by decide +kernel
theorem dX2_newPlace_20 : decode cX2_newPlace 20 = .ok (.iconst 1, 1) := by decide +kernel
theorem dX2_newPlace_21 : decode cX2_newPlace 21 = .ok (.iload_n 2, 1) := by decide +kernel
theorem dX2_newPlace_22 : decode cX2_newPlace 22 = .ok (.invokevirtual 37, 3) := by decide +kernel
theorem dX2_newPlace_25 : decode cX2_newPlace 25 = .ok (.aload_n 0, 1) := by decide +kernel
theorem dX2_newPlace_26 : decode cX2_newPlace 26 = .ok (.iload_n 3, 1) := by decide +kernel
theorem dX2_newPlace_27 : decode cX2_newPlace 27 = .ok (.invokevirtual 69, 3) := by decide +kernel
theorem dX2_newPlace_30 : decode cX2_newPlace 30 = .ok (.aload_n 0, 1) := by decide +kernel
theorem dX2_newPlace_31 : decode cX2_newPlace 31 = .ok (.dup, 1) := by decide +kernel
theorem dX2_newPlace_32 : decode cX2_newPlace 32 = .ok (.getfield 44, 3) := by decide +kernel
theorem dX2_newPlace_35 : decode cX2_newPlace 35 = .ok (.iconst 1, 1) := by decide +kernel
theorem dX2_newPlace_36 : decode cX2_newPlace 36 = .ok (.iadd, 1) := by decide +kernel
theorem dX2_newPlace_37 : decode cX2_newPlace 37 = .ok (.putfield 44, 3) := by decide +kernel
theorem dX2_newPlace_40 : decode cX2_newPlace 40 = .ok (.iload_n 3, 1) := by decide +kernel
theorem dX2_newPlace_41 : decode cX2_newPlace 41 = .ok (.ireturn, 1) := by decide +kernel
set_option maxRecDepth 20000 in
theorem ggX2_emptyPlace_X3_put : GoodIn wsX2_emptyPlace wsX3_put := goodIn_r _ [6, 7, 8, 21, 22] (by decide +kernel) (by decide +kernel)
set_option maxRecDepth 20000 in
theorem gX2_emptyPlace_X3_put : GoodIn wsX2_emptyPlace (wsV RX2 37 RX3 yX3_put wsX3_put) := goodIn_app (goodIn_of _ (by decide +kernel)) ggX2_emptyPlace_X3_put
theorem dX2_emptyPlace_0 : decode cX2_emptyPlace 0 = .ok (.aload_n 0, 1) := by decide +kernel
theorem dX2_emptyPlace_1 : decode cX2_emptyPlace 1 = .ok (.getfield 28, 3) := by decide +kernel
theorem dX2_emptyPlace_4 : decode cX2_emptyPlace 4 = .ok (.iload_n 1, 1) := by decide +kernel
theorem dX2_emptyPlace_5 : decode cX2_emptyPlace 5 = .ok (.iconst 2, 1) := by decide +kernel
theorem dX2_emptyPlace_6 : decode cX2_emptyPlace 6 = .ok (.iconst 0, 1) := by decide +kernel
theorem dX2_emptyPlace_7 : decode cX2_emptyPlace 7 = .ok (.invokevirtual 37, 3) := by decide +kernel
theorem dX2_emptyPlace_10 : decode cX2_emptyPlace 10 = .ok (.aload_n 0, 1) := by decide +kernel
theorem dX2_emptyPlace_11 : decode cX2_emptyPlace 11 = .ok (.getfield 28, 3) := by decide +kernel
theorem dX2_emptyPlace_14 : decode cX2_emptyPlace 14 = .ok (.iload_n 1, 1) := by decide +kernel
theorem dX2_emptyPlace_15 : decode cX2_emptyPlace 15 = .ok (.iconst 3, 1) := by decide +kernel
theorem dX2_emptyPlace_16 : decode cX2_emptyPlace 16 = .ok (.iconst (-1), 1) := by decide +kernel
theorem dX2_emptyPlace_17 : decode cX2_emptyPlace 17 = .ok (.invokevirtual 37, 3) := by decide +kernel
theorem dX2_emptyPlace_20 : decode cX2_emptyPlace 20 = .ok (.aload_n 0, 1) := by decide +kernel
theorem dX2_emptyPlace_21 : decode cX2_emptyPlace 21 = .ok (.getfield 28, 3) := by decide +kernel
theorem dX2_emptyPlace_24 : decode cX2_emptyPlace 24 = .ok (.iload_n 1, 1) := by decide +kernel
theorem dX2_emptyPlace_25 : decode cX2_emptyPlace 25 = .ok (.iconst 4, 1) := by decide +kernel
theorem dX2_emptyPlace_26 : decode cX2_emptyPlace 26 = .ok (.iconst (-1), 1) := by decide +kernel
theorem dX2_emptyPlace_27 : decode cX2_emptyPlace 27 = .ok (.invokevirtual 37, 3) := by decide +kernel
theorem dX2_emptyPlace_30 : decode cX2_emptyPlace 30 = .ok (.return_, 1) := by decide +kernel
set_option maxRecDepth 20000 in
theorem ggX2_placesWith_X3_at : GoodIn wsX2_placesWith wsX3_at := goodIn_r _ [7, 8, 9, 22, 23] (by decide +kernel) (by decide +kernel)
set_option maxRecDepth 20000 in
theorem gX2_placesWith_X3_at : GoodIn wsX2_placesWith (wsV RX2 73 RX3 yX3_at wsX3_at) := goodIn_app (goodIn_of _ (by decide +kernel)) ggX2_placesWith_X3_at
theorem dX2_placesWith_0 : decode cX2_placesWith 0 = .ok (.iconst 0, 1) := by decide +kernel
theorem dX2_placesWith_1 : decode cX2_placesWith 1 = .ok (.istore_n 2, 1) := by decide +kernel
theorem dX2_placesWith_2 : decode cX2_placesWith 2 = .ok (.iconst 0, 1) := by decide +kernel
theorem dX2_placesWith_3 : decode cX2_placesWith 3 = .ok (.istore_n 3, 1) := by decide +kernel
theorem dX2_placesWith_4 : decode cX2_placesWith 4 = .ok (.iload_n 3, 1) := by decide +kernel
theorem dX2_placesWith_5 : decode cX2_placesWith 5 = .ok (.aload_n 0, 1) := by decide +kernel
theorem dX2_placesWith_6 : decode cX2_placesWith 6 = .ok (.getfield 44, 3) := by decide +kernel
theorem dX2_placesWith_9 : decode cX2_placesWith 9 = .ok (.if_icmp .ge 25, 3) := by decide +kernel
theorem dX2_placesWith_12 : decode cX2_placesWith 12 = .ok (.aload_n 0, 1) := by decide +kernel
theorem dX2_placesWith_13 : decode cX2_placesWith 13 = .ok (.getfield 28, 3) := by decide +kernel
theorem dX2_placesWith_16 : decode cX2_placesWith 16 = .ok (.iload_n 3, 1) := by decide +kernel
theorem dX2_placesWith_17 : decode cX2_placesWith 17 = .ok (.iconst 2, 1) := by decide +kernel
theorem dX2_placesWith_18 : decode cX2_placesWith 18 = .ok (.invokevirtual 73, 3) := by decide +kernel
theorem dX2_placesWith_21 : decode cX2_placesWith 21 = .ok (.iload_n 1, 1) := by decide +kernel
theorem dX2_placesWith_22 : decode cX2_placesWith 22 = .ok (.if_icmp .ne 6, 3) := by decide +kernel
theorem dX2_placesWith_25 : decode cX2_placesWith 25 = .ok (.iinc 2 1, 3) := by decide +kernel
theorem dX2_placesWith_28 : decode cX2_placesWith 28 = .ok (.iinc 3 1, 3) := by decide +kernel
theorem dX2_placesWith_31 : decode cX2_placesWith 31 = .ok (.goto (-27), 3) := by decide +kernel
theorem dX2_placesWith_34 : decode cX2_placesWith 34 = .ok (.iload_n 2, 1) := by decide +kernel
theorem dX2_placesWith_35 : decode cX2_placesWith 35 = .ok (.ireturn, 1) := by decide +kernel
set_option maxRecDepth 20000 in
theorem ggX2_allRight_X2_placesWith : GoodIn wsX2_allRight wsX2_placesWith := goodIn_r _ [6, 1, 7, 8, 9, 10, 11, 12, 13, 14, 15, 16, 17, 18, 19, 20, 21, 22, 23, 24, 25, 26, 27, 28] (by decide +kernel) (by decide +kernel)
set_option maxRecDepth 20000 in
theorem gX2_allRight_X2_placesWith : GoodIn wsX2_allRight (wsV RX2 77 RX2 yX2_placesWith wsX2_placesWith) := goodIn_app (goodIn_of _ (by decide +kernel)) ggX2_allRight_X2_placesWith
theorem dX2_allRight_0 : decode cX2_allRight 0 = .ok (.aload_n 0, 1) := by decide +kernel
theorem dX2_allRight_1 : decode cX2_allRight 1 = .ok (.iconst 1, 1) := by decide +kernel
theorem dX2_allRight_2 : decode cX2_allRight 2 = .ok (.invokevirtual 77, 3) := by decide +kernel
theorem dX2_allRight_5 : decode cX2_allRight 5 = .ok (.aload_n 0, 1) := by decide +kernel
theorem dX2_allRight_6 : decode cX2_allRight 6 = .ok (.getfield 44, 3) := by decide +kernel
theorem dX2_allRight_9 : decode cX2_allRight 9 = .ok (.if_icmp .ne 7, 3) := by decide +kernel
theorem dX2_allRight_12 : decode cX2_allRight 12 = .ok (.iconst 1, 1) := by decide +kernel
theorem dX2_allRight_13 : decode cX2_allRight 13 = .ok (.goto 4, 3) := by decide +kernel
theorem dX2_allRight_16 : decode cX2_allRight 16 = .ok (.iconst 0, 1) := by decide +kernel
theorem dX2_allRight_17 : decode cX2_allRight 17 = .ok (.ireturn, 1) := by decide +kernel
set_option maxRecDepth 20000 in
theorem ggX2_misses_X3_sum : GoodIn wsX2_misses wsX3_sum := goodIn_r _ [6, 7, 8, 9, 5, 10, 11, 12, 25, 26] (by decide +kernel) (by decide +kernel)
set_option maxRecDepth 20000 in
theorem gX2_misses_X3_sum : GoodIn wsX2_misses (wsV RX2 81 RX3 yX3_sum wsX3_sum) := goodIn_app (goodIn_of _ (by decide +kernel)) ggX2_misses_X3_sum
theorem dX2_misses_0 : decode cX2_misses 0 = .ok (.aload_n 0, 1) := by decide +kernel
theorem dX2_misses_1 : decode cX2_misses 1 = .ok (.getfield 31, 3) := by decide +kernel
theorem dX2_misses_4 : decode cX2_misses 4 = .ok (.iconst 4, 1) := by decide +kernel
theorem dX2_misses_5 : decode cX2_misses 5 = .ok (.iconst 2, 1) := by decide +kernel
theorem dX2_misses_6 : decode cX2_misses 6 = .ok (.invokevirtual 81, 3) := by decide +kernel
theorem dX2_misses_9 : decode cX2_misses 9 = .ok (.ireturn, 1) := by decide +kernel
set_option maxRecDepth 20000 in
theorem ggX2_stockedKinds_X3_at : GoodIn wsX2_stockedKinds wsX3_at := goodIn_r _ [7, 8, 9, 22, 23] (by decide +kernel) (by decide +kernel)
set_option maxRecDepth 20000 in
theorem gX2_stockedKinds_X3_at : GoodIn wsX2_stockedKinds (wsV RX2 73 RX3 yX3_at wsX3_at) := goodIn_app (goodIn_of _ (by decide +kernel)) ggX2_stockedKinds_X3_at
theorem dX2_stockedKinds_0 : decode cX2_stockedKinds 0 = .ok (.iconst 0, 1) := by decide +kernel
theorem dX2_stockedKinds_1 : decode cX2_stockedKinds 1 = .ok (.istore_n 1, 1) := by decide +kernel
theorem dX2_stockedKinds_2 : decode cX2_stockedKinds 2 = .ok (.iconst 0, 1) := by decide +kernel
theorem dX2_stockedKinds_3 : decode cX2_stockedKinds 3 = .ok (.istore_n 2, 1) := by decide +kernel
theorem dX2_stockedKinds_4 : decode cX2_stockedKinds 4 = .ok (.iload_n 2, 1) := by decide +kernel
theorem dX2_stockedKinds_5 : decode cX2_stockedKinds 5 = .ok (.aload_n 0, 1) := by decide +kernel
theorem dX2_stockedKinds_6 : decode cX2_stockedKinds 6 = .ok (.getfield 41, 3) := by decide +kernel
theorem dX2_stockedKinds_9 : decode cX2_stockedKinds 9 = .ok (.if_icmp .ge 35, 3) := by decide +kernel
theorem dX2_stockedKinds_12 : decode cX2_stockedKinds 12 = .ok (.aload_n 0, 1) := by decide +kernel
theorem dX2_stockedKinds_13 : decode cX2_stockedKinds 13 = .ok (.getfield 24, 3) := by decide +kernel
theorem dX2_stockedKinds_16 : decode cX2_stockedKinds 16 = .ok (.iload_n 2, 1) := by decide +kernel
theorem dX2_stockedKinds_17 : decode cX2_stockedKinds 17 = .ok (.iconst 2, 1) := by decide +kernel
theorem dX2_stockedKinds_18 : decode cX2_stockedKinds 18 = .ok (.invokevirtual 73, 3) := by decide +kernel
theorem dX2_stockedKinds_21 : decode cX2_stockedKinds 21 = .ok (.ifCond .le 17, 3) := by decide +kernel
theorem dX2_stockedKinds_24 : decode cX2_stockedKinds 24 = .ok (.iload_n 1, 1) := by decide +kernel
theorem dX2_stockedKinds_25 : decode cX2_stockedKinds 25 = .ok (.iconst 1, 1) := by decide +kernel
theorem dX2_stockedKinds_26 : decode cX2_stockedKinds 26 = .ok (.aload_n 0, 1) := by decide +kernel
theorem dX2_stockedKinds_27 : decode cX2_stockedKinds 27 = .ok (.getfield 24, 3) := by decide +kernel
theorem dX2_stockedKinds_30 : decode cX2_stockedKinds 30 = .ok (.iload_n 2, 1) := by decide +kernel
theorem dX2_stockedKinds_31 : decode cX2_stockedKinds 31 = .ok (.iconst 1, 1) := by decide +kernel
theorem dX2_stockedKinds_32 : decode cX2_stockedKinds 32 = .ok (.invokevirtual 73, 3) := by decide +kernel
theorem dX2_stockedKinds_35 : decode cX2_stockedKinds 35 = .ok (.ishl, 1) := by decide +kernel
theorem dX2_stockedKinds_36 : decode cX2_stockedKinds 36 = .ok (.ior, 1) := by decide +kernel
theorem dX2_stockedKinds_37 : decode cX2_stockedKinds 37 = .ok (.istore_n 1, 1) := by decide +kernel
theorem dX2_stockedKinds_38 : decode cX2_stockedKinds 38 = .ok (.iinc 2 1, 3) := by decide +kernel
theorem dX2_stockedKinds_41 : decode cX2_stockedKinds 41 = .ok (.goto (-37), 3) := by decide +kernel
theorem dX2_stockedKinds_44 : decode cX2_stockedKinds 44 = .ok (.iload_n 1, 1) := by decide +kernel
theorem dX2_stockedKinds_45 : decode cX2_stockedKinds 45 = .ok (.ireturn, 1) := by decide +kernel
set_option maxRecDepth 20000 in
theorem ggX2_favorite_X3_at : GoodIn wsX2_favorite wsX3_at := goodIn_r _ [7, 8, 9, 33, 34] (by decide +kernel) (by decide +kernel)
set_option maxRecDepth 20000 in
theorem gX2_favorite_X3_at : GoodIn wsX2_favorite (wsV RX2 73 RX3 yX3_at wsX3_at) := goodIn_app (goodIn_of _ (by decide +kernel)) ggX2_favorite_X3_at
set_option maxRecDepth 20000 in
theorem ggX2_favorite_X2_isBetter : GoodIn wsX2_favorite wsX2_isBetter := goodIn_r _ [14, 15, 2, 16, 17, 18, 19, 20, 3, 4, 5, 6, 7, 8, 9, 21, 22, 23, 24, 25, 26, 27, 28, 29, 30, 31, 32, 33, 34] (by decide +kernel) (by decide +kernel)
set_option maxRecDepth 20000 in
theorem gX2_favorite_X2_isBetter : GoodIn wsX2_favorite (wsV RX2 84 RX2 yX2_isBetter wsX2_isBetter) := goodIn_app (goodIn_of _ (by decide +kernel)) ggX2_favorite_X2_isBetter
theorem dX2_favorite_0 : decode cX2_favorite 0 = .ok (.iconst (-1), 1) := by decide +kernel
theorem dX2_favorite_1 : decode cX2_favorite 1 = .ok (.istore_n 3, 1) := by decide +kernel
theorem dX2_favorite_2 : decode cX2_favorite 2 = .ok (.iconst 0, 1) := by decide +kernel
theorem dX2_favorite_3 : decode cX2_favorite 3 = .ok (.istore 4, 2) := by decide +kernel
theorem dX2_favorite_5 : decode cX2_favorite 5 = .ok (.iload 4, 2) := by decide +kernel
theorem dX2_favorite_7 : decode cX2_favorite 7 = .ok (.aload_n 0, 1) := by decide +kernel
theorem dX2_favorite_8 : decode cX2_favorite 8 = .ok (.getfield 41, 3) := by decide +kernel
theorem dX2_favorite_11 : decode cX2_favorite 11 = .ok (.if_icmp .ge 67, 3) := by decide +kernel
theorem dX2_favorite_14 : decode cX2_favorite 14 = .ok (.aload_n 0, 1) := by decide +kernel
theorem dX2_favorite_15 : decode cX2_favorite 15 = .ok (.getfield 24, 3) := by decide +kernel
theorem dX2_favorite_18 : decode cX2_favorite 18 = .ok (.iload 4, 2) := by decide +kernel
theorem dX2_favorite_20 : decode cX2_favorite 20 = .ok (.iconst 1, 1) := by decide +kernel
theorem dX2_favorite_21 : decode cX2_favorite 21 = .ok (.invokevirtual 73, 3) := by decide +kernel
theorem dX2_favorite_24 : decode cX2_favorite 24 = .ok (.iload_n 2, 1) := by decide +kernel
theorem dX2_favorite_25 : decode cX2_favorite 25 = .ok (.if_icmp .ne 20, 3) := by decide +kernel
theorem dX2_favorite_28 : decode cX2_favorite 28 = .ok (.aload_n 0, 1) := by decide +kernel
theorem dX2_favorite_29 : decode cX2_favorite 29 = .ok (.getfield 24, 3) := by decide +kernel
theorem dX2_favorite_32 : decode cX2_favorite 32 = .ok (.iload 4, 2) := by decide +kernel
theorem dX2_favorite_34 : decode cX2_favorite 34 = .ok (.iconst 2, 1) := by decide +kernel
theorem dX2_favorite_35 : decode cX2_favorite 35 = .ok (.invokevirtual 73, 3) := by decide +kernel
theorem dX2_favorite_38 : decode cX2_favorite 38 = .ok (.ifCond .le 7, 3) := by decide +kernel
theorem dX2_favorite_41 : decode cX2_favorite 41 = .ok (.iconst 1, 1) := by decide +kernel
theorem dX2_favorite_42 : decode cX2_favorite 42 = .ok (.goto 4, 3) := by decide +kernel
theorem dX2_favorite_45 : decode cX2_favorite 45 = .ok (.iconst 0, 1) := by decide +kernel
theorem dX2_favorite_46 : decode cX2_favorite 46 = .ok (.istore 5, 2) := by decide +kernel
theorem dX2_favorite_48 : decode cX2_favorite 48 = .ok (.iload 5, 2) := by decide +kernel
theorem dX2_favorite_50 : decode cX2_favorite 50 = .ok (.ifCond .eq 22, 3) := by decide +kernel
theorem dX2_favorite_53 : decode cX2_favorite 53 = .ok (.iload_n 3, 1) := by decide +kernel
theorem dX2_favorite_54 : decode cX2_favorite 54 = .ok (.iconst (-1), 1) := by decide +kernel
theorem dX2_favorite_55 : decode cX2_favorite 55 = .ok (.if_icmp .eq 14, 3) := by decide +kernel
theorem dX2_favorite_58 : decode cX2_favorite 58 = .ok (.aload_n 0, 1) := by decide +kernel
theorem dX2_favorite_59 : decode cX2_favorite 59 = .ok (.iload_n 1, 1) := by decide +kernel
theorem dX2_favorite_60 : decode cX2_favorite 60 = .ok (.iload 4, 2) := by decide +kernel
theorem dX2_favorite_62 : decode cX2_favorite 62 = .ok (.iload_n 3, 1) := by decide +kernel
theorem dX2_favorite_63 : decode cX2_favorite 63 = .ok (.invokevirtual 84, 3) := by decide +kernel
theorem dX2_favorite_66 : decode cX2_favorite 66 = .ok (.ifCond .eq 6, 3) := by decide +kernel
theorem dX2_favorite_69 : decode cX2_favorite 69 = .ok (.iload 4, 2) := by decide +kernel
theorem dX2_favorite_71 : decode cX2_favorite 71 = .ok (.istore_n 3, 1) := by decide +kernel
theorem dX2_favorite_72 : decode cX2_favorite 72 = .ok (.iinc 4 1, 3) := by decide +kernel
theorem dX2_favorite_75 : decode cX2_favorite 75 = .ok (.goto (-70), 3) := by decide +kernel
theorem dX2_favorite_78 : decode cX2_favorite 78 = .ok (.iload_n 3, 1) := by decide +kernel
theorem dX2_favorite_79 : decode cX2_favorite 79 = .ok (.ireturn, 1) := by decide +kernel
set_option maxRecDepth 20000 in
theorem ggX2_isBetter_X3_at : GoodIn wsX2_isBetter wsX3_at := goodIn_r _ [12, 13, 14, 27, 28] (by decide +kernel) (by decide +kernel)
set_option maxRecDepth 20000 in
theorem gX2_isBetter_X3_at : GoodIn wsX2_isBetter (wsV RX2 73 RX3 yX3_at wsX3_at) := goodIn_app (goodIn_of _ (by decide +kernel)) ggX2_isBetter_X3_at
theorem dX2_isBetter_0 : decode cX2_isBetter 0 = .ok (.aload_n 0, 1) := by decide +kernel
theorem dX2_isBetter_1 : decode cX2_isBetter 1 = .ok (.getfield 34, 3) := by decide +kernel
theorem dX2_isBetter_4 : decode cX2_isBetter 4 = .ok (.iload_n 1, 1) := by decide +kernel
theorem dX2_isBetter_5 : decode cX2_isBetter 5 = .ok (.iload_n 2, 1) := by decide +kernel
theorem dX2_isBetter_6 : decode cX2_isBetter 6 = .ok (.invokevirtual 73, 3) := by decide +kernel
theorem dX2_isBetter_9 : decode cX2_isBetter 9 = .ok (.aload_n 0, 1) := by decide +kernel
theorem dX2_isBetter_10 : decode cX2_isBetter 10 = .ok (.getfield 34, 3) := by decide +kernel
theorem dX2_isBetter_13 : decode cX2_isBetter 13 = .ok (.iload_n 1, 1) := by decide +kernel
theorem dX2_isBetter_14 : decode cX2_isBetter 14 = .ok (.iload_n 3, 1) := by decide +kernel
theorem dX2_isBetter_15 : decode cX2_isBetter 15 = .ok (.invokevirtual 73, 3) := by decide +kernel
theorem dX2_isBetter_18 : decode cX2_isBetter 18 = .ok (.isub, 1) := by decide +kernel
theorem dX2_isBetter_19 : decode cX2_isBetter 19 = .ok (.istore 4, 2) := by decide +kernel
theorem dX2_isBetter_21 : decode cX2_isBetter 21 = .ok (.iload 4, 2) := by decide +kernel
theorem dX2_isBetter_23 : decode cX2_isBetter 23 = .ok (.ifCond .eq 14, 3) := by decide +kernel
theorem dX2_isBetter_26 : decode cX2_isBetter 26 = .ok (.iload 4, 2) := by decide +kernel
theorem dX2_isBetter_28 : decode cX2_isBetter 28 = .ok (.ifCond .le 7, 3) := by decide +kernel
theorem dX2_isBetter_31 : decode cX2_isBetter 31 = .ok (.iconst 1, 1) := by decide +kernel
theorem dX2_isBetter_32 : decode cX2_isBetter 32 = .ok (.goto 4, 3) := by decide +kernel
theorem dX2_isBetter_35 : decode cX2_isBetter 35 = .ok (.iconst 0, 1) := by decide +kernel
theorem dX2_isBetter_36 : decode cX2_isBetter 36 = .ok (.ireturn, 1) := by decide +kernel
theorem dX2_isBetter_37 : decode cX2_isBetter 37 = .ok (.aload_n 0, 1) := by decide +kernel
theorem dX2_isBetter_38 : decode cX2_isBetter 38 = .ok (.getfield 24, 3) := by decide +kernel
theorem dX2_isBetter_41 : decode cX2_isBetter 41 = .ok (.iload_n 2, 1) := by decide +kernel
theorem dX2_isBetter_42 : decode cX2_isBetter 42 = .ok (.iconst 0, 1) := by decide +kernel
theorem dX2_isBetter_43 : decode cX2_isBetter 43 = .ok (.invokevirtual 73, 3) := by decide +kernel
theorem dX2_isBetter_46 : decode cX2_isBetter 46 = .ok (.aload_n 0, 1) := by decide +kernel
theorem dX2_isBetter_47 : decode cX2_isBetter 47 = .ok (.getfield 50, 3) := by decide +kernel
theorem dX2_isBetter_50 : decode cX2_isBetter 50 = .ok (.isub, 1) := by decide +kernel
theorem dX2_isBetter_51 : decode cX2_isBetter 51 = .ok (.invokestatic 88, 3) := by decide +kernel
theorem dX2_isBetter_54 : decode cX2_isBetter 54 = .ok (.aload_n 0, 1) := by decide +kernel
theorem dX2_isBetter_55 : decode cX2_isBetter 55 = .ok (.getfield 24, 3) := by decide +kernel
theorem dX2_isBetter_58 : decode cX2_isBetter 58 = .ok (.iload_n 3, 1) := by decide +kernel
theorem dX2_isBetter_59 : decode cX2_isBetter 59 = .ok (.iconst 0, 1) := by decide +kernel
theorem dX2_isBetter_60 : decode cX2_isBetter 60 = .ok (.invokevirtual 73, 3) := by decide +kernel
theorem dX2_isBetter_63 : decode cX2_isBetter 63 = .ok (.aload_n 0, 1) := by decide +kernel
theorem dX2_isBetter_64 : decode cX2_isBetter 64 = .ok (.getfield 50, 3) := by decide +kernel
theorem dX2_isBetter_67 : decode cX2_isBetter 67 = .ok (.isub, 1) := by decide +kernel
theorem dX2_isBetter_68 : decode cX2_isBetter 68 = .ok (.invokestatic 88, 3) := by decide +kernel
theorem dX2_isBetter_71 : decode cX2_isBetter 71 = .ok (.if_icmp .ge 7, 3) := by decide +kernel
theorem dX2_isBetter_74 : decode cX2_isBetter 74 = .ok (.iconst 1, 1) := by decide +kernel
theorem dX2_isBetter_75 : decode cX2_isBetter 75 = .ok (.goto 4, 3) := by decide +kernel
theorem dX2_isBetter_78 : decode cX2_isBetter 78 = .ok (.iconst 0, 1) := by decide +kernel
theorem dX2_isBetter_79 : decode cX2_isBetter 79 = .ok (.ireturn, 1) := by decide +kernel
set_option maxRecDepth 20000 in
theorem ggX2_trustSpread_X3_at : GoodIn wsX2_trustSpread wsX3_at := goodIn_r _ [13, 14, 15, 28, 29] (by decide +kernel) (by decide +kernel)
set_option maxRecDepth 20000 in
theorem gX2_trustSpread_X3_at : GoodIn wsX2_trustSpread (wsV RX2 73 RX3 yX3_at wsX3_at) := goodIn_app (goodIn_of _ (by decide +kernel)) ggX2_trustSpread_X3_at
theorem dX2_trustSpread_0 : decode cX2_trustSpread 0 = .ok (.aload_n 0, 1) := by decide +kernel
theorem dX2_trustSpread_1 : decode cX2_trustSpread 1 = .ok (.getfield 34, 3) := by decide +kernel
theorem dX2_trustSpread_4 : decode cX2_trustSpread 4 = .ok (.iconst 0, 1) := by decide +kernel
theorem dX2_trustSpread_5 : decode cX2_trustSpread 5 = .ok (.iload_n 1, 1) := by decide +kernel
theorem dX2_trustSpread_6 : decode cX2_trustSpread 6 = .ok (.invokevirtual 73, 3) := by decide +kernel
theorem dX2_trustSpread_9 : decode cX2_trustSpread 9 = .ok (.istore_n 2, 1) := by decide +kernel
theorem dX2_trustSpread_10 : decode cX2_trustSpread 10 = .ok (.iload_n 2, 1) := by decide +kernel
theorem dX2_trustSpread_11 : decode cX2_trustSpread 11 = .ok (.istore_n 3, 1) := by decide +kernel
theorem dX2_trustSpread_12 : decode cX2_trustSpread 12 = .ok (.iconst 1, 1) := by decide +kernel
theorem dX2_trustSpread_13 : decode cX2_trustSpread 13 = .ok (.istore 4, 2) := by decide +kernel
theorem dX2_trustSpread_15 : decode cX2_trustSpread 15 = .ok (.iload 4, 2) := by decide +kernel
theorem dX2_trustSpread_17 : decode cX2_trustSpread 17 = .ok (.iconst 4, 1) := by decide +kernel
theorem dX2_trustSpread_18 : decode cX2_trustSpread 18 = .ok (.if_icmp .ge 39, 3) := by decide +kernel
theorem dX2_trustSpread_21 : decode cX2_trustSpread 21 = .ok (.iload_n 2, 1) := by decide +kernel
theorem dX2_trustSpread_22 : decode cX2_trustSpread 22 = .ok (.aload_n 0, 1) := by decide +kernel
theorem dX2_trustSpread_23 : decode cX2_trustSpread 23 = .ok (.getfield 34, 3) := by decide +kernel
theorem dX2_trustSpread_26 : decode cX2_trustSpread 26 = .ok (.iload 4, 2) := by decide +kernel
theorem dX2_trustSpread_28 : decode cX2_trustSpread 28 = .ok (.iload_n 1, 1) := by decide +kernel
theorem dX2_trustSpread_29 : decode cX2_trustSpread 29 = .ok (.invokevirtual 73, 3) := by decide +kernel
theorem dX2_trustSpread_32 : decode cX2_trustSpread 32 = .ok (.invokestatic 93, 3) := by decide +kernel
theorem dX2_trustSpread_35 : decode cX2_trustSpread 35 = .ok (.istore_n 2, 1) := by decide +kernel
theorem dX2_trustSpread_36 : decode cX2_trustSpread 36 = .ok (.iload_n 3, 1) := by decide +kernel
theorem dX2_trustSpread_37 : decode cX2_trustSpread 37 = .ok (.aload_n 0, 1) := by decide +kernel
theorem dX2_trustSpread_38 : decode cX2_trustSpread 38 = .ok (.getfield 34, 3) := by decide +kernel
theorem dX2_trustSpread_41 : decode cX2_trustSpread 41 = .ok (.iload 4, 2) := by decide +kernel
theorem dX2_trustSpread_43 : decode cX2_trustSpread 43 = .ok (.iload_n 1, 1) := by decide +kernel
theorem dX2_trustSpread_44 : decode cX2_trustSpread 44 = .ok (.invokevirtual 73, 3) := by decide +kernel
theorem dX2_trustSpread_47 : decode cX2_trustSpread 47 = .ok (.invokestatic 96, 3) := by decide +kernel
theorem dX2_trustSpread_50 : decode cX2_trustSpread 50 = .ok (.istore_n 3, 1) := by decide +kernel
theorem dX2_trustSpread_51 : decode cX2_trustSpread 51 = .ok (.iinc 4 1, 3) := by decide +kernel
theorem dX2_trustSpread_54 : decode cX2_trustSpread 54 = .ok (.goto (-39), 3) := by decide +kernel
theorem dX2_trustSpread_57 : decode cX2_trustSpread 57 = .ok (.iload_n 3, 1) := by decide +kernel
theorem dX2_trustSpread_58 : decode cX2_trustSpread 58 = .ok (.iload_n 2, 1) := by decide +kernel
theorem dX2_trustSpread_59 : decode cX2_trustSpread 59 = .ok (.isub, 1) := by decide +kernel
theorem dX2_trustSpread_60 : decode cX2_trustSpread 60 = .ok (.ireturn, 1) := by decide +kernel
set_option maxRecDepth 20000 in
theorem ggX2_blame_X3_at : GoodIn wsX2_blame wsX3_at := goodIn_r _ [11, 12, 13, 30, 31] (by decide +kernel) (by decide +kernel)
set_option maxRecDepth 20000 in
theorem gX2_blame_X3_at : GoodIn wsX2_blame (wsV RX2 73 RX3 yX3_at wsX3_at) := goodIn_app (goodIn_of _ (by decide +kernel)) ggX2_blame_X3_at
set_option maxRecDepth 20000 in
theorem ggX2_blame_X3_put : GoodIn wsX2_blame wsX3_put := goodIn_r _ [17, 12, 13, 30, 31] (by decide +kernel) (by decide +kernel)
set_option maxRecDepth 20000 in
theorem gX2_blame_X3_put : GoodIn wsX2_blame (wsV RX2 37 RX3 yX3_put wsX3_put) := goodIn_app (goodIn_of _ (by decide +kernel)) ggX2_blame_X3_put
theorem dX2_blame_0 : decode cX2_blame 0 = .ok (.aload_n 0, 1) := by decide +kernel
theorem dX2_blame_1 : decode cX2_blame 1 = .ok (.getfield 34, 3) := by decide +kernel
theorem dX2_blame_4 : decode cX2_blame 4 = .ok (.iload_n 1, 1) := by decide +kernel
theorem dX2_blame_5 : decode cX2_blame 5 = .ok (.iload_n 2, 1) := by decide +kernel
theorem dX2_blame_6 : decode cX2_blame 6 = .ok (.invokevirtual 73, 3) := by decide +kernel
theorem dX2_blame_9 : decode cX2_blame 9 = .ok (.aload_n 0, 1) := by decide +kernel
theorem dX2_blame_10 : decode cX2_blame 10 = .ok (.getfield 15, 3) := by decide +kernel
theorem dX2_blame_13 : decode cX2_blame 13 = .ok (.iconst 1, 1) := by decide +kernel
theorem dX2_blame_14 : decode cX2_blame 14 = .ok (.iaload, 1) := by decide +kernel
theorem dX2_blame_15 : decode cX2_blame 15 = .ok (.isub, 1) := by decide +kernel
theorem dX2_blame_16 : decode cX2_blame 16 = .ok (.istore_n 3, 1) := by decide +kernel
theorem dX2_blame_17 : decode cX2_blame 17 = .ok (.aload_n 0, 1) := by decide +kernel
theorem dX2_blame_18 : decode cX2_blame 18 = .ok (.getfield 34, 3) := by decide +kernel
theorem dX2_blame_21 : decode cX2_blame 21 = .ok (.iload_n 1, 1) := by decide +kernel
theorem dX2_blame_22 : decode cX2_blame 22 = .ok (.iload_n 2, 1) := by decide +kernel
theorem dX2_blame_23 : decode cX2_blame 23 = .ok (.iload_n 3, 1) := by decide +kernel
theorem dX2_blame_24 : decode cX2_blame 24 = .ok (.iconst 0, 1) := by decide +kernel
theorem dX2_blame_25 : decode cX2_blame 25 = .ok (.invokestatic 96, 3) := by decide +kernel
theorem dX2_blame_28 : decode cX2_blame 28 = .ok (.invokevirtual 37, 3) := by decide +kernel
theorem dX2_blame_31 : decode cX2_blame 31 = .ok (.return_, 1) := by decide +kernel
set_option maxRecDepth 20000 in
theorem ggX2_praise_X3_at : GoodIn wsX2_praise wsX3_at := goodIn_r _ [11, 12, 13, 30, 31] (by decide +kernel) (by decide +kernel)
set_option maxRecDepth 20000 in
theorem gX2_praise_X3_at : GoodIn wsX2_praise (wsV RX2 73 RX3 yX3_at wsX3_at) := goodIn_app (goodIn_of _ (by decide +kernel)) ggX2_praise_X3_at
set_option maxRecDepth 20000 in
theorem ggX2_praise_X3_put : GoodIn wsX2_praise wsX3_put := goodIn_r _ [17, 12, 13, 30, 31] (by decide +kernel) (by decide +kernel)
set_option maxRecDepth 20000 in
theorem gX2_praise_X3_put : GoodIn wsX2_praise (wsV RX2 37 RX3 yX3_put wsX3_put) := goodIn_app (goodIn_of _ (by decide +kernel)) ggX2_praise_X3_put
theorem dX2_praise_0 : decode cX2_praise 0 = .ok (.aload_n 0, 1) := by decide +kernel
theorem dX2_praise_1 : decode cX2_praise 1 = .ok (.getfield 34, 3) := by decide +kernel
theorem dX2_praise_4 : decode cX2_praise 4 = .ok (.iload_n 1, 1) := by decide +kernel
theorem dX2_praise_5 : decode cX2_praise 5 = .ok (.iload_n 2, 1) := by decide +kernel
theorem dX2_praise_6 : decode cX2_praise 6 = .ok (.invokevirtual 73, 3) := by decide +kernel
theorem dX2_praise_9 : decode cX2_praise 9 = .ok (.aload_n 0, 1) := by decide +kernel
theorem dX2_praise_10 : decode cX2_praise 10 = .ok (.getfield 15, 3) := by decide +kernel
theorem dX2_praise_13 : decode cX2_praise 13 = .ok (.iconst 2, 1) := by decide +kernel
theorem dX2_praise_14 : decode cX2_praise 14 = .ok (.iaload, 1) := by decide +kernel
theorem dX2_praise_15 : decode cX2_praise 15 = .ok (.iadd, 1) := by decide +kernel
theorem dX2_praise_16 : decode cX2_praise 16 = .ok (.istore_n 3, 1) := by decide +kernel
theorem dX2_praise_17 : decode cX2_praise 17 = .ok (.aload_n 0, 1) := by decide +kernel
theorem dX2_praise_18 : decode cX2_praise 18 = .ok (.getfield 34, 3) := by decide +kernel
theorem dX2_praise_21 : decode cX2_praise 21 = .ok (.iload_n 1, 1) := by decide +kernel
theorem dX2_praise_22 : decode cX2_praise 22 = .ok (.iload_n 2, 1) := by decide +kernel
theorem dX2_praise_23 : decode cX2_praise 23 = .ok (.iload_n 3, 1) := by decide +kernel
theorem dX2_praise_24 : decode cX2_praise 24 = .ok (.bipush 100, 2) := by decide +kernel
theorem dX2_praise_26 : decode cX2_praise 26 = .ok (.invokestatic 93, 3) := by decide +kernel
theorem dX2_praise_29 : decode cX2_praise 29 = .ok (.invokevirtual 37, 3) := by decide +kernel
theorem dX2_praise_32 : decode cX2_praise 32 = .ok (.return_, 1) := by decide +kernel
theorem dX2_goTo_0 : decode cX2_goTo 0 = .ok (.aload_n 0, 1) := by decide +kernel
theorem dX2_goTo_1 : decode cX2_goTo 1 = .ok (.dup, 1) := by decide +kernel
theorem dX2_goTo_2 : decode cX2_goTo 2 = .ok (.getfield 47, 3) := by decide +kernel
theorem dX2_goTo_5 : decode cX2_goTo 5 = .ok (.iload_n 1, 1) := by decide +kernel
theorem dX2_goTo_6 : decode cX2_goTo 6 = .ok (.aload_n 0, 1) := by decide +kernel
theorem dX2_goTo_7 : decode cX2_goTo 7 = .ok (.getfield 50, 3) := by decide +kernel
theorem dX2_goTo_10 : decode cX2_goTo 10 = .ok (.isub, 1) := by decide +kernel
theorem dX2_goTo_11 : decode cX2_goTo 11 = .ok (.invokestatic 88, 3) := by decide +kernel
theorem dX2_goTo_14 : decode cX2_goTo 14 = .ok (.iload_n 2, 1) := by decide +kernel
theorem dX2_goTo_15 : decode cX2_goTo 15 = .ok (.iadd, 1) := by decide +kernel
theorem dX2_goTo_16 : decode cX2_goTo 16 = .ok (.iadd, 1) := by decide +kernel
theorem dX2_goTo_17 : decode cX2_goTo 17 = .ok (.putfield 47, 3) := by decide +kernel
theorem dX2_goTo_20 : decode cX2_goTo 20 = .ok (.aload_n 0, 1) := by decide +kernel
theorem dX2_goTo_21 : decode cX2_goTo 21 = .ok (.iload_n 1, 1) := by decide +kernel
theorem dX2_goTo_22 : decode cX2_goTo 22 = .ok (.putfield 50, 3) := by decide +kernel
theorem dX2_goTo_25 : decode cX2_goTo 25 = .ok (.return_, 1) := by decide +kernel
theorem dX2_drawPercent_0 : decode cX2_drawPercent 0 = .ok (.ldc2_w 99, 3) := by decide +kernel
theorem dX2_drawPercent_3 : decode cX2_drawPercent 3 = .ok (.aload_n 0, 1) := by decide +kernel
theorem dX2_drawPercent_4 : decode cX2_drawPercent 4 = .ok (.getfield 9, 3) := by decide +kernel
theorem dX2_drawPercent_7 : decode cX2_drawPercent 7 = .ok (.i2l, 1) := by decide +kernel
theorem dX2_drawPercent_8 : decode cX2_drawPercent 8 = .ok (.lmul, 1) := by decide +kernel
theorem dX2_drawPercent_9 : decode cX2_drawPercent 9 = .ok (.ldc2_w 101, 3) := by decide +kernel
theorem dX2_drawPercent_12 : decode cX2_drawPercent 12 = .ok (.ladd, 1) := by decide +kernel
theorem dX2_drawPercent_13 : decode cX2_drawPercent 13 = .ok (.lstore_n 1, 1) := by decide +kernel
theorem dX2_drawPercent_14 : decode cX2_drawPercent 14 = .ok (.aload_n 0, 1) := by decide +kernel
theorem dX2_drawPercent_15 : decode cX2_drawPercent 15 = .ok (.lload_n 1, 1) := by decide +kernel
theorem dX2_drawPercent_16 : decode cX2_drawPercent 16 = .ok (.ldc2_w 103, 3) := by decide +kernel
theorem dX2_drawPercent_19 : decode cX2_drawPercent 19 = .ok (.lrem, 1) := by decide +kernel
theorem dX2_drawPercent_20 : decode cX2_drawPercent 20 = .ok (.l2i, 1) := by decide +kernel
theorem dX2_drawPercent_21 : decode cX2_drawPercent 21 = .ok (.putfield 9, 3) := by decide +kernel
theorem dX2_drawPercent_24 : decode cX2_drawPercent 24 = .ok (.aload_n 0, 1) := by decide +kernel
theorem dX2_drawPercent_25 : decode cX2_drawPercent 25 = .ok (.getfield 9, 3) := by decide +kernel
theorem dX2_drawPercent_28 : decode cX2_drawPercent 28 = .ok (.ldc 105, 2) := by decide +kernel
theorem dX2_drawPercent_30 : decode cX2_drawPercent 30 = .ok (.idiv, 1) := by decide +kernel
theorem dX2_drawPercent_31 : decode cX2_drawPercent 31 = .ok (.bipush 100, 2) := by decide +kernel
theorem dX2_drawPercent_33 : decode cX2_drawPercent 33 = .ok (.irem, 1) := by decide +kernel
theorem dX2_drawPercent_34 : decode cX2_drawPercent 34 = .ok (.ireturn, 1) := by decide +kernel
set_option maxRecDepth 20000 in
theorem ggX2_takeOffWrong_X3_at : GoodIn wsX2_takeOffWrong wsX3_at := goodIn_r _ [9, 10, 11, 43, 44] (by decide +kernel) (by decide +kernel)
set_option maxRecDepth 20000 in
theorem gX2_takeOffWrong_X3_at : GoodIn wsX2_takeOffWrong (wsV RX2 73 RX3 yX3_at wsX3_at) := goodIn_app (goodIn_of _ (by decide +kernel)) ggX2_takeOffWrong_X3_at
set_option maxRecDepth 20000 in
theorem ggX2_takeOffWrong_X2_blame : GoodIn wsX2_takeOffWrong wsX2_blame := goodIn_r _ [16, 17, 18, 19, 20, 21, 22, 5, 6, 7, 8, 9, 10, 11, 23, 24, 25, 26, 31, 32, 33, 34, 35, 36, 37, 38, 39, 40, 41, 42, 43, 44] (by decide +kernel) (by decide +kernel)
set_option maxRecDepth 20000 in
theorem gX2_takeOffWrong_X2_blame : GoodIn wsX2_takeOffWrong (wsV RX2 106 RX2 yX2_blame wsX2_blame) := goodIn_app (goodIn_of _ (by decide +kernel)) ggX2_takeOffWrong_X2_blame
set_option maxRecDepth 20000 in
theorem ggX2_takeOffWrong_X2_emptyPlace : GoodIn wsX2_takeOffWrong wsX2_emptyPlace := goodIn_r _ [30, 2, 23, 24, 25, 8, 26, 10, 11, 31, 32, 33, 34, 35, 36, 37, 38, 39, 40, 41, 42, 43, 44] (by decide +kernel) (by decide +kernel)
set_option maxRecDepth 20000 in
theorem gX2_takeOffWrong_X2_emptyPlace : GoodIn wsX2_takeOffWrong (wsV RX2 69 RX2 yX2_emptyPlace wsX2_emptyPlace) := goodIn_app (goodIn_of _ (by decide +kernel)) ggX2_takeOffWrong_X2_emptyPlace
theorem dX2_takeOffWrong_0 : decode cX2_takeOffWrong 0 = .ok (.iconst 0, 1) := by decide +kernel
theorem dX2_takeOffWrong_1 : decode cX2_takeOffWrong 1 = .ok (.istore_n 1, 1) := by decide +kernel
theorem dX2_takeOffWrong_2 : decode cX2_takeOffWrong 2 = .ok (.iconst 0, 1) := by decide +kernel
theorem dX2_takeOffWrong_3 : decode cX2_takeOffWrong 3 = .ok (.istore_n 2, 1) := by decide +kernel
theorem dX2_takeOffWrong_4 : decode cX2_takeOffWrong 4 = .ok (.iload_n 2, 1) := by decide +kernel
theorem dX2_takeOffWrong_5 : decode cX2_takeOffWrong 5 = .ok (.aload_n 0, 1) := by decide +kernel
theorem dX2_takeOffWrong_6 : decode cX2_takeOffWrong 6 = .ok (.getfield 44, 3) := by decide +kernel
theorem dX2_takeOffWrong_9 : decode cX2_takeOffWrong 9 = .ok (.if_icmp .ge 52, 3) := by decide +kernel
theorem dX2_takeOffWrong_12 : decode cX2_takeOffWrong 12 = .ok (.aload_n 0, 1) := by decide +kernel
theorem dX2_takeOffWrong_13 : decode cX2_takeOffWrong 13 = .ok (.getfield 28, 3) := by decide +kernel
theorem dX2_takeOffWrong_16 : decode cX2_takeOffWrong 16 = .ok (.iload_n 2, 1) := by decide +kernel
theorem dX2_takeOffWrong_17 : decode cX2_takeOffWrong 17 = .ok (.iconst 2, 1) := by decide +kernel
theorem dX2_takeOffWrong_18 : decode cX2_takeOffWrong 18 = .ok (.invokevirtual 73, 3) := by decide +kernel
theorem dX2_takeOffWrong_21 : decode cX2_takeOffWrong 21 = .ok (.iconst 2, 1) := by decide +kernel
theorem dX2_takeOffWrong_22 : decode cX2_takeOffWrong 22 = .ok (.if_icmp .ne 33, 3) := by decide +kernel
theorem dX2_takeOffWrong_25 : decode cX2_takeOffWrong 25 = .ok (.aload_n 0, 1) := by decide +kernel
theorem dX2_takeOffWrong_26 : decode cX2_takeOffWrong 26 = .ok (.aload_n 0, 1) := by decide +kernel
theorem dX2_takeOffWrong_27 : decode cX2_takeOffWrong 27 = .ok (.getfield 28, 3) := by decide +kernel
theorem dX2_takeOffWrong_30 : decode cX2_takeOffWrong 30 = .ok (.iload_n 2, 1) := by decide +kernel
theorem dX2_takeOffWrong_31 : decode cX2_takeOffWrong 31 = .ok (.iconst 3, 1) := by decide +kernel
theorem dX2_takeOffWrong_32 : decode cX2_takeOffWrong 32 = .ok (.invokevirtual 73, 3) := by decide +kernel
theorem dX2_takeOffWrong_35 : decode cX2_takeOffWrong 35 = .ok (.aload_n 0, 1) := by decide +kernel
theorem dX2_takeOffWrong_36 : decode cX2_takeOffWrong 36 = .ok (.getfield 28, 3) := by decide +kernel
theorem dX2_takeOffWrong_39 : decode cX2_takeOffWrong 39 = .ok (.iload_n 2, 1) := by decide +kernel
theorem dX2_takeOffWrong_40 : decode cX2_takeOffWrong 40 = .ok (.iconst 4, 1) := by decide +kernel
theorem dX2_takeOffWrong_41 : decode cX2_takeOffWrong 41 = .ok (.invokevirtual 73, 3) := by decide +kernel
theorem dX2_takeOffWrong_44 : decode cX2_takeOffWrong 44 = .ok (.invokevirtual 106, 3) := by decide +kernel
theorem dX2_takeOffWrong_47 : decode cX2_takeOffWrong 47 = .ok (.aload_n 0, 1) := by decide +kernel
theorem dX2_takeOffWrong_48 : decode cX2_takeOffWrong 48 = .ok (.iload_n 2, 1) := by decide +kernel
theorem dX2_takeOffWrong_49 : decode cX2_takeOffWrong 49 = .ok (.invokevirtual 69, 3) := by decide +kernel
theorem dX2_takeOffWrong_52 : decode cX2_takeOffWrong 52 = .ok (.iinc 1 1, 3) := by decide +kernel
theorem dX2_takeOffWrong_55 : decode cX2_takeOffWrong 55 = .ok (.iinc 2 1, 3) := by decide +kernel
theorem dX2_takeOffWrong_58 : decode cX2_takeOffWrong 58 = .ok (.goto (-54), 3) := by decide +kernel
theorem dX2_takeOffWrong_61 : decode cX2_takeOffWrong 61 = .ok (.aload_n 0, 1) := by decide +kernel
theorem dX2_takeOffWrong_62 : decode cX2_takeOffWrong 62 = .ok (.dup, 1) := by decide +kernel
theorem dX2_takeOffWrong_63 : decode cX2_takeOffWrong 63 = .ok (.getfield 56, 3) := by decide +kernel
theorem dX2_takeOffWrong_66 : decode cX2_takeOffWrong 66 = .ok (.iload_n 1, 1) := by decide +kernel
theorem dX2_takeOffWrong_67 : decode cX2_takeOffWrong 67 = .ok (.iadd, 1) := by decide +kernel
theorem dX2_takeOffWrong_68 : decode cX2_takeOffWrong 68 = .ok (.putfield 56, 3) := by decide +kernel
theorem dX2_takeOffWrong_71 : decode cX2_takeOffWrong 71 = .ok (.aload_n 0, 1) := by decide +kernel
theorem dX2_takeOffWrong_72 : decode cX2_takeOffWrong 72 = .ok (.dup, 1) := by decide +kernel
theorem dX2_takeOffWrong_73 : decode cX2_takeOffWrong 73 = .ok (.getfield 47, 3) := by decide +kernel
theorem dX2_takeOffWrong_76 : decode cX2_takeOffWrong 76 = .ok (.bipush 10, 2) := by decide +kernel
theorem dX2_takeOffWrong_78 : decode cX2_takeOffWrong 78 = .ok (.iadd, 1) := by decide +kernel
theorem dX2_takeOffWrong_79 : decode cX2_takeOffWrong 79 = .ok (.putfield 47, 3) := by decide +kernel
theorem dX2_takeOffWrong_82 : decode cX2_takeOffWrong 82 = .ok (.iload_n 1, 1) := by decide +kernel
theorem dX2_takeOffWrong_83 : decode cX2_takeOffWrong 83 = .ok (.ireturn, 1) := by decide +kernel
theorem dX3_init_0 : decode cX3_init 0 = .ok (.aload_n 0, 1) := by decide +kernel
theorem dX3_init_1 : decode cX3_init 1 = .ok (.invokespecial 3, 3) := by decide +kernel
theorem dX3_init_4 : decode cX3_init 4 = .ok (.aload_n 0, 1) := by decide +kernel
theorem dX3_init_5 : decode cX3_init 5 = .ok (.aload_n 1, 1) := by decide +kernel
theorem dX3_init_6 : decode cX3_init 6 = .ok (.putfield 9, 3) := by decide +kernel
theorem dX3_init_9 : decode cX3_init 9 = .ok (.aload_n 0, 1) := by decide +kernel
theorem dX3_init_10 : decode cX3_init 10 = .ok (.iload_n 2, 1) := by decide +kernel
theorem dX3_init_11 : decode cX3_init 11 = .ok (.putfield 15, 3) := by decide +kernel
theorem dX3_init_14 : decode cX3_init 14 = .ok (.return_, 1) := by decide +kernel
theorem dX3_at_0 : decode cX3_at 0 = .ok (.iload_n 1, 1) := by decide +kernel
theorem dX3_at_1 : decode cX3_at 1 = .ok (.aload_n 0, 1) := by decide +kernel
theorem dX3_at_2 : decode cX3_at 2 = .ok (.getfield 15, 3) := by decide +kernel
theorem dX3_at_5 : decode cX3_at 5 = .ok (.imul, 1) := by decide +kernel
theorem dX3_at_6 : decode cX3_at 6 = .ok (.iload_n 2, 1) := by decide +kernel
theorem dX3_at_7 : decode cX3_at 7 = .ok (.iadd, 1) := by decide +kernel
theorem dX3_at_8 : decode cX3_at 8 = .ok (.istore_n 3, 1) := by decide +kernel
theorem dX3_at_9 : decode cX3_at 9 = .ok (.iload_n 2, 1) := by decide +kernel
theorem dX3_at_10 : decode cX3_at 10 = .ok (.ifCond .lt 28, 3) := by decide +kernel
theorem dX3_at_13 : decode cX3_at 13 = .ok (.iload_n 2, 1) := by decide +kernel
theorem dX3_at_14 : decode cX3_at 14 = .ok (.aload_n 0, 1) := by decide +kernel
theorem dX3_at_15 : decode cX3_at 15 = .ok (.getfield 15, 3) := by decide +kernel
theorem dX3_at_18 : decode cX3_at 18 = .ok (.if_icmp .ge 20, 3) := by decide +kernel
theorem dX3_at_21 : decode cX3_at 21 = .ok (.iload_n 3, 1) := by decide +kernel
theorem dX3_at_22 : decode cX3_at 22 = .ok (.ifCond .lt 16, 3) := by decide +kernel
theorem dX3_at_25 : decode cX3_at 25 = .ok (.iload_n 3, 1) := by decide +kernel
theorem dX3_at_26 : decode cX3_at 26 = .ok (.aload_n 0, 1) := by decide +kernel
theorem dX3_at_27 : decode cX3_at 27 = .ok (.getfield 9, 3) := by decide +kernel
theorem dX3_at_30 : decode cX3_at 30 = .ok (.arraylength, 1) := by decide +kernel
theorem dX3_at_31 : decode cX3_at 31 = .ok (.if_icmp .ge 7, 3) := by decide +kernel
theorem dX3_at_34 : decode cX3_at 34 = .ok (.iconst 1, 1) := by decide +kernel
theorem dX3_at_35 : decode cX3_at 35 = .ok (.goto 4, 3) := by decide +kernel
theorem dX3_at_38 : decode cX3_at 38 = .ok (.iconst 0, 1) := by decide +kernel
theorem dX3_at_39 : decode cX3_at 39 = .ok (.istore 4, 2) := by decide +kernel
theorem dX3_at_41 : decode cX3_at 41 = .ok (.iload 4, 2) := by decide +kernel
theorem dX3_at_43 : decode cX3_at 43 = .ok (.ifCond .eq 12, 3) := by decide +kernel
theorem dX3_at_46 : decode cX3_at 46 = .ok (.aload_n 0, 1) := by decide +kernel
theorem dX3_at_47 : decode cX3_at 47 = .ok (.getfield 9, 3) := by decide +kernel
theorem dX3_at_50 : decode cX3_at 50 = .ok (.iload_n 3, 1) := by decide +kernel
theorem dX3_at_51 : decode cX3_at 51 = .ok (.iaload, 1) := by decide +kernel
theorem dX3_at_52 : decode cX3_at 52 = .ok (.goto 4, 3) := by decide +kernel
theorem dX3_at_55 : decode cX3_at 55 = .ok (.iconst (-1), 1) := by decide +kernel
theorem dX3_at_56 : decode cX3_at 56 = .ok (.ireturn, 1) := by decide +kernel
theorem dX3_put_0 : decode cX3_put 0 = .ok (.iload_n 1, 1) := by decide +kernel
theorem dX3_put_1 : decode cX3_put 1 = .ok (.aload_n 0, 1) := by decide +kernel
theorem dX3_put_2 : decode cX3_put 2 = .ok (.getfield 15, 3) := by decide +kernel
theorem dX3_put_5 : decode cX3_put 5 = .ok (.imul, 1) := by decide +kernel
theorem dX3_put_6 : decode cX3_put 6 = .ok (.iload_n 2, 1) := by decide +kernel
theorem dX3_put_7 : decode cX3_put 7 = .ok (.iadd, 1) := by decide +kernel
theorem dX3_put_8 : decode cX3_put 8 = .ok (.istore 4, 2) := by decide +kernel
theorem dX3_put_10 : decode cX3_put 10 = .ok (.iload_n 2, 1) := by decide +kernel
theorem dX3_put_11 : decode cX3_put 11 = .ok (.ifCond .lt 30, 3) := by decide +kernel
theorem dX3_put_14 : decode cX3_put 14 = .ok (.iload_n 2, 1) := by decide +kernel
theorem dX3_put_15 : decode cX3_put 15 = .ok (.aload_n 0, 1) := by decide +kernel
theorem dX3_put_16 : decode cX3_put 16 = .ok (.getfield 15, 3) := by decide +kernel
theorem dX3_put_19 : decode cX3_put 19 = .ok (.if_icmp .ge 22, 3) := by decide +kernel
theorem dX3_put_22 : decode cX3_put 22 = .ok (.iload 4, 2) := by decide +kernel
theorem dX3_put_24 : decode cX3_put 24 = .ok (.ifCond .lt 17, 3) := by decide +kernel
theorem dX3_put_27 : decode cX3_put 27 = .ok (.iload 4, 2) := by decide +kernel
theorem dX3_put_29 : decode cX3_put 29 = .ok (.aload_n 0, 1) := by decide +kernel
theorem dX3_put_30 : decode cX3_put 30 = .ok (.getfield 9, 3) := by decide +kernel
theorem dX3_put_33 : decode cX3_put 33 = .ok (.arraylength, 1) := by decide +kernel
theorem dX3_put_34 : decode cX3_put 34 = .ok (.if_icmp .ge 7, 3) := by decide +kernel
theorem dX3_put_37 : decode cX3_put 37 = .ok (.iconst 1, 1) := by decide +kernel
theorem dX3_put_38 : decode cX3_put 38 = .ok (.goto 4, 3) := by decide +kernel
theorem dX3_put_41 : decode cX3_put 41 = .ok (.iconst 0, 1) := by decide +kernel
theorem dX3_put_42 : decode cX3_put 42 = .ok (.istore 5, 2) := by decide +kernel
theorem dX3_put_44 : decode cX3_put 44 = .ok (.iload 5, 2) := by decide +kernel
theorem dX3_put_46 : decode cX3_put 46 = .ok (.ifCond .eq 11, 3) := by decide +kernel
theorem dX3_put_49 : decode cX3_put 49 = .ok (.aload_n 0, 1) := by decide +kernel
theorem dX3_put_50 : decode cX3_put 50 = .ok (.getfield 9, 3) := by decide +kernel
theorem dX3_put_53 : decode cX3_put 53 = .ok (.iload 4, 2) := by decide +kernel
theorem dX3_put_55 : decode cX3_put 55 = .ok (.iload_n 3, 1) := by decide +kernel
theorem dX3_put_56 : decode cX3_put 56 = .ok (.iastore, 1) := by decide +kernel
theorem dX3_put_57 : decode cX3_put 57 = .ok (.return_, 1) := by decide +kernel
set_option maxRecDepth 20000 in
theorem ggX3_add_X3_at : GoodIn wsX3_add wsX3_at := goodIn_r _ [5, 6, 7, 12, 13] (by decide +kernel) (by decide +kernel)
set_option maxRecDepth 20000 in
theorem gX3_add_X3_at : GoodIn wsX3_add (wsV RX3 19 RX3 yX3_at wsX3_at) := goodIn_app (goodIn_of _ (by decide +kernel)) ggX3_add_X3_at
set_option maxRecDepth 20000 in
theorem ggX3_add_X3_put : GoodIn wsX3_add wsX3_put := goodIn_r _ [11, 6, 7, 12, 13] (by decide +kernel) (by decide +kernel)
set_option maxRecDepth 20000 in
theorem gX3_add_X3_put : GoodIn wsX3_add (wsV RX3 23 RX3 yX3_put wsX3_put) := goodIn_app (goodIn_of _ (by decide +kernel)) ggX3_add_X3_put
theorem dX3_add_0 : decode cX3_add 0 = .ok (.aload_n 0, 1) := by decide +kernel
theorem dX3_add_1 : decode cX3_add 1 = .ok (.iload_n 1, 1) := by decide +kernel
theorem dX3_add_2 : decode cX3_add 2 = .ok (.iload_n 2, 1) := by decide +kernel
theorem dX3_add_3 : decode cX3_add 3 = .ok (.aload_n 0, 1) := by decide +kernel
theorem dX3_add_4 : decode cX3_add 4 = .ok (.iload_n 1, 1) := by decide +kernel
theorem dX3_add_5 : decode cX3_add 5 = .ok (.iload_n 2, 1) := by decide +kernel
theorem dX3_add_6 : decode cX3_add 6 = .ok (.invokevirtual 19, 3) := by decide +kernel
theorem dX3_add_9 : decode cX3_add 9 = .ok (.iload_n 3, 1) := by decide +kernel
theorem dX3_add_10 : decode cX3_add 10 = .ok (.iadd, 1) := by decide +kernel
theorem dX3_add_11 : decode cX3_add 11 = .ok (.invokevirtual 23, 3) := by decide +kernel
theorem dX3_add_14 : decode cX3_add 14 = .ok (.return_, 1) := by decide +kernel
set_option maxRecDepth 20000 in
theorem ggX3_sum_X3_at : GoodIn wsX3_sum wsX3_at := goodIn_r _ [5, 6, 7, 8, 9] (by decide +kernel) (by decide +kernel)
set_option maxRecDepth 20000 in
theorem gX3_sum_X3_at : GoodIn wsX3_sum (wsV RX3 19 RX3 yX3_at wsX3_at) := goodIn_app (goodIn_of _ (by decide +kernel)) ggX3_sum_X3_at
theorem dX3_sum_0 : decode cX3_sum 0 = .ok (.iconst 0, 1) := by decide +kernel
theorem dX3_sum_1 : decode cX3_sum 1 = .ok (.istore_n 3, 1) := by decide +kernel
theorem dX3_sum_2 : decode cX3_sum 2 = .ok (.iconst 0, 1) := by decide +kernel
theorem dX3_sum_3 : decode cX3_sum 3 = .ok (.istore 4, 2) := by decide +kernel
theorem dX3_sum_5 : decode cX3_sum 5 = .ok (.iload 4, 2) := by decide +kernel
theorem dX3_sum_7 : decode cX3_sum 7 = .ok (.iload_n 1, 1) := by decide +kernel
theorem dX3_sum_8 : decode cX3_sum 8 = .ok (.if_icmp .ge 19, 3) := by decide +kernel
theorem dX3_sum_11 : decode cX3_sum 11 = .ok (.iload_n 3, 1) := by decide +kernel
theorem dX3_sum_12 : decode cX3_sum 12 = .ok (.aload_n 0, 1) := by decide +kernel
theorem dX3_sum_13 : decode cX3_sum 13 = .ok (.iload 4, 2) := by decide +kernel
theorem dX3_sum_15 : decode cX3_sum 15 = .ok (.iload_n 2, 1) := by decide +kernel
theorem dX3_sum_16 : decode cX3_sum 16 = .ok (.invokevirtual 19, 3) := by decide +kernel
theorem dX3_sum_19 : decode cX3_sum 19 = .ok (.iadd, 1) := by decide +kernel
theorem dX3_sum_20 : decode cX3_sum 20 = .ok (.istore_n 3, 1) := by decide +kernel
theorem dX3_sum_21 : decode cX3_sum 21 = .ok (.iinc 4 1, 3) := by decide +kernel
theorem dX3_sum_24 : decode cX3_sum 24 = .ok (.goto (-19), 3) := by decide +kernel
theorem dX3_sum_27 : decode cX3_sum 27 = .ok (.iload_n 3, 1) := by decide +kernel
theorem dX3_sum_28 : decode cX3_sum 28 = .ok (.ireturn, 1) := by decide +kernel
theorem dX3_copyFrom_0 : decode cX3_copyFrom 0 = .ok (.aload_n 1, 1) := by decide +kernel
theorem dX3_copyFrom_1 : decode cX3_copyFrom 1 = .ok (.getfield 9, 3) := by decide +kernel
theorem dX3_copyFrom_4 : decode cX3_copyFrom 4 = .ok (.iconst 0, 1) := by decide +kernel
theorem dX3_copyFrom_5 : decode cX3_copyFrom 5 = .ok (.aload_n 0, 1) := by decide +kernel
theorem dX3_copyFrom_6 : decode cX3_copyFrom 6 = .ok (.getfield 9, 3) := by decide +kernel
theorem dX3_copyFrom_9 : decode cX3_copyFrom 9 = .ok (.iconst 0, 1) := by decide +kernel
theorem dX3_copyFrom_10 : decode cX3_copyFrom 10 = .ok (.aload_n 1, 1) := by decide +kernel
theorem dX3_copyFrom_11 : decode cX3_copyFrom 11 = .ok (.getfield 9, 3) := by decide +kernel
theorem dX3_copyFrom_14 : decode cX3_copyFrom 14 = .ok (.arraylength, 1) := by decide +kernel
theorem dX3_copyFrom_15 : decode cX3_copyFrom 15 = .ok (.aload_n 0, 1) := by decide +kernel
theorem dX3_copyFrom_16 : decode cX3_copyFrom 16 = .ok (.getfield 9, 3) := by decide +kernel
theorem dX3_copyFrom_19 : decode cX3_copyFrom 19 = .ok (.arraylength, 1) := by decide +kernel
