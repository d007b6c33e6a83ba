theorem dX3_copyFrom_20 : decode cX3_copyFrom 20 = .ok (.invokestatic 27, 3) := by decide +kernel
theorem dX3_copyFrom_23 : decode cX3_copyFrom 23 = .ok (.invokestatic 32, 3) := by decide +kernel
theorem dX3_copyFrom_26 : decode cX3_copyFrom 26 = .ok (.return_, 1) := by decide +kernel
theorem dX4_init_0 : decode cX4_init 0 = .ok (.aload_n 0, 1) := by decide +kernel
theorem dX4_init_1 : decode cX4_init 1 = .ok (.invokespecial 3, 3) := by decide +kernel
theorem dX4_init_4 : decode cX4_init 4 = .ok (.aload_n 0, 1) := by decide +kernel
theorem dX4_init_5 : decode cX4_init 5 = .ok (.iconst 4, 1) := by decide +kernel
theorem dX4_init_6 : decode cX4_init 6 = .ok (.newarray .int, 2) := by decide +kernel
theorem dX4_init_8 : decode cX4_init 8 = .ok (.putfield 9, 3) := by decide +kernel
theorem dX4_init_11 : decode cX4_init 11 = .ok (.aload_n 0, 1) := by decide +kernel
theorem dX4_init_12 : decode cX4_init 12 = .ok (.iconst 4, 1) := by decide +kernel
theorem dX4_init_13 : decode cX4_init 13 = .ok (.newarray .int, 2) := by decide +kernel
theorem dX4_init_15 : decode cX4_init 15 = .ok (.putfield 15, 3) := by decide +kernel
theorem dX4_init_18 : decode cX4_init 18 = .ok (.aload_n 0, 1) := by decide +kernel
theorem dX4_init_19 : decode cX4_init 19 = .ok (.iconst 4, 1) := by decide +kernel
theorem dX4_init_20 : decode cX4_init 20 = .ok (.newarray .boolean, 2) := by decide +kernel
theorem dX4_init_22 : decode cX4_init 22 = .ok (.putfield 18, 3) := by decide +kernel
theorem dX4_init_25 : decode cX4_init 25 = .ok (.return_, 1) := by decide +kernel
set_option maxRecDepth 20000 in
theorem ggX4_make_X4_chooseAims : GoodIn wsX4_make wsX4_chooseAims := goodIn_r _ [6, 7, 8, 9, 10, 11, 12, 13, 14, 15, 16, 17, 18, 19, 20, 21, 22, 23, 24, 25, 5, 26, 27, 28, 112, 113, 114, 115, 116, 117, 118, 119, 120, 121, 122, 123, 124, 125, 126, 127, 128] (by decide +kernel) (by decide +kernel)
set_option maxRecDepth 20000 in
theorem gX4_make_X4_chooseAims : GoodIn wsX4_make (wsV RX4 22 RX4 yX4_chooseAims wsX4_chooseAims) := goodIn_app (goodIn_of _ (by decide +kernel)) ggX4_make_X4_chooseAims
set_option maxRecDepth 20000 in
theorem ggX4_make_X4_pickFor : GoodIn wsX4_make wsX4_pickFor := goodIn_r _ [32, 33, 34, 8, 28, 35, 23, 17, 18, 19, 20, 21, 22, 36, 37, 38, 12, 39, 14, 15, 16, 40, 41, 42, 43, 44, 45, 46, 47, 48, 49, 50, 51, 52, 5, 53, 54, 7, 55, 56, 57, 58, 59, 60, 61, 62, 63, 64, 65, 66, 67, 68, 69, 70, 71, 72, 73, 74, 75, 76, 77, 78, 79, 80, 81, 82, 83, 84, 85, 86, 87, 88, 89, 90, 91, 92, 93, 124, 125, 126, 112, 113, 114, 115, 116, 117, 118, 119, 120, 121, 122, 123, 127, 128] (by decide +kernel) (by decide +kernel)
set_option maxRecDepth 20000 in
theorem gX4_make_X4_pickFor : GoodIn wsX4_make (wsV RX4 26 RX4 yX4_pickFor wsX4_pickFor) := goodIn_app (goodIn_of _ (by decide +kernel)) ggX4_make_X4_pickFor
set_option maxRecDepth 20000 in
theorem ggX4_make_X4_lookAtParts : GoodIn wsX4_make wsX4_lookAtParts := goodIn_r _ [97, 33, 35, 34, 54, 7, 69, 70, 71, 12, 72, 73, 74, 75, 76, 77, 60, 61, 62, 19, 63, 64, 17, 18, 20, 21, 22, 65, 66, 67, 68, 78, 79, 80, 81, 44, 82, 83, 84, 48, 85, 16, 86, 124, 125, 126, 112, 113, 114, 115, 116, 117, 118, 119, 120, 121, 122, 123, 127, 128] (by decide +kernel) (by decide +kernel)
set_option maxRecDepth 20000 in
theorem gX4_make_X4_lookAtParts : GoodIn wsX4_make (wsV RX4 30 RX4 yX4_lookAtParts wsX4_lookAtParts) := goodIn_app (goodIn_of _ (by decide +kernel)) ggX4_make_X4_lookAtParts
set_option maxRecDepth 20000 in
theorem ggX4_make_X4_placeParts : GoodIn wsX4_make wsX4_placeParts := goodIn_r _ [101, 33, 102, 103, 104, 5, 105, 8, 28, 34, 7, 23, 17, 18, 19, 20, 21, 22, 55, 56, 57, 12, 58, 59, 45, 46, 47, 48, 49, 106, 66, 67, 68, 60, 61, 62, 63, 64, 65, 124, 125, 126, 112, 113, 114, 115, 116, 117, 118, 119, 120, 121, 122, 123, 127, 128] (by decide +kernel) (by decide +kernel)
set_option maxRecDepth 20000 in
theorem gX4_make_X4_placeParts : GoodIn wsX4_make (wsV RX4 33 RX4 yX4_placeParts wsX4_placeParts) := goodIn_app (goodIn_of _ (by decide +kernel)) ggX4_make_X4_placeParts
set_option maxRecDepth 20000 in
theorem ggX4_make_X4_gossip : GoodIn wsX4_make wsX4_gossip := goodIn_r _ [109, 110, 111, 35, 23, 17, 18, 19, 20, 21, 22, 60, 61, 62, 63, 64, 65, 66, 67, 68, 112, 113, 114, 115, 116, 117, 118, 119, 120, 121, 122, 123, 127, 128] (by decide +kernel) (by decide +kernel)
set_option maxRecDepth 20000 in
theorem gX4_make_X4_gossip : GoodIn wsX4_make (va_wsS RX4 37 yX4_gossip wsX4_gossip) := goodIn_app (goodIn_of _ (by decide +kernel)) ggX4_make_X4_gossip
theorem dX4_make_0 : decode cX4_make 0 = .ok (.iconst 0, 1) := by decide +kernel
theorem dX4_make_1 : decode cX4_make 1 = .ok (.istore_n 3, 1) := by decide +kernel
theorem dX4_make_2 : decode cX4_make 2 = .ok (.iconst 0, 1) := by decide +kernel
theorem dX4_make_3 : decode cX4_make 3 = .ok (.istore 4, 2) := by decide +kernel
theorem dX4_make_5 : decode cX4_make 5 = .ok (.iload 4, 2) := by decide +kernel
theorem dX4_make_7 : decode cX4_make 7 = .ok (.iload_n 2, 1) := by decide +kernel
theorem dX4_make_8 : decode cX4_make 8 = .ok (.if_icmp .ge 86, 3) := by decide +kernel
theorem dX4_make_11 : decode cX4_make 11 = .ok (.aload_n 0, 1) := by decide +kernel
theorem dX4_make_12 : decode cX4_make 12 = .ok (.aload_n 1, 1) := by decide +kernel
theorem dX4_make_13 : decode cX4_make 13 = .ok (.invokevirtual 22, 3) := by decide +kernel
theorem dX4_make_16 : decode cX4_make 16 = .ok (.iconst 0, 1) := by decide +kernel
theorem dX4_make_17 : decode cX4_make 17 = .ok (.istore 5, 2) := by decide +kernel
theorem dX4_make_19 : decode cX4_make 19 = .ok (.iload 5, 2) := by decide +kernel
theorem dX4_make_21 : decode cX4_make 21 = .ok (.iconst 4, 1) := by decide +kernel
theorem dX4_make_22 : decode cX4_make 22 = .ok (.if_icmp .ge 16, 3) := by decide +kernel
theorem dX4_make_25 : decode cX4_make 25 = .ok (.aload_n 0, 1) := by decide +kernel
theorem dX4_make_26 : decode cX4_make 26 = .ok (.aload_n 1, 1) := by decide +kernel
theorem dX4_make_27 : decode cX4_make 27 = .ok (.iload 5, 2) := by decide +kernel
theorem dX4_make_29 : decode cX4_make 29 = .ok (.invokevirtual 26, 3) := by decide +kernel
theorem dX4_make_32 : decode cX4_make 32 = .ok (.iinc 5 1, 3) := by decide +kernel
theorem dX4_make_35 : decode cX4_make 35 = .ok (.goto (-16), 3) := by decide +kernel
theorem dX4_make_38 : decode cX4_make 38 = .ok (.aload_n 0, 1) := by decide +kernel
theorem dX4_make_39 : decode cX4_make 39 = .ok (.aload_n 1, 1) := by decide +kernel
theorem dX4_make_40 : decode cX4_make 40 = .ok (.invokevirtual 30, 3) := by decide +kernel
theorem dX4_make_43 : decode cX4_make 43 = .ok (.iload_n 3, 1) := by decide +kernel
theorem dX4_make_44 : decode cX4_make 44 = .ok (.aload_n 0, 1) := by decide +kernel
theorem dX4_make_45 : decode cX4_make 45 = .ok (.aload_n 1, 1) := by decide +kernel
theorem dX4_make_46 : decode cX4_make 46 = .ok (.invokevirtual 33, 3) := by decide +kernel
theorem dX4_make_49 : decode cX4_make 49 = .ok (.iadd, 1) := by decide +kernel
theorem dX4_make_50 : decode cX4_make 50 = .ok (.istore_n 3, 1) := by decide +kernel
theorem dX4_make_51 : decode cX4_make 51 = .ok (.iconst 0, 1) := by decide +kernel
theorem dX4_make_52 : decode cX4_make 52 = .ok (.istore 5, 2) := by decide +kernel
theorem dX4_make_54 : decode cX4_make 54 = .ok (.iload 5, 2) := by decide +kernel
theorem dX4_make_56 : decode cX4_make 56 = .ok (.iconst 1, 1) := by decide +kernel
theorem dX4_make_57 : decode cX4_make 57 = .ok (.iadd, 1) := by decide +kernel
theorem dX4_make_58 : decode cX4_make 58 = .ok (.iconst 4, 1) := by decide +kernel
theorem dX4_make_59 : decode cX4_make 59 = .ok (.if_icmp .ge 19, 3) := by decide +kernel
theorem dX4_make_62 : decode cX4_make 62 = .ok (.aload_n 1, 1) := by decide +kernel
theorem dX4_make_63 : decode cX4_make 63 = .ok (.iload 5, 2) := by decide +kernel
theorem dX4_make_65 : decode cX4_make 65 = .ok (.iload 5, 2) := by decide +kernel
theorem dX4_make_67 : decode cX4_make 67 = .ok (.iconst 1, 1) := by decide +kernel
theorem dX4_make_68 : decode cX4_make 68 = .ok (.iadd, 1) := by decide +kernel
theorem dX4_make_69 : decode cX4_make 69 = .ok (.invokestatic 37, 3) := by decide +kernel
theorem dX4_make_72 : decode cX4_make 72 = .ok (.iinc 5 1, 3) := by decide +kernel
theorem dX4_make_75 : decode cX4_make 75 = .ok (.goto (-21), 3) := by decide +kernel
theorem dX4_make_78 : decode cX4_make 78 = .ok (.aload_n 1, 1) := by decide +kernel
theorem dX4_make_79 : decode cX4_make 79 = .ok (.dup, 1) := by decide +kernel
theorem dX4_make_80 : decode cX4_make 80 = .ok (.getfield 41, 3) := by decide +kernel
theorem dX4_make_83 : decode cX4_make 83 = .ok (.iconst 1, 1) := by decide +kernel
theorem dX4_make_84 : decode cX4_make 84 = .ok (.iadd, 1) := by decide +kernel
theorem dX4_make_85 : decode cX4_make 85 = .ok (.putfield 41, 3) := by decide +kernel
theorem dX4_make_88 : decode cX4_make 88 = .ok (.iinc 4 1, 3) := by decide +kernel
theorem dX4_make_91 : decode cX4_make 91 = .ok (.goto (-86), 3) := by decide +kernel
theorem dX4_make_94 : decode cX4_make 94 = .ok (.iload_n 3, 1) := by decide +kernel
theorem dX4_make_95 : decode cX4_make 95 = .ok (.ireturn, 1) := by decide +kernel
set_option maxRecDepth 20000 in
theorem ggX4_chooseAims_X2_stockedKinds : GoodIn wsX4_chooseAims wsX2_stockedKinds := goodIn_r _ [7, 8, 9, 10, 11, 12, 13, 14, 15, 16, 24, 25, 26, 27, 28, 29, 30, 31, 32, 33, 34, 35, 39, 40] (by decide +kernel) (by decide +kernel)
set_option maxRecDepth 20000 in
theorem gX4_chooseAims_X2_stockedKinds : GoodIn wsX4_chooseAims (wsV RX4 47 RX2 yX2_stockedKinds wsX2_stockedKinds) := goodIn_app (goodIn_of _ (by decide +kernel)) ggX4_chooseAims_X2_stockedKinds
set_option maxRecDepth 20000 in
theorem ggX4_chooseAims_X3_at : GoodIn wsX4_chooseAims wsX3_at := goodIn_r _ [14, 15, 16, 39, 40] (by decide +kernel) (by decide +kernel)
set_option maxRecDepth 20000 in
theorem gX4_chooseAims_X3_at : GoodIn wsX4_chooseAims (wsV RX4 55 RX3 yX3_at wsX3_at) := goodIn_app (goodIn_of _ (by decide +kernel)) ggX4_chooseAims_X3_at
set_option maxRecDepth 20000 in
theorem ggX4_chooseAims_X4_firstAim : GoodIn wsX4_chooseAims wsX4_firstAim := goodIn_r _ [21, 22, 23, 17, 11, 12, 13, 14, 15, 16, 24, 25, 26, 27, 28, 29, 30, 31, 32, 33, 34, 35, 39, 40] (by decide +kernel) (by decide +kernel)
set_option maxRecDepth 20000 in
theorem gX4_chooseAims_X4_firstAim : GoodIn wsX4_chooseAims (va_wsS RX4 61 yX4_firstAim wsX4_firstAim) := goodIn_app (goodIn_of _ (by decide +kernel)) ggX4_chooseAims_X4_firstAim
theorem dX4_chooseAims_0 : decode cX4_chooseAims 0 = .ok (.aload_n 1, 1) := by decide +kernel
theorem dX4_chooseAims_1 : decode cX4_chooseAims 1 = .ok (.invokevirtual 47, 3) := by decide +kernel
theorem dX4_chooseAims_4 : decode cX4_chooseAims 4 = .ok (.istore_n 2, 1) := by decide +kernel
theorem dX4_chooseAims_5 : decode cX4_chooseAims 5 = .ok (.iconst 0, 1) := by decide +kernel
theorem dX4_chooseAims_6 : decode cX4_chooseAims 6 = .ok (.istore_n 3, 1) := by decide +kernel
theorem dX4_chooseAims_7 : decode cX4_chooseAims 7 = .ok (.iconst 0, 1) := by decide +kernel
theorem dX4_chooseAims_8 : decode cX4_chooseAims 8 = .ok (.istore 4, 2) := by decide +kernel
theorem dX4_chooseAims_10 : decode cX4_chooseAims 10 = .ok (.iload 4, 2) := by decide +kernel
theorem dX4_chooseAims_12 : decode cX4_chooseAims 12 = .ok (.iconst 4, 1) := by decide +kernel
theorem dX4_chooseAims_13 : decode cX4_chooseAims 13 = .ok (.if_icmp .ge 50, 3) := by decide +kernel
theorem dX4_chooseAims_16 : decode cX4_chooseAims 16 = .ok (.aload_n 1, 1) := by decide +kernel
theorem dX4_chooseAims_17 : decode cX4_chooseAims 17 = .ok (.aload_n 1, 1) := by decide +kernel
theorem dX4_chooseAims_18 : decode cX4_chooseAims 18 = .ok (.getfield 51, 3) := by decide +kernel
theorem dX4_chooseAims_21 : decode cX4_chooseAims 21 = .ok (.iload 4, 2) := by decide +kernel
theorem dX4_chooseAims_23 : decode cX4_chooseAims 23 = .ok (.iconst 0, 1) := by decide +kernel
theorem dX4_chooseAims_24 : decode cX4_chooseAims 24 = .ok (.invokevirtual 55, 3) := by decide +kernel
theorem dX4_chooseAims_27 : decode cX4_chooseAims 27 = .ok (.iload_n 2, 1) := by decide +kernel
theorem dX4_chooseAims_28 : decode cX4_chooseAims 28 = .ok (.iand, 1) := by decide +kernel
theorem dX4_chooseAims_29 : decode cX4_chooseAims 29 = .ok (.iload_n 3, 1) := by decide +kernel
theorem dX4_chooseAims_30 : decode cX4_chooseAims 30 = .ok (.invokestatic 61, 3) := by decide +kernel
theorem dX4_chooseAims_33 : decode cX4_chooseAims 33 = .ok (.istore 5, 2) := by decide +kernel
theorem dX4_chooseAims_35 : decode cX4_chooseAims 35 = .ok (.aload_n 0, 1) := by decide +kernel
theorem dX4_chooseAims_36 : decode cX4_chooseAims 36 = .ok (.getfield 9, 3) := by decide +kernel
theorem dX4_chooseAims_39 : decode cX4_chooseAims 39 = .ok (.iload 4, 2) := by decide +kernel
theorem dX4_chooseAims_41 : decode cX4_chooseAims 41 = .ok (.iload 5, 2) := by decide +kernel
theorem dX4_chooseAims_43 : decode cX4_chooseAims 43 = .ok (.iastore, 1) := by decide +kernel
theorem dX4_chooseAims_44 : decode cX4_chooseAims 44 = .ok (.iload 5, 2) := by decide +kernel
theorem dX4_chooseAims_46 : decode cX4_chooseAims 46 = .ok (.iconst (-1), 1) := by decide +kernel
theorem dX4_chooseAims_47 : decode cX4_chooseAims 47 = .ok (.if_icmp .eq 10, 3) := by decide +kernel
theorem dX4_chooseAims_50 : decode cX4_chooseAims 50 = .ok (.iload_n 3, 1) := by decide +kernel
theorem dX4_chooseAims_51 : decode cX4_chooseAims 51 = .ok (.iconst 1, 1) := by decide +kernel
theorem dX4_chooseAims_52 : decode cX4_chooseAims 52 = .ok (.iload 5, 2) := by decide +kernel
theorem dX4_chooseAims_54 : decode cX4_chooseAims 54 = .ok (.ishl, 1) := by decide +kernel
theorem dX4_chooseAims_55 : decode cX4_chooseAims 55 = .ok (.ior, 1) := by decide +kernel
theorem dX4_chooseAims_56 : decode cX4_chooseAims 56 = .ok (.istore_n 3, 1) := by decide +kernel
theorem dX4_chooseAims_57 : decode cX4_chooseAims 57 = .ok (.iinc 4 1, 3) := by decide +kernel
theorem dX4_chooseAims_60 : decode cX4_chooseAims 60 = .ok (.goto (-50), 3) := by decide +kernel
theorem dX4_chooseAims_63 : decode cX4_chooseAims 63 = .ok (.return_, 1) := by decide +kernel
set_option maxRecDepth 20000 in
theorem ggX4_firstAim_X3_at : GoodIn wsX4_firstAim wsX3_at := goodIn_r _ [7, 8, 9, 22, 23] (by decide +kernel) (by decide +kernel)
set_option maxRecDepth 20000 in
theorem gX4_firstAim_X3_at : GoodIn wsX4_firstAim (wsV RX4 55 RX3 yX3_at wsX3_at) := goodIn_app (goodIn_of _ (by decide +kernel)) ggX4_firstAim_X3_at
theorem dX4_firstAim_0 : decode cX4_firstAim 0 = .ok (.iconst 0, 1) := by decide +kernel
theorem dX4_firstAim_1 : decode cX4_firstAim 1 = .ok (.istore_n 3, 1) := by decide +kernel
theorem dX4_firstAim_2 : decode cX4_firstAim 2 = .ok (.iload_n 3, 1) := by decide +kernel
theorem dX4_firstAim_3 : decode cX4_firstAim 3 = .ok (.aload_n 0, 1) := by decide +kernel
theorem dX4_firstAim_4 : decode cX4_firstAim 4 = .ok (.getfield 65, 3) := by decide +kernel
theorem dX4_firstAim_7 : decode cX4_firstAim 7 = .ok (.if_icmp .ge 60, 3) := by decide +kernel
theorem dX4_firstAim_10 : decode cX4_firstAim 10 = .ok (.aload_n 0, 1) := by decide +kernel
theorem dX4_firstAim_11 : decode cX4_firstAim 11 = .ok (.getfield 68, 3) := by decide +kernel
theorem dX4_firstAim_14 : decode cX4_firstAim 14 = .ok (.iload_n 3, 1) := by decide +kernel
theorem dX4_firstAim_15 : decode cX4_firstAim 15 = .ok (.iconst 2, 1) := by decide +kernel
theorem dX4_firstAim_16 : decode cX4_firstAim 16 = .ok (.invokevirtual 55, 3) := by decide +kernel
theorem dX4_firstAim_19 : decode cX4_firstAim 19 = .ok (.ifCond .ne 15, 3) := by decide +kernel
theorem dX4_firstAim_22 : decode cX4_firstAim 22 = .ok (.iload_n 2, 1) := by decide +kernel
theorem dX4_firstAim_23 : decode cX4_firstAim 23 = .ok (.iload_n 3, 1) := by decide +kernel
theorem dX4_firstAim_24 : decode cX4_firstAim 24 = .ok (.ishr, 1) := by decide +kernel
theorem dX4_firstAim_25 : decode cX4_firstAim 25 = .ok (.iconst 1, 1) := by decide +kernel
theorem dX4_firstAim_26 : decode cX4_firstAim 26 = .ok (.iand, 1) := by decide +kernel
theorem dX4_firstAim_27 : decode cX4_firstAim 27 = .ok (.ifCond .ne 7, 3) := by decide +kernel
theorem dX4_firstAim_30 : decode cX4_firstAim 30 = .ok (.iconst 1, 1) := by decide +kernel
theorem dX4_firstAim_31 : decode cX4_firstAim 31 = .ok (.goto 4, 3) := by decide +kernel
theorem dX4_firstAim_34 : decode cX4_firstAim 34 = .ok (.iconst 0, 1) := by decide +kernel
theorem dX4_firstAim_35 : decode cX4_firstAim 35 = .ok (.istore 4, 2) := by decide +kernel
theorem dX4_firstAim_37 : decode cX4_firstAim 37 = .ok (.iload 4, 2) := by decide +kernel
theorem dX4_firstAim_39 : decode cX4_firstAim 39 = .ok (.ifCond .eq 22, 3) := by decide +kernel
theorem dX4_firstAim_42 : decode cX4_firstAim 42 = .ok (.iload_n 1, 1) := by decide +kernel
theorem dX4_firstAim_43 : decode cX4_firstAim 43 = .ok (.aload_n 0, 1) := by decide +kernel
theorem dX4_firstAim_44 : decode cX4_firstAim 44 = .ok (.getfield 68, 3) := by decide +kernel
theorem dX4_firstAim_47 : decode cX4_firstAim 47 = .ok (.iload_n 3, 1) := by decide +kernel
theorem dX4_firstAim_48 : decode cX4_firstAim 48 = .ok (.iconst 1, 1) := by decide +kernel
theorem dX4_firstAim_49 : decode cX4_firstAim 49 = .ok (.invokevirtual 55, 3) := by decide +kernel
theorem dX4_firstAim_52 : decode cX4_firstAim 52 = .ok (.ishr, 1) := by decide +kernel
theorem dX4_firstAim_53 : decode cX4_firstAim 53 = .ok (.iconst 1, 1) := by decide +kernel
theorem dX4_firstAim_54 : decode cX4_firstAim 54 = .ok (.iand, 1) := by decide +kernel
theorem dX4_firstAim_55 : decode cX4_firstAim 55 = .ok (.iconst 1, 1) := by decide +kernel
theorem dX4_firstAim_56 : decode cX4_firstAim 56 = .ok (.if_icmp .ne 5, 3) := by decide +kernel
theorem dX4_firstAim_59 : decode cX4_firstAim 59 = .ok (.iload_n 3, 1) := by decide +kernel
theorem dX4_firstAim_60 : decode cX4_firstAim 60 = .ok (.ireturn, 1) := by decide +kernel
theorem dX4_firstAim_61 : decode cX4_firstAim 61 = .ok (.iinc 3 1, 3) := by decide +kernel
theorem dX4_firstAim_64 : decode cX4_firstAim 64 = .ok (.goto (-62), 3) := by decide +kernel
theorem dX4_firstAim_67 : decode cX4_firstAim 67 = .ok (.iconst (-1), 1) := by decide +kernel
theorem dX4_firstAim_68 : decode cX4_firstAim 68 = .ok (.ireturn, 1) := by decide +kernel
set_option maxRecDepth 20000 in
theorem ggX4_pickFor_X3_at : GoodIn wsX4_pickFor wsX3_at := goodIn_r _ [10, 11, 12, 92, 93] (by decide +kernel) (by decide +kernel)
set_option maxRecDepth 20000 in
theorem gX4_pickFor_X3_at : GoodIn wsX4_pickFor (wsV RX4 55 RX3 yX3_at wsX3_at) := goodIn_app (goodIn_of _ (by decide +kernel)) ggX4_pickFor_X3_at
set_option maxRecDepth 20000 in
theorem ggX4_pickFor_X2_favorite : GoodIn wsX4_pickFor wsX2_favorite := goodIn_r _ [17, 18, 19, 20, 7, 8, 9, 10, 11, 12, 21, 22, 23, 16, 24, 25, 26, 27, 28, 29, 30, 80, 81, 82, 83, 84, 85, 86, 87, 88, 89, 90, 91, 92, 93] (by decide +kernel) (by decide +kernel)
set_option maxRecDepth 20000 in
theorem gX4_pickFor_X2_favorite : GoodIn wsX4_pickFor (wsV RX4 74 RX2 yX2_favorite wsX2_favorite) := goodIn_app (goodIn_of _ (by decide +kernel)) ggX4_pickFor_X2_favorite
set_option maxRecDepth 20000 in
theorem ggX4_pickFor_X4_tryOnce : GoodIn wsX4_pickFor wsX4_tryOnce := goodIn_r _ [35, 36, 37, 1, 2, 6, 7, 8, 9, 10, 11, 12, 38, 39, 40, 16, 41, 42, 26, 27, 28, 29, 30, 43, 44, 45, 46, 47, 48, 49, 50, 51, 52, 53, 54, 55, 56, 57, 58, 59, 60, 61, 62, 63, 64, 25, 65, 66, 67, 68, 20, 69, 70, 71, 72, 73, 74, 75, 76, 80, 81, 82, 83, 84, 85, 86, 87, 88, 89, 90, 91, 77, 78, 79, 92, 93] (by decide +kernel) (by decide +kernel)
set_option maxRecDepth 20000 in
theorem gX4_pickFor_X4_tryOnce : GoodIn wsX4_pickFor (wsV RX4 77 RX4 yX4_tryOnce wsX4_tryOnce) := goodIn_app (goodIn_of _ (by decide +kernel)) ggX4_pickFor_X4_tryOnce
theorem dX4_pickFor_0 : decode cX4_pickFor 0 = .ok (.aload_n 0, 1) := by decide +kernel
theorem dX4_pickFor_1 : decode cX4_pickFor 1 = .ok (.getfield 15, 3) := by decide +kernel
theorem dX4_pickFor_4 : decode cX4_pickFor 4 = .ok (.iload_n 2, 1) := by decide +kernel
theorem dX4_pickFor_5 : decode cX4_pickFor 5 = .ok (.iconst (-1), 1) := by decide +kernel
theorem dX4_pickFor_6 : decode cX4_pickFor 6 = .ok (.iastore, 1) := by decide +kernel
theorem dX4_pickFor_7 : decode cX4_pickFor 7 = .ok (.aload_n 0, 1) := by decide +kernel
theorem dX4_pickFor_8 : decode cX4_pickFor 8 = .ok (.getfield 18, 3) := by decide +kernel
theorem dX4_pickFor_11 : decode cX4_pickFor 11 = .ok (.iload_n 2, 1) := by decide +kernel
theorem dX4_pickFor_12 : decode cX4_pickFor 12 = .ok (.iconst 0, 1) := by decide +kernel
theorem dX4_pickFor_13 : decode cX4_pickFor 13 = .ok (.bastore, 1) := by decide +kernel
theorem dX4_pickFor_14 : decode cX4_pickFor 14 = .ok (.aload_n 0, 1) := by decide +kernel
theorem dX4_pickFor_15 : decode cX4_pickFor 15 = .ok (.getfield 9, 3) := by decide +kernel
theorem dX4_pickFor_18 : decode cX4_pickFor 18 = .ok (.iload_n 2, 1) := by decide +kernel
theorem dX4_pickFor_19 : decode cX4_pickFor 19 = .ok (.iaload, 1) := by decide +kernel
theorem dX4_pickFor_20 : decode cX4_pickFor 20 = .ok (.iconst (-1), 1) := by decide +kernel
theorem dX4_pickFor_21 : decode cX4_pickFor 21 = .ok (.if_icmp .ne 4, 3) := by decide +kernel
theorem dX4_pickFor_24 : decode cX4_pickFor 24 = .ok (.return_, 1) := by decide +kernel
theorem dX4_pickFor_25 : decode cX4_pickFor 25 = .ok (.aload_n 1, 1) := by decide +kernel
theorem dX4_pickFor_26 : decode cX4_pickFor 26 = .ok (.getfield 68, 3) := by decide +kernel
theorem dX4_pickFor_29 : decode cX4_pickFor 29 = .ok (.aload_n 0, 1) := by decide +kernel
theorem dX4_pickFor_30 : decode cX4_pickFor 30 = .ok (.getfield 9, 3) := by decide +kernel
theorem dX4_pickFor_33 : decode cX4_pickFor 33 = .ok (.iload_n 2, 1) := by decide +kernel
theorem dX4_pickFor_34 : decode cX4_pickFor 34 = .ok (.iaload, 1) := by decide +kernel
theorem dX4_pickFor_35 : decode cX4_pickFor 35 = .ok (.iconst 1, 1) := by decide +kernel
theorem dX4_pickFor_36 : decode cX4_pickFor 36 = .ok (.invokevirtual 55, 3) := by decide +kernel
theorem dX4_pickFor_39 : decode cX4_pickFor 39 = .ok (.istore_n 3, 1) := by decide +kernel
theorem dX4_pickFor_40 : decode cX4_pickFor 40 = .ok (.iconst 1, 1) := by decide +kernel
theorem dX4_pickFor_41 : decode cX4_pickFor 41 = .ok (.aload_n 1, 1) := by decide +kernel
theorem dX4_pickFor_42 : decode cX4_pickFor 42 = .ok (.getfield 71, 3) := by decide +kernel
theorem dX4_pickFor_45 : decode cX4_pickFor 45 = .ok (.iconst 0, 1) := by decide +kernel
theorem dX4_pickFor_46 : decode cX4_pickFor 46 = .ok (.iaload, 1) := by decide +kernel
theorem dX4_pickFor_47 : decode cX4_pickFor 47 = .ok (.iadd, 1) := by decide +kernel
theorem dX4_pickFor_48 : decode cX4_pickFor 48 = .ok (.istore 4, 2) := by decide +kernel
theorem dX4_pickFor_50 : decode cX4_pickFor 50 = .ok (.iconst 0, 1) := by decide +kernel
theorem dX4_pickFor_51 : decode cX4_pickFor 51 = .ok (.istore 5, 2) := by decide +kernel
theorem dX4_pickFor_53 : decode cX4_pickFor 53 = .ok (.iload 5, 2) := by decide +kernel
theorem dX4_pickFor_55 : decode cX4_pickFor 55 = .ok (.iload 4, 2) := by decide +kernel
theorem dX4_pickFor_57 : decode cX4_pickFor 57 = .ok (.if_icmp .ge 42, 3) := by decide +kernel
theorem dX4_pickFor_60 : decode cX4_pickFor 60 = .ok (.aload_n 0, 1) := by decide +kernel
theorem dX4_pickFor_61 : decode cX4_pickFor 61 = .ok (.getfield 15, 3) := by decide +kernel
theorem dX4_pickFor_64 : decode cX4_pickFor 64 = .ok (.iload_n 2, 1) := by decide +kernel
theorem dX4_pickFor_65 : decode cX4_pickFor 65 = .ok (.iaload, 1) := by decide +kernel
theorem dX4_pickFor_66 : decode cX4_pickFor 66 = .ok (.iconst (-1), 1) := by decide +kernel
theorem dX4_pickFor_67 : decode cX4_pickFor 67 = .ok (.if_icmp .ne 32, 3) := by decide +kernel
theorem dX4_pickFor_70 : decode cX4_pickFor 70 = .ok (.aload_n 1, 1) := by decide +kernel
theorem dX4_pickFor_71 : decode cX4_pickFor 71 = .ok (.iload_n 2, 1) := by decide +kernel
theorem dX4_pickFor_72 : decode cX4_pickFor 72 = .ok (.iload_n 3, 1) := by decide +kernel
theorem dX4_pickFor_73 : decode cX4_pickFor 73 = .ok (.invokevirtual 74, 3) := by decide +kernel
theorem dX4_pickFor_76 : decode cX4_pickFor 76 = .ok (.istore 6, 2) := by decide +kernel
theorem dX4_pickFor_78 : decode cX4_pickFor 78 = .ok (.iload 6, 2) := by decide +kernel
theorem dX4_pickFor_80 : decode cX4_pickFor 80 = .ok (.iconst (-1), 1) := by decide +kernel
theorem dX4_pickFor_81 : decode cX4_pickFor 81 = .ok (.if_icmp .ne 4, 3) := by decide +kernel
theorem dX4_pickFor_84 : decode cX4_pickFor 84 = .ok (.return_, 1) := by decide +kernel
theorem dX4_pickFor_85 : decode cX4_pickFor 85 = .ok (.aload_n 0, 1) := by decide +kernel
theorem dX4_pickFor_86 : decode cX4_pickFor 86 = .ok (.aload_n 1, 1) := by decide +kernel
theorem dX4_pickFor_87 : decode cX4_pickFor 87 = .ok (.iload_n 2, 1) := by decide +kernel
theorem dX4_pickFor_88 : decode cX4_pickFor 88 = .ok (.iload 6, 2) := by decide +kernel
theorem dX4_pickFor_90 : decode cX4_pickFor 90 = .ok (.invokevirtual 77, 3) := by decide +kernel
theorem dX4_pickFor_93 : decode cX4_pickFor 93 = .ok (.iinc 5 1, 3) := by decide +kernel
theorem dX4_pickFor_96 : decode cX4_pickFor 96 = .ok (.goto (-43), 3) := by decide +kernel
theorem dX4_pickFor_99 : decode cX4_pickFor 99 = .ok (.return_, 1) := by decide +kernel
set_option maxRecDepth 20000 in
theorem ggX4_tryOnce_X3_at : GoodIn wsX4_tryOnce wsX3_at := goodIn_r _ [9, 10, 11, 74, 75] (by decide +kernel) (by decide +kernel)
set_option maxRecDepth 20000 in
theorem gX4_tryOnce_X3_at : GoodIn wsX4_tryOnce (wsV RX4 55 RX3 yX3_at wsX3_at) := goodIn_app (goodIn_of _ (by decide +kernel)) ggX4_tryOnce_X3_at
set_option maxRecDepth 20000 in
theorem ggX4_tryOnce_X2_goTo : GoodIn wsX4_tryOnce wsX2_goTo := goodIn_r _ [16, 17, 18, 19, 20, 21, 22, 59, 60, 61, 62, 63, 64, 65, 66, 67, 68, 69, 70] (by decide +kernel) (by decide +kernel)
set_option maxRecDepth 20000 in
theorem gX4_tryOnce_X2_goTo : GoodIn wsX4_tryOnce (wsV RX4 83 RX2 yX2_goTo wsX2_goTo) := goodIn_app (goodIn_of _ (by decide +kernel)) ggX4_tryOnce_X2_goTo
set_option maxRecDepth 20000 in
theorem ggX4_tryOnce_X3_add : GoodIn wsX4_tryOnce wsX3_add := goodIn_r _ [26, 27, 6, 7, 8, 9, 10, 11, 28, 29, 30, 31, 74, 75] (by decide +kernel) (by decide +kernel)
set_option maxRecDepth 20000 in
theorem gX4_tryOnce_X3_add : GoodIn wsX4_tryOnce (wsV RX4 87 RX3 yX3_add wsX3_add) := goodIn_app (goodIn_of _ (by decide +kernel)) ggX4_tryOnce_X3_add
set_option maxRecDepth 20000 in
theorem ggX4_tryOnce_X2_drawPercent : GoodIn wsX4_tryOnce wsX2_drawPercent := goodIn_r _ [35, 36, 37, 38, 39, 40, 59, 60, 61, 62, 63, 64, 65, 66, 67, 68, 69, 70] (by decide +kernel) (by decide +kernel)
set_option maxRecDepth 20000 in
theorem gX4_tryOnce_X2_drawPercent : GoodIn wsX4_tryOnce (wsV RX4 91 RX2 yX2_drawPercent wsX2_drawPercent) := goodIn_app (goodIn_of _ (by decide +kernel)) ggX4_tryOnce_X2_drawPercent
set_option maxRecDepth 20000 in
theorem ggX4_tryOnce_X2_blame : GoodIn wsX4_tryOnce wsX2_blame := goodIn_r _ [44, 45, 46, 47, 48, 21, 49, 50, 6, 7, 8, 9, 10, 11, 51, 29, 30, 31, 59, 60, 61, 62, 63, 64, 65, 66, 67, 68, 69, 70, 74, 75] (by decide +kernel) (by decide +kernel)
set_option maxRecDepth 20000 in
theorem gX4_tryOnce_X2_blame : GoodIn wsX4_tryOnce (wsV RX4 94 RX2 yX2_blame wsX2_blame) := goodIn_app (goodIn_of _ (by decide +kernel)) ggX4_tryOnce_X2_blame
set_option maxRecDepth 20000 in
theorem ggX4_tryOnce_X2_praise : GoodIn wsX4_tryOnce wsX2_praise := goodIn_r _ [55, 45, 46, 56, 57, 21, 58, 50, 6, 7, 8, 9, 10, 11, 51, 29, 30, 31, 59, 60, 61, 62, 63, 64, 65, 66, 67, 68, 69, 70, 74, 75] (by decide +kernel) (by decide +kernel)
set_option maxRecDepth 20000 in
theorem gX4_tryOnce_X2_praise : GoodIn wsX4_tryOnce (wsV RX4 97 RX2 yX2_praise wsX2_praise) := goodIn_app (goodIn_of _ (by decide +kernel)) ggX4_tryOnce_X2_praise
theorem dX4_tryOnce_0 : decode cX4_tryOnce 0 = .ok (.aload_n 1, 1) := by decide +kernel
theorem dX4_tryOnce_1 : decode cX4_tryOnce 1 = .ok (.aload_n 1, 1) := by decide +kernel
theorem dX4_tryOnce_2 : decode cX4_tryOnce 2 = .ok (.getfield 80, 3) := by decide +kernel
theorem dX4_tryOnce_5 : decode cX4_tryOnce 5 = .ok (.iload_n 3, 1) := by decide +kernel
theorem dX4_tryOnce_6 : decode cX4_tryOnce 6 = .ok (.iconst 0, 1) := by decide +kernel
theorem dX4_tryOnce_7 : decode cX4_tryOnce 7 = .ok (.invokevirtual 55, 3) := by decide +kernel
theorem dX4_tryOnce_10 : decode cX4_tryOnce 10 = .ok (.iconst 2, 1) := by decide +kernel
theorem dX4_tryOnce_11 : decode cX4_tryOnce 11 = .ok (.invokevirtual 83, 3) := by decide +kernel
theorem dX4_tryOnce_14 : decode cX4_tryOnce 14 = .ok (.aload_n 1, 1) := by decide +kernel
theorem dX4_tryOnce_15 : decode cX4_tryOnce 15 = .ok (.getfield 80, 3) := by decide +kernel
theorem dX4_tryOnce_18 : decode cX4_tryOnce 18 = .ok (.iload_n 3, 1) := by decide +kernel
theorem dX4_tryOnce_19 : decode cX4_tryOnce 19 = .ok (.iconst 5, 1) := by decide +kernel
theorem dX4_tryOnce_20 : decode cX4_tryOnce 20 = .ok (.iconst 1, 1) := by decide +kernel
theorem dX4_tryOnce_21 : decode cX4_tryOnce 21 = .ok (.invokevirtual 87, 3) := by decide +kernel
theorem dX4_tryOnce_24 : decode cX4_tryOnce 24 = .ok (.aload_n 1, 1) := by decide +kernel
theorem dX4_tryOnce_25 : decode cX4_tryOnce 25 = .ok (.getfield 51, 3) := by decide +kernel
theorem dX4_tryOnce_28 : decode cX4_tryOnce 28 = .ok (.iload_n 2, 1) := by decide +kernel
theorem dX4_tryOnce_29 : decode cX4_tryOnce 29 = .ok (.iconst 1, 1) := by decide +kernel
theorem dX4_tryOnce_30 : decode cX4_tryOnce 30 = .ok (.iconst 1, 1) := by decide +kernel
theorem dX4_tryOnce_31 : decode cX4_tryOnce 31 = .ok (.invokevirtual 87, 3) := by decide +kernel
theorem dX4_tryOnce_34 : decode cX4_tryOnce 34 = .ok (.aload_n 1, 1) := by decide +kernel
theorem dX4_tryOnce_35 : decode cX4_tryOnce 35 = .ok (.invokevirtual 91, 3) := by decide +kernel
theorem dX4_tryOnce_38 : decode cX4_tryOnce 38 = .ok (.aload_n 1, 1) := by decide +kernel
theorem dX4_tryOnce_39 : decode cX4_tryOnce 39 = .ok (.getfield 80, 3) := by decide +kernel
theorem dX4_tryOnce_42 : decode cX4_tryOnce 42 = .ok (.iload_n 3, 1) := by decide +kernel
theorem dX4_tryOnce_43 : decode cX4_tryOnce 43 = .ok (.iconst 3, 1) := by decide +kernel
theorem dX4_tryOnce_44 : decode cX4_tryOnce 44 = .ok (.invokevirtual 55, 3) := by decide +kernel
theorem dX4_tryOnce_47 : decode cX4_tryOnce 47 = .ok (.if_icmp .ge 31, 3) := by decide +kernel
theorem dX4_tryOnce_50 : decode cX4_tryOnce 50 = .ok (.aload_n 1, 1) := by decide +kernel
theorem dX4_tryOnce_51 : decode cX4_tryOnce 51 = .ok (.getfield 80, 3) := by decide +kernel
theorem dX4_tryOnce_54 : decode cX4_tryOnce 54 = .ok (.iload_n 3, 1) := by decide +kernel
theorem dX4_tryOnce_55 : decode cX4_tryOnce 55 = .ok (.bipush 6, 2) := by decide +kernel
theorem dX4_tryOnce_57 : decode cX4_tryOnce 57 = .ok (.iconst 1, 1) := by decide +kernel
theorem dX4_tryOnce_58 : decode cX4_tryOnce 58 = .ok (.invokevirtual 87, 3) := by decide +kernel
theorem dX4_tryOnce_61 : decode cX4_tryOnce 61 = .ok (.aload_n 1, 1) := by decide +kernel
theorem dX4_tryOnce_62 : decode cX4_tryOnce 62 = .ok (.getfield 51, 3) := by decide +kernel
theorem dX4_tryOnce_65 : decode cX4_tryOnce 65 = .ok (.iload_n 2, 1) := by decide +kernel
theorem dX4_tryOnce_66 : decode cX4_tryOnce 66 = .ok (.iconst 2, 1) := by decide +kernel
theorem dX4_tryOnce_67 : decode cX4_tryOnce 67 = .ok (.iconst 1, 1) := by decide +kernel
theorem dX4_tryOnce_68 : decode cX4_tryOnce 68 = .ok (.invokevirtual 87, 3) := by decide +kernel
theorem dX4_tryOnce_71 : decode cX4_tryOnce 71 = .ok (.aload_n 1, 1) := by decide +kernel
theorem dX4_tryOnce_72 : decode cX4_tryOnce 72 = .ok (.iload_n 2, 1) := by decide +kernel
theorem dX4_tryOnce_73 : decode cX4_tryOnce 73 = .ok (.iload_n 3, 1) := by decide +kernel
theorem dX4_tryOnce_74 : decode cX4_tryOnce 74 = .ok (.invokevirtual 94, 3) := by decide +kernel
theorem dX4_tryOnce_77 : decode cX4_tryOnce 77 = .ok (.return_, 1) := by decide +kernel
theorem dX4_tryOnce_78 : decode cX4_tryOnce 78 = .ok (.aload_n 1, 1) := by decide +kernel
theorem dX4_tryOnce_79 : decode cX4_tryOnce 79 = .ok (.getfield 80, 3) := by decide +kernel
theorem dX4_tryOnce_82 : decode cX4_tryOnce 82 = .ok (.iload_n 3, 1) := by decide +kernel
theorem dX4_tryOnce_83 : decode cX4_tryOnce 83 = .ok (.iconst 2, 1) := by decide +kernel
theorem dX4_tryOnce_84 : decode cX4_tryOnce 84 = .ok (.iconst (-1), 1) := by decide +kernel
theorem dX4_tryOnce_85 : decode cX4_tryOnce 85 = .ok (.invokevirtual 87, 3) := by decide +kernel
theorem dX4_tryOnce_88 : decode cX4_tryOnce 88 = .ok (.aload_n 1, 1) := by decide +kernel
theorem dX4_tryOnce_89 : decode cX4_tryOnce 89 = .ok (.iload_n 2, 1) := by decide +kernel
theorem dX4_tryOnce_90 : decode cX4_tryOnce 90 = .ok (.iload_n 3, 1) := by decide +kernel
theorem dX4_tryOnce_91 : decode cX4_tryOnce 91 = .ok (.invokevirtual 97, 3) := by decide +kernel
theorem dX4_tryOnce_94 : decode cX4_tryOnce 94 = .ok (.aload_n 0, 1) := by decide +kernel
theorem dX4_tryOnce_95 : decode cX4_tryOnce 95 = .ok (.getfield 15, 3) := by decide +kernel
theorem dX4_tryOnce_98 : decode cX4_tryOnce 98 = .ok (.iload_n 2, 1) := by decide +kernel
theorem dX4_tryOnce_99 : decode cX4_tryOnce 99 = .ok (.iload_n 3, 1) := by decide +kernel
theorem dX4_tryOnce_100 : decode cX4_tryOnce 100 = .ok (.iastore, 1) := by decide +kernel
theorem dX4_tryOnce_101 : decode cX4_tryOnce 101 = .ok (.aload_n 0, 1) := by decide +kernel
theorem dX4_tryOnce_102 : decode cX4_tryOnce 102 = .ok (.getfield 18, 3) := by decide +kernel
theorem dX4_tryOnce_105 : decode cX4_tryOnce 105 = .ok (.iload_n 2, 1) := by decide +kernel
theorem dX4_tryOnce_106 : decode cX4_tryOnce 106 = .ok (.aload_n 1, 1) := by decide +kernel
theorem dX4_tryOnce_107 : decode cX4_tryOnce 107 = .ok (.invokevirtual 91, 3) := by decide +kernel
theorem dX4_tryOnce_110 : decode cX4_tryOnce 110 = .ok (.aload_n 1, 1) := by decide +kernel
theorem dX4_tryOnce_111 : decode cX4_tryOnce 111 = .ok (.getfield 80, 3) := by decide +kernel
theorem dX4_tryOnce_114 : decode cX4_tryOnce 114 = .ok (.iload_n 3, 1) := by decide +kernel
theorem dX4_tryOnce_115 : decode cX4_tryOnce 115 = .ok (.iconst 4, 1) := by decide +kernel
theorem dX4_tryOnce_116 : decode cX4_tryOnce 116 = .ok (.invokevirtual 55, 3) := by decide +kernel
theorem dX4_tryOnce_119 : decode cX4_tryOnce 119 = .ok (.if_icmp .ge 7, 3) := by decide +kernel
theorem dX4_tryOnce_122 : decode cX4_tryOnce 122 = .ok (.iconst 1, 1) := by decide +kernel
theorem dX4_tryOnce_123 : decode cX4_tryOnce 123 = .ok (.goto 4, 3) := by decide +kernel
theorem dX4_tryOnce_126 : decode cX4_tryOnce 126 = .ok (.iconst 0, 1) := by decide +kernel
theorem dX4_tryOnce_127 : decode cX4_tryOnce 127 = .ok (.bastore, 1) := by decide +kernel
theorem dX4_tryOnce_128 : decode cX4_tryOnce 128 = .ok (.return_, 1) := by decide +kernel
set_option maxRecDepth 20000 in
theorem ggX4_lookAtParts_X2_drawPercent : GoodIn wsX4_lookAtParts wsX2_drawPercent := goodIn_r _ [10, 11, 12, 13, 14, 15, 46, 47, 48, 49, 50, 51, 52, 53, 54, 55, 56, 57] (by decide +kernel) (by decide +kernel)
set_option maxRecDepth 20000 in
theorem gX4_lookAtParts_X2_drawPercent : GoodIn wsX4_lookAtParts (wsV RX4 91 RX2 yX2_drawPercent wsX2_drawPercent) := goodIn_app (goodIn_of _ (by decide +kernel)) ggX4_lookAtParts_X2_drawPercent
set_option maxRecDepth 20000 in
theorem ggX4_lookAtParts_X3_add : GoodIn wsX4_lookAtParts wsX3_add := goodIn_r _ [20, 21, 22, 23, 19, 24, 25, 26, 27, 28, 29, 30, 58, 59] (by decide +kernel) (by decide +kernel)
set_option maxRecDepth 20000 in
theorem gX4_lookAtParts_X3_add : GoodIn wsX4_lookAtParts (wsV RX4 87 RX3 yX3_add wsX3_add) := goodIn_app (goodIn_of _ (by decide +kernel)) ggX4_lookAtParts_X3_add
set_option maxRecDepth 20000 in
theorem ggX4_lookAtParts_X2_blame : GoodIn wsX4_lookAtParts wsX2_blame := goodIn_r _ [34, 35, 36, 37, 38, 39, 40, 41, 22, 23, 19, 24, 25, 26, 42, 28, 29, 30, 46, 47, 48, 49, 50, 51, 52, 53, 54, 55, 56, 57, 58, 59] (by decide +kernel) (by decide +kernel)
set_option maxRecDepth 20000 in
theorem gX4_lookAtParts_X2_blame : GoodIn wsX4_lookAtParts (wsV RX4 94 RX2 yX2_blame wsX2_blame) := goodIn_app (goodIn_of _ (by decide +kernel)) ggX4_lookAtParts_X2_blame
theorem dX4_lookAtParts_0 : decode cX4_lookAtParts 0 = .ok (.iconst 0, 1) := by decide +kernel
theorem dX4_lookAtParts_1 : decode cX4_lookAtParts 1 = .ok (.istore_n 2, 1) := by decide +kernel
theorem dX4_lookAtParts_2 : decode cX4_lookAtParts 2 = .ok (.iload_n 2, 1) := by decide +kernel
theorem dX4_lookAtParts_3 : decode cX4_lookAtParts 3 = .ok (.iconst 4, 1) := by decide +kernel
theorem dX4_lookAtParts_4 : decode cX4_lookAtParts 4 = .ok (.if_icmp .ge 95, 3) := by decide +kernel
theorem dX4_lookAtParts_7 : decode cX4_lookAtParts 7 = .ok (.aload_n 0, 1) := by decide +kernel
theorem dX4_lookAtParts_8 : decode cX4_lookAtParts 8 = .ok (.getfield 15, 3) := by decide +kernel
theorem dX4_lookAtParts_11 : decode cX4_lookAtParts 11 = .ok (.iload_n 2, 1) := by decide +kernel
theorem dX4_lookAtParts_12 : decode cX4_lookAtParts 12 = .ok (.iaload, 1) := by decide +kernel
theorem dX4_lookAtParts_13 : decode cX4_lookAtParts 13 = .ok (.iconst (-1), 1) := by decide +kernel
theorem dX4_lookAtParts_14 : decode cX4_lookAtParts 14 = .ok (.if_icmp .eq 20, 3) := by decide +kernel
theorem dX4_lookAtParts_17 : decode cX4_lookAtParts 17 = .ok (.aload_n 1, 1) := by decide +kernel
theorem dX4_lookAtParts_18 : decode cX4_lookAtParts 18 = .ok (.invokevirtual 91, 3) := by decide +kernel
theorem dX4_lookAtParts_21 : decode cX4_lookAtParts 21 = .ok (.aload_n 1, 1) := by decide +kernel
theorem dX4_lookAtParts_22 : decode cX4_lookAtParts 22 = .ok (.getfield 71, 3) := by decide +kernel
theorem dX4_lookAtParts_25 : decode cX4_lookAtParts 25 = .ok (.iconst 3, 1) := by decide +kernel
theorem dX4_lookAtParts_26 : decode cX4_lookAtParts 26 = .ok (.iaload, 1) := by decide +kernel
theorem dX4_lookAtParts_27 : decode cX4_lookAtParts 27 = .ok (.if_icmp .ge 7, 3) := by decide +kernel
theorem dX4_lookAtParts_30 : decode cX4_lookAtParts 30 = .ok (.iconst 1, 1) := by decide +kernel
theorem dX4_lookAtParts_31 : decode cX4_lookAtParts 31 = .ok (.goto 4, 3) := by decide +kernel
theorem dX4_lookAtParts_34 : decode cX4_lookAtParts 34 = .ok (.iconst 0, 1) := by decide +kernel
theorem dX4_lookAtParts_35 : decode cX4_lookAtParts 35 = .ok (.istore_n 3, 1) := by decide +kernel
theorem dX4_lookAtParts_36 : decode cX4_lookAtParts 36 = .ok (.iload_n 3, 1) := by decide +kernel
theorem dX4_lookAtParts_37 : decode cX4_lookAtParts 37 = .ok (.ifCond .eq 56, 3) := by decide +kernel
theorem dX4_lookAtParts_40 : decode cX4_lookAtParts 40 = .ok (.aload_n 0, 1) := by decide +kernel
theorem dX4_lookAtParts_41 : decode cX4_lookAtParts 41 = .ok (.getfield 18, 3) := by decide +kernel
theorem dX4_lookAtParts_44 : decode cX4_lookAtParts 44 = .ok (.iload_n 2, 1) := by decide +kernel
theorem dX4_lookAtParts_45 : decode cX4_lookAtParts 45 = .ok (.baload, 1) := by decide +kernel
theorem dX4_lookAtParts_46 : decode cX4_lookAtParts 46 = .ok (.ifCond .eq 47, 3) := by decide +kernel
theorem dX4_lookAtParts_49 : decode cX4_lookAtParts 49 = .ok (.aload_n 1, 1) := by decide +kernel
theorem dX4_lookAtParts_50 : decode cX4_lookAtParts 50 = .ok (.getfield 80, 3) := by decide +kernel
theorem dX4_lookAtParts_53 : decode cX4_lookAtParts 53 = .ok (.aload_n 0, 1) := by decide +kernel
theorem dX4_lookAtParts_54 : decode cX4_lookAtParts 54 = .ok (.getfield 15, 3) := by decide +kernel
theorem dX4_lookAtParts_57 : decode cX4_lookAtParts 57 = .ok (.iload_n 2, 1) := by decide +kernel
theorem dX4_lookAtParts_58 : decode cX4_lookAtParts 58 = .ok (.iaload, 1) := by decide +kernel
theorem dX4_lookAtParts_59 : decode cX4_lookAtParts 59 = .ok (.bipush 7, 2) := by decide +kernel
theorem dX4_lookAtParts_61 : decode cX4_lookAtParts 61 = .ok (.iconst 1, 1) := by decide +kernel
theorem dX4_lookAtParts_62 : decode cX4_lookAtParts 62 = .ok (.invokevirtual 87, 3) := by decide +kernel
theorem dX4_lookAtParts_65 : decode cX4_lookAtParts 65 = .ok (.aload_n 1, 1) := by decide +kernel
theorem dX4_lookAtParts_66 : decode cX4_lookAtParts 66 = .ok (.getfield 51, 3) := by decide +kernel
theorem dX4_lookAtParts_69 : decode cX4_lookAtParts 69 = .ok (.iload_n 2, 1) := by decide +kernel
theorem dX4_lookAtParts_70 : decode cX4_lookAtParts 70 = .ok (.iconst 4, 1) := by decide +kernel
theorem dX4_lookAtParts_71 : decode cX4_lookAtParts 71 = .ok (.iconst 1, 1) := by decide +kernel
theorem dX4_lookAtParts_72 : decode cX4_lookAtParts 72 = .ok (.invokevirtual 87, 3) := by decide +kernel
theorem dX4_lookAtParts_75 : decode cX4_lookAtParts 75 = .ok (.aload_n 1, 1) := by decide +kernel
theorem dX4_lookAtParts_76 : decode cX4_lookAtParts 76 = .ok (.iload_n 2, 1) := by decide +kernel
theorem dX4_lookAtParts_77 : decode cX4_lookAtParts 77 = .ok (.aload_n 0, 1) := by decide +kernel
theorem dX4_lookAtParts_78 : decode cX4_lookAtParts 78 = .ok (.getfield 15, 3) := by decide +kernel
theorem dX4_lookAtParts_81 : decode cX4_lookAtParts 81 = .ok (.iload_n 2, 1) := by decide +kernel
theorem dX4_lookAtParts_82 : decode cX4_lookAtParts 82 = .ok (.iaload, 1) := by decide +kernel
theorem dX4_lookAtParts_83 : decode cX4_lookAtParts 83 = .ok (.invokevirtual 94, 3) := by decide +kernel
theorem dX4_lookAtParts_86 : decode cX4_lookAtParts 86 = .ok (.aload_n 0, 1) := by decide +kernel
theorem dX4_lookAtParts_87 : decode cX4_lookAtParts 87 = .ok (.getfield 15, 3) := by decide +kernel
theorem dX4_lookAtParts_90 : decode cX4_lookAtParts 90 = .ok (.iload_n 2, 1) := by decide +kernel
theorem dX4_lookAtParts_91 : decode cX4_lookAtParts 91 = .ok (.iconst (-1), 1) := by decide +kernel
theorem dX4_lookAtParts_92 : decode cX4_lookAtParts 92 = .ok (.iastore, 1) := by decide +kernel
theorem dX4_lookAtParts_93 : decode cX4_lookAtParts 93 = .ok (.iinc 2 1, 3) := by decide +kernel
theorem dX4_lookAtParts_96 : decode cX4_lookAtParts 96 = .ok (.goto (-94), 3) := by decide +kernel
theorem dX4_lookAtParts_99 : decode cX4_lookAtParts 99 = .ok (.return_, 1) := by decide +kernel
set_option maxRecDepth 20000 in
theorem ggX4_placeParts_X4_placePart : GoodIn wsX4_placeParts wsX4_placePart := goodIn_r _ [6, 7, 8, 9, 1, 10, 11, 12, 13, 14, 15, 16, 17, 18, 19, 20, 21, 22, 23, 24, 25, 26, 27, 28, 29, 30, 31, 32, 33, 34, 35, 36, 37, 38, 39, 40, 41, 42, 43, 44, 45, 46, 47, 48, 49, 50, 51, 52, 53, 54, 55] (by decide +kernel) (by decide +kernel)
set_option maxRecDepth 20000 in
theorem gX4_placeParts_X4_placePart : GoodIn wsX4_placeParts (wsV RX4 100 RX4 yX4_placePart wsX4_placePart) := goodIn_app (goodIn_of _ (by decide +kernel)) ggX4_placeParts_X4_placePart
theorem dX4_placeParts_0 : decode cX4_placeParts 0 = .ok (.iconst 0, 1) := by decide +kernel
theorem dX4_placeParts_1 : decode cX4_placeParts 1 = .ok (.istore_n 2, 1) := by decide +kernel
theorem dX4_placeParts_2 : decode cX4_placeParts 2 = .ok (.iconst 0, 1) := by decide +kernel
theorem dX4_placeParts_3 : decode cX4_placeParts 3 = .ok (.istore_n 3, 1) := by decide +kernel
theorem dX4_placeParts_4 : decode cX4_placeParts 4 = .ok (.iload_n 3, 1) := by decide +kernel
theorem dX4_placeParts_5 : decode cX4_placeParts 5 = .ok (.iconst 4, 1) := by decide +kernel
theorem dX4_placeParts_6 : decode cX4_placeParts 6 = .ok (.if_icmp .ge 28, 3) := by decide +kernel
theorem dX4_placeParts_9 : decode cX4_placeParts 9 = .ok (.aload_n 0, 1) := by decide +kernel
theorem dX4_placeParts_10 : decode cX4_placeParts 10 = .ok (.getfield 15, 3) := by decide +kernel
theorem dX4_placeParts_13 : decode cX4_placeParts 13 = .ok (.iload_n 3, 1) := by decide +kernel
theorem dX4_placeParts_14 : decode cX4_placeParts 14 = .ok (.iaload, 1) := by decide +kernel
theorem dX4_placeParts_15 : decode cX4_placeParts 15 = .ok (.iconst (-1), 1) := by decide +kernel
theorem dX4_placeParts_16 : decode cX4_placeParts 16 = .ok (.if_icmp .eq 12, 3) := by decide +kernel
theorem dX4_placeParts_19 : decode cX4_placeParts 19 = .ok (.aload_n 0, 1) := by decide +kernel
theorem dX4_placeParts_20 : decode cX4_placeParts 20 = .ok (.aload_n 1, 1) := by decide +kernel
theorem dX4_placeParts_21 : decode cX4_placeParts 21 = .ok (.iload_n 3, 1) := by decide +kernel
theorem dX4_placeParts_22 : decode cX4_placeParts 22 = .ok (.invokevirtual 100, 3) := by decide +kernel
theorem dX4_placeParts_25 : decode cX4_placeParts 25 = .ok (.iinc 2 1, 3) := by decide +kernel
theorem dX4_placeParts_28 : decode cX4_placeParts 28 = .ok (.iinc 3 1, 3) := by decide +kernel
theorem dX4_placeParts_31 : decode cX4_placeParts 31 = .ok (.goto (-27), 3) := by decide +kernel
theorem dX4_placeParts_34 : decode cX4_placeParts 34 = .ok (.iload_n 2, 1) := by decide +kernel
theorem dX4_placeParts_35 : decode cX4_placeParts 35 = .ok (.ireturn, 1) := by decide +kernel
set_option maxRecDepth 20000 in
theorem ggX4_placePart_X3_at : GoodIn wsX4_placePart wsX3_at := goodIn_r _ [10, 11, 12, 49, 50] (by decide +kernel) (by decide +kernel)
set_option maxRecDepth 20000 in
theorem gX4_placePart_X3_at : GoodIn wsX4_placePart (wsV RX4 55 RX3 yX3_at wsX3_at) := goodIn_app (goodIn_of _ (by decide +kernel)) ggX4_placePart_X3_at
set_option maxRecDepth 20000 in
theorem ggX4_placePart_X2_goTo : GoodIn wsX4_placePart wsX2_goTo := goodIn_r _ [17, 18, 19, 20, 21, 22, 23, 37, 38, 39, 40, 41, 42, 43, 44, 45, 46, 47, 48] (by decide +kernel) (by decide +kernel)
set_option maxRecDepth 20000 in
theorem gX4_placePart_X2_goTo : GoodIn wsX4_placePart (wsV RX4 83 RX2 yX2_goTo wsX2_goTo) := goodIn_app (goodIn_of _ (by decide +kernel)) ggX4_placePart_X2_goTo
set_option maxRecDepth 20000 in
theorem ggX4_placePart_X3_put : GoodIn wsX4_placePart wsX3_put := goodIn_r _ [27, 11, 12, 49, 50] (by decide +kernel) (by decide +kernel)
set_option maxRecDepth 20000 in
theorem gX4_placePart_X3_put : GoodIn wsX4_placePart (wsV RX4 103 RX3 yX3_put wsX3_put) := goodIn_app (goodIn_of _ (by decide +kernel)) ggX4_placePart_X3_put
set_option maxRecDepth 20000 in
theorem ggX4_placePart_X3_add : GoodIn wsX4_placePart wsX3_add := goodIn_r _ [31, 32, 7, 8, 9, 10, 11, 12, 33, 25, 26, 27, 49, 50] (by decide +kernel) (by decide +kernel)
set_option maxRecDepth 20000 in
theorem gX4_placePart_X3_add : GoodIn wsX4_placePart (wsV RX4 87 RX3 yX3_add wsX3_add) := goodIn_app (goodIn_of _ (by decide +kernel)) ggX4_placePart_X3_add
theorem dX4_placePart_0 : decode cX4_placePart 0 = .ok (.aload_n 0, 1) := by decide +kernel
theorem dX4_placePart_1 : decode cX4_placePart 1 = .ok (.getfield 9, 3) := by decide +kernel
theorem dX4_placePart_4 : decode cX4_placePart 4 = .ok (.iload_n 2, 1) := by decide +kernel
theorem dX4_placePart_5 : decode cX4_placePart 5 = .ok (.iaload, 1) := by decide +kernel
theorem dX4_placePart_6 : decode cX4_placePart 6 = .ok (.istore_n 3, 1) := by decide +kernel
theorem dX4_placePart_7 : decode cX4_placePart 7 = .ok (.aload_n 1, 1) := by decide +kernel
theorem dX4_placePart_8 : decode cX4_placePart 8 = .ok (.aload_n 1, 1) := by decide +kernel
theorem dX4_placePart_9 : decode cX4_placePart 9 = .ok (.getfield 68, 3) := by decide +kernel
theorem dX4_placePart_12 : decode cX4_placePart 12 = .ok (.iload_n 3, 1) := by decide +kernel
theorem dX4_placePart_13 : decode cX4_placePart 13 = .ok (.iconst 0, 1) := by decide +kernel
theorem dX4_placePart_14 : decode cX4_placePart 14 = .ok (.invokevirtual 55, 3) := by decide +kernel
theorem dX4_placePart_17 : decode cX4_placePart 17 = .ok (.iconst 1, 1) := by decide +kernel
theorem dX4_placePart_18 : decode cX4_placePart 18 = .ok (.invokevirtual 83, 3) := by decide +kernel
theorem dX4_placePart_21 : decode cX4_placePart 21 = .ok (.aload_n 1, 1) := by decide +kernel
theorem dX4_placePart_22 : decode cX4_placePart 22 = .ok (.getfield 68, 3) := by decide +kernel
theorem dX4_placePart_25 : decode cX4_placePart 25 = .ok (.iload_n 3, 1) := by decide +kernel
theorem dX4_placePart_26 : decode cX4_placePart 26 = .ok (.iconst 2, 1) := by decide +kernel
theorem dX4_placePart_27 : decode cX4_placePart 27 = .ok (.aload_n 0, 1) := by decide +kernel
theorem dX4_placePart_28 : decode cX4_placePart 28 = .ok (.getfield 18, 3) := by decide +kernel
theorem dX4_placePart_31 : decode cX4_placePart 31 = .ok (.iload_n 2, 1) := by decide +kernel
theorem dX4_placePart_32 : decode cX4_placePart 32 = .ok (.baload, 1) := by decide +kernel
theorem dX4_placePart_33 : decode cX4_placePart 33 = .ok (.ifCond .eq 7, 3) := by decide +kernel
theorem dX4_placePart_36 : decode cX4_placePart 36 = .ok (.iconst 2, 1) := by decide +kernel
theorem dX4_placePart_37 : decode cX4_placePart 37 = .ok (.goto 4, 3) := by decide +kernel
theorem dX4_placePart_40 : decode cX4_placePart 40 = .ok (.iconst 1, 1) := by decide +kernel
theorem dX4_placePart_41 : decode cX4_placePart 41 = .ok (.invokevirtual 103, 3) := by decide +kernel
theorem dX4_placePart_44 : decode cX4_placePart 44 = .ok (.aload_n 1, 1) := by decide +kernel
theorem dX4_placePart_45 : decode cX4_placePart 45 = .ok (.getfield 68, 3) := by decide +kernel
theorem dX4_placePart_48 : decode cX4_placePart 48 = .ok (.iload_n 3, 1) := by decide +kernel
theorem dX4_placePart_49 : decode cX4_placePart 49 = .ok (.iconst 3, 1) := by decide +kernel
theorem dX4_placePart_50 : decode cX4_placePart 50 = .ok (.iload_n 2, 1) := by decide +kernel
theorem dX4_placePart_51 : decode cX4_placePart 51 = .ok (.invokevirtual 103, 3) := by decide +kernel
theorem dX4_placePart_54 : decode cX4_placePart 54 = .ok (.aload_n 1, 1) := by decide +kernel
theorem dX4_placePart_55 : decode cX4_placePart 55 = .ok (.getfield 68, 3) := by decide +kernel
theorem dX4_placePart_58 : decode cX4_placePart 58 = .ok (.iload_n 3, 1) := by decide +kernel
theorem dX4_placePart_59 : decode cX4_placePart 59 = .ok (.iconst 4, 1) := by decide +kernel
theorem dX4_placePart_60 : decode cX4_placePart 60 = .ok (.aload_n 0, 1) := by decide +kernel
theorem dX4_placePart_61 : decode cX4_placePart 61 = .ok (.getfield 15, 3) := by decide +kernel
theorem dX4_placePart_64 : decode cX4_placePart 64 = .ok (.iload_n 2, 1) := by decide +kernel
theorem dX4_placePart_65 : decode cX4_placePart 65 = .ok (.iaload, 1) := by decide +kernel
theorem dX4_placePart_66 : decode cX4_placePart 66 = .ok (.invokevirtual 103, 3) := by decide +kernel
theorem dX4_placePart_69 : decode cX4_placePart 69 = .ok (.aload_n 1, 1) := by decide +kernel
theorem dX4_placePart_70 : decode cX4_placePart 70 = .ok (.getfield 51, 3) := by decide +kernel
theorem dX4_placePart_73 : decode cX4_placePart 73 = .ok (.iload_n 2, 1) := by decide +kernel
theorem dX4_placePart_74 : decode cX4_placePart 74 = .ok (.iconst 3, 1) := by decide +kernel
theorem dX4_placePart_75 : decode cX4_placePart 75 = .ok (.iconst 1, 1) := by decide +kernel
theorem dX4_placePart_76 : decode cX4_placePart 76 = .ok (.invokevirtual 87, 3) := by decide +kernel
theorem dX4_placePart_79 : decode cX4_placePart 79 = .ok (.return_, 1) := by decide +kernel
set_option maxRecDepth 20000 in
theorem ggX4_gossip_X3_at : GoodIn wsX4_gossip wsX3_at := goodIn_r _ [8, 9, 10, 32, 33] (by decide +kernel) (by decide +kernel)
set_option maxRecDepth 20000 in
theorem gX4_gossip_X3_at : GoodIn wsX4_gossip (wsV RX4 55 RX3 yX3_at wsX3_at) := goodIn_app (goodIn_of _ (by decide +kernel)) ggX4_gossip_X3_at
set_option maxRecDepth 20000 in
theorem ggX4_gossip_X3_add : GoodIn wsX4_gossip wsX3_add := goodIn_r _ [14, 15, 5, 6, 7, 8, 9, 10, 16, 17, 18, 19, 32, 33] (by decide +kernel) (by decide +kernel)
set_option maxRecDepth 20000 in
theorem gX4_gossip_X3_add : GoodIn wsX4_gossip (wsV RX4 87 RX3 yX3_add wsX3_add) := goodIn_app (goodIn_of _ (by decide +kernel)) ggX4_gossip_X3_add
theorem dX4_gossip_0 : decode cX4_gossip 0 = .ok (.iconst 0, 1) := by decide +kernel
theorem dX4_gossip_1 : decode cX4_gossip 1 = .ok (.istore_n 3, 1) := by decide +kernel
theorem dX4_gossip_2 : decode cX4_gossip 2 = .ok (.iload_n 3, 1) := by decide +kernel
theorem dX4_gossip_3 : decode cX4_gossip 3 = .ok (.aload_n 0, 1) := by decide +kernel
theorem dX4_gossip_4 : decode cX4_gossip 4 = .ok (.getfield 106, 3) := by decide +kernel
theorem dX4_gossip_7 : decode cX4_gossip 7 = .ok (.if_icmp .ge 68, 3) := by decide +kernel
theorem dX4_gossip_10 : decode cX4_gossip 10 = .ok (.aload_n 0, 1) := by decide +kernel
theorem dX4_gossip_11 : decode cX4_gossip 11 = .ok (.getfield 109, 3) := by decide +kernel
theorem dX4_gossip_14 : decode cX4_gossip 14 = .ok (.iload_n 2, 1) := by decide +kernel
theorem dX4_gossip_15 : decode cX4_gossip 15 = .ok (.iload_n 3, 1) := by decide +kernel
theorem dX4_gossip_16 : decode cX4_gossip 16 = .ok (.invokevirtual 55, 3) := by decide +kernel
theorem dX4_gossip_19 : decode cX4_gossip 19 = .ok (.aload_n 0, 1) := by decide +kernel
theorem dX4_gossip_20 : decode cX4_gossip 20 = .ok (.getfield 109, 3) := by decide +kernel
theorem dX4_gossip_23 : decode cX4_gossip 23 = .ok (.iload_n 1, 1) := by decide +kernel
theorem dX4_gossip_24 : decode cX4_gossip 24 = .ok (.iload_n 3, 1) := by decide +kernel
theorem dX4_gossip_25 : decode cX4_gossip 25 = .ok (.invokevirtual 55, 3) := by decide +kernel
theorem dX4_gossip_28 : decode cX4_gossip 28 = .ok (.isub, 1) := by decide +kernel
theorem dX4_gossip_29 : decode cX4_gossip 29 = .ok (.istore 4, 2) := by decide +kernel
theorem dX4_gossip_31 : decode cX4_gossip 31 = .ok (.iload 4, 2) := by decide +kernel
theorem dX4_gossip_33 : decode cX4_gossip 33 = .ok (.aload_n 0, 1) := by decide +kernel
theorem dX4_gossip_34 : decode cX4_gossip 34 = .ok (.getfield 71, 3) := by decide +kernel
theorem dX4_gossip_37 : decode cX4_gossip 37 = .ok (.iconst 4, 1) := by decide +kernel
theorem dX4_gossip_38 : decode cX4_gossip 38 = .ok (.iaload, 1) := by decide +kernel
theorem dX4_gossip_39 : decode cX4_gossip 39 = .ok (.imul, 1) := by decide +kernel
theorem dX4_gossip_40 : decode cX4_gossip 40 = .ok (.sipush 200, 3) := by decide +kernel
theorem dX4_gossip_43 : decode cX4_gossip 43 = .ok (.idiv, 1) := by decide +kernel
theorem dX4_gossip_44 : decode cX4_gossip 44 = .ok (.istore 5, 2) := by decide +kernel
theorem dX4_gossip_46 : decode cX4_gossip 46 = .ok (.aload_n 0, 1) := by decide +kernel
theorem dX4_gossip_47 : decode cX4_gossip 47 = .ok (.getfield 109, 3) := by decide +kernel
theorem dX4_gossip_50 : decode cX4_gossip 50 = .ok (.iload_n 1, 1) := by decide +kernel
theorem dX4_gossip_51 : decode cX4_gossip 51 = .ok (.iload_n 3, 1) := by decide +kernel
theorem dX4_gossip_52 : decode cX4_gossip 52 = .ok (.iload 5, 2) := by decide +kernel
theorem dX4_gossip_54 : decode cX4_gossip 54 = .ok (.invokevirtual 87, 3) := by decide +kernel
theorem dX4_gossip_57 : decode cX4_gossip 57 = .ok (.aload_n 0, 1) := by decide +kernel
theorem dX4_gossip_58 : decode cX4_gossip 58 = .ok (.getfield 109, 3) := by decide +kernel
theorem dX4_gossip_61 : decode cX4_gossip 61 = .ok (.iload_n 2, 1) := by decide +kernel
theorem dX4_gossip_62 : decode cX4_gossip 62 = .ok (.iload_n 3, 1) := by decide +kernel
theorem dX4_gossip_63 : decode cX4_gossip 63 = .ok (.iload 5, 2) := by decide +kernel
theorem dX4_gossip_65 : decode cX4_gossip 65 = .ok (.ineg, 1) := by decide +kernel
theorem dX4_gossip_66 : decode cX4_gossip 66 = .ok (.invokevirtual 87, 3) := by decide +kernel
theorem dX4_gossip_69 : decode cX4_gossip 69 = .ok (.iinc 3 1, 3) := by decide +kernel
theorem dX4_gossip_72 : decode cX4_gossip 72 = .ok (.goto (-70), 3) := by decide +kernel
theorem dX4_gossip_75 : decode cX4_gossip 75 = .ok (.return_, 1) := by decide +kernel
set_option maxRecDepth 20000 in
theorem ggX5_init_X2_init : GoodIn wsX5_init wsX2_init := goodIn_r _ [23, 24, 2, 3, 25, 26, 27, 28, 29, 30, 31, 32, 33, 34, 35, 36, 37, 38, 39, 40, 41, 42, 43, 44, 66, 67, 68, 69, 70, 71, 72, 73, 74, 75, 76, 77, 94, 95] (by decide +kernel) (by decide +kernel)
set_option maxRecDepth 20000 in
theorem gX5_init_X2_init : GoodIn wsX5_init (wsX2_init) := ggX5_init_X2_init
set_option maxRecDepth 20000 in
theorem ggX5_init_X4_init : GoodIn wsX5_init wsX4_init := goodIn_r _ [47, 48, 2, 3, 26, 49, 50, 51, 52, 83, 84, 85] (by decide +kernel) (by decide +kernel)
set_option maxRecDepth 20000 in
theorem gX5_init_X4_init : GoodIn wsX5_init (wsX4_init) := ggX5_init_X4_init
set_option maxRecDepth 20000 in
theorem ggX5_init_X1_init : GoodIn wsX5_init wsX1_init := goodIn_r _ [55, 56, 2, 3, 57, 58, 86, 87] (by decide +kernel) (by decide +kernel)
set_option maxRecDepth 20000 in
theorem gX5_init_X1_init : GoodIn wsX5_init (wsX1_init) := ggX5_init_X1_init
set_option maxRecDepth 20000 in
theorem ggX5_init_X0_init : GoodIn wsX5_init wsX0_init := goodIn_r _ [61, 62, 2, 3, 26, 63, 64, 65, 88, 89, 90, 91, 92, 93] (by decide +kernel) (by decide +kernel)
set_option maxRecDepth 20000 in
theorem gX5_init_X0_init : GoodIn wsX5_init (wsX0_init) := ggX5_init_X0_init
theorem dX5_init_0 : decode cX5_init 0 = .ok (.aload_n 0, 1) := by decide +kernel
theorem dX5_init_1 : decode cX5_init 1 = .ok (.invokespecial 1, 3) := by decide +kernel
theorem dX5_init_4 : decode cX5_init 4 = .ok (.aload_n 0, 1) := by decide +kernel
theorem dX5_init_5 : decode cX5_init 5 = .ok (.new 7, 3) := by decide +kernel
theorem dX5_init_8 : decode cX5_init 8 = .ok (.dup, 1) := by decide +kernel
theorem dX5_init_9 : decode cX5_init 9 = .ok (.invokespecial 9, 3) := by decide +kernel
theorem dX5_init_12 : decode cX5_init 12 = .ok (.putfield 10, 3) := by decide +kernel
theorem dX5_init_15 : decode cX5_init 15 = .ok (.aload_n 0, 1) := by decide +kernel
theorem dX5_init_16 : decode cX5_init 16 = .ok (.new 7, 3) := by decide +kernel
theorem dX5_init_19 : decode cX5_init 19 = .ok (.dup, 1) := by decide +kernel
theorem dX5_init_20 : decode cX5_init 20 = .ok (.invokespecial 9, 3) := by decide +kernel
theorem dX5_init_23 : decode cX5_init 23 = .ok (.putfield 16, 3) := by decide +kernel
theorem dX5_init_26 : decode cX5_init 26 = .ok (.aload_n 0, 1) := by decide +kernel
theorem dX5_init_27 : decode cX5_init 27 = .ok (.new 19, 3) := by decide +kernel
theorem dX5_init_30 : decode cX5_init 30 = .ok (.dup, 1) := by decide +kernel
theorem dX5_init_31 : decode cX5_init 31 = .ok (.invokespecial 21, 3) := by decide +kernel
theorem dX5_init_34 : decode cX5_init 34 = .ok (.putfield 22, 3) := by decide +kernel
theorem dX5_init_37 : decode cX5_init 37 = .ok (.aload_n 0, 1) := by decide +kernel
theorem dX5_init_38 : decode cX5_init 38 = .ok (.new 26, 3) := by decide +kernel
theorem dX5_init_41 : decode cX5_init 41 = .ok (.dup, 1) := by decide +kernel
theorem dX5_init_42 : decode cX5_init 42 = .ok (.invokespecial 28, 3) := by decide +kernel
theorem dX5_init_45 : decode cX5_init 45 = .ok (.putfield 29, 3) := by decide +kernel
theorem dX5_init_48 : decode cX5_init 48 = .ok (.aload_n 0, 1) := by decide +kernel
theorem dX5_init_49 : decode cX5_init 49 = .ok (.new 33, 3) := by decide +kernel
theorem dX5_init_52 : decode cX5_init 52 = .ok (.dup, 1) := by decide +kernel
theorem dX5_init_53 : decode cX5_init 53 = .ok (.invokespecial 35, 3) := by decide +kernel
theorem dX5_init_56 : decode cX5_init 56 = .ok (.putfield 36, 3) := by decide +kernel
theorem dX5_init_59 : decode cX5_init 59 = .ok (.return_, 1) := by decide +kernel
set_option maxRecDepth 20000 in
theorem ggX5_addFeeder_X5_checkRange : GoodIn wsX5_addFeeder wsX5_checkRange := goodIn_ca (goodIn_r _ [9, 10, 11] (by decide +kernel) (by decide +kernel)) (goodIn_sub (fun _ h => List.mem_cons_of_mem _ (List.mem_append_right _ h)) (by decide +kernel))
set_option maxRecDepth 20000 in
theorem gX5_addFeeder_X5_checkRange : GoodIn wsX5_addFeeder (va_wsS RX5 40 yX5_checkRange wsX5_checkRange) := goodIn_app (goodIn_of _ (by decide +kernel)) ggX5_addFeeder_X5_checkRange
set_option maxRecDepth 20000 in
theorem ggX5_addFeeder_X1_save : GoodIn wsX5_addFeeder wsX1_save := goodIn_r _ [16, 17, 18, 19, 20, 21, 22, 23, 24, 15, 25, 26, 27, 28, 29, 30, 31, 32, 33, 34, 35, 36, 37, 38, 39, 40, 41, 42, 43, 44, 45, 46, 47, 48, 49, 50, 51, 52, 53, 54, 55, 56, 57, 58, 59, 60, 61, 62, 63, 64, 65, 66, 67, 68, 69, 70, 71, 72, 73, 74, 96, 97, 84, 85, 86, 87, 88, 89, 90, 91, 92, 93, 94, 95, 98, 99] (by decide +kernel) (by decide +kernel)
set_option maxRecDepth 20000 in
theorem gX5_addFeeder_X1_save : GoodIn wsX5_addFeeder (wsV RX5 55 RX1 yX1_save wsX1_save) := goodIn_app (goodIn_of _ (by decide +kernel)) ggX5_addFeeder_X1_save
set_option maxRecDepth 20000 in
theorem ggX5_addFeeder_X2_newFeeder : GoodIn wsX5_addFeeder wsX2_newFeeder := goodIn_r _ [78, 56, 38, 41, 48, 49, 50, 37, 51, 47, 46, 84, 85, 86, 87, 88, 89, 90, 91, 92, 93, 94, 95, 98, 99] (by decide +kernel) (by decide +kernel)
set_option maxRecDepth 20000 in
theorem gX5_addFeeder_X2_newFeeder : GoodIn wsX5_addFeeder (wsV RX5 59 RX2 yX2_newFeeder wsX2_newFeeder) := goodIn_app (goodIn_of _ (by decide +kernel)) ggX5_addFeeder_X2_newFeeder
theorem dX5_addFeeder_0 : decode cX5_addFeeder 0 = .ok (.iload_n 1, 1) := by decide +kernel
theorem dX5_addFeeder_1 : decode cX5_addFeeder 1 = .ok (.iconst 0, 1) := by decide +kernel
theorem dX5_addFeeder_2 : decode cX5_addFeeder 2 = .ok (.bipush 99, 2) := by decide +kernel
theorem dX5_addFeeder_4 : decode cX5_addFeeder 4 = .ok (.invokestatic 40, 3) := by decide +kernel
theorem dX5_addFeeder_7 : decode cX5_addFeeder 7 = .ok (.iload_n 2, 1) := by decide +kernel
theorem dX5_addFeeder_8 : decode cX5_addFeeder 8 = .ok (.iconst 0, 1) := by decide +kernel
theorem dX5_addFeeder_9 : decode cX5_addFeeder 9 = .ok (.iconst 5, 1) := by decide +kernel
theorem dX5_addFeeder_10 : decode cX5_addFeeder 10 = .ok (.invokestatic 40, 3) := by decide +kernel
theorem dX5_addFeeder_13 : decode cX5_addFeeder 13 = .ok (.iload_n 3, 1) := by decide +kernel
theorem dX5_addFeeder_14 : decode cX5_addFeeder 14 = .ok (.iconst 0, 1) := by decide +kernel
theorem dX5_addFeeder_15 : decode cX5_addFeeder 15 = .ok (.sipush 500, 3) := by decide +kernel
theorem dX5_addFeeder_18 : decode cX5_addFeeder 18 = .ok (.invokestatic 40, 3) := by decide +kernel
theorem dX5_addFeeder_21 : decode cX5_addFeeder 21 = .ok (.iload 4, 2) := by decide +kernel
theorem dX5_addFeeder_23 : decode cX5_addFeeder 23 = .ok (.iconst 0, 1) := by decide +kernel
theorem dX5_addFeeder_24 : decode cX5_addFeeder 24 = .ok (.bipush 100, 2) := by decide +kernel
theorem dX5_addFeeder_26 : decode cX5_addFeeder 26 = .ok (.invokestatic 40, 3) := by decide +kernel
theorem dX5_addFeeder_29 : decode cX5_addFeeder 29 = .ok (.iload 5, 2) := by decide +kernel
theorem dX5_addFeeder_31 : decode cX5_addFeeder 31 = .ok (.iconst 0, 1) := by decide +kernel
theorem dX5_addFeeder_32 : decode cX5_addFeeder 32 = .ok (.bipush 100, 2) := by decide +kernel
theorem dX5_addFeeder_34 : decode cX5_addFeeder 34 = .ok (.invokestatic 40, 3) := by decide +kernel
theorem dX5_addFeeder_37 : decode cX5_addFeeder 37 = .ok (.aload_n 0, 1) := by decide +kernel
theorem dX5_addFeeder_38 : decode cX5_addFeeder 38 = .ok (.getfield 10, 3) := by decide +kernel
theorem dX5_addFeeder_41 : decode cX5_addFeeder 41 = .ok (.getfield 44, 3) := by decide +kernel
theorem dX5_addFeeder_44 : decode cX5_addFeeder 44 = .ok (.bipush 8, 2) := by decide +kernel
theorem dX5_addFeeder_46 : decode cX5_addFeeder 46 = .ok (.if_icmp .lt 13, 3) := by decide +kernel
theorem dX5_addFeeder_49 : decode cX5_addFeeder 49 = .ok (.new 48, 3) := by decide +kernel
theorem dX5_addFeeder_52 : decode cX5_addFeeder 52 = .ok (.dup, 1) := by decide +kernel
theorem dX5_addFeeder_53 : decode cX5_addFeeder 53 = .ok (.ldc 50, 2) := by decide +kernel
theorem dX5_addFeeder_55 : decode cX5_addFeeder 55 = .ok (.invokespecial 52, 3) := by decide +kernel
theorem dX5_addFeeder_58 : decode cX5_addFeeder 58 = .ok (.athrow, 1) := by decide +kernel
theorem dX5_addFeeder_59 : decode cX5_addFeeder 59 = .ok (.aload_n 0, 1) := by decide +kernel
theorem dX5_addFeeder_60 : decode cX5_addFeeder 60 = .ok (.getfield 29, 3) := by decide +kernel
theorem dX5_addFeeder_63 : decode cX5_addFeeder 63 = .ok (.aload_n 0, 1) := by decide +kernel
theorem dX5_addFeeder_64 : decode cX5_addFeeder 64 = .ok (.getfield 10, 3) := by decide +kernel
theorem dX5_addFeeder_67 : decode cX5_addFeeder 67 = .ok (.invokevirtual 55, 3) := by decide +kernel
theorem dX5_addFeeder_70 : decode cX5_addFeeder 70 = .ok (.aload_n 0, 1) := by decide +kernel
theorem dX5_addFeeder_71 : decode cX5_addFeeder 71 = .ok (.getfield 10, 3) := by decide +kernel
theorem dX5_addFeeder_74 : decode cX5_addFeeder 74 = .ok (.iload_n 1, 1) := by decide +kernel
theorem dX5_addFeeder_75 : decode cX5_addFeeder 75 = .ok (.iload_n 2, 1) := by decide +kernel
theorem dX5_addFeeder_76 : decode cX5_addFeeder 76 = .ok (.iload_n 3, 1) := by decide +kernel
theorem dX5_addFeeder_77 : decode cX5_addFeeder 77 = .ok (.iload 4, 2) := by decide +kernel
theorem dX5_addFeeder_79 : decode cX5_addFeeder 79 = .ok (.iload 5, 2) := by decide +kernel
theorem dX5_addFeeder_81 : decode cX5_addFeeder 81 = .ok (.invokevirtual 59, 3) := by decide +kernel
theorem dX5_addFeeder_84 : decode cX5_addFeeder 84 = .ok (.ireturn, 1) := by decide +kernel
set_option maxRecDepth 20000 in
theorem ggX5_addPlace_X5_checkRange : GoodIn wsX5_addPlace wsX5_checkRange := goodIn_ca (goodIn_r _ [9, 10, 11] (by decide +kernel) (by decide +kernel)) (goodIn_sub (fun _ h => List.mem_cons_of_mem _ (List.mem_append_right _ h)) (by decide +kernel))
set_option maxRecDepth 20000 in
theorem gX5_addPlace_X5_checkRange : GoodIn wsX5_addPlace (va_wsS RX5 40 yX5_checkRange wsX5_checkRange) := goodIn_app (goodIn_of _ (by decide +kernel)) ggX5_addPlace_X5_checkRange
set_option maxRecDepth 20000 in
theorem ggX5_addPlace_X1_save : GoodIn wsX5_addPlace wsX1_save := goodIn_r _ [16, 17, 18, 19, 20, 21, 22, 23, 24, 15, 25, 26, 27, 28, 29, 30, 31, 32, 33, 34, 35, 36, 37, 38, 39, 40, 41, 42, 43, 44, 45, 46, 47, 48, 49, 50, 51, 52, 53, 54, 55, 56, 57, 58, 59, 60, 61, 62, 63, 64, 65, 66, 67, 68, 69, 70, 71, 72, 73, 74, 100, 101, 88, 89, 90, 91, 92, 93, 94, 95, 96, 97, 98, 99, 102, 103] (by decide +kernel) (by decide +kernel)
set_option maxRecDepth 20000 in
theorem gX5_addPlace_X1_save : GoodIn wsX5_addPlace (wsV RX5 55 RX1 yX1_save wsX1_save) := goodIn_app (goodIn_of _ (by decide +kernel)) ggX5_addPlace_X1_save
set_option maxRecDepth 20000 in
theorem ggX5_addPlace_X2_newPlace : GoodIn wsX5_addPlace wsX2_newPlace := goodIn_r _ [78, 57, 39, 48, 49, 50, 37, 51, 47, 46, 79, 80, 81, 21, 82, 88, 89, 90, 91, 92, 93, 94, 95, 96, 97, 98, 99, 102, 103] (by decide +kernel) (by decide +kernel)
set_option maxRecDepth 20000 in
theorem gX5_addPlace_X2_newPlace : GoodIn wsX5_addPlace (wsV RX5 68 RX2 yX2_newPlace wsX2_newPlace) := goodIn_app (goodIn_of _ (by decide +kernel)) ggX5_addPlace_X2_newPlace
theorem dX5_addPlace_0 : decode cX5_addPlace 0 = .ok (.iload_n 1, 1) := by decide +kernel
theorem dX5_addPlace_1 : decode cX5_addPlace 1 = .ok (.iconst 0, 1) := by decide +kernel
theorem dX5_addPlace_2 : decode cX5_addPlace 2 = .ok (.bipush 99, 2) := by decide +kernel
theorem dX5_addPlace_4 : decode cX5_addPlace 4 = .ok (.invokestatic 40, 3) := by decide +kernel
theorem dX5_addPlace_7 : decode cX5_addPlace 7 = .ok (.iload_n 2, 1) := by decide +kernel
theorem dX5_addPlace_8 : decode cX5_addPlace 8 = .ok (.iconst 0, 1) := by decide +kernel
theorem dX5_addPlace_9 : decode cX5_addPlace 9 = .ok (.iconst 5, 1) := by decide +kernel
theorem dX5_addPlace_10 : decode cX5_addPlace 10 = .ok (.invokestatic 40, 3) := by decide +kernel
theorem dX5_addPlace_13 : decode cX5_addPlace 13 = .ok (.aload_n 0, 1) := by decide +kernel
theorem dX5_addPlace_14 : decode cX5_addPlace 14 = .ok (.getfield 10, 3) := by decide +kernel
theorem dX5_addPlace_17 : decode cX5_addPlace 17 = .ok (.getfield 63, 3) := by decide +kernel
theorem dX5_addPlace_20 : decode cX5_addPlace 20 = .ok (.bipush 24, 2) := by decide +kernel
theorem dX5_addPlace_22 : decode cX5_addPlace 22 = .ok (.if_icmp .lt 13, 3) := by decide +kernel
theorem dX5_addPlace_25 : decode cX5_addPlace 25 = .ok (.new 48, 3) := by decide +kernel
theorem dX5_addPlace_28 : decode cX5_addPlace 28 = .ok (.dup, 1) := by decide +kernel
theorem dX5_addPlace_29 : decode cX5_addPlace 29 = .ok (.ldc 66, 2) := by decide +kernel
theorem dX5_addPlace_31 : decode cX5_addPlace 31 = .ok (.invokespecial 52, 3) := by decide +kernel
theorem dX5_addPlace_34 : decode cX5_addPlace 34 = .ok (.athrow, 1) := by decide +kernel
theorem dX5_addPlace_35 : decode cX5_addPlace 35 = .ok (.aload_n 0, 1) := by decide +kernel
theorem dX5_addPlace_36 : decode cX5_addPlace 36 = .ok (.getfield 29, 3) := by decide +kernel
theorem dX5_addPlace_39 : decode cX5_addPlace 39 = .ok (.aload_n 0, 1) := by decide +kernel
theorem dX5_addPlace_40 : decode cX5_addPlace 40 = .ok (.getfield 10, 3) := by decide +kernel
theorem dX5_addPlace_43 : decode cX5_addPlace 43 = .ok (.invokevirtual 55, 3) := by decide +kernel
theorem dX5_addPlace_46 : decode cX5_addPlace 46 = .ok (.aload_n 0, 1) := by decide +kernel
theorem dX5_addPlace_47 : decode cX5_addPlace 47 = .ok (.getfield 10, 3) := by decide +kernel
theorem dX5_addPlace_50 : decode cX5_addPlace 50 = .ok (.iload_n 1, 1) := by decide +kernel
theorem dX5_addPlace_51 : decode cX5_addPlace 51 = .ok (.iload_n 2, 1) := by decide +kernel
theorem dX5_addPlace_52 : decode cX5_addPlace 52 = .ok (.invokevirtual 68, 3) := by decide +kernel
theorem dX5_addPlace_55 : decode cX5_addPlace 55 = .ok (.ireturn, 1) := by decide +kernel
set_option maxRecDepth 20000 in
theorem ggX5_fill_X5_checkFeeder : GoodIn wsX5_fill wsX5_checkFeeder := goodIn_ca (goodIn_r _ [10, 11, 12, 3, 13, 87, 88, 89, 90, 91, 92, 93, 94, 95, 96, 97, 98, 99, 100, 101, 102, 103] (by decide +kernel) (by decide +kernel)) (goodIn_sub (fun _ h => List.mem_cons_of_mem _ (List.mem_append_left _ (List.mem_append_right _ h))) (by decide +kernel))
set_option maxRecDepth 20000 in
theorem gX5_fill_X5_checkFeeder : GoodIn wsX5_fill (wsV RX5 72 RX5 yX5_checkFeeder wsX5_checkFeeder) := goodIn_app (goodIn_of _ (by decide +kernel)) ggX5_fill_X5_checkFeeder
set_option maxRecDepth 20000 in
theorem ggX5_fill_X5_checkRange : GoodIn wsX5_fill wsX5_checkRange := goodIn_ca (goodIn_r _ [16, 17, 18] (by decide +kernel) (by decide +kernel)) (goodIn_sub (fun _ h => List.mem_cons_of_mem _ (List.mem_append_right _ h)) (by decide +kernel))
set_option maxRecDepth 20000 in
theorem gX5_fill_X5_checkRange : GoodIn wsX5_fill (va_wsS RX5 40 yX5_checkRange wsX5_checkRange) := goodIn_app (goodIn_of _ (by decide +kernel)) ggX5_fill_X5_checkRange
set_option maxRecDepth 20000 in
theorem ggX5_fill_X3_at : GoodIn wsX5_fill wsX3_at := goodIn_r _ [23, 24, 25, 104, 105] (by decide +kernel) (by decide +kernel)
set_option maxRecDepth 20000 in
theorem gX5_fill_X3_at : GoodIn wsX5_fill (wsV RX5 80 RX3 yX3_at wsX3_at) := goodIn_app (goodIn_of _ (by decide +kernel)) ggX5_fill_X3_at
set_option maxRecDepth 20000 in
theorem ggX5_fill_X1_save : GoodIn wsX5_fill wsX1_save := goodIn_r _ [30, 31, 32, 33, 34, 35, 36, 37, 38, 29, 39, 40, 41, 42, 43, 44, 45, 46, 47, 48, 49, 50, 22, 51, 52, 53, 54, 55, 56, 57, 58, 25, 24, 59, 60, 61, 62, 63, 64, 65, 66, 67, 68, 69, 70, 71, 72, 73, 74, 75, 76, 77, 78, 79, 80, 81, 82, 83, 84, 85, 106, 107, 92, 93, 94, 95, 96, 97, 98, 99, 100, 101, 102, 103, 104, 105] (by decide +kernel) (by decide +kernel)
set_option maxRecDepth 20000 in
theorem gX5_fill_X1_save : GoodIn wsX5_fill (wsV RX5 55 RX1 yX1_save wsX1_save) := goodIn_app (goodIn_of _ (by decide +kernel)) ggX5_fill_X1_save
set_option maxRecDepth 20000 in
theorem ggX5_fill_X3_put : GoodIn wsX5_fill wsX3_put := goodIn_r _ [62, 24, 25, 104, 105] (by decide +kernel) (by decide +kernel)
set_option maxRecDepth 20000 in
theorem gX5_fill_X3_put : GoodIn wsX5_fill (wsV RX5 87 RX3 yX3_put wsX3_put) := goodIn_app (goodIn_of _ (by decide +kernel)) ggX5_fill_X3_put
theorem dX5_fill_0 : decode cX5_fill 0 = .ok (.aload_n 0, 1) := by decide +kernel
theorem dX5_fill_1 : decode cX5_fill 1 = .ok (.iload_n 1, 1) := by decide +kernel
theorem dX5_fill_2 : decode cX5_fill 2 = .ok (.invokevirtual 72, 3) := by decide +kernel
theorem dX5_fill_5 : decode cX5_fill 5 = .ok (.iload_n 2, 1) := by decide +kernel
theorem dX5_fill_6 : decode cX5_fill 6 = .ok (.iconst 1, 1) := by decide +kernel
theorem dX5_fill_7 : decode cX5_fill 7 = .ok (.sipush 500, 3) := by decide +kernel
theorem dX5_fill_10 : decode cX5_fill 10 = .ok (.invokestatic 40, 3) := by decide +kernel
theorem dX5_fill_13 : decode cX5_fill 13 = .ok (.aload_n 0, 1) := by decide +kernel
theorem dX5_fill_14 : decode cX5_fill 14 = .ok (.getfield 10, 3) := by decide +kernel
theorem dX5_fill_17 : decode cX5_fill 17 = .ok (.getfield 76, 3) := by decide +kernel
theorem dX5_fill_20 : decode cX5_fill 20 = .ok (.iload_n 1, 1) := by decide +kernel
theorem dX5_fill_21 : decode cX5_fill 21 = .ok (.iconst 2, 1) := by decide +kernel
theorem dX5_fill_22 : decode cX5_fill 22 = .ok (.invokevirtual 80, 3) := by decide +kernel
theorem dX5_fill_25 : decode cX5_fill 25 = .ok (.iload_n 2, 1) := by decide +kernel
theorem dX5_fill_26 : decode cX5_fill 26 = .ok (.iadd, 1) := by decide +kernel
theorem dX5_fill_27 : decode cX5_fill 27 = .ok (.istore_n 3, 1) := by decide +kernel
theorem dX5_fill_28 : decode cX5_fill 28 = .ok (.iload_n 3, 1) := by decide +kernel
theorem dX5_fill_29 : decode cX5_fill 29 = .ok (.sipush 500, 3) := by decide +kernel
theorem dX5_fill_32 : decode cX5_fill 32 = .ok (.if_icmp .le 13, 3) := by decide +kernel
theorem dX5_fill_35 : decode cX5_fill 35 = .ok (.new 48, 3) := by decide +kernel
theorem dX5_fill_38 : decode cX5_fill 38 = .ok (.dup, 1) := by decide +kernel
theorem dX5_fill_39 : decode cX5_fill 39 = .ok (.ldc 85, 2) := by decide +kernel
theorem dX5_fill_41 : decode cX5_fill 41 = .ok (.invokespecial 52, 3) := by decide +kernel
theorem dX5_fill_44 : decode cX5_fill 44 = .ok (.athrow, 1) := by decide +kernel
theorem dX5_fill_45 : decode cX5_fill 45 = .ok (.aload_n 0, 1) := by decide +kernel
theorem dX5_fill_46 : decode cX5_fill 46 = .ok (.getfield 29, 3) := by decide +kernel
theorem dX5_fill_49 : decode cX5_fill 49 = .ok (.aload_n 0, 1) := by decide +kernel
theorem dX5_fill_50 : decode cX5_fill 50 = .ok (.getfield 10, 3) := by decide +kernel
theorem dX5_fill_53 : decode cX5_fill 53 = .ok (.invokevirtual 55, 3) := by decide +kernel
theorem dX5_fill_56 : decode cX5_fill 56 = .ok (.aload_n 0, 1) := by decide +kernel
theorem dX5_fill_57 : decode cX5_fill 57 = .ok (.getfield 10, 3) := by decide +kernel
theorem dX5_fill_60 : decode cX5_fill 60 = .ok (.getfield 76, 3) := by decide +kernel
theorem dX5_fill_63 : decode cX5_fill 63 = .ok (.iload_n 1, 1) := by decide +kernel
theorem dX5_fill_64 : decode cX5_fill 64 = .ok (.iconst 2, 1) := by decide +kernel
theorem dX5_fill_65 : decode cX5_fill 65 = .ok (.iload_n 3, 1) := by decide +kernel
theorem dX5_fill_66 : decode cX5_fill 66 = .ok (.invokevirtual 87, 3) := by decide +kernel
theorem dX5_fill_69 : decode cX5_fill 69 = .ok (.iload_n 3, 1) := by decide +kernel
theorem dX5_fill_70 : decode cX5_fill 70 = .ok (.ireturn, 1) := by decide +kernel
set_option maxRecDepth 20000 in
theorem ggX5_repair_X5_checkFeeder : GoodIn wsX5_repair wsX5_checkFeeder := goodIn_ca (goodIn_r _ [8, 9, 10, 2, 11, 85, 86, 87, 88, 89, 90, 91, 92, 93, 94, 95, 96, 97, 98, 99, 100, 101] (by decide +kernel) (by decide +kernel)) (goodIn_sub (fun _ h => List.mem_cons_of_mem _ (List.mem_append_left _ (List.mem_append_right _ h))) (by decide +kernel))
set_option maxRecDepth 20000 in
theorem gX5_repair_X5_checkFeeder : GoodIn wsX5_repair (wsV RX5 72 RX5 yX5_checkFeeder wsX5_checkFeeder) := goodIn_app (goodIn_of _ (by decide +kernel)) ggX5_repair_X5_checkFeeder
set_option maxRecDepth 20000 in
theorem ggX5_repair_X5_checkRange : GoodIn wsX5_repair wsX5_checkRange := goodIn_ca (goodIn_r _ [14, 15, 16] (by decide +kernel) (by decide +kernel)) (goodIn_sub (fun _ h => List.mem_cons_of_mem _ (List.mem_append_right _ h)) (by decide +kernel))
set_option maxRecDepth 20000 in
theorem gX5_repair_X5_checkRange : GoodIn wsX5_repair (va_wsS RX5 40 yX5_checkRange wsX5_checkRange) := goodIn_app (goodIn_of _ (by decide +kernel)) ggX5_repair_X5_checkRange
set_option maxRecDepth 20000 in
theorem ggX5_repair_X1_save : GoodIn wsX5_repair wsX1_save := goodIn_r _ [21, 22, 23, 24, 25, 26, 27, 28, 29, 20, 30, 31, 32, 33, 34, 35, 36, 37, 38, 39, 40, 41, 42, 43, 44, 45, 46, 47, 48, 49, 50, 51, 52, 53, 54, 55, 56, 57, 58, 59, 60, 61, 62, 63, 64, 65, 66, 67, 68, 69, 70, 71, 72, 73, 74, 75, 76, 77, 78, 79, 102, 103, 90, 91, 92, 93, 94, 95, 96, 97, 98, 99, 100, 101, 104, 105] (by decide +kernel) (by decide +kernel)
set_option maxRecDepth 20000 in
theorem gX5_repair_X1_save : GoodIn wsX5_repair (wsV RX5 55 RX1 yX1_save wsX1_save) := goodIn_app (goodIn_of _ (by decide +kernel)) ggX5_repair_X1_save
set_option maxRecDepth 20000 in
theorem ggX5_repair_X3_at : GoodIn wsX5_repair wsX3_at := goodIn_r _ [83, 52, 51, 104, 105] (by decide +kernel) (by decide +kernel)
set_option maxRecDepth 20000 in
theorem gX5_repair_X3_at : GoodIn wsX5_repair (wsV RX5 80 RX3 yX3_at wsX3_at) := goodIn_app (goodIn_of _ (by decide +kernel)) ggX5_repair_X3_at
set_option maxRecDepth 20000 in
theorem ggX5_repair_X3_put : GoodIn wsX5_repair wsX3_put := goodIn_r _ [56, 52, 51, 104, 105] (by decide +kernel) (by decide +kernel)
set_option maxRecDepth 20000 in
theorem gX5_repair_X3_put : GoodIn wsX5_repair (wsV RX5 87 RX3 yX3_put wsX3_put) := goodIn_app (goodIn_of _ (by decide +kernel)) ggX5_repair_X3_put
theorem dX5_repair_0 : decode cX5_repair 0 = .ok (.aload_n 0, 1) := by decide +kernel
theorem dX5_repair_1 : decode cX5_repair 1 = .ok (.iload_n 1, 1) := by decide +kernel
theorem dX5_repair_2 : decode cX5_repair 2 = .ok (.invokevirtual 72, 3) := by decide +kernel
theorem dX5_repair_5 : decode cX5_repair 5 = .ok (.iload_n 2, 1) := by decide +kernel
theorem dX5_repair_6 : decode cX5_repair 6 = .ok (.iconst 0, 1) := by decide +kernel
theorem dX5_repair_7 : decode cX5_repair 7 = .ok (.bipush 100, 2) := by decide +kernel
theorem dX5_repair_9 : decode cX5_repair 9 = .ok (.invokestatic 40, 3) := by decide +kernel
theorem dX5_repair_12 : decode cX5_repair 12 = .ok (.iload_n 3, 1) := by decide +kernel
theorem dX5_repair_13 : decode cX5_repair 13 = .ok (.iconst 0, 1) := by decide +kernel
theorem dX5_repair_14 : decode cX5_repair 14 = .ok (.bipush 100, 2) := by decide +kernel
theorem dX5_repair_16 : decode cX5_repair 16 = .ok (.invokestatic 40, 3) := by decide +kernel
theorem dX5_repair_19 : decode cX5_repair 19 = .ok (.aload_n 0, 1) := by decide +kernel
theorem dX5_repair_20 : decode cX5_repair 20 = .ok (.getfield 29, 3) := by decide +kernel
theorem dX5_repair_23 : decode cX5_repair 23 = .ok (.aload_n 0, 1) := by decide +kernel
theorem dX5_repair_24 : decode cX5_repair 24 = .ok (.getfield 10, 3) := by decide +kernel
theorem dX5_repair_27 : decode cX5_repair 27 = .ok (.invokevirtual 55, 3) := by decide +kernel
theorem dX5_repair_30 : decode cX5_repair 30 = .ok (.aload_n 0, 1) := by decide +kernel
theorem dX5_repair_31 : decode cX5_repair 31 = .ok (.getfield 10, 3) := by decide +kernel
theorem dX5_repair_34 : decode cX5_repair 34 = .ok (.getfield 76, 3) := by decide +kernel
theorem dX5_repair_37 : decode cX5_repair 37 = .ok (.iload_n 1, 1) := by decide +kernel
theorem dX5_repair_38 : decode cX5_repair 38 = .ok (.iconst 3, 1) := by decide +kernel
theorem dX5_repair_39 : decode cX5_repair 39 = .ok (.invokevirtual 80, 3) := by decide +kernel
theorem dX5_repair_42 : decode cX5_repair 42 = .ok (.istore 4, 2) := by decide +kernel
theorem dX5_repair_44 : decode cX5_repair 44 = .ok (.aload_n 0, 1) := by decide +kernel
theorem dX5_repair_45 : decode cX5_repair 45 = .ok (.getfield 10, 3) := by decide +kernel
theorem dX5_repair_48 : decode cX5_repair 48 = .ok (.getfield 76, 3) := by decide +kernel
theorem dX5_repair_51 : decode cX5_repair 51 = .ok (.iload_n 1, 1) := by decide +kernel
theorem dX5_repair_52 : decode cX5_repair 52 = .ok (.iconst 3, 1) := by decide +kernel
theorem dX5_repair_53 : decode cX5_repair 53 = .ok (.iload_n 2, 1) := by decide +kernel
theorem dX5_repair_54 : decode cX5_repair 54 = .ok (.invokevirtual 87, 3) := by decide +kernel
theorem dX5_repair_57 : decode cX5_repair 57 = .ok (.aload_n 0, 1) := by decide +kernel
theorem dX5_repair_58 : decode cX5_repair 58 = .ok (.getfield 10, 3) := by decide +kernel
theorem dX5_repair_61 : decode cX5_repair 61 = .ok (.getfield 76, 3) := by decide +kernel
theorem dX5_repair_64 : decode cX5_repair 64 = .ok (.iload_n 1, 1) := by decide +kernel
theorem dX5_repair_65 : decode cX5_repair 65 = .ok (.iconst 4, 1) := by decide +kernel
theorem dX5_repair_66 : decode cX5_repair 66 = .ok (.iload_n 3, 1) := by decide +kernel
theorem dX5_repair_67 : decode cX5_repair 67 = .ok (.invokevirtual 87, 3) := by decide +kernel
theorem dX5_repair_70 : decode cX5_repair 70 = .ok (.iload 4, 2) := by decide +kernel
theorem dX5_repair_72 : decode cX5_repair 72 = .ok (.ireturn, 1) := by decide +kernel
set_option maxRecDepth 20000 in
theorem ggX5_fit_X5_checkNozzle : GoodIn wsX5_fit wsX5_checkNozzle := goodIn_ca (goodIn_r _ [7, 8, 9] (by decide +kernel) (by decide +kernel)) (goodIn_sub (fun _ h => List.mem_cons_of_mem _ (List.mem_append_left _ (List.mem_append_right _ h))) (by decide +kernel))
set_option maxRecDepth 20000 in
theorem gX5_fit_X5_checkNozzle : GoodIn wsX5_fit (va_wsS RX5 90 yX5_checkNozzle wsX5_checkNozzle) := goodIn_app (goodIn_of _ (by decide +kernel)) ggX5_fit_X5_checkNozzle
set_option maxRecDepth 20000 in
theorem ggX5_fit_X5_checkRange : GoodIn wsX5_fit wsX5_checkRange := goodIn_ca (goodIn_r _ [12, 13, 14] (by decide +kernel) (by decide +kernel)) (goodIn_sub (fun _ h => List.mem_cons_of_mem _ (List.mem_append_right _ h)) (by decide +kernel))
set_option maxRecDepth 20000 in
theorem gX5_fit_X5_checkRange : GoodIn wsX5_fit (va_wsS RX5 40 yX5_checkRange wsX5_checkRange) := goodIn_app (goodIn_of _ (by decide +kernel)) ggX5_fit_X5_checkRange
set_option maxRecDepth 20000 in
theorem ggX5_fit_X1_save : GoodIn wsX5_fit wsX1_save := goodIn_r _ [19, 20, 21, 22, 23, 24, 25, 26, 27, 18, 28, 29, 30, 31, 32, 33, 34, 35, 36, 37, 38, 39, 40, 41, 42, 43, 44, 45, 46, 47, 48, 49, 50, 51, 52, 53, 54, 55, 56, 57, 58, 59, 60, 61, 62, 63, 64, 65, 66, 67, 68, 69, 70, 71, 72, 73, 74, 75, 76, 77, 100, 101, 88, 89, 90, 91, 92, 93, 94, 95, 96, 97, 98, 99, 102, 103] (by decide +kernel) (by decide +kernel)
set_option maxRecDepth 20000 in
theorem gX5_fit_X1_save : GoodIn wsX5_fit (wsV RX5 55 RX1 yX1_save wsX1_save) := goodIn_app (goodIn_of _ (by decide +kernel)) ggX5_fit_X1_save
set_option maxRecDepth 20000 in
theorem ggX5_fit_X3_at : GoodIn wsX5_fit wsX3_at := goodIn_r _ [81, 50, 49, 102, 103] (by decide +kernel) (by decide +kernel)
set_option maxRecDepth 20000 in
theorem gX5_fit_X3_at : GoodIn wsX5_fit (wsV RX5 80 RX3 yX3_at wsX3_at) := goodIn_app (goodIn_of _ (by decide +kernel)) ggX5_fit_X3_at
set_option maxRecDepth 20000 in
theorem ggX5_fit_X3_put : GoodIn wsX5_fit wsX3_put := goodIn_r _ [54, 50, 49, 102, 103] (by decide +kernel) (by decide +kernel)
set_option maxRecDepth 20000 in
theorem gX5_fit_X3_put : GoodIn wsX5_fit (wsV RX5 87 RX3 yX3_put wsX3_put) := goodIn_app (goodIn_of _ (by decide +kernel)) ggX5_fit_X3_put
theorem dX5_fit_0 : decode cX5_fit 0 = .ok (.iload_n 1, 1) := by decide +kernel
theorem dX5_fit_1 : decode cX5_fit 1 = .ok (.invokestatic 90, 3) := by decide +kernel
theorem dX5_fit_4 : decode cX5_fit 4 = .ok (.iload_n 2, 1) := by decide +kernel
theorem dX5_fit_5 : decode cX5_fit 5 = .ok (.iconst 0, 1) := by decide +kernel
theorem dX5_fit_6 : decode cX5_fit 6 = .ok (.bipush 63, 2) := by decide +kernel
theorem dX5_fit_8 : decode cX5_fit 8 = .ok (.invokestatic 40, 3) := by decide +kernel
theorem dX5_fit_11 : decode cX5_fit 11 = .ok (.aload_n 0, 1) := by decide +kernel
theorem dX5_fit_12 : decode cX5_fit 12 = .ok (.getfield 29, 3) := by decide +kernel
theorem dX5_fit_15 : decode cX5_fit 15 = .ok (.aload_n 0, 1) := by decide +kernel
theorem dX5_fit_16 : decode cX5_fit 16 = .ok (.getfield 10, 3) := by decide +kernel
theorem dX5_fit_19 : decode cX5_fit 19 = .ok (.invokevirtual 55, 3) := by decide +kernel
theorem dX5_fit_22 : decode cX5_fit 22 = .ok (.aload_n 0, 1) := by decide +kernel
theorem dX5_fit_23 : decode cX5_fit 23 = .ok (.getfield 10, 3) := by decide +kernel
theorem dX5_fit_26 : decode cX5_fit 26 = .ok (.getfield 93, 3) := by decide +kernel
theorem dX5_fit_29 : decode cX5_fit 29 = .ok (.iload_n 1, 1) := by decide +kernel
theorem dX5_fit_30 : decode cX5_fit 30 = .ok (.iconst 0, 1) := by decide +kernel
theorem dX5_fit_31 : decode cX5_fit 31 = .ok (.invokevirtual 80, 3) := by decide +kernel
theorem dX5_fit_34 : decode cX5_fit 34 = .ok (.istore_n 3, 1) := by decide +kernel
theorem dX5_fit_35 : decode cX5_fit 35 = .ok (.aload_n 0, 1) := by decide +kernel
theorem dX5_fit_36 : decode cX5_fit 36 = .ok (.getfield 10, 3) := by decide +kernel
theorem dX5_fit_39 : decode cX5_fit 39 = .ok (.getfield 93, 3) := by decide +kernel
theorem dX5_fit_42 : decode cX5_fit 42 = .ok (.iload_n 1, 1) := by decide +kernel
theorem dX5_fit_43 : decode cX5_fit 43 = .ok (.iconst 0, 1) := by decide +kernel
theorem dX5_fit_44 : decode cX5_fit 44 = .ok (.iload_n 2, 1) := by decide +kernel
theorem dX5_fit_45 : decode cX5_fit 45 = .ok (.invokevirtual 87, 3) := by decide +kernel
theorem dX5_fit_48 : decode cX5_fit 48 = .ok (.iload_n 3, 1) := by decide +kernel
theorem dX5_fit_49 : decode cX5_fit 49 = .ok (.ireturn, 1) := by decide +kernel
set_option maxRecDepth 20000 in
theorem ggX5_clear_X1_save : GoodIn wsX5_clear wsX1_save := goodIn_r _ [8, 9, 10, 11, 12, 13, 14, 15, 16, 7, 17, 18, 19, 20, 21, 22, 23, 24, 25, 26, 27, 28, 29, 30, 31, 32, 33, 34, 35, 36, 37, 38, 39, 40, 41, 42, 43, 44, 45, 46, 47, 48, 49, 50, 51, 52, 53, 54, 55, 56, 57, 58, 59, 60, 61, 62, 63, 64, 65, 66, 96, 97, 84, 85, 86, 87, 88, 89, 90, 91, 92, 93, 94, 95, 98, 99] (by decide +kernel) (by decide +kernel)
set_option maxRecDepth 20000 in
theorem gX5_clear_X1_save : GoodIn wsX5_clear (wsV RX5 55 RX1 yX1_save wsX1_save) := goodIn_app (goodIn_of _ (by decide +kernel)) ggX5_clear_X1_save
set_option maxRecDepth 20000 in
theorem ggX5_clear_X2_placesWith : GoodIn wsX5_clear wsX2_placesWith := goodIn_r _ [70, 49, 31, 71, 72, 73, 29, 74, 39, 38, 84, 85, 86, 87, 88, 89, 90, 91, 92, 93, 94, 95, 98, 99] (by decide +kernel) (by decide +kernel)
set_option maxRecDepth 20000 in
theorem gX5_clear_X2_placesWith : GoodIn wsX5_clear (wsV RX5 96 RX2 yX2_placesWith wsX2_placesWith) := goodIn_app (goodIn_of _ (by decide +kernel)) ggX5_clear_X2_placesWith
set_option maxRecDepth 20000 in
theorem ggX5_clear_X2_emptyPlace : GoodIn wsX5_clear wsX2_emptyPlace := goodIn_r _ [78, 31, 40, 41, 42, 29, 43, 39, 38, 84, 85, 86, 87, 88, 89, 90, 91, 92, 93, 94, 95, 98, 99] (by decide +kernel) (by decide +kernel)
set_option maxRecDepth 20000 in
theorem gX5_clear_X2_emptyPlace : GoodIn wsX5_clear (wsV RX5 100 RX2 yX2_emptyPlace wsX2_emptyPlace) := goodIn_app (goodIn_of _ (by decide +kernel)) ggX5_clear_X2_emptyPlace
theorem dX5_clear_0 : decode cX5_clear 0 = .ok (.aload_n 0, 1) := by decide +kernel
theorem dX5_clear_1 : decode cX5_clear 1 = .ok (.getfield 29, 3) := by decide +kernel
theorem dX5_clear_4 : decode cX5_clear 4 = .ok (.aload_n 0, 1) := by decide +kernel
theorem dX5_clear_5 : decode cX5_clear 5 = .ok (.getfield 10, 3) := by decide +kernel
theorem dX5_clear_8 : decode cX5_clear 8 = .ok (.invokevirtual 55, 3) := by decide +kernel
theorem dX5_clear_11 : decode cX5_clear 11 = .ok (.aload_n 0, 1) := by decide +kernel
theorem dX5_clear_12 : decode cX5_clear 12 = .ok (.getfield 10, 3) := by decide +kernel
theorem dX5_clear_15 : decode cX5_clear 15 = .ok (.iconst 1, 1) := by decide +kernel
theorem dX5_clear_16 : decode cX5_clear 16 = .ok (.invokevirtual 96, 3) := by decide +kernel
theorem dX5_clear_19 : decode cX5_clear 19 = .ok (.istore_n 1, 1) := by decide +kernel
theorem dX5_clear_20 : decode cX5_clear 20 = .ok (.iconst 0, 1) := by decide +kernel
theorem dX5_clear_21 : decode cX5_clear 21 = .ok (.istore_n 2, 1) := by decide +kernel
theorem dX5_clear_22 : decode cX5_clear 22 = .ok (.iload_n 2, 1) := by decide +kernel
theorem dX5_clear_23 : decode cX5_clear 23 = .ok (.aload_n 0, 1) := by decide +kernel
theorem dX5_clear_24 : decode cX5_clear 24 = .ok (.getfield 10, 3) := by decide +kernel
theorem dX5_clear_27 : decode cX5_clear 27 = .ok (.getfield 63, 3) := by decide +kernel
theorem dX5_clear_30 : decode cX5_clear 30 = .ok (.if_icmp .ge 17, 3) := by decide +kernel
theorem dX5_clear_33 : decode cX5_clear 33 = .ok (.aload_n 0, 1) := by decide +kernel
theorem dX5_clear_34 : decode cX5_clear 34 = .ok (.getfield 10, 3) := by decide +kernel
theorem dX5_clear_37 : decode cX5_clear 37 = .ok (.iload_n 2, 1) := by decide +kernel
theorem dX5_clear_38 : decode cX5_clear 38 = .ok (.invokevirtual 100, 3) := by decide +kernel
theorem dX5_clear_41 : decode cX5_clear 41 = .ok (.iinc 2 1, 3) := by decide +kernel
theorem dX5_clear_44 : decode cX5_clear 44 = .ok (.goto (-22), 3) := by decide +kernel
theorem dX5_clear_47 : decode cX5_clear 47 = .ok (.iload_n 1, 1) := by decide +kernel
theorem dX5_clear_48 : decode cX5_clear 48 = .ok (.ireturn, 1) := by decide +kernel
set_option maxRecDepth 20000 in
theorem ggX5_set_X5_checkSetting : GoodIn wsX5_set wsX5_checkSetting := goodIn_ca (goodIn_r _ [8, 9, 10] (by decide +kernel) (by decide +kernel)) (goodIn_sub (fun _ h => List.mem_cons_of_mem _ (List.mem_append_left _ (List.mem_append_right _ h))) (by decide +kernel))
set_option maxRecDepth 20000 in
theorem gX5_set_X5_checkSetting : GoodIn wsX5_set (va_wsS RX5 103 yX5_checkSetting wsX5_checkSetting) := goodIn_app (goodIn_of _ (by decide +kernel)) ggX5_set_X5_checkSetting
set_option maxRecDepth 20000 in
theorem ggX5_set_X5_checkRange : GoodIn wsX5_set wsX5_checkRange := goodIn_ca (goodIn_r _ [13, 14, 15] (by decide +kernel) (by decide +kernel)) (goodIn_sub (fun _ h => List.mem_cons_of_mem _ (List.mem_append_right _ h)) (by decide +kernel))
set_option maxRecDepth 20000 in
theorem gX5_set_X5_checkRange : GoodIn wsX5_set (va_wsS RX5 40 yX5_checkRange wsX5_checkRange) := goodIn_app (goodIn_of _ (by decide +kernel)) ggX5_set_X5_checkRange
set_option maxRecDepth 20000 in
theorem ggX5_set_X1_save : GoodIn wsX5_set wsX1_save := goodIn_r _ [20, 21, 22, 23, 24, 25, 26, 27, 28, 19, 29, 30, 31, 32, 33, 34, 35, 36, 37, 38, 39, 40, 41, 42, 43, 44, 45, 46, 47, 48, 49, 50, 51, 52, 53, 54, 55, 56, 57, 58, 59, 60, 61, 62, 63, 64, 65, 66, 67, 68, 69, 70, 71, 72, 73, 74, 75, 76, 77, 78, 96, 97, 84, 85, 86, 87, 88, 89, 90, 91, 92, 93, 94, 95, 98, 99] (by decide +kernel) (by decide +kernel)
set_option maxRecDepth 20000 in
theorem gX5_set_X1_save : GoodIn wsX5_set (wsV RX5 55 RX1 yX1_save wsX1_save) := goodIn_app (goodIn_of _ (by decide +kernel)) ggX5_set_X1_save
theorem dX5_set_0 : decode cX5_set 0 = .ok (.iload_n 1, 1) := by decide +kernel
theorem dX5_set_1 : decode cX5_set 1 = .ok (.invokestatic 103, 3) := by decide +kernel
theorem dX5_set_4 : decode cX5_set 4 = .ok (.iload_n 2, 1) := by decide +kernel
theorem dX5_set_5 : decode cX5_set 5 = .ok (.iconst 0, 1) := by decide +kernel
theorem dX5_set_6 : decode cX5_set 6 = .ok (.getstatic 106, 3) := by decide +kernel
theorem dX5_set_9 : decode cX5_set 9 = .ok (.iload_n 1, 1) := by decide +kernel
theorem dX5_set_10 : decode cX5_set 10 = .ok (.iaload, 1) := by decide +kernel
theorem dX5_set_11 : decode cX5_set 11 = .ok (.invokestatic 40, 3) := by decide +kernel
theorem dX5_set_14 : decode cX5_set 14 = .ok (.aload_n 0, 1) := by decide +kernel
theorem dX5_set_15 : decode cX5_set 15 = .ok (.getfield 29, 3) := by decide +kernel
theorem dX5_set_18 : decode cX5_set 18 = .ok (.aload_n 0, 1) := by decide +kernel
theorem dX5_set_19 : decode cX5_set 19 = .ok (.getfield 10, 3) := by decide +kernel
theorem dX5_set_22 : decode cX5_set 22 = .ok (.invokevirtual 55, 3) := by decide +kernel
theorem dX5_set_25 : decode cX5_set 25 = .ok (.aload_n 0, 1) := by decide +kernel
theorem dX5_set_26 : decode cX5_set 26 = .ok (.getfield 10, 3) := by decide +kernel
theorem dX5_set_29 : decode cX5_set 29 = .ok (.getfield 110, 3) := by decide +kernel
theorem dX5_set_32 : decode cX5_set 32 = .ok (.iload_n 1, 1) := by decide +kernel
theorem dX5_set_33 : decode cX5_set 33 = .ok (.iaload, 1) := by decide +kernel
theorem dX5_set_34 : decode cX5_set 34 = .ok (.istore_n 3, 1) := by decide +kernel
theorem dX5_set_35 : decode cX5_set 35 = .ok (.aload_n 0, 1) := by decide +kernel
theorem dX5_set_36 : decode cX5_set 36 = .ok (.getfield 10, 3) := by decide +kernel
theorem dX5_set_39 : decode cX5_set 39 = .ok (.getfield 110, 3) := by decide +kernel
theorem dX5_set_42 : decode cX5_set 42 = .ok (.iload_n 1, 1) := by decide +kernel
theorem dX5_set_43 : decode cX5_set 43 = .ok (.iload_n 2, 1) := by decide +kernel
theorem dX5_set_44 : decode cX5_set 44 = .ok (.iastore, 1) := by decide +kernel
theorem dX5_set_45 : decode cX5_set 45 = .ok (.iload_n 3, 1) := by decide +kernel
theorem dX5_set_46 : decode cX5_set 46 = .ok (.ireturn, 1) := by decide +kernel
set_option maxRecDepth 20000 in
theorem ggX5_tour_X5_checkRange : GoodIn wsX5_tour wsX5_checkRange := goodIn_ca (goodIn_r _ [7, 8, 9] (by decide +kernel) (by decide +kernel)) (goodIn_sub (fun _ h => List.mem_cons_of_mem _ (List.mem_append_right _ h)) (by decide +kernel))
set_option maxRecDepth 20000 in
theorem gX5_tour_X5_checkRange : GoodIn wsX5_tour (va_wsS RX5 40 yX5_checkRange wsX5_checkRange) := goodIn_app (goodIn_of _ (by decide +kernel)) ggX5_tour_X5_checkRange
set_option maxRecDepth 20000 in
theorem ggX5_tour_X1_save : GoodIn wsX5_tour wsX1_save := goodIn_r _ [14, 15, 16, 17, 18, 19, 20, 21, 22, 13, 23, 24, 25, 26, 27, 28, 29, 30, 31, 32, 33, 34, 35, 36, 37, 38, 39, 40, 41, 42, 43, 44, 45, 46, 47, 48, 49, 50, 51, 52, 53, 54, 55, 56, 57, 58, 59, 60, 61, 62, 63, 64, 65, 66, 67, 68, 69, 70, 71, 72, 175, 176, 177, 178, 179, 180, 181, 182, 183, 184, 185, 186, 187, 188, 189, 190] (by decide +kernel) (by decide +kernel)
set_option maxRecDepth 20000 in
theorem gX5_tour_X1_save : GoodIn wsX5_tour (wsV RX5 55 RX1 yX1_save wsX1_save) := goodIn_app (goodIn_of _ (by decide +kernel)) ggX5_tour_X1_save
set_option maxRecDepth 20000 in
theorem ggX5_tour_X4_make : GoodIn wsX5_tour wsX4_make := goodIn_r _ [77, 78, 79, 80, 81, 76, 82, 83, 84, 85, 86, 87, 19, 88, 54, 36, 89, 90, 91, 35, 92, 45, 44, 93, 94, 95, 96, 97, 98, 99, 100, 101, 102, 103, 104, 105, 106, 107, 108, 109, 110, 111, 112, 113, 39, 57, 114, 115, 70, 116, 117, 118, 119, 120, 121, 122, 123, 124, 125, 56, 126, 127, 128, 129, 130, 131, 47, 48, 49, 132, 133, 134, 135, 136, 30, 137, 138, 139, 140, 141, 142, 143, 32, 144, 145, 146, 46, 147, 148, 149, 150, 151, 69, 71, 152, 153, 154, 155, 156, 157, 158, 159, 160, 161, 162, 163, 164, 165, 166, 167, 168, 169, 177, 178, 179, 180, 181, 182, 183, 184, 185, 186, 187, 188, 191, 192, 193, 189, 190] (by decide +kernel) (by decide +kernel)
set_option maxRecDepth 20000 in
theorem gX5_tour_X4_make : GoodIn wsX5_tour (wsV RX5 113 RX4 yX4_make wsX4_make) := goodIn_app (goodIn_of _ (by decide +kernel)) ggX5_tour_X4_make
theorem dX5_tour_0 : decode cX5_tour 0 = .ok (.iload_n 1, 1) := by decide +kernel
theorem dX5_tour_1 : decode cX5_tour 1 = .ok (.iconst 1, 1) := by decide +kernel
theorem dX5_tour_2 : decode cX5_tour 2 = .ok (.bipush 20, 2) := by decide +kernel
theorem dX5_tour_4 : decode cX5_tour 4 = .ok (.invokestatic 40, 3) := by decide +kernel
theorem dX5_tour_7 : decode cX5_tour 7 = .ok (.aload_n 0, 1) := by decide +kernel
theorem dX5_tour_8 : decode cX5_tour 8 = .ok (.getfield 29, 3) := by decide +kernel
theorem dX5_tour_11 : decode cX5_tour 11 = .ok (.aload_n 0, 1) := by decide +kernel
theorem dX5_tour_12 : decode cX5_tour 12 = .ok (.getfield 10, 3) := by decide +kernel
theorem dX5_tour_15 : decode cX5_tour 15 = .ok (.invokevirtual 55, 3) := by decide +kernel
theorem dX5_tour_18 : decode cX5_tour 18 = .ok (.aload_n 0, 1) := by decide +kernel
theorem dX5_tour_19 : decode cX5_tour 19 = .ok (.getfield 22, 3) := by decide +kernel
theorem dX5_tour_22 : decode cX5_tour 22 = .ok (.aload_n 0, 1) := by decide +kernel
theorem dX5_tour_23 : decode cX5_tour 23 = .ok (.getfield 10, 3) := by decide +kernel
theorem dX5_tour_26 : decode cX5_tour 26 = .ok (.iload_n 1, 1) := by decide +kernel
theorem dX5_tour_27 : decode cX5_tour 27 = .ok (.invokevirtual 113, 3) := by decide +kernel
theorem dX5_tour_30 : decode cX5_tour 30 = .ok (.ireturn, 1) := by decide +kernel
set_option maxRecDepth 20000 in
theorem ggX5_inspect_X1_save : GoodIn wsX5_inspect wsX1_save := goodIn_r _ [7, 8, 9, 10, 11, 12, 13, 14, 15, 6, 16, 17, 18, 19, 20, 21, 22, 23, 24, 25, 26, 27, 28, 29, 30, 31, 32, 33, 34, 35, 36, 37, 38, 39, 40, 41, 42, 43, 44, 45, 46, 47, 48, 49, 50, 51, 52, 53, 54, 55, 56, 57, 58, 59, 60, 61, 62, 63, 64, 65, 90, 91, 92, 93, 94, 95, 96, 97, 98, 99, 100, 101, 102, 103, 104, 105] (by decide +kernel) (by decide +kernel)
set_option maxRecDepth 20000 in
theorem gX5_inspect_X1_save : GoodIn wsX5_inspect (wsV RX5 55 RX1 yX1_save wsX1_save) := goodIn_app (goodIn_of _ (by decide +kernel)) ggX5_inspect_X1_save
set_option maxRecDepth 20000 in
theorem ggX5_inspect_X2_takeOffWrong : GoodIn wsX5_inspect wsX2_takeOffWrong := goodIn_r _ [69, 48, 30, 52, 49, 70, 71, 72, 28, 73, 38, 37, 74, 75, 76, 12, 77, 32, 25, 78, 79, 63, 80, 39, 40, 41, 42, 81, 82, 83, 84, 92, 93, 94, 95, 96, 97, 98, 99, 100, 101, 102, 103, 104, 105] (by decide +kernel) (by decide +kernel)
set_option maxRecDepth 20000 in
theorem gX5_inspect_X2_takeOffWrong : GoodIn wsX5_inspect (wsV RX5 117 RX2 yX2_takeOffWrong wsX2_takeOffWrong) := goodIn_app (goodIn_of _ (by decide +kernel)) ggX5_inspect_X2_takeOffWrong
theorem dX5_inspect_0 : decode cX5_inspect 0 = .ok (.aload_n 0, 1) := by decide +kernel
theorem dX5_inspect_1 : decode cX5_inspect 1 = .ok (.getfield 29, 3) := by decide +kernel
theorem dX5_inspect_4 : decode cX5_inspect 4 = .ok (.aload_n 0, 1) := by decide +kernel
theorem dX5_inspect_5 : decode cX5_inspect 5 = .ok (.getfield 10, 3) := by decide +kernel
theorem dX5_inspect_8 : decode cX5_inspect 8 = .ok (.invokevirtual 55, 3) := by decide +kernel
theorem dX5_inspect_11 : decode cX5_inspect 11 = .ok (.aload_n 0, 1) := by decide +kernel
theorem dX5_inspect_12 : decode cX5_inspect 12 = .ok (.getfield 10, 3) := by decide +kernel
theorem dX5_inspect_15 : decode cX5_inspect 15 = .ok (.invokevirtual 117, 3) := by decide +kernel
theorem dX5_inspect_18 : decode cX5_inspect 18 = .ok (.ireturn, 1) := by decide +kernel
set_option maxRecDepth 20000 in
theorem ggX5_append_X5_checkRange : GoodIn wsX5_append wsX5_checkRange := goodIn_ca (goodIn_r _ [9, 10, 11] (by decide +kernel) (by decide +kernel)) (goodIn_sub (fun _ h => List.mem_cons_of_mem _ (List.mem_append_right _ h)) (by decide +kernel))
set_option maxRecDepth 20000 in
theorem gX5_append_X5_checkRange : GoodIn wsX5_append (va_wsS RX5 40 yX5_checkRange wsX5_checkRange) := goodIn_app (goodIn_of _ (by decide +kernel)) ggX5_append_X5_checkRange
theorem dX5_append_0 : decode cX5_append 0 = .ok (.iload_n 1, 1) := by decide +kernel
theorem dX5_append_1 : decode cX5_append 1 = .ok (.bipush 33, 2) := by decide +kernel
theorem dX5_append_3 : decode cX5_append 3 = .ok (.bipush 126, 2) := by decide +kernel
theorem dX5_append_5 : decode cX5_append 5 = .ok (.invokestatic 40, 3) := by decide +kernel
theorem dX5_append_8 : decode cX5_append 8 = .ok (.aload_n 0, 1) := by decide +kernel
theorem dX5_append_9 : decode cX5_append 9 = .ok (.getfield 36, 3) := by decide +kernel
theorem dX5_append_12 : decode cX5_append 12 = .ok (.getfield 121, 3) := by decide +kernel
