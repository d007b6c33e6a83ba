theorem dX6_addsFeeder_15 : decode cX6_addsFeeder 15 = .ok (.iadd, 1) := by decide +kernel
theorem dX6_addsFeeder_16 : decode cX6_addsFeeder 16 = .ok (.istore 7, 2) := by decide +kernel
theorem dX6_addsFeeder_18 : decode cX6_addsFeeder 18 = .ok (.aload_n 0, 1) := by decide +kernel
theorem dX6_addsFeeder_19 : decode cX6_addsFeeder 19 = .ok (.getfield 7, 3) := by decide +kernel
theorem dX6_addsFeeder_22 : decode cX6_addsFeeder 22 = .ok (.iconst 5, 1) := by decide +kernel
theorem dX6_addsFeeder_23 : decode cX6_addsFeeder 23 = .ok (.dup2, 1) := by decide +kernel
theorem dX6_addsFeeder_24 : decode cX6_addsFeeder 24 = .ok (.iaload, 1) := by decide +kernel
theorem dX6_addsFeeder_25 : decode cX6_addsFeeder 25 = .ok (.iconst 1, 1) := by decide +kernel
theorem dX6_addsFeeder_26 : decode cX6_addsFeeder 26 = .ok (.iadd, 1) := by decide +kernel
theorem dX6_addsFeeder_27 : decode cX6_addsFeeder 27 = .ok (.iastore, 1) := by decide +kernel
theorem dX6_addsFeeder_28 : decode cX6_addsFeeder 28 = .ok (.aload_n 0, 1) := by decide +kernel
theorem dX6_addsFeeder_29 : decode cX6_addsFeeder 29 = .ok (.getfield 7, 3) := by decide +kernel
theorem dX6_addsFeeder_32 : decode cX6_addsFeeder 32 = .ok (.iload 7, 2) := by decide +kernel
theorem dX6_addsFeeder_34 : decode cX6_addsFeeder 34 = .ok (.iconst 0, 1) := by decide +kernel
theorem dX6_addsFeeder_35 : decode cX6_addsFeeder 35 = .ok (.iadd, 1) := by decide +kernel
theorem dX6_addsFeeder_36 : decode cX6_addsFeeder 36 = .ok (.iload_n 1, 1) := by decide +kernel
theorem dX6_addsFeeder_37 : decode cX6_addsFeeder 37 = .ok (.iastore, 1) := by decide +kernel
theorem dX6_addsFeeder_38 : decode cX6_addsFeeder 38 = .ok (.aload_n 0, 1) := by decide +kernel
theorem dX6_addsFeeder_39 : decode cX6_addsFeeder 39 = .ok (.getfield 7, 3) := by decide +kernel
theorem dX6_addsFeeder_42 : decode cX6_addsFeeder 42 = .ok (.iload 7, 2) := by decide +kernel
theorem dX6_addsFeeder_44 : decode cX6_addsFeeder 44 = .ok (.iconst 1, 1) := by decide +kernel
theorem dX6_addsFeeder_45 : decode cX6_addsFeeder 45 = .ok (.iadd, 1) := by decide +kernel
theorem dX6_addsFeeder_46 : decode cX6_addsFeeder 46 = .ok (.iload_n 2, 1) := by decide +kernel
theorem dX6_addsFeeder_47 : decode cX6_addsFeeder 47 = .ok (.iastore, 1) := by decide +kernel
theorem dX6_addsFeeder_48 : decode cX6_addsFeeder 48 = .ok (.aload_n 0, 1) := by decide +kernel
theorem dX6_addsFeeder_49 : decode cX6_addsFeeder 49 = .ok (.getfield 7, 3) := by decide +kernel
theorem dX6_addsFeeder_52 : decode cX6_addsFeeder 52 = .ok (.iload 7, 2) := by decide +kernel
theorem dX6_addsFeeder_54 : decode cX6_addsFeeder 54 = .ok (.iconst 2, 1) := by decide +kernel
theorem dX6_addsFeeder_55 : decode cX6_addsFeeder 55 = .ok (.iadd, 1) := by decide +kernel
theorem dX6_addsFeeder_56 : decode cX6_addsFeeder 56 = .ok (.iload_n 3, 1) := by decide +kernel
theorem dX6_addsFeeder_57 : decode cX6_addsFeeder 57 = .ok (.iastore, 1) := by decide +kernel
theorem dX6_addsFeeder_58 : decode cX6_addsFeeder 58 = .ok (.aload_n 0, 1) := by decide +kernel
theorem dX6_addsFeeder_59 : decode cX6_addsFeeder 59 = .ok (.getfield 7, 3) := by decide +kernel
theorem dX6_addsFeeder_62 : decode cX6_addsFeeder 62 = .ok (.iload 7, 2) := by decide +kernel
theorem dX6_addsFeeder_64 : decode cX6_addsFeeder 64 = .ok (.iconst 3, 1) := by decide +kernel
theorem dX6_addsFeeder_65 : decode cX6_addsFeeder 65 = .ok (.iadd, 1) := by decide +kernel
theorem dX6_addsFeeder_66 : decode cX6_addsFeeder 66 = .ok (.iload 4, 2) := by decide +kernel
theorem dX6_addsFeeder_68 : decode cX6_addsFeeder 68 = .ok (.iastore, 1) := by decide +kernel
theorem dX6_addsFeeder_69 : decode cX6_addsFeeder 69 = .ok (.aload_n 0, 1) := by decide +kernel
theorem dX6_addsFeeder_70 : decode cX6_addsFeeder 70 = .ok (.getfield 7, 3) := by decide +kernel
theorem dX6_addsFeeder_73 : decode cX6_addsFeeder 73 = .ok (.iload 7, 2) := by decide +kernel
theorem dX6_addsFeeder_75 : decode cX6_addsFeeder 75 = .ok (.iconst 4, 1) := by decide +kernel
theorem dX6_addsFeeder_76 : decode cX6_addsFeeder 76 = .ok (.iadd, 1) := by decide +kernel
theorem dX6_addsFeeder_77 : decode cX6_addsFeeder 77 = .ok (.iload 5, 2) := by decide +kernel
theorem dX6_addsFeeder_79 : decode cX6_addsFeeder 79 = .ok (.iastore, 1) := by decide +kernel
theorem dX6_addsFeeder_80 : decode cX6_addsFeeder 80 = .ok (.iconst 5, 1) := by decide +kernel
theorem dX6_addsFeeder_81 : decode cX6_addsFeeder 81 = .ok (.istore 8, 2) := by decide +kernel
theorem dX6_addsFeeder_83 : decode cX6_addsFeeder 83 = .ok (.iload 8, 2) := by decide +kernel
theorem dX6_addsFeeder_85 : decode cX6_addsFeeder 85 = .ok (.bipush 7, 2) := by decide +kernel
theorem dX6_addsFeeder_87 : decode cX6_addsFeeder 87 = .ok (.if_icmp .gt 20, 3) := by decide +kernel
theorem dX6_addsFeeder_90 : decode cX6_addsFeeder 90 = .ok (.aload_n 0, 1) := by decide +kernel
theorem dX6_addsFeeder_91 : decode cX6_addsFeeder 91 = .ok (.getfield 7, 3) := by decide +kernel
theorem dX6_addsFeeder_94 : decode cX6_addsFeeder 94 = .ok (.iload 7, 2) := by decide +kernel
theorem dX6_addsFeeder_96 : decode cX6_addsFeeder 96 = .ok (.iload 8, 2) := by decide +kernel
theorem dX6_addsFeeder_98 : decode cX6_addsFeeder 98 = .ok (.iadd, 1) := by decide +kernel
theorem dX6_addsFeeder_99 : decode cX6_addsFeeder 99 = .ok (.iconst 0, 1) := by decide +kernel
theorem dX6_addsFeeder_100 : decode cX6_addsFeeder 100 = .ok (.iastore, 1) := by decide +kernel
theorem dX6_addsFeeder_101 : decode cX6_addsFeeder 101 = .ok (.iinc 8 1, 3) := by decide +kernel
theorem dX6_addsFeeder_104 : decode cX6_addsFeeder 104 = .ok (.goto (-21), 3) := by decide +kernel
theorem dX6_addsFeeder_107 : decode cX6_addsFeeder 107 = .ok (.iconst 0, 1) := by decide +kernel
theorem dX6_addsFeeder_108 : decode cX6_addsFeeder 108 = .ok (.istore 8, 2) := by decide +kernel
theorem dX6_addsFeeder_110 : decode cX6_addsFeeder 110 = .ok (.iload 8, 2) := by decide +kernel
theorem dX6_addsFeeder_112 : decode cX6_addsFeeder 112 = .ok (.iconst 4, 1) := by decide +kernel
theorem dX6_addsFeeder_113 : decode cX6_addsFeeder 113 = .ok (.if_icmp .ge 28, 3) := by decide +kernel
theorem dX6_addsFeeder_116 : decode cX6_addsFeeder 116 = .ok (.aload_n 0, 1) := by decide +kernel
theorem dX6_addsFeeder_117 : decode cX6_addsFeeder 117 = .ok (.getfield 7, 3) := by decide +kernel
theorem dX6_addsFeeder_120 : decode cX6_addsFeeder 120 = .ok (.sipush 216, 3) := by decide +kernel
theorem dX6_addsFeeder_123 : decode cX6_addsFeeder 123 = .ok (.bipush 8, 2) := by decide +kernel
theorem dX6_addsFeeder_125 : decode cX6_addsFeeder 125 = .ok (.iload 8, 2) := by decide +kernel
theorem dX6_addsFeeder_127 : decode cX6_addsFeeder 127 = .ok (.imul, 1) := by decide +kernel
theorem dX6_addsFeeder_128 : decode cX6_addsFeeder 128 = .ok (.iadd, 1) := by decide +kernel
theorem dX6_addsFeeder_129 : decode cX6_addsFeeder 129 = .ok (.iload 6, 2) := by decide +kernel
theorem dX6_addsFeeder_131 : decode cX6_addsFeeder 131 = .ok (.iadd, 1) := by decide +kernel
theorem dX6_addsFeeder_132 : decode cX6_addsFeeder 132 = .ok (.bipush 50, 2) := by decide +kernel
theorem dX6_addsFeeder_134 : decode cX6_addsFeeder 134 = .ok (.iastore, 1) := by decide +kernel
theorem dX6_addsFeeder_135 : decode cX6_addsFeeder 135 = .ok (.iinc 8 1, 3) := by decide +kernel
theorem dX6_addsFeeder_138 : decode cX6_addsFeeder 138 = .ok (.goto (-28), 3) := by decide +kernel
theorem dX6_addsFeeder_141 : decode cX6_addsFeeder 141 = .ok (.iload 6, 2) := by decide +kernel
theorem dX6_addsFeeder_143 : decode cX6_addsFeeder 143 = .ok (.ireturn, 1) := by decide +kernel
set_option maxRecDepth 20000 in
theorem ggX6_addFeeder_X6_isX : GoodIn wsX6_addFeeder wsX6_isX := goodIn_r _ [6, 7, 8, 5, 9] (by decide +kernel) (by decide +kernel)
set_option maxRecDepth 20000 in
theorem gX6_addFeeder_X6_isX : GoodIn wsX6_addFeeder (va_wsS RX6 49 yX6_isX wsX6_isX) := goodIn_app (goodIn_of _ (by decide +kernel)) ggX6_addFeeder_X6_isX
set_option maxRecDepth 20000 in
theorem ggX6_addFeeder_X6_isKind : GoodIn wsX6_addFeeder wsX6_isKind := goodIn_r _ [12, 7, 8, 5, 9] (by decide +kernel) (by decide +kernel)
set_option maxRecDepth 20000 in
theorem gX6_addFeeder_X6_isKind : GoodIn wsX6_addFeeder (va_wsS RX6 53 yX6_isKind wsX6_isKind) := goodIn_app (goodIn_of _ (by decide +kernel)) ggX6_addFeeder_X6_isKind
set_option maxRecDepth 20000 in
theorem ggX6_addFeeder_X6_within : GoodIn wsX6_addFeeder wsX6_within := goodIn_r _ [9] (by decide +kernel) (by decide +kernel)
set_option maxRecDepth 20000 in
theorem gX6_addFeeder_X6_within : GoodIn wsX6_addFeeder (va_wsS RX6 45 yX6_within wsX6_within) := goodIn_app (goodIn_of _ (by decide +kernel)) ggX6_addFeeder_X6_within
set_option maxRecDepth 20000 in
theorem ggX6_addFeeder_X6_isPercent : GoodIn wsX6_addFeeder wsX6_isPercent := goodIn_r _ [15, 7, 8, 5, 9] (by decide +kernel) (by decide +kernel)
set_option maxRecDepth 20000 in
theorem gX6_addFeeder_X6_isPercent : GoodIn wsX6_addFeeder (va_wsS RX6 56 yX6_isPercent wsX6_isPercent) := goodIn_app (goodIn_of _ (by decide +kernel)) ggX6_addFeeder_X6_isPercent
set_option maxRecDepth 20000 in
theorem ggX6_addFeeder_X6_save : GoodIn wsX6_addFeeder wsX6_save := goodIn_r _ [19, 20, 21, 1, 26, 27, 28, 29, 30, 31, 32, 33, 34, 35, 36, 37, 38, 39, 40] (by decide +kernel) (by decide +kernel)
set_option maxRecDepth 20000 in
theorem gX6_addFeeder_X6_save : GoodIn wsX6_addFeeder (wsV RX6 59 RX6 yX6_save wsX6_save) := goodIn_app (goodIn_of _ (by decide +kernel)) ggX6_addFeeder_X6_save
set_option maxRecDepth 20000 in
theorem ggX6_addFeeder_X6_addsFeeder : GoodIn wsX6_addFeeder wsX6_addsFeeder := goodIn_r _ [25, 1, 26, 27, 28, 29, 30, 31, 32, 33, 34, 35, 36, 37, 38, 39, 40] (by decide +kernel) (by decide +kernel)
set_option maxRecDepth 20000 in
theorem gX6_addFeeder_X6_addsFeeder : GoodIn wsX6_addFeeder (wsV RX6 62 RX6 yX6_addsFeeder wsX6_addsFeeder) := goodIn_app (goodIn_of _ (by decide +kernel)) ggX6_addFeeder_X6_addsFeeder
theorem dX6_addFeeder_0 : decode cX6_addFeeder 0 = .ok (.iload_n 1, 1) := by decide +kernel
theorem dX6_addFeeder_1 : decode cX6_addFeeder 1 = .ok (.invokestatic 49, 3) := by decide +kernel
theorem dX6_addFeeder_4 : decode cX6_addFeeder 4 = .ok (.ifCond .eq 41, 3) := by decide +kernel
theorem dX6_addFeeder_7 : decode cX6_addFeeder 7 = .ok (.iload_n 2, 1) := by decide +kernel
theorem dX6_addFeeder_8 : decode cX6_addFeeder 8 = .ok (.invokestatic 53, 3) := by decide +kernel
theorem dX6_addFeeder_11 : decode cX6_addFeeder 11 = .ok (.ifCond .eq 34, 3) := by decide +kernel
theorem dX6_addFeeder_14 : decode cX6_addFeeder 14 = .ok (.iload_n 3, 1) := by decide +kernel
theorem dX6_addFeeder_15 : decode cX6_addFeeder 15 = .ok (.iconst 0, 1) := by decide +kernel
theorem dX6_addFeeder_16 : decode cX6_addFeeder 16 = .ok (.sipush 500, 3) := by decide +kernel
theorem dX6_addFeeder_19 : decode cX6_addFeeder 19 = .ok (.invokestatic 45, 3) := by decide +kernel
theorem dX6_addFeeder_22 : decode cX6_addFeeder 22 = .ok (.ifCond .eq 23, 3) := by decide +kernel
theorem dX6_addFeeder_25 : decode cX6_addFeeder 25 = .ok (.iload 4, 2) := by decide +kernel
theorem dX6_addFeeder_27 : decode cX6_addFeeder 27 = .ok (.invokestatic 56, 3) := by decide +kernel
theorem dX6_addFeeder_30 : decode cX6_addFeeder 30 = .ok (.ifCond .eq 15, 3) := by decide +kernel
theorem dX6_addFeeder_33 : decode cX6_addFeeder 33 = .ok (.iload 5, 2) := by decide +kernel
theorem dX6_addFeeder_35 : decode cX6_addFeeder 35 = .ok (.invokestatic 56, 3) := by decide +kernel
theorem dX6_addFeeder_38 : decode cX6_addFeeder 38 = .ok (.ifCond .eq 7, 3) := by decide +kernel
theorem dX6_addFeeder_41 : decode cX6_addFeeder 41 = .ok (.iconst 1, 1) := by decide +kernel
theorem dX6_addFeeder_42 : decode cX6_addFeeder 42 = .ok (.goto 4, 3) := by decide +kernel
theorem dX6_addFeeder_45 : decode cX6_addFeeder 45 = .ok (.iconst 0, 1) := by decide +kernel
theorem dX6_addFeeder_46 : decode cX6_addFeeder 46 = .ok (.istore 6, 2) := by decide +kernel
theorem dX6_addFeeder_48 : decode cX6_addFeeder 48 = .ok (.aload_n 0, 1) := by decide +kernel
theorem dX6_addFeeder_49 : decode cX6_addFeeder 49 = .ok (.iload 6, 2) := by decide +kernel
theorem dX6_addFeeder_51 : decode cX6_addFeeder 51 = .ok (.ifCond .ne 7, 3) := by decide +kernel
theorem dX6_addFeeder_54 : decode cX6_addFeeder 54 = .ok (.iconst 1, 1) := by decide +kernel
theorem dX6_addFeeder_55 : decode cX6_addFeeder 55 = .ok (.goto 19, 3) := by decide +kernel
theorem dX6_addFeeder_58 : decode cX6_addFeeder 58 = .ok (.aload_n 0, 1) := by decide +kernel
theorem dX6_addFeeder_59 : decode cX6_addFeeder 59 = .ok (.getfield 7, 3) := by decide +kernel
theorem dX6_addFeeder_62 : decode cX6_addFeeder 62 = .ok (.iconst 5, 1) := by decide +kernel
theorem dX6_addFeeder_63 : decode cX6_addFeeder 63 = .ok (.iaload, 1) := by decide +kernel
theorem dX6_addFeeder_64 : decode cX6_addFeeder 64 = .ok (.bipush 8, 2) := by decide +kernel
theorem dX6_addFeeder_66 : decode cX6_addFeeder 66 = .ok (.if_icmp .ne 7, 3) := by decide +kernel
theorem dX6_addFeeder_69 : decode cX6_addFeeder 69 = .ok (.iconst 2, 1) := by decide +kernel
theorem dX6_addFeeder_70 : decode cX6_addFeeder 70 = .ok (.goto 4, 3) := by decide +kernel
theorem dX6_addFeeder_73 : decode cX6_addFeeder 73 = .ok (.iconst 0, 1) := by decide +kernel
theorem dX6_addFeeder_74 : decode cX6_addFeeder 74 = .ok (.putfield 34, 3) := by decide +kernel
theorem dX6_addFeeder_77 : decode cX6_addFeeder 77 = .ok (.aload_n 0, 1) := by decide +kernel
theorem dX6_addFeeder_78 : decode cX6_addFeeder 78 = .ok (.getfield 34, 3) := by decide +kernel
theorem dX6_addFeeder_81 : decode cX6_addFeeder 81 = .ok (.ifCond .le 5, 3) := by decide +kernel
theorem dX6_addFeeder_84 : decode cX6_addFeeder 84 = .ok (.iconst 0, 1) := by decide +kernel
theorem dX6_addFeeder_85 : decode cX6_addFeeder 85 = .ok (.ireturn, 1) := by decide +kernel
theorem dX6_addFeeder_86 : decode cX6_addFeeder 86 = .ok (.aload_n 0, 1) := by decide +kernel
theorem dX6_addFeeder_87 : decode cX6_addFeeder 87 = .ok (.invokevirtual 59, 3) := by decide +kernel
theorem dX6_addFeeder_90 : decode cX6_addFeeder 90 = .ok (.aload_n 0, 1) := by decide +kernel
theorem dX6_addFeeder_91 : decode cX6_addFeeder 91 = .ok (.iload_n 1, 1) := by decide +kernel
theorem dX6_addFeeder_92 : decode cX6_addFeeder 92 = .ok (.iload_n 2, 1) := by decide +kernel
theorem dX6_addFeeder_93 : decode cX6_addFeeder 93 = .ok (.iload_n 3, 1) := by decide +kernel
theorem dX6_addFeeder_94 : decode cX6_addFeeder 94 = .ok (.iload 4, 2) := by decide +kernel
theorem dX6_addFeeder_96 : decode cX6_addFeeder 96 = .ok (.iload 5, 2) := by decide +kernel
theorem dX6_addFeeder_98 : decode cX6_addFeeder 98 = .ok (.invokevirtual 62, 3) := by decide +kernel
theorem dX6_addFeeder_101 : decode cX6_addFeeder 101 = .ok (.ireturn, 1) := by decide +kernel
theorem dX6_addsPlace_0 : decode cX6_addsPlace 0 = .ok (.aload_n 0, 1) := by decide +kernel
theorem dX6_addsPlace_1 : decode cX6_addsPlace 1 = .ok (.getfield 7, 3) := by decide +kernel
theorem dX6_addsPlace_4 : decode cX6_addsPlace 4 = .ok (.bipush 6, 2) := by decide +kernel
theorem dX6_addsPlace_6 : decode cX6_addsPlace 6 = .ok (.iaload, 1) := by decide +kernel
theorem dX6_addsPlace_7 : decode cX6_addsPlace 7 = .ok (.istore_n 3, 1) := by decide +kernel
theorem dX6_addsPlace_8 : decode cX6_addsPlace 8 = .ok (.bipush 76, 2) := by decide +kernel
theorem dX6_addsPlace_10 : decode cX6_addsPlace 10 = .ok (.iconst 5, 1) := by decide +kernel
theorem dX6_addsPlace_11 : decode cX6_addsPlace 11 = .ok (.iload_n 3, 1) := by decide +kernel
theorem dX6_addsPlace_12 : decode cX6_addsPlace 12 = .ok (.imul, 1) := by decide +kernel
theorem dX6_addsPlace_13 : decode cX6_addsPlace 13 = .ok (.iadd, 1) := by decide +kernel
theorem dX6_addsPlace_14 : decode cX6_addsPlace 14 = .ok (.istore 4, 2) := by decide +kernel
theorem dX6_addsPlace_16 : decode cX6_addsPlace 16 = .ok (.aload_n 0, 1) := by decide +kernel
theorem dX6_addsPlace_17 : decode cX6_addsPlace 17 = .ok (.getfield 7, 3) := by decide +kernel
theorem dX6_addsPlace_20 : decode cX6_addsPlace 20 = .ok (.bipush 6, 2) := by decide +kernel
theorem dX6_addsPlace_22 : decode cX6_addsPlace 22 = .ok (.dup2, 1) := by decide +kernel
theorem dX6_addsPlace_23 : decode cX6_addsPlace 23 = .ok (.iaload, 1) := by decide +kernel
theorem dX6_addsPlace_24 : decode cX6_addsPlace 24 = .ok (.iconst 1, 1) := by decide +kernel
theorem dX6_addsPlace_25 : decode cX6_addsPlace 25 = .ok (.iadd, 1) := by decide +kernel
theorem dX6_addsPlace_26 : decode cX6_addsPlace 26 = .ok (.iastore, 1) := by decide +kernel
theorem dX6_addsPlace_27 : decode cX6_addsPlace 27 = .ok (.aload_n 0, 1) := by decide +kernel
theorem dX6_addsPlace_28 : decode cX6_addsPlace 28 = .ok (.getfield 7, 3) := by decide +kernel
theorem dX6_addsPlace_31 : decode cX6_addsPlace 31 = .ok (.iload 4, 2) := by decide +kernel
theorem dX6_addsPlace_33 : decode cX6_addsPlace 33 = .ok (.iconst 0, 1) := by decide +kernel
theorem dX6_addsPlace_34 : decode cX6_addsPlace 34 = .ok (.iadd, 1) := by decide +kernel
theorem dX6_addsPlace_35 : decode cX6_addsPlace 35 = .ok (.iload_n 1, 1) := by decide +kernel
theorem dX6_addsPlace_36 : decode cX6_addsPlace 36 = .ok (.iastore, 1) := by decide +kernel
theorem dX6_addsPlace_37 : decode cX6_addsPlace 37 = .ok (.aload_n 0, 1) := by decide +kernel
theorem dX6_addsPlace_38 : decode cX6_addsPlace 38 = .ok (.getfield 7, 3) := by decide +kernel
theorem dX6_addsPlace_41 : decode cX6_addsPlace 41 = .ok (.iload 4, 2) := by decide +kernel
theorem dX6_addsPlace_43 : decode cX6_addsPlace 43 = .ok (.iconst 1, 1) := by decide +kernel
theorem dX6_addsPlace_44 : decode cX6_addsPlace 44 = .ok (.iadd, 1) := by decide +kernel
theorem dX6_addsPlace_45 : decode cX6_addsPlace 45 = .ok (.iload_n 2, 1) := by decide +kernel
theorem dX6_addsPlace_46 : decode cX6_addsPlace 46 = .ok (.iastore, 1) := by decide +kernel
theorem dX6_addsPlace_47 : decode cX6_addsPlace 47 = .ok (.aload_n 0, 1) := by decide +kernel
theorem dX6_addsPlace_48 : decode cX6_addsPlace 48 = .ok (.getfield 7, 3) := by decide +kernel
theorem dX6_addsPlace_51 : decode cX6_addsPlace 51 = .ok (.iload 4, 2) := by decide +kernel
theorem dX6_addsPlace_53 : decode cX6_addsPlace 53 = .ok (.iconst 2, 1) := by decide +kernel
theorem dX6_addsPlace_54 : decode cX6_addsPlace 54 = .ok (.iadd, 1) := by decide +kernel
theorem dX6_addsPlace_55 : decode cX6_addsPlace 55 = .ok (.iconst 0, 1) := by decide +kernel
theorem dX6_addsPlace_56 : decode cX6_addsPlace 56 = .ok (.iastore, 1) := by decide +kernel
theorem dX6_addsPlace_57 : decode cX6_addsPlace 57 = .ok (.aload_n 0, 1) := by decide +kernel
theorem dX6_addsPlace_58 : decode cX6_addsPlace 58 = .ok (.getfield 7, 3) := by decide +kernel
theorem dX6_addsPlace_61 : decode cX6_addsPlace 61 = .ok (.iload 4, 2) := by decide +kernel
theorem dX6_addsPlace_63 : decode cX6_addsPlace 63 = .ok (.iconst 3, 1) := by decide +kernel
theorem dX6_addsPlace_64 : decode cX6_addsPlace 64 = .ok (.iadd, 1) := by decide +kernel
theorem dX6_addsPlace_65 : decode cX6_addsPlace 65 = .ok (.iconst (-1), 1) := by decide +kernel
theorem dX6_addsPlace_66 : decode cX6_addsPlace 66 = .ok (.iastore, 1) := by decide +kernel
theorem dX6_addsPlace_67 : decode cX6_addsPlace 67 = .ok (.aload_n 0, 1) := by decide +kernel
theorem dX6_addsPlace_68 : decode cX6_addsPlace 68 = .ok (.getfield 7, 3) := by decide +kernel
theorem dX6_addsPlace_71 : decode cX6_addsPlace 71 = .ok (.iload 4, 2) := by decide +kernel
theorem dX6_addsPlace_73 : decode cX6_addsPlace 73 = .ok (.iconst 4, 1) := by decide +kernel
theorem dX6_addsPlace_74 : decode cX6_addsPlace 74 = .ok (.iadd, 1) := by decide +kernel
theorem dX6_addsPlace_75 : decode cX6_addsPlace 75 = .ok (.iconst (-1), 1) := by decide +kernel
theorem dX6_addsPlace_76 : decode cX6_addsPlace 76 = .ok (.iastore, 1) := by decide +kernel
theorem dX6_addsPlace_77 : decode cX6_addsPlace 77 = .ok (.iload_n 3, 1) := by decide +kernel
theorem dX6_addsPlace_78 : decode cX6_addsPlace 78 = .ok (.ireturn, 1) := by decide +kernel
set_option maxRecDepth 20000 in
theorem ggX6_addPlace_X6_isX : GoodIn wsX6_addPlace wsX6_isX := goodIn_r _ [6, 7, 8, 5, 9] (by decide +kernel) (by decide +kernel)
set_option maxRecDepth 20000 in
theorem gX6_addPlace_X6_isX : GoodIn wsX6_addPlace (va_wsS RX6 49 yX6_isX wsX6_isX) := goodIn_app (goodIn_of _ (by decide +kernel)) ggX6_addPlace_X6_isX
set_option maxRecDepth 20000 in
theorem ggX6_addPlace_X6_isKind : GoodIn wsX6_addPlace wsX6_isKind := goodIn_r _ [12, 7, 8, 5, 9] (by decide +kernel) (by decide +kernel)
set_option maxRecDepth 20000 in
theorem gX6_addPlace_X6_isKind : GoodIn wsX6_addPlace (va_wsS RX6 53 yX6_isKind wsX6_isKind) := goodIn_app (goodIn_of _ (by decide +kernel)) ggX6_addPlace_X6_isKind
set_option maxRecDepth 20000 in
theorem ggX6_addPlace_X6_save : GoodIn wsX6_addPlace wsX6_save := goodIn_r _ [16, 17, 18, 1, 23, 24, 25, 26, 27, 28, 29, 30, 31, 32, 33, 34, 35, 36, 37] (by decide +kernel) (by decide +kernel)
set_option maxRecDepth 20000 in
theorem gX6_addPlace_X6_save : GoodIn wsX6_addPlace (wsV RX6 59 RX6 yX6_save wsX6_save) := goodIn_app (goodIn_of _ (by decide +kernel)) ggX6_addPlace_X6_save
set_option maxRecDepth 20000 in
theorem ggX6_addPlace_X6_addsPlace : GoodIn wsX6_addPlace wsX6_addsPlace := goodIn_r _ [22, 1, 23, 24, 25, 26, 27, 28, 29, 30, 31, 32, 33, 34, 35, 36, 37] (by decide +kernel) (by decide +kernel)
set_option maxRecDepth 20000 in
theorem gX6_addPlace_X6_addsPlace : GoodIn wsX6_addPlace (wsV RX6 66 RX6 yX6_addsPlace wsX6_addsPlace) := goodIn_app (goodIn_of _ (by decide +kernel)) ggX6_addPlace_X6_addsPlace
theorem dX6_addPlace_0 : decode cX6_addPlace 0 = .ok (.aload_n 0, 1) := by decide +kernel
theorem dX6_addPlace_1 : decode cX6_addPlace 1 = .ok (.iload_n 1, 1) := by decide +kernel
theorem dX6_addPlace_2 : decode cX6_addPlace 2 = .ok (.invokestatic 49, 3) := by decide +kernel
theorem dX6_addPlace_5 : decode cX6_addPlace 5 = .ok (.ifCond .eq 10, 3) := by decide +kernel
theorem dX6_addPlace_8 : decode cX6_addPlace 8 = .ok (.iload_n 2, 1) := by decide +kernel
theorem dX6_addPlace_9 : decode cX6_addPlace 9 = .ok (.invokestatic 53, 3) := by decide +kernel
theorem dX6_addPlace_12 : decode cX6_addPlace 12 = .ok (.ifCond .ne 7, 3) := by decide +kernel
theorem dX6_addPlace_15 : decode cX6_addPlace 15 = .ok (.iconst 1, 1) := by decide +kernel
theorem dX6_addPlace_16 : decode cX6_addPlace 16 = .ok (.goto 20, 3) := by decide +kernel
theorem dX6_addPlace_19 : decode cX6_addPlace 19 = .ok (.aload_n 0, 1) := by decide +kernel
theorem dX6_addPlace_20 : decode cX6_addPlace 20 = .ok (.getfield 7, 3) := by decide +kernel
theorem dX6_addPlace_23 : decode cX6_addPlace 23 = .ok (.bipush 6, 2) := by decide +kernel
theorem dX6_addPlace_25 : decode cX6_addPlace 25 = .ok (.iaload, 1) := by decide +kernel
theorem dX6_addPlace_26 : decode cX6_addPlace 26 = .ok (.bipush 24, 2) := by decide +kernel
theorem dX6_addPlace_28 : decode cX6_addPlace 28 = .ok (.if_icmp .ne 7, 3) := by decide +kernel
theorem dX6_addPlace_31 : decode cX6_addPlace 31 = .ok (.iconst 2, 1) := by decide +kernel
theorem dX6_addPlace_32 : decode cX6_addPlace 32 = .ok (.goto 4, 3) := by decide +kernel
theorem dX6_addPlace_35 : decode cX6_addPlace 35 = .ok (.iconst 0, 1) := by decide +kernel
theorem dX6_addPlace_36 : decode cX6_addPlace 36 = .ok (.putfield 34, 3) := by decide +kernel
theorem dX6_addPlace_39 : decode cX6_addPlace 39 = .ok (.aload_n 0, 1) := by decide +kernel
theorem dX6_addPlace_40 : decode cX6_addPlace 40 = .ok (.getfield 34, 3) := by decide +kernel
theorem dX6_addPlace_43 : decode cX6_addPlace 43 = .ok (.ifCond .le 5, 3) := by decide +kernel
theorem dX6_addPlace_46 : decode cX6_addPlace 46 = .ok (.iconst 0, 1) := by decide +kernel
theorem dX6_addPlace_47 : decode cX6_addPlace 47 = .ok (.ireturn, 1) := by decide +kernel
theorem dX6_addPlace_48 : decode cX6_addPlace 48 = .ok (.aload_n 0, 1) := by decide +kernel
theorem dX6_addPlace_49 : decode cX6_addPlace 49 = .ok (.invokevirtual 59, 3) := by decide +kernel
theorem dX6_addPlace_52 : decode cX6_addPlace 52 = .ok (.aload_n 0, 1) := by decide +kernel
theorem dX6_addPlace_53 : decode cX6_addPlace 53 = .ok (.iload_n 1, 1) := by decide +kernel
theorem dX6_addPlace_54 : decode cX6_addPlace 54 = .ok (.iload_n 2, 1) := by decide +kernel
theorem dX6_addPlace_55 : decode cX6_addPlace 55 = .ok (.invokevirtual 66, 3) := by decide +kernel
theorem dX6_addPlace_58 : decode cX6_addPlace 58 = .ok (.ireturn, 1) := by decide +kernel
set_option maxRecDepth 20000 in
theorem ggX6_fill_X6_isFeeder : GoodIn wsX6_fill wsX6_isFeeder := goodIn_r _ [7, 2, 8, 9, 6, 10, 21, 22, 23, 24, 25, 26, 27, 28, 29, 30, 31, 32, 33, 34, 35] (by decide +kernel) (by decide +kernel)
set_option maxRecDepth 20000 in
theorem gX6_fill_X6_isFeeder : GoodIn wsX6_fill (wsV RX6 69 RX6 yX6_isFeeder wsX6_isFeeder) := goodIn_app (goodIn_of _ (by decide +kernel)) ggX6_fill_X6_isFeeder
set_option maxRecDepth 20000 in
theorem ggX6_fill_X6_within : GoodIn wsX6_fill wsX6_within := goodIn_r _ [10] (by decide +kernel) (by decide +kernel)
set_option maxRecDepth 20000 in
theorem gX6_fill_X6_within : GoodIn wsX6_fill (va_wsS RX6 45 yX6_within wsX6_within) := goodIn_app (goodIn_of _ (by decide +kernel)) ggX6_fill_X6_within
set_option maxRecDepth 20000 in
theorem ggX6_fill_X6_ofFeeder : GoodIn wsX6_fill wsX6_ofFeeder := goodIn_r _ [14, 2, 21, 22, 23, 24, 25, 26, 27, 28, 29, 30, 31, 32, 33, 34, 35] (by decide +kernel) (by decide +kernel)
set_option maxRecDepth 20000 in
theorem gX6_fill_X6_ofFeeder : GoodIn wsX6_fill (wsV RX6 72 RX6 yX6_ofFeeder wsX6_ofFeeder) := goodIn_app (goodIn_of _ (by decide +kernel)) ggX6_fill_X6_ofFeeder
set_option maxRecDepth 20000 in
theorem ggX6_fill_X6_save : GoodIn wsX6_fill wsX6_save := goodIn_r _ [18, 19, 20, 2, 21, 22, 23, 24, 25, 26, 27, 28, 29, 30, 31, 32, 33, 34, 35] (by decide +kernel) (by decide +kernel)
set_option maxRecDepth 20000 in
theorem gX6_fill_X6_save : GoodIn wsX6_fill (wsV RX6 59 RX6 yX6_save wsX6_save) := goodIn_app (goodIn_of _ (by decide +kernel)) ggX6_fill_X6_save
theorem dX6_fill_0 : decode cX6_fill 0 = .ok (.aload_n 0, 1) := by decide +kernel
theorem dX6_fill_1 : decode cX6_fill 1 = .ok (.aload_n 0, 1) := by decide +kernel
theorem dX6_fill_2 : decode cX6_fill 2 = .ok (.iload_n 1, 1) := by decide +kernel
theorem dX6_fill_3 : decode cX6_fill 3 = .ok (.invokevirtual 69, 3) := by decide +kernel
theorem dX6_fill_6 : decode cX6_fill 6 = .ok (.ifCond .ne 7, 3) := by decide +kernel
theorem dX6_fill_9 : decode cX6_fill 9 = .ok (.iconst 1, 1) := by decide +kernel
theorem dX6_fill_10 : decode cX6_fill 10 = .ok (.goto 37, 3) := by decide +kernel
theorem dX6_fill_13 : decode cX6_fill 13 = .ok (.iload_n 2, 1) := by decide +kernel
theorem dX6_fill_14 : decode cX6_fill 14 = .ok (.iconst 1, 1) := by decide +kernel
theorem dX6_fill_15 : decode cX6_fill 15 = .ok (.sipush 500, 3) := by decide +kernel
theorem dX6_fill_18 : decode cX6_fill 18 = .ok (.invokestatic 45, 3) := by decide +kernel
theorem dX6_fill_21 : decode cX6_fill 21 = .ok (.ifCond .ne 7, 3) := by decide +kernel
theorem dX6_fill_24 : decode cX6_fill 24 = .ok (.iconst 2, 1) := by decide +kernel
theorem dX6_fill_25 : decode cX6_fill 25 = .ok (.goto 22, 3) := by decide +kernel
theorem dX6_fill_28 : decode cX6_fill 28 = .ok (.aload_n 0, 1) := by decide +kernel
theorem dX6_fill_29 : decode cX6_fill 29 = .ok (.iload_n 1, 1) := by decide +kernel
theorem dX6_fill_30 : decode cX6_fill 30 = .ok (.iconst 2, 1) := by decide +kernel
theorem dX6_fill_31 : decode cX6_fill 31 = .ok (.invokevirtual 72, 3) := by decide +kernel
theorem dX6_fill_34 : decode cX6_fill 34 = .ok (.iload_n 2, 1) := by decide +kernel
theorem dX6_fill_35 : decode cX6_fill 35 = .ok (.iadd, 1) := by decide +kernel
theorem dX6_fill_36 : decode cX6_fill 36 = .ok (.sipush 500, 3) := by decide +kernel
theorem dX6_fill_39 : decode cX6_fill 39 = .ok (.if_icmp .le 7, 3) := by decide +kernel
theorem dX6_fill_42 : decode cX6_fill 42 = .ok (.iconst 3, 1) := by decide +kernel
theorem dX6_fill_43 : decode cX6_fill 43 = .ok (.goto 4, 3) := by decide +kernel
theorem dX6_fill_46 : decode cX6_fill 46 = .ok (.iconst 0, 1) := by decide +kernel
theorem dX6_fill_47 : decode cX6_fill 47 = .ok (.putfield 34, 3) := by decide +kernel
theorem dX6_fill_50 : decode cX6_fill 50 = .ok (.aload_n 0, 1) := by decide +kernel
theorem dX6_fill_51 : decode cX6_fill 51 = .ok (.getfield 34, 3) := by decide +kernel
theorem dX6_fill_54 : decode cX6_fill 54 = .ok (.ifCond .le 5, 3) := by decide +kernel
theorem dX6_fill_57 : decode cX6_fill 57 = .ok (.iconst 0, 1) := by decide +kernel
theorem dX6_fill_58 : decode cX6_fill 58 = .ok (.ireturn, 1) := by decide +kernel
theorem dX6_fill_59 : decode cX6_fill 59 = .ok (.aload_n 0, 1) := by decide +kernel
theorem dX6_fill_60 : decode cX6_fill 60 = .ok (.invokevirtual 59, 3) := by decide +kernel
theorem dX6_fill_63 : decode cX6_fill 63 = .ok (.aload_n 0, 1) := by decide +kernel
theorem dX6_fill_64 : decode cX6_fill 64 = .ok (.getfield 7, 3) := by decide +kernel
theorem dX6_fill_67 : decode cX6_fill 67 = .ok (.bipush 12, 2) := by decide +kernel
theorem dX6_fill_69 : decode cX6_fill 69 = .ok (.bipush 8, 2) := by decide +kernel
theorem dX6_fill_71 : decode cX6_fill 71 = .ok (.iload_n 1, 1) := by decide +kernel
theorem dX6_fill_72 : decode cX6_fill 72 = .ok (.imul, 1) := by decide +kernel
theorem dX6_fill_73 : decode cX6_fill 73 = .ok (.iadd, 1) := by decide +kernel
theorem dX6_fill_74 : decode cX6_fill 74 = .ok (.iconst 2, 1) := by decide +kernel
theorem dX6_fill_75 : decode cX6_fill 75 = .ok (.iadd, 1) := by decide +kernel
theorem dX6_fill_76 : decode cX6_fill 76 = .ok (.dup2, 1) := by decide +kernel
theorem dX6_fill_77 : decode cX6_fill 77 = .ok (.iaload, 1) := by decide +kernel
theorem dX6_fill_78 : decode cX6_fill 78 = .ok (.iload_n 2, 1) := by decide +kernel
theorem dX6_fill_79 : decode cX6_fill 79 = .ok (.iadd, 1) := by decide +kernel
theorem dX6_fill_80 : decode cX6_fill 80 = .ok (.iastore, 1) := by decide +kernel
theorem dX6_fill_81 : decode cX6_fill 81 = .ok (.aload_n 0, 1) := by decide +kernel
theorem dX6_fill_82 : decode cX6_fill 82 = .ok (.iload_n 1, 1) := by decide +kernel
theorem dX6_fill_83 : decode cX6_fill 83 = .ok (.iconst 2, 1) := by decide +kernel
theorem dX6_fill_84 : decode cX6_fill 84 = .ok (.invokevirtual 72, 3) := by decide +kernel
theorem dX6_fill_87 : decode cX6_fill 87 = .ok (.ireturn, 1) := by decide +kernel
set_option maxRecDepth 20000 in
theorem ggX6_repair_X6_isFeeder : GoodIn wsX6_repair wsX6_isFeeder := goodIn_r _ [7, 2, 8, 9, 6, 10, 24, 25, 26, 27, 28, 29, 30, 31, 32, 33, 34, 35, 36, 37, 38] (by decide +kernel) (by decide +kernel)
set_option maxRecDepth 20000 in
theorem gX6_repair_X6_isFeeder : GoodIn wsX6_repair (wsV RX6 69 RX6 yX6_isFeeder wsX6_isFeeder) := goodIn_app (goodIn_of _ (by decide +kernel)) ggX6_repair_X6_isFeeder
set_option maxRecDepth 20000 in
theorem ggX6_repair_X6_isPercent : GoodIn wsX6_repair wsX6_isPercent := goodIn_r _ [13, 8, 9, 6, 10] (by decide +kernel) (by decide +kernel)
set_option maxRecDepth 20000 in
theorem gX6_repair_X6_isPercent : GoodIn wsX6_repair (va_wsS RX6 56 yX6_isPercent wsX6_isPercent) := goodIn_app (goodIn_of _ (by decide +kernel)) ggX6_repair_X6_isPercent
set_option maxRecDepth 20000 in
theorem ggX6_repair_X6_save : GoodIn wsX6_repair wsX6_save := goodIn_r _ [17, 18, 19, 2, 24, 25, 26, 27, 28, 29, 30, 31, 32, 33, 34, 35, 36, 37, 38] (by decide +kernel) (by decide +kernel)
set_option maxRecDepth 20000 in
theorem gX6_repair_X6_save : GoodIn wsX6_repair (wsV RX6 59 RX6 yX6_save wsX6_save) := goodIn_app (goodIn_of _ (by decide +kernel)) ggX6_repair_X6_save
set_option maxRecDepth 20000 in
theorem ggX6_repair_X6_ofFeeder : GoodIn wsX6_repair wsX6_ofFeeder := goodIn_r _ [23, 2, 24, 25, 26, 27, 28, 29, 30, 31, 32, 33, 34, 35, 36, 37, 38] (by decide +kernel) (by decide +kernel)
set_option maxRecDepth 20000 in
theorem gX6_repair_X6_ofFeeder : GoodIn wsX6_repair (wsV RX6 72 RX6 yX6_ofFeeder wsX6_ofFeeder) := goodIn_app (goodIn_of _ (by decide +kernel)) ggX6_repair_X6_ofFeeder
theorem dX6_repair_0 : decode cX6_repair 0 = .ok (.aload_n 0, 1) := by decide +kernel
theorem dX6_repair_1 : decode cX6_repair 1 = .ok (.aload_n 0, 1) := by decide +kernel
theorem dX6_repair_2 : decode cX6_repair 2 = .ok (.iload_n 1, 1) := by decide +kernel
theorem dX6_repair_3 : decode cX6_repair 3 = .ok (.invokevirtual 69, 3) := by decide +kernel
theorem dX6_repair_6 : decode cX6_repair 6 = .ok (.ifCond .ne 7, 3) := by decide +kernel
theorem dX6_repair_9 : decode cX6_repair 9 = .ok (.iconst 1, 1) := by decide +kernel
theorem dX6_repair_10 : decode cX6_repair 10 = .ok (.goto 22, 3) := by decide +kernel
theorem dX6_repair_13 : decode cX6_repair 13 = .ok (.iload_n 2, 1) := by decide +kernel
theorem dX6_repair_14 : decode cX6_repair 14 = .ok (.invokestatic 56, 3) := by decide +kernel
theorem dX6_repair_17 : decode cX6_repair 17 = .ok (.ifCond .eq 14, 3) := by decide +kernel
theorem dX6_repair_20 : decode cX6_repair 20 = .ok (.iload_n 3, 1) := by decide +kernel
theorem dX6_repair_21 : decode cX6_repair 21 = .ok (.invokestatic 56, 3) := by decide +kernel
theorem dX6_repair_24 : decode cX6_repair 24 = .ok (.ifCond .eq 7, 3) := by decide +kernel
theorem dX6_repair_27 : decode cX6_repair 27 = .ok (.iconst 0, 1) := by decide +kernel
theorem dX6_repair_28 : decode cX6_repair 28 = .ok (.goto 4, 3) := by decide +kernel
theorem dX6_repair_31 : decode cX6_repair 31 = .ok (.iconst 2, 1) := by decide +kernel
theorem dX6_repair_32 : decode cX6_repair 32 = .ok (.putfield 34, 3) := by decide +kernel
theorem dX6_repair_35 : decode cX6_repair 35 = .ok (.aload_n 0, 1) := by decide +kernel
theorem dX6_repair_36 : decode cX6_repair 36 = .ok (.getfield 34, 3) := by decide +kernel
theorem dX6_repair_39 : decode cX6_repair 39 = .ok (.ifCond .le 5, 3) := by decide +kernel
theorem dX6_repair_42 : decode cX6_repair 42 = .ok (.iconst 0, 1) := by decide +kernel
theorem dX6_repair_43 : decode cX6_repair 43 = .ok (.ireturn, 1) := by decide +kernel
theorem dX6_repair_44 : decode cX6_repair 44 = .ok (.aload_n 0, 1) := by decide +kernel
theorem dX6_repair_45 : decode cX6_repair 45 = .ok (.invokevirtual 59, 3) := by decide +kernel
theorem dX6_repair_48 : decode cX6_repair 48 = .ok (.aload_n 0, 1) := by decide +kernel
theorem dX6_repair_49 : decode cX6_repair 49 = .ok (.iload_n 1, 1) := by decide +kernel
theorem dX6_repair_50 : decode cX6_repair 50 = .ok (.iconst 3, 1) := by decide +kernel
theorem dX6_repair_51 : decode cX6_repair 51 = .ok (.invokevirtual 72, 3) := by decide +kernel
theorem dX6_repair_54 : decode cX6_repair 54 = .ok (.istore 4, 2) := by decide +kernel
theorem dX6_repair_56 : decode cX6_repair 56 = .ok (.aload_n 0, 1) := by decide +kernel
theorem dX6_repair_57 : decode cX6_repair 57 = .ok (.getfield 7, 3) := by decide +kernel
theorem dX6_repair_60 : decode cX6_repair 60 = .ok (.bipush 12, 2) := by decide +kernel
theorem dX6_repair_62 : decode cX6_repair 62 = .ok (.bipush 8, 2) := by decide +kernel
theorem dX6_repair_64 : decode cX6_repair 64 = .ok (.iload_n 1, 1) := by decide +kernel
theorem dX6_repair_65 : decode cX6_repair 65 = .ok (.imul, 1) := by decide +kernel
theorem dX6_repair_66 : decode cX6_repair 66 = .ok (.iadd, 1) := by decide +kernel
theorem dX6_repair_67 : decode cX6_repair 67 = .ok (.iconst 3, 1) := by decide +kernel
theorem dX6_repair_68 : decode cX6_repair 68 = .ok (.iadd, 1) := by decide +kernel
theorem dX6_repair_69 : decode cX6_repair 69 = .ok (.iload_n 2, 1) := by decide +kernel
theorem dX6_repair_70 : decode cX6_repair 70 = .ok (.iastore, 1) := by decide +kernel
theorem dX6_repair_71 : decode cX6_repair 71 = .ok (.aload_n 0, 1) := by decide +kernel
theorem dX6_repair_72 : decode cX6_repair 72 = .ok (.getfield 7, 3) := by decide +kernel
theorem dX6_repair_75 : decode cX6_repair 75 = .ok (.bipush 12, 2) := by decide +kernel
theorem dX6_repair_77 : decode cX6_repair 77 = .ok (.bipush 8, 2) := by decide +kernel
theorem dX6_repair_79 : decode cX6_repair 79 = .ok (.iload_n 1, 1) := by decide +kernel
theorem dX6_repair_80 : decode cX6_repair 80 = .ok (.imul, 1) := by decide +kernel
theorem dX6_repair_81 : decode cX6_repair 81 = .ok (.iadd, 1) := by decide +kernel
theorem dX6_repair_82 : decode cX6_repair 82 = .ok (.iconst 4, 1) := by decide +kernel
theorem dX6_repair_83 : decode cX6_repair 83 = .ok (.iadd, 1) := by decide +kernel
theorem dX6_repair_84 : decode cX6_repair 84 = .ok (.iload_n 3, 1) := by decide +kernel
theorem dX6_repair_85 : decode cX6_repair 85 = .ok (.iastore, 1) := by decide +kernel
theorem dX6_repair_86 : decode cX6_repair 86 = .ok (.iload 4, 2) := by decide +kernel
theorem dX6_repair_88 : decode cX6_repair 88 = .ok (.ireturn, 1) := by decide +kernel
set_option maxRecDepth 20000 in
theorem ggX6_fit_X6_isNozzle : GoodIn wsX6_fit wsX6_isNozzle := goodIn_r _ [6, 7, 8, 5, 9] (by decide +kernel) (by decide +kernel)
set_option maxRecDepth 20000 in
theorem gX6_fit_X6_isNozzle : GoodIn wsX6_fit (va_wsS RX6 75 yX6_isNozzle wsX6_isNozzle) := goodIn_app (goodIn_of _ (by decide +kernel)) ggX6_fit_X6_isNozzle
set_option maxRecDepth 20000 in
theorem ggX6_fit_X6_within : GoodIn wsX6_fit wsX6_within := goodIn_r _ [9] (by decide +kernel) (by decide +kernel)
set_option maxRecDepth 20000 in
theorem gX6_fit_X6_within : GoodIn wsX6_fit (va_wsS RX6 45 yX6_within wsX6_within) := goodIn_app (goodIn_of _ (by decide +kernel)) ggX6_fit_X6_within
set_option maxRecDepth 20000 in
theorem ggX6_fit_X6_save : GoodIn wsX6_fit wsX6_save := goodIn_r _ [13, 14, 15, 2, 20, 21, 22, 23, 24, 25, 26, 27, 28, 29, 30, 31, 32, 33, 34] (by decide +kernel) (by decide +kernel)
set_option maxRecDepth 20000 in
theorem gX6_fit_X6_save : GoodIn wsX6_fit (wsV RX6 59 RX6 yX6_save wsX6_save) := goodIn_app (goodIn_of _ (by decide +kernel)) ggX6_fit_X6_save
set_option maxRecDepth 20000 in
theorem ggX6_fit_X6_ofNozzle : GoodIn wsX6_fit wsX6_ofNozzle := goodIn_r _ [19, 2, 20, 21, 22, 23, 24, 25, 26, 27, 28, 29, 30, 31, 32, 33, 34] (by decide +kernel) (by decide +kernel)
set_option maxRecDepth 20000 in
theorem gX6_fit_X6_ofNozzle : GoodIn wsX6_fit (wsV RX6 78 RX6 yX6_ofNozzle wsX6_ofNozzle) := goodIn_app (goodIn_of _ (by decide +kernel)) ggX6_fit_X6_ofNozzle
theorem dX6_fit_0 : decode cX6_fit 0 = .ok (.aload_n 0, 1) := by decide +kernel
theorem dX6_fit_1 : decode cX6_fit 1 = .ok (.iload_n 1, 1) := by decide +kernel
theorem dX6_fit_2 : decode cX6_fit 2 = .ok (.invokestatic 75, 3) := by decide +kernel
theorem dX6_fit_5 : decode cX6_fit 5 = .ok (.ifCond .ne 7, 3) := by decide +kernel
theorem dX6_fit_8 : decode cX6_fit 8 = .ok (.iconst 1, 1) := by decide +kernel
theorem dX6_fit_9 : decode cX6_fit 9 = .ok (.goto 18, 3) := by decide +kernel
theorem dX6_fit_12 : decode cX6_fit 12 = .ok (.iload_n 2, 1) := by decide +kernel
theorem dX6_fit_13 : decode cX6_fit 13 = .ok (.iconst 0, 1) := by decide +kernel
theorem dX6_fit_14 : decode cX6_fit 14 = .ok (.bipush 63, 2) := by decide +kernel
theorem dX6_fit_16 : decode cX6_fit 16 = .ok (.invokestatic 45, 3) := by decide +kernel
theorem dX6_fit_19 : decode cX6_fit 19 = .ok (.ifCond .eq 7, 3) := by decide +kernel
theorem dX6_fit_22 : decode cX6_fit 22 = .ok (.iconst 0, 1) := by decide +kernel
theorem dX6_fit_23 : decode cX6_fit 23 = .ok (.goto 4, 3) := by decide +kernel
theorem dX6_fit_26 : decode cX6_fit 26 = .ok (.iconst 2, 1) := by decide +kernel
theorem dX6_fit_27 : decode cX6_fit 27 = .ok (.putfield 34, 3) := by decide +kernel
theorem dX6_fit_30 : decode cX6_fit 30 = .ok (.aload_n 0, 1) := by decide +kernel
theorem dX6_fit_31 : decode cX6_fit 31 = .ok (.getfield 34, 3) := by decide +kernel
theorem dX6_fit_34 : decode cX6_fit 34 = .ok (.ifCond .le 5, 3) := by decide +kernel
theorem dX6_fit_37 : decode cX6_fit 37 = .ok (.iconst 0, 1) := by decide +kernel
theorem dX6_fit_38 : decode cX6_fit 38 = .ok (.ireturn, 1) := by decide +kernel
theorem dX6_fit_39 : decode cX6_fit 39 = .ok (.aload_n 0, 1) := by decide +kernel
theorem dX6_fit_40 : decode cX6_fit 40 = .ok (.invokevirtual 59, 3) := by decide +kernel
theorem dX6_fit_43 : decode cX6_fit 43 = .ok (.aload_n 0, 1) := by decide +kernel
theorem dX6_fit_44 : decode cX6_fit 44 = .ok (.iload_n 1, 1) := by decide +kernel
theorem dX6_fit_45 : decode cX6_fit 45 = .ok (.iconst 0, 1) := by decide +kernel
theorem dX6_fit_46 : decode cX6_fit 46 = .ok (.invokevirtual 78, 3) := by decide +kernel
theorem dX6_fit_49 : decode cX6_fit 49 = .ok (.istore_n 3, 1) := by decide +kernel
theorem dX6_fit_50 : decode cX6_fit 50 = .ok (.aload_n 0, 1) := by decide +kernel
theorem dX6_fit_51 : decode cX6_fit 51 = .ok (.getfield 7, 3) := by decide +kernel
theorem dX6_fit_54 : decode cX6_fit 54 = .ok (.sipush 196, 3) := by decide +kernel
theorem dX6_fit_57 : decode cX6_fit 57 = .ok (.iconst 5, 1) := by decide +kernel
theorem dX6_fit_58 : decode cX6_fit 58 = .ok (.iload_n 1, 1) := by decide +kernel
theorem dX6_fit_59 : decode cX6_fit 59 = .ok (.imul, 1) := by decide +kernel
theorem dX6_fit_60 : decode cX6_fit 60 = .ok (.iadd, 1) := by decide +kernel
theorem dX6_fit_61 : decode cX6_fit 61 = .ok (.iconst 0, 1) := by decide +kernel
theorem dX6_fit_62 : decode cX6_fit 62 = .ok (.iadd, 1) := by decide +kernel
theorem dX6_fit_63 : decode cX6_fit 63 = .ok (.iload_n 2, 1) := by decide +kernel
theorem dX6_fit_64 : decode cX6_fit 64 = .ok (.iastore, 1) := by decide +kernel
theorem dX6_fit_65 : decode cX6_fit 65 = .ok (.iload_n 3, 1) := by decide +kernel
theorem dX6_fit_66 : decode cX6_fit 66 = .ok (.ireturn, 1) := by decide +kernel
theorem dX6_empty_0 : decode cX6_empty 0 = .ok (.bipush 76, 2) := by decide +kernel
theorem dX6_empty_2 : decode cX6_empty 2 = .ok (.iconst 5, 1) := by decide +kernel
theorem dX6_empty_3 : decode cX6_empty 3 = .ok (.iload_n 1, 1) := by decide +kernel
theorem dX6_empty_4 : decode cX6_empty 4 = .ok (.imul, 1) := by decide +kernel
theorem dX6_empty_5 : decode cX6_empty 5 = .ok (.iadd, 1) := by decide +kernel
theorem dX6_empty_6 : decode cX6_empty 6 = .ok (.istore_n 2, 1) := by decide +kernel
theorem dX6_empty_7 : decode cX6_empty 7 = .ok (.aload_n 0, 1) := by decide +kernel
theorem dX6_empty_8 : decode cX6_empty 8 = .ok (.getfield 7, 3) := by decide +kernel
theorem dX6_empty_11 : decode cX6_empty 11 = .ok (.iload_n 2, 1) := by decide +kernel
theorem dX6_empty_12 : decode cX6_empty 12 = .ok (.iconst 2, 1) := by decide +kernel
theorem dX6_empty_13 : decode cX6_empty 13 = .ok (.iadd, 1) := by decide +kernel
theorem dX6_empty_14 : decode cX6_empty 14 = .ok (.iconst 0, 1) := by decide +kernel
theorem dX6_empty_15 : decode cX6_empty 15 = .ok (.iastore, 1) := by decide +kernel
theorem dX6_empty_16 : decode cX6_empty 16 = .ok (.aload_n 0, 1) := by decide +kernel
theorem dX6_empty_17 : decode cX6_empty 17 = .ok (.getfield 7, 3) := by decide +kernel
theorem dX6_empty_20 : decode cX6_empty 20 = .ok (.iload_n 2, 1) := by decide +kernel
theorem dX6_empty_21 : decode cX6_empty 21 = .ok (.iconst 3, 1) := by decide +kernel
theorem dX6_empty_22 : decode cX6_empty 22 = .ok (.iadd, 1) := by decide +kernel
theorem dX6_empty_23 : decode cX6_empty 23 = .ok (.iconst (-1), 1) := by decide +kernel
theorem dX6_empty_24 : decode cX6_empty 24 = .ok (.iastore, 1) := by decide +kernel
theorem dX6_empty_25 : decode cX6_empty 25 = .ok (.aload_n 0, 1) := by decide +kernel
theorem dX6_empty_26 : decode cX6_empty 26 = .ok (.getfield 7, 3) := by decide +kernel
theorem dX6_empty_29 : decode cX6_empty 29 = .ok (.iload_n 2, 1) := by decide +kernel
theorem dX6_empty_30 : decode cX6_empty 30 = .ok (.iconst 4, 1) := by decide +kernel
theorem dX6_empty_31 : decode cX6_empty 31 = .ok (.iadd, 1) := by decide +kernel
theorem dX6_empty_32 : decode cX6_empty 32 = .ok (.iconst (-1), 1) := by decide +kernel
theorem dX6_empty_33 : decode cX6_empty 33 = .ok (.iastore, 1) := by decide +kernel
theorem dX6_empty_34 : decode cX6_empty 34 = .ok (.return_, 1) := by decide +kernel
set_option maxRecDepth 20000 in
theorem ggX6_placesThat_X6_ofPlace : GoodIn wsX6_placesThat wsX6_ofPlace := goodIn_r _ [6, 1, 7, 8, 9, 10, 11, 12, 13, 14, 15, 16, 17, 18, 19, 20, 21] (by decide +kernel) (by decide +kernel)
set_option maxRecDepth 20000 in
theorem gX6_placesThat_X6_ofPlace : GoodIn wsX6_placesThat (wsV RX6 81 RX6 yX6_ofPlace wsX6_ofPlace) := goodIn_app (goodIn_of _ (by decide +kernel)) ggX6_placesThat_X6_ofPlace
theorem dX6_placesThat_0 : decode cX6_placesThat 0 = .ok (.iconst 0, 1) := by decide +kernel
theorem dX6_placesThat_1 : decode cX6_placesThat 1 = .ok (.istore_n 2, 1) := by decide +kernel
theorem dX6_placesThat_2 : decode cX6_placesThat 2 = .ok (.iconst 0, 1) := by decide +kernel
theorem dX6_placesThat_3 : decode cX6_placesThat 3 = .ok (.istore_n 3, 1) := by decide +kernel
theorem dX6_placesThat_4 : decode cX6_placesThat 4 = .ok (.iload_n 3, 1) := by decide +kernel
theorem dX6_placesThat_5 : decode cX6_placesThat 5 = .ok (.aload_n 0, 1) := by decide +kernel
theorem dX6_placesThat_6 : decode cX6_placesThat 6 = .ok (.getfield 7, 3) := by decide +kernel
theorem dX6_placesThat_9 : decode cX6_placesThat 9 = .ok (.bipush 6, 2) := by decide +kernel
theorem dX6_placesThat_11 : decode cX6_placesThat 11 = .ok (.iaload, 1) := by decide +kernel
theorem dX6_placesThat_12 : decode cX6_placesThat 12 = .ok (.if_icmp .ge 27, 3) := by decide +kernel
theorem dX6_placesThat_15 : decode cX6_placesThat 15 = .ok (.iload_n 2, 1) := by decide +kernel
theorem dX6_placesThat_16 : decode cX6_placesThat 16 = .ok (.aload_n 0, 1) := by decide +kernel
theorem dX6_placesThat_17 : decode cX6_placesThat 17 = .ok (.iload_n 3, 1) := by decide +kernel
theorem dX6_placesThat_18 : decode cX6_placesThat 18 = .ok (.iconst 2, 1) := by decide +kernel
theorem dX6_placesThat_19 : decode cX6_placesThat 19 = .ok (.invokevirtual 81, 3) := by decide +kernel
theorem dX6_placesThat_22 : decode cX6_placesThat 22 = .ok (.iload_n 1, 1) := by decide +kernel
theorem dX6_placesThat_23 : decode cX6_placesThat 23 = .ok (.if_icmp .ne 7, 3) := by decide +kernel
theorem dX6_placesThat_26 : decode cX6_placesThat 26 = .ok (.iconst 1, 1) := by decide +kernel
theorem dX6_placesThat_27 : decode cX6_placesThat 27 = .ok (.goto 4, 3) := by decide +kernel
theorem dX6_placesThat_30 : decode cX6_placesThat 30 = .ok (.iconst 0, 1) := by decide +kernel
theorem dX6_placesThat_31 : decode cX6_placesThat 31 = .ok (.iadd, 1) := by decide +kernel
theorem dX6_placesThat_32 : decode cX6_placesThat 32 = .ok (.istore_n 2, 1) := by decide +kernel
theorem dX6_placesThat_33 : decode cX6_placesThat 33 = .ok (.iinc 3 1, 3) := by decide +kernel
theorem dX6_placesThat_36 : decode cX6_placesThat 36 = .ok (.goto (-32), 3) := by decide +kernel
theorem dX6_placesThat_39 : decode cX6_placesThat 39 = .ok (.iload_n 2, 1) := by decide +kernel
theorem dX6_placesThat_40 : decode cX6_placesThat 40 = .ok (.ireturn, 1) := by decide +kernel
set_option maxRecDepth 20000 in
theorem ggX6_clear_X6_save : GoodIn wsX6_clear wsX6_save := goodIn_r _ [7, 8, 9, 2, 22, 23, 24, 25, 26, 27, 28, 29, 30, 31, 32, 33, 34, 35, 36] (by decide +kernel) (by decide +kernel)
set_option maxRecDepth 20000 in
theorem gX6_clear_X6_save : GoodIn wsX6_clear (wsV RX6 59 RX6 yX6_save wsX6_save) := goodIn_app (goodIn_of _ (by decide +kernel)) ggX6_clear_X6_save
set_option maxRecDepth 20000 in
theorem ggX6_clear_X6_placesThat : GoodIn wsX6_clear wsX6_placesThat := goodIn_r _ [13, 2, 14, 15, 16, 6, 17, 22, 23, 24, 25, 26, 27, 28, 29, 30, 31, 32, 33, 34, 35, 36] (by decide +kernel) (by decide +kernel)
set_option maxRecDepth 20000 in
theorem gX6_clear_X6_placesThat : GoodIn wsX6_clear (wsV RX6 84 RX6 yX6_placesThat wsX6_placesThat) := goodIn_app (goodIn_of _ (by decide +kernel)) ggX6_clear_X6_placesThat
set_option maxRecDepth 20000 in
theorem ggX6_clear_X6_empty : GoodIn wsX6_clear wsX6_empty := goodIn_r _ [21, 2, 22, 23, 24, 25, 26, 27, 28, 29, 30, 31, 32, 33, 34, 35, 36] (by decide +kernel) (by decide +kernel)
set_option maxRecDepth 20000 in
theorem gX6_clear_X6_empty : GoodIn wsX6_clear (wsV RX6 88 RX6 yX6_empty wsX6_empty) := goodIn_app (goodIn_of _ (by decide +kernel)) ggX6_clear_X6_empty
theorem dX6_clear_0 : decode cX6_clear 0 = .ok (.aload_n 0, 1) := by decide +kernel
theorem dX6_clear_1 : decode cX6_clear 1 = .ok (.iconst 0, 1) := by decide +kernel
theorem dX6_clear_2 : decode cX6_clear 2 = .ok (.putfield 34, 3) := by decide +kernel
theorem dX6_clear_5 : decode cX6_clear 5 = .ok (.aload_n 0, 1) := by decide +kernel
theorem dX6_clear_6 : decode cX6_clear 6 = .ok (.invokevirtual 59, 3) := by decide +kernel
theorem dX6_clear_9 : decode cX6_clear 9 = .ok (.aload_n 0, 1) := by decide +kernel
theorem dX6_clear_10 : decode cX6_clear 10 = .ok (.iconst 1, 1) := by decide +kernel
theorem dX6_clear_11 : decode cX6_clear 11 = .ok (.invokevirtual 84, 3) := by decide +kernel
theorem dX6_clear_14 : decode cX6_clear 14 = .ok (.istore_n 1, 1) := by decide +kernel
theorem dX6_clear_15 : decode cX6_clear 15 = .ok (.iconst 0, 1) := by decide +kernel
theorem dX6_clear_16 : decode cX6_clear 16 = .ok (.istore_n 2, 1) := by decide +kernel
theorem dX6_clear_17 : decode cX6_clear 17 = .ok (.iload_n 2, 1) := by decide +kernel
theorem dX6_clear_18 : decode cX6_clear 18 = .ok (.aload_n 0, 1) := by decide +kernel
theorem dX6_clear_19 : decode cX6_clear 19 = .ok (.getfield 7, 3) := by decide +kernel
theorem dX6_clear_22 : decode cX6_clear 22 = .ok (.bipush 6, 2) := by decide +kernel
theorem dX6_clear_24 : decode cX6_clear 24 = .ok (.iaload, 1) := by decide +kernel
theorem dX6_clear_25 : decode cX6_clear 25 = .ok (.if_icmp .ge 14, 3) := by decide +kernel
theorem dX6_clear_28 : decode cX6_clear 28 = .ok (.aload_n 0, 1) := by decide +kernel
theorem dX6_clear_29 : decode cX6_clear 29 = .ok (.iload_n 2, 1) := by decide +kernel
theorem dX6_clear_30 : decode cX6_clear 30 = .ok (.invokevirtual 88, 3) := by decide +kernel
theorem dX6_clear_33 : decode cX6_clear 33 = .ok (.iinc 2 1, 3) := by decide +kernel
theorem dX6_clear_36 : decode cX6_clear 36 = .ok (.goto (-19), 3) := by decide +kernel
theorem dX6_clear_39 : decode cX6_clear 39 = .ok (.iload_n 1, 1) := by decide +kernel
theorem dX6_clear_40 : decode cX6_clear 40 = .ok (.ireturn, 1) := by decide +kernel
set_option maxRecDepth 20000 in
theorem ggX6_isSetting_X6_within : GoodIn wsX6_isSetting wsX6_within := goodIn_r _ [4] (by decide +kernel) (by decide +kernel)
set_option maxRecDepth 20000 in
theorem gX6_isSetting_X6_within : GoodIn wsX6_isSetting (va_wsS RX6 45 yX6_within wsX6_within) := goodIn_app (goodIn_of _ (by decide +kernel)) ggX6_isSetting_X6_within
theorem dX6_isSetting_0 : decode cX6_isSetting 0 = .ok (.iload_n 0, 1) := by decide +kernel
theorem dX6_isSetting_1 : decode cX6_isSetting 1 = .ok (.iconst 0, 1) := by decide +kernel
theorem dX6_isSetting_2 : decode cX6_isSetting 2 = .ok (.iconst 4, 1) := by decide +kernel
theorem dX6_isSetting_3 : decode cX6_isSetting 3 = .ok (.invokestatic 45, 3) := by decide +kernel
theorem dX6_isSetting_6 : decode cX6_isSetting 6 = .ok (.ireturn, 1) := by decide +kernel
theorem dX6_greatest_0 : decode cX6_greatest 0 = .ok (.iload_n 0, 1) := by decide +kernel
theorem dX6_greatest_1 : decode cX6_greatest 1 = .ok (.ifCond .ne 7, 3) := by decide +kernel
theorem dX6_greatest_4 : decode cX6_greatest 4 = .ok (.iconst 5, 1) := by decide +kernel
theorem dX6_greatest_5 : decode cX6_greatest 5 = .ok (.goto 20, 3) := by decide +kernel
theorem dX6_greatest_8 : decode cX6_greatest 8 = .ok (.iload_n 0, 1) := by decide +kernel
theorem dX6_greatest_9 : decode cX6_greatest 9 = .ok (.iconst 1, 1) := by decide +kernel
theorem dX6_greatest_10 : decode cX6_greatest 10 = .ok (.if_icmp .eq 8, 3) := by decide +kernel
theorem dX6_greatest_13 : decode cX6_greatest 13 = .ok (.iload_n 0, 1) := by decide +kernel
theorem dX6_greatest_14 : decode cX6_greatest 14 = .ok (.iconst 2, 1) := by decide +kernel
theorem dX6_greatest_15 : decode cX6_greatest 15 = .ok (.if_icmp .ne 8, 3) := by decide +kernel
theorem dX6_greatest_18 : decode cX6_greatest 18 = .ok (.bipush 50, 2) := by decide +kernel
theorem dX6_greatest_20 : decode cX6_greatest 20 = .ok (.goto 5, 3) := by decide +kernel
theorem dX6_greatest_23 : decode cX6_greatest 23 = .ok (.bipush 100, 2) := by decide +kernel
theorem dX6_greatest_25 : decode cX6_greatest 25 = .ok (.ireturn, 1) := by decide +kernel
set_option maxRecDepth 20000 in
theorem ggX6_set_X6_isSetting : GoodIn wsX6_set wsX6_isSetting := goodIn_r _ [6, 7, 8, 5, 9] (by decide +kernel) (by decide +kernel)
set_option maxRecDepth 20000 in
theorem gX6_set_X6_isSetting : GoodIn wsX6_set (va_wsS RX6 92 yX6_isSetting wsX6_isSetting) := goodIn_app (goodIn_of _ (by decide +kernel)) ggX6_set_X6_isSetting
set_option maxRecDepth 20000 in
theorem ggX6_set_X6_greatest : GoodIn wsX6_set wsX6_greatest := goodIn_r _ [12] (by decide +kernel) (by decide +kernel)
set_option maxRecDepth 20000 in
theorem gX6_set_X6_greatest : GoodIn wsX6_set (va_wsS RX6 95 yX6_greatest wsX6_greatest) := goodIn_app (goodIn_of _ (by decide +kernel)) ggX6_set_X6_greatest
set_option maxRecDepth 20000 in
theorem ggX6_set_X6_within : GoodIn wsX6_set wsX6_within := goodIn_r _ [9] (by decide +kernel) (by decide +kernel)
set_option maxRecDepth 20000 in
theorem gX6_set_X6_within : GoodIn wsX6_set (va_wsS RX6 45 yX6_within wsX6_within) := goodIn_app (goodIn_of _ (by decide +kernel)) ggX6_set_X6_within
set_option maxRecDepth 20000 in
theorem ggX6_set_X6_save : GoodIn wsX6_set wsX6_save := goodIn_r _ [16, 17, 18, 2, 19, 20, 21, 22, 23, 24, 25, 26, 27, 28, 29, 30, 31, 32, 33] (by decide +kernel) (by decide +kernel)
set_option maxRecDepth 20000 in
theorem gX6_set_X6_save : GoodIn wsX6_set (wsV RX6 59 RX6 yX6_save wsX6_save) := goodIn_app (goodIn_of _ (by decide +kernel)) ggX6_set_X6_save
theorem dX6_set_0 : decode cX6_set 0 = .ok (.aload_n 0, 1) := by decide +kernel
theorem dX6_set_1 : decode cX6_set 1 = .ok (.iload_n 1, 1) := by decide +kernel
theorem dX6_set_2 : decode cX6_set 2 = .ok (.invokestatic 92, 3) := by decide +kernel
theorem dX6_set_5 : decode cX6_set 5 = .ok (.ifCond .ne 7, 3) := by decide +kernel
theorem dX6_set_8 : decode cX6_set 8 = .ok (.iconst 1, 1) := by decide +kernel
theorem dX6_set_9 : decode cX6_set 9 = .ok (.goto 20, 3) := by decide +kernel
theorem dX6_set_12 : decode cX6_set 12 = .ok (.iload_n 2, 1) := by decide +kernel
theorem dX6_set_13 : decode cX6_set 13 = .ok (.iconst 0, 1) := by decide +kernel
theorem dX6_set_14 : decode cX6_set 14 = .ok (.iload_n 1, 1) := by decide +kernel
theorem dX6_set_15 : decode cX6_set 15 = .ok (.invokestatic 95, 3) := by decide +kernel
theorem dX6_set_18 : decode cX6_set 18 = .ok (.invokestatic 45, 3) := by decide +kernel
theorem dX6_set_21 : decode cX6_set 21 = .ok (.ifCond .eq 7, 3) := by decide +kernel
theorem dX6_set_24 : decode cX6_set 24 = .ok (.iconst 0, 1) := by decide +kernel
theorem dX6_set_25 : decode cX6_set 25 = .ok (.goto 4, 3) := by decide +kernel
theorem dX6_set_28 : decode cX6_set 28 = .ok (.iconst 2, 1) := by decide +kernel
theorem dX6_set_29 : decode cX6_set 29 = .ok (.putfield 34, 3) := by decide +kernel
theorem dX6_set_32 : decode cX6_set 32 = .ok (.aload_n 0, 1) := by decide +kernel
theorem dX6_set_33 : decode cX6_set 33 = .ok (.getfield 34, 3) := by decide +kernel
theorem dX6_set_36 : decode cX6_set 36 = .ok (.ifCond .le 5, 3) := by decide +kernel
theorem dX6_set_39 : decode cX6_set 39 = .ok (.iconst 0, 1) := by decide +kernel
theorem dX6_set_40 : decode cX6_set 40 = .ok (.ireturn, 1) := by decide +kernel
theorem dX6_set_41 : decode cX6_set 41 = .ok (.aload_n 0, 1) := by decide +kernel
theorem dX6_set_42 : decode cX6_set 42 = .ok (.invokevirtual 59, 3) := by decide +kernel
theorem dX6_set_45 : decode cX6_set 45 = .ok (.aload_n 0, 1) := by decide +kernel
theorem dX6_set_46 : decode cX6_set 46 = .ok (.getfield 7, 3) := by decide +kernel
theorem dX6_set_49 : decode cX6_set 49 = .ok (.iconst 0, 1) := by decide +kernel
theorem dX6_set_50 : decode cX6_set 50 = .ok (.iload_n 1, 1) := by decide +kernel
theorem dX6_set_51 : decode cX6_set 51 = .ok (.iadd, 1) := by decide +kernel
theorem dX6_set_52 : decode cX6_set 52 = .ok (.iaload, 1) := by decide +kernel
theorem dX6_set_53 : decode cX6_set 53 = .ok (.istore_n 3, 1) := by decide +kernel
theorem dX6_set_54 : decode cX6_set 54 = .ok (.aload_n 0, 1) := by decide +kernel
theorem dX6_set_55 : decode cX6_set 55 = .ok (.getfield 7, 3) := by decide +kernel
theorem dX6_set_58 : decode cX6_set 58 = .ok (.iconst 0, 1) := by decide +kernel
theorem dX6_set_59 : decode cX6_set 59 = .ok (.iload_n 1, 1) := by decide +kernel
theorem dX6_set_60 : decode cX6_set 60 = .ok (.iadd, 1) := by decide +kernel
theorem dX6_set_61 : decode cX6_set 61 = .ok (.iload_n 2, 1) := by decide +kernel
theorem dX6_set_62 : decode cX6_set 62 = .ok (.iastore, 1) := by decide +kernel
theorem dX6_set_63 : decode cX6_set 63 = .ok (.iload_n 3, 1) := by decide +kernel
theorem dX6_set_64 : decode cX6_set 64 = .ok (.ireturn, 1) := by decide +kernel
theorem dX6_draw_0 : decode cX6_draw 0 = .ok (.aload_n 0, 1) := by decide +kernel
theorem dX6_draw_1 : decode cX6_draw 1 = .ok (.getfield 7, 3) := by decide +kernel
theorem dX6_draw_4 : decode cX6_draw 4 = .ok (.bipush 8, 2) := by decide +kernel
theorem dX6_draw_6 : decode cX6_draw 6 = .ok (.ldc2_w 98, 3) := by decide +kernel
theorem dX6_draw_9 : decode cX6_draw 9 = .ok (.aload_n 0, 1) := by decide +kernel
theorem dX6_draw_10 : decode cX6_draw 10 = .ok (.getfield 7, 3) := by decide +kernel
theorem dX6_draw_13 : decode cX6_draw 13 = .ok (.bipush 8, 2) := by decide +kernel
theorem dX6_draw_15 : decode cX6_draw 15 = .ok (.iaload, 1) := by decide +kernel
theorem dX6_draw_16 : decode cX6_draw 16 = .ok (.i2l, 1) := by decide +kernel
theorem dX6_draw_17 : decode cX6_draw 17 = .ok (.lmul, 1) := by decide +kernel
theorem dX6_draw_18 : decode cX6_draw 18 = .ok (.ldc2_w 100, 3) := by decide +kernel
theorem dX6_draw_21 : decode cX6_draw 21 = .ok (.ladd, 1) := by decide +kernel
theorem dX6_draw_22 : decode cX6_draw 22 = .ok (.ldc2_w 102, 3) := by decide +kernel
theorem dX6_draw_25 : decode cX6_draw 25 = .ok (.land, 1) := by decide +kernel
theorem dX6_draw_26 : decode cX6_draw 26 = .ok (.l2i, 1) := by decide +kernel
theorem dX6_draw_27 : decode cX6_draw 27 = .ok (.iastore, 1) := by decide +kernel
theorem dX6_draw_28 : decode cX6_draw 28 = .ok (.aload_n 0, 1) := by decide +kernel
theorem dX6_draw_29 : decode cX6_draw 29 = .ok (.getfield 7, 3) := by decide +kernel
theorem dX6_draw_32 : decode cX6_draw 32 = .ok (.bipush 8, 2) := by decide +kernel
theorem dX6_draw_34 : decode cX6_draw 34 = .ok (.iaload, 1) := by decide +kernel
theorem dX6_draw_35 : decode cX6_draw 35 = .ok (.ldc 104, 2) := by decide +kernel
theorem dX6_draw_37 : decode cX6_draw 37 = .ok (.idiv, 1) := by decide +kernel
theorem dX6_draw_38 : decode cX6_draw 38 = .ok (.iload_n 1, 1) := by decide +kernel
theorem dX6_draw_39 : decode cX6_draw 39 = .ok (.irem, 1) := by decide +kernel
theorem dX6_draw_40 : decode cX6_draw 40 = .ok (.ireturn, 1) := by decide +kernel
theorem dX6_apart_0 : decode cX6_apart 0 = .ok (.iload_n 0, 1) := by decide +kernel
theorem dX6_apart_1 : decode cX6_apart 1 = .ok (.iload_n 1, 1) := by decide +kernel
theorem dX6_apart_2 : decode cX6_apart 2 = .ok (.if_icmp .ge 9, 3) := by decide +kernel
theorem dX6_apart_5 : decode cX6_apart 5 = .ok (.iload_n 1, 1) := by decide +kernel
theorem dX6_apart_6 : decode cX6_apart 6 = .ok (.iload_n 0, 1) := by decide +kernel
theorem dX6_apart_7 : decode cX6_apart 7 = .ok (.isub, 1) := by decide +kernel
theorem dX6_apart_8 : decode cX6_apart 8 = .ok (.goto 6, 3) := by decide +kernel
theorem dX6_apart_11 : decode cX6_apart 11 = .ok (.iload_n 0, 1) := by decide +kernel
theorem dX6_apart_12 : decode cX6_apart 12 = .ok (.iload_n 1, 1) := by decide +kernel
theorem dX6_apart_13 : decode cX6_apart 13 = .ok (.isub, 1) := by decide +kernel
theorem dX6_apart_14 : decode cX6_apart 14 = .ok (.ireturn, 1) := by decide +kernel
set_option maxRecDepth 20000 in
theorem ggX6_gives_X6_ofFeeder : GoodIn wsX6_gives wsX6_ofFeeder := goodIn_r _ [5, 6, 7, 8, 9, 10, 11, 12, 13, 14, 15, 16, 17, 18, 19, 20, 21] (by decide +kernel) (by decide +kernel)
set_option maxRecDepth 20000 in
theorem gX6_gives_X6_ofFeeder : GoodIn wsX6_gives (wsV RX6 72 RX6 yX6_ofFeeder wsX6_ofFeeder) := goodIn_app (goodIn_of _ (by decide +kernel)) ggX6_gives_X6_ofFeeder
theorem dX6_gives_0 : decode cX6_gives 0 = .ok (.aload_n 0, 1) := by decide +kernel
theorem dX6_gives_1 : decode cX6_gives 1 = .ok (.iload_n 1, 1) := by decide +kernel
theorem dX6_gives_2 : decode cX6_gives 2 = .ok (.iconst 1, 1) := by decide +kernel
theorem dX6_gives_3 : decode cX6_gives 3 = .ok (.invokevirtual 72, 3) := by decide +kernel
theorem dX6_gives_6 : decode cX6_gives 6 = .ok (.iload_n 2, 1) := by decide +kernel
theorem dX6_gives_7 : decode cX6_gives 7 = .ok (.if_icmp .ne 16, 3) := by decide +kernel
theorem dX6_gives_10 : decode cX6_gives 10 = .ok (.aload_n 0, 1) := by decide +kernel
theorem dX6_gives_11 : decode cX6_gives 11 = .ok (.iload_n 1, 1) := by decide +kernel
theorem dX6_gives_12 : decode cX6_gives 12 = .ok (.iconst 2, 1) := by decide +kernel
theorem dX6_gives_13 : decode cX6_gives 13 = .ok (.invokevirtual 72, 3) := by decide +kernel
theorem dX6_gives_16 : decode cX6_gives 16 = .ok (.ifCond .le 7, 3) := by decide +kernel
theorem dX6_gives_19 : decode cX6_gives 19 = .ok (.iconst 1, 1) := by decide +kernel
theorem dX6_gives_20 : decode cX6_gives 20 = .ok (.goto 4, 3) := by decide +kernel
theorem dX6_gives_23 : decode cX6_gives 23 = .ok (.iconst 0, 1) := by decide +kernel
theorem dX6_gives_24 : decode cX6_gives 24 = .ok (.ireturn, 1) := by decide +kernel
set_option maxRecDepth 20000 in
theorem ggX6_isBetter_X6_trustOf : GoodIn wsX6_isBetter wsX6_trustOf := goodIn_r _ [6, 1, 14, 15, 16, 17, 18, 19, 20, 21, 22, 23, 24, 25, 26, 27, 28] (by decide +kernel) (by decide +kernel)
set_option maxRecDepth 20000 in
theorem gX6_isBetter_X6_trustOf : GoodIn wsX6_isBetter (wsV RX6 41 RX6 yX6_trustOf wsX6_trustOf) := goodIn_app (goodIn_of _ (by decide +kernel)) ggX6_isBetter_X6_trustOf
set_option maxRecDepth 20000 in
theorem ggX6_isBetter_X6_ofFeeder : GoodIn wsX6_isBetter wsX6_ofFeeder := goodIn_r _ [10, 1, 14, 15, 16, 17, 18, 19, 20, 21, 22, 23, 24, 25, 26, 27, 28] (by decide +kernel) (by decide +kernel)
set_option maxRecDepth 20000 in
theorem gX6_isBetter_X6_ofFeeder : GoodIn wsX6_isBetter (wsV RX6 72 RX6 yX6_ofFeeder wsX6_ofFeeder) := goodIn_app (goodIn_of _ (by decide +kernel)) ggX6_isBetter_X6_ofFeeder
set_option maxRecDepth 20000 in
theorem ggX6_isBetter_X6_apart : GoodIn wsX6_isBetter wsX6_apart := goodIn_r _ [13] (by decide +kernel) (by decide +kernel)
set_option maxRecDepth 20000 in
theorem gX6_isBetter_X6_apart : GoodIn wsX6_isBetter (va_wsS RX6 105 yX6_apart wsX6_apart) := goodIn_app (goodIn_of _ (by decide +kernel)) ggX6_isBetter_X6_apart
theorem dX6_isBetter_0 : decode cX6_isBetter 0 = .ok (.aload_n 0, 1) := by decide +kernel
theorem dX6_isBetter_1 : decode cX6_isBetter 1 = .ok (.iload_n 1, 1) := by decide +kernel
theorem dX6_isBetter_2 : decode cX6_isBetter 2 = .ok (.iload_n 2, 1) := by decide +kernel
theorem dX6_isBetter_3 : decode cX6_isBetter 3 = .ok (.invokevirtual 41, 3) := by decide +kernel
theorem dX6_isBetter_6 : decode cX6_isBetter 6 = .ok (.aload_n 0, 1) := by decide +kernel
theorem dX6_isBetter_7 : decode cX6_isBetter 7 = .ok (.iload_n 1, 1) := by decide +kernel
theorem dX6_isBetter_8 : decode cX6_isBetter 8 = .ok (.iload_n 3, 1) := by decide +kernel
theorem dX6_isBetter_9 : decode cX6_isBetter 9 = .ok (.invokevirtual 41, 3) := by decide +kernel
theorem dX6_isBetter_12 : decode cX6_isBetter 12 = .ok (.isub, 1) := by decide +kernel
theorem dX6_isBetter_13 : decode cX6_isBetter 13 = .ok (.istore 4, 2) := by decide +kernel
theorem dX6_isBetter_15 : decode cX6_isBetter 15 = .ok (.iload 4, 2) := by decide +kernel
theorem dX6_isBetter_17 : decode cX6_isBetter 17 = .ok (.ifCond .gt 43, 3) := by decide +kernel
theorem dX6_isBetter_20 : decode cX6_isBetter 20 = .ok (.iload 4, 2) := by decide +kernel
theorem dX6_isBetter_22 : decode cX6_isBetter 22 = .ok (.ifCond .ne 42, 3) := by decide +kernel
theorem dX6_isBetter_25 : decode cX6_isBetter 25 = .ok (.aload_n 0, 1) := by decide +kernel
theorem dX6_isBetter_26 : decode cX6_isBetter 26 = .ok (.iload_n 2, 1) := by decide +kernel
theorem dX6_isBetter_27 : decode cX6_isBetter 27 = .ok (.iconst 0, 1) := by decide +kernel
theorem dX6_isBetter_28 : decode cX6_isBetter 28 = .ok (.invokevirtual 72, 3) := by decide +kernel
theorem dX6_isBetter_31 : decode cX6_isBetter 31 = .ok (.aload_n 0, 1) := by decide +kernel
theorem dX6_isBetter_32 : decode cX6_isBetter 32 = .ok (.getfield 7, 3) := by decide +kernel
theorem dX6_isBetter_35 : decode cX6_isBetter 35 = .ok (.bipush 9, 2) := by decide +kernel
theorem dX6_isBetter_37 : decode cX6_isBetter 37 = .ok (.iaload, 1) := by decide +kernel
theorem dX6_isBetter_38 : decode cX6_isBetter 38 = .ok (.invokestatic 105, 3) := by decide +kernel
theorem dX6_isBetter_41 : decode cX6_isBetter 41 = .ok (.aload_n 0, 1) := by decide +kernel
theorem dX6_isBetter_42 : decode cX6_isBetter 42 = .ok (.iload_n 3, 1) := by decide +kernel
theorem dX6_isBetter_43 : decode cX6_isBetter 43 = .ok (.iconst 0, 1) := by decide +kernel
theorem dX6_isBetter_44 : decode cX6_isBetter 44 = .ok (.invokevirtual 72, 3) := by decide +kernel
theorem dX6_isBetter_47 : decode cX6_isBetter 47 = .ok (.aload_n 0, 1) := by decide +kernel
theorem dX6_isBetter_48 : decode cX6_isBetter 48 = .ok (.getfield 7, 3) := by decide +kernel
theorem dX6_isBetter_51 : decode cX6_isBetter 51 = .ok (.bipush 9, 2) := by decide +kernel
theorem dX6_isBetter_53 : decode cX6_isBetter 53 = .ok (.iaload, 1) := by decide +kernel
theorem dX6_isBetter_54 : decode cX6_isBetter 54 = .ok (.invokestatic 105, 3) := by decide +kernel
theorem dX6_isBetter_57 : decode cX6_isBetter 57 = .ok (.if_icmp .ge 7, 3) := by decide +kernel
theorem dX6_isBetter_60 : decode cX6_isBetter 60 = .ok (.iconst 1, 1) := by decide +kernel
theorem dX6_isBetter_61 : decode cX6_isBetter 61 = .ok (.goto 4, 3) := by decide +kernel
theorem dX6_isBetter_64 : decode cX6_isBetter 64 = .ok (.iconst 0, 1) := by decide +kernel
theorem dX6_isBetter_65 : decode cX6_isBetter 65 = .ok (.ireturn, 1) := by decide +kernel
set_option maxRecDepth 20000 in
theorem ggX6_choiceOf_X6_gives : GoodIn wsX6_choiceOf wsX6_gives := goodIn_r _ [6, 7, 8, 9, 5, 10, 1, 22, 23, 24, 25, 26, 27, 28, 29, 30, 31, 32, 33, 34, 35, 36] (by decide +kernel) (by decide +kernel)
set_option maxRecDepth 20000 in
theorem gX6_choiceOf_X6_gives : GoodIn wsX6_choiceOf (wsV RX6 108 RX6 yX6_gives wsX6_gives) := goodIn_app (goodIn_of _ (by decide +kernel)) ggX6_choiceOf_X6_gives
set_option maxRecDepth 20000 in
theorem ggX6_choiceOf_X6_isBetter : GoodIn wsX6_choiceOf wsX6_isBetter := goodIn_r _ [14, 1, 15, 16, 17, 5, 18, 7, 8, 9, 10, 19, 20, 21, 22, 23, 24, 25, 26, 27, 28, 29, 30, 31, 32, 33, 34, 35, 36] (by decide +kernel) (by decide +kernel)
set_option maxRecDepth 20000 in
theorem gX6_choiceOf_X6_isBetter : GoodIn wsX6_choiceOf (wsV RX6 112 RX6 yX6_isBetter wsX6_isBetter) := goodIn_app (goodIn_of _ (by decide +kernel)) ggX6_choiceOf_X6_isBetter
theorem dX6_choiceOf_0 : decode cX6_choiceOf 0 = .ok (.iconst (-1), 1) := by decide +kernel
theorem dX6_choiceOf_1 : decode cX6_choiceOf 1 = .ok (.istore_n 3, 1) := by decide +kernel
theorem dX6_choiceOf_2 : decode cX6_choiceOf 2 = .ok (.iconst 0, 1) := by decide +kernel
theorem dX6_choiceOf_3 : decode cX6_choiceOf 3 = .ok (.istore 4, 2) := by decide +kernel
theorem dX6_choiceOf_5 : decode cX6_choiceOf 5 = .ok (.iload 4, 2) := by decide +kernel
theorem dX6_choiceOf_7 : decode cX6_choiceOf 7 = .ok (.aload_n 0, 1) := by decide +kernel
theorem dX6_choiceOf_8 : decode cX6_choiceOf 8 = .ok (.getfield 7, 3) := by decide +kernel
theorem dX6_choiceOf_11 : decode cX6_choiceOf 11 = .ok (.iconst 5, 1) := by decide +kernel
theorem dX6_choiceOf_12 : decode cX6_choiceOf 12 = .ok (.iaload, 1) := by decide +kernel
theorem dX6_choiceOf_13 : decode cX6_choiceOf 13 = .ok (.if_icmp .ge 42, 3) := by decide +kernel
theorem dX6_choiceOf_16 : decode cX6_choiceOf 16 = .ok (.aload_n 0, 1) := by decide +kernel
theorem dX6_choiceOf_17 : decode cX6_choiceOf 17 = .ok (.iload 4, 2) := by decide +kernel
theorem dX6_choiceOf_19 : decode cX6_choiceOf 19 = .ok (.iload_n 2, 1) := by decide +kernel
theorem dX6_choiceOf_20 : decode cX6_choiceOf 20 = .ok (.invokevirtual 108, 3) := by decide +kernel
theorem dX6_choiceOf_23 : decode cX6_choiceOf 23 = .ok (.ifCond .eq 24, 3) := by decide +kernel
theorem dX6_choiceOf_26 : decode cX6_choiceOf 26 = .ok (.iload_n 3, 1) := by decide +kernel
theorem dX6_choiceOf_27 : decode cX6_choiceOf 27 = .ok (.iconst (-1), 1) := by decide +kernel
theorem dX6_choiceOf_28 : decode cX6_choiceOf 28 = .ok (.if_icmp .eq 14, 3) := by decide +kernel
theorem dX6_choiceOf_31 : decode cX6_choiceOf 31 = .ok (.aload_n 0, 1) := by decide +kernel
theorem dX6_choiceOf_32 : decode cX6_choiceOf 32 = .ok (.iload_n 1, 1) := by decide +kernel
theorem dX6_choiceOf_33 : decode cX6_choiceOf 33 = .ok (.iload 4, 2) := by decide +kernel
theorem dX6_choiceOf_35 : decode cX6_choiceOf 35 = .ok (.iload_n 3, 1) := by decide +kernel
theorem dX6_choiceOf_36 : decode cX6_choiceOf 36 = .ok (.invokevirtual 112, 3) := by decide +kernel
theorem dX6_choiceOf_39 : decode cX6_choiceOf 39 = .ok (.ifCond .eq 8, 3) := by decide +kernel
theorem dX6_choiceOf_42 : decode cX6_choiceOf 42 = .ok (.iload 4, 2) := by decide +kernel
theorem dX6_choiceOf_44 : decode cX6_choiceOf 44 = .ok (.goto 4, 3) := by decide +kernel
theorem dX6_choiceOf_47 : decode cX6_choiceOf 47 = .ok (.iload_n 3, 1) := by decide +kernel
theorem dX6_choiceOf_48 : decode cX6_choiceOf 48 = .ok (.istore_n 3, 1) := by decide +kernel
theorem dX6_choiceOf_49 : decode cX6_choiceOf 49 = .ok (.iinc 4 1, 3) := by decide +kernel
theorem dX6_choiceOf_52 : decode cX6_choiceOf 52 = .ok (.goto (-47), 3) := by decide +kernel
theorem dX6_choiceOf_55 : decode cX6_choiceOf 55 = .ok (.iload_n 3, 1) := by decide +kernel
theorem dX6_choiceOf_56 : decode cX6_choiceOf 56 = .ok (.ireturn, 1) := by decide +kernel
set_option maxRecDepth 20000 in
theorem ggX6_go_X6_apart : GoodIn wsX6_go wsX6_apart := goodIn_r _ [5] (by decide +kernel) (by decide +kernel)
set_option maxRecDepth 20000 in
theorem gX6_go_X6_apart : GoodIn wsX6_go (va_wsS RX6 105 yX6_apart wsX6_apart) := goodIn_app (goodIn_of _ (by decide +kernel)) ggX6_go_X6_apart
theorem dX6_go_0 : decode cX6_go 0 = .ok (.aload_n 0, 1) := by decide +kernel
theorem dX6_go_1 : decode cX6_go 1 = .ok (.getfield 7, 3) := by decide +kernel
theorem dX6_go_4 : decode cX6_go 4 = .ok (.bipush 7, 2) := by decide +kernel
theorem dX6_go_6 : decode cX6_go 6 = .ok (.dup2, 1) := by decide +kernel
theorem dX6_go_7 : decode cX6_go 7 = .ok (.iaload, 1) := by decide +kernel
theorem dX6_go_8 : decode cX6_go 8 = .ok (.aload_n 0, 1) := by decide +kernel
theorem dX6_go_9 : decode cX6_go 9 = .ok (.getfield 7, 3) := by decide +kernel
theorem dX6_go_12 : decode cX6_go 12 = .ok (.bipush 9, 2) := by decide +kernel
theorem dX6_go_14 : decode cX6_go 14 = .ok (.iaload, 1) := by decide +kernel
theorem dX6_go_15 : decode cX6_go 15 = .ok (.iload_n 1, 1) := by decide +kernel
theorem dX6_go_16 : decode cX6_go 16 = .ok (.invokestatic 105, 3) := by decide +kernel
theorem dX6_go_19 : decode cX6_go 19 = .ok (.iload_n 2, 1) := by decide +kernel
theorem dX6_go_20 : decode cX6_go 20 = .ok (.iadd, 1) := by decide +kernel
theorem dX6_go_21 : decode cX6_go 21 = .ok (.iadd, 1) := by decide +kernel
theorem dX6_go_22 : decode cX6_go 22 = .ok (.iastore, 1) := by decide +kernel
theorem dX6_go_23 : decode cX6_go 23 = .ok (.aload_n 0, 1) := by decide +kernel
theorem dX6_go_24 : decode cX6_go 24 = .ok (.getfield 7, 3) := by decide +kernel
theorem dX6_go_27 : decode cX6_go 27 = .ok (.bipush 9, 2) := by decide +kernel
theorem dX6_go_29 : decode cX6_go 29 = .ok (.iload_n 1, 1) := by decide +kernel
theorem dX6_go_30 : decode cX6_go 30 = .ok (.iastore, 1) := by decide +kernel
theorem dX6_go_31 : decode cX6_go 31 = .ok (.return_, 1) := by decide +kernel
theorem dX6_isAim_0 : decode cX6_isAim 0 = .ok (.iconst 0, 1) := by decide +kernel
theorem dX6_isAim_1 : decode cX6_isAim 1 = .ok (.istore_n 3, 1) := by decide +kernel
theorem dX6_isAim_2 : decode cX6_isAim 2 = .ok (.iconst 0, 1) := by decide +kernel
theorem dX6_isAim_3 : decode cX6_isAim 3 = .ok (.istore 4, 2) := by decide +kernel
theorem dX6_isAim_5 : decode cX6_isAim 5 = .ok (.iload 4, 2) := by decide +kernel
theorem dX6_isAim_7 : decode cX6_isAim 7 = .ok (.iload_n 2, 1) := by decide +kernel
theorem dX6_isAim_8 : decode cX6_isAim 8 = .ok (.if_icmp .ge 30, 3) := by decide +kernel
theorem dX6_isAim_11 : decode cX6_isAim 11 = .ok (.iload_n 3, 1) := by decide +kernel
theorem dX6_isAim_12 : decode cX6_isAim 12 = .ok (.ifCond .ne 14, 3) := by decide +kernel
theorem dX6_isAim_15 : decode cX6_isAim 15 = .ok (.aload_n 0, 1) := by decide +kernel
theorem dX6_isAim_16 : decode cX6_isAim 16 = .ok (.getfield 19, 3) := by decide +kernel
theorem dX6_isAim_19 : decode cX6_isAim 19 = .ok (.iload 4, 2) := by decide +kernel
theorem dX6_isAim_21 : decode cX6_isAim 21 = .ok (.iaload, 1) := by decide +kernel
theorem dX6_isAim_22 : decode cX6_isAim 22 = .ok (.iload_n 1, 1) := by decide +kernel
theorem dX6_isAim_23 : decode cX6_isAim 23 = .ok (.if_icmp .ne 7, 3) := by decide +kernel
theorem dX6_isAim_26 : decode cX6_isAim 26 = .ok (.iconst 1, 1) := by decide +kernel
theorem dX6_isAim_27 : decode cX6_isAim 27 = .ok (.goto 4, 3) := by decide +kernel
theorem dX6_isAim_30 : decode cX6_isAim 30 = .ok (.iconst 0, 1) := by decide +kernel
theorem dX6_isAim_31 : decode cX6_isAim 31 = .ok (.istore_n 3, 1) := by decide +kernel
theorem dX6_isAim_32 : decode cX6_isAim 32 = .ok (.iinc 4 1, 3) := by decide +kernel
theorem dX6_isAim_35 : decode cX6_isAim 35 = .ok (.goto (-30), 3) := by decide +kernel
theorem dX6_isAim_38 : decode cX6_isAim 38 = .ok (.iload_n 3, 1) := by decide +kernel
theorem dX6_isAim_39 : decode cX6_isAim 39 = .ok (.ireturn, 1) := by decide +kernel
set_option maxRecDepth 20000 in
theorem ggX6_aimOf_X6_ofPlace : GoodIn wsX6_aimOf wsX6_ofPlace := goodIn_r _ [6, 1, 39, 40, 41, 42, 43, 44, 45, 46, 47, 48, 49, 50, 51, 52, 53] (by decide +kernel) (by decide +kernel)
set_option maxRecDepth 20000 in
theorem gX6_aimOf_X6_ofPlace : GoodIn wsX6_aimOf (wsV RX6 81 RX6 yX6_ofPlace wsX6_ofPlace) := goodIn_app (goodIn_of _ (by decide +kernel)) ggX6_aimOf_X6_ofPlace
set_option maxRecDepth 20000 in
theorem ggX6_aimOf_X6_ofNozzle : GoodIn wsX6_aimOf wsX6_ofNozzle := goodIn_r _ [10, 1, 39, 40, 41, 42, 43, 44, 45, 46, 47, 48, 49, 50, 51, 52, 53] (by decide +kernel) (by decide +kernel)
set_option maxRecDepth 20000 in
theorem gX6_aimOf_X6_ofNozzle : GoodIn wsX6_aimOf (wsV RX6 78 RX6 yX6_ofNozzle wsX6_ofNozzle) := goodIn_app (goodIn_of _ (by decide +kernel)) ggX6_aimOf_X6_ofNozzle
set_option maxRecDepth 20000 in
theorem ggX6_aimOf_X6_choiceOf : GoodIn wsX6_aimOf wsX6_choiceOf := goodIn_r _ [14, 1, 15, 16, 17, 5, 18, 19, 20, 21, 22, 23, 24, 25, 26, 27, 28, 29, 30, 31, 32, 33, 39, 40, 41, 42, 43, 44, 45, 46, 47, 48, 49, 50, 51, 52, 53] (by decide +kernel) (by decide +kernel)
set_option maxRecDepth 20000 in
theorem gX6_aimOf_X6_choiceOf : GoodIn wsX6_aimOf (wsV RX6 115 RX6 yX6_choiceOf wsX6_choiceOf) := goodIn_app (goodIn_of _ (by decide +kernel)) ggX6_aimOf_X6_choiceOf
set_option maxRecDepth 20000 in
theorem ggX6_aimOf_X6_isAim : GoodIn wsX6_aimOf wsX6_isAim := goodIn_r _ [37, 38, 39, 40, 41, 42, 43, 44, 45, 46, 47, 48, 49, 50, 51, 52, 53] (by decide +kernel) (by decide +kernel)
set_option maxRecDepth 20000 in
theorem gX6_aimOf_X6_isAim : GoodIn wsX6_aimOf (wsV RX6 118 RX6 yX6_isAim wsX6_isAim) := goodIn_app (goodIn_of _ (by decide +kernel)) ggX6_aimOf_X6_isAim
theorem dX6_aimOf_0 : decode cX6_aimOf 0 = .ok (.iconst 0, 1) := by decide +kernel
theorem dX6_aimOf_1 : decode cX6_aimOf 1 = .ok (.istore_n 2, 1) := by decide +kernel
theorem dX6_aimOf_2 : decode cX6_aimOf 2 = .ok (.iload_n 2, 1) := by decide +kernel
theorem dX6_aimOf_3 : decode cX6_aimOf 3 = .ok (.aload_n 0, 1) := by decide +kernel
theorem dX6_aimOf_4 : decode cX6_aimOf 4 = .ok (.getfield 7, 3) := by decide +kernel
theorem dX6_aimOf_7 : decode cX6_aimOf 7 = .ok (.bipush 6, 2) := by decide +kernel
theorem dX6_aimOf_9 : decode cX6_aimOf 9 = .ok (.iaload, 1) := by decide +kernel
theorem dX6_aimOf_10 : decode cX6_aimOf 10 = .ok (.if_icmp .ge 72, 3) := by decide +kernel
theorem dX6_aimOf_13 : decode cX6_aimOf 13 = .ok (.aload_n 0, 1) := by decide +kernel
theorem dX6_aimOf_14 : decode cX6_aimOf 14 = .ok (.iload_n 2, 1) := by decide +kernel
theorem dX6_aimOf_15 : decode cX6_aimOf 15 = .ok (.iconst 1, 1) := by decide +kernel
theorem dX6_aimOf_16 : decode cX6_aimOf 16 = .ok (.invokevirtual 81, 3) := by decide +kernel
theorem dX6_aimOf_19 : decode cX6_aimOf 19 = .ok (.istore_n 3, 1) := by decide +kernel
theorem dX6_aimOf_20 : decode cX6_aimOf 20 = .ok (.aload_n 0, 1) := by decide +kernel
theorem dX6_aimOf_21 : decode cX6_aimOf 21 = .ok (.iload_n 1, 1) := by decide +kernel
theorem dX6_aimOf_22 : decode cX6_aimOf 22 = .ok (.iconst 0, 1) := by decide +kernel
theorem dX6_aimOf_23 : decode cX6_aimOf 23 = .ok (.invokevirtual 78, 3) := by decide +kernel
theorem dX6_aimOf_26 : decode cX6_aimOf 26 = .ok (.iload_n 3, 1) := by decide +kernel
theorem dX6_aimOf_27 : decode cX6_aimOf 27 = .ok (.ishr, 1) := by decide +kernel
theorem dX6_aimOf_28 : decode cX6_aimOf 28 = .ok (.iconst 1, 1) := by decide +kernel
theorem dX6_aimOf_29 : decode cX6_aimOf 29 = .ok (.iand, 1) := by decide +kernel
theorem dX6_aimOf_30 : decode cX6_aimOf 30 = .ok (.iconst 1, 1) := by decide +kernel
theorem dX6_aimOf_31 : decode cX6_aimOf 31 = .ok (.if_icmp .ne 17, 3) := by decide +kernel
theorem dX6_aimOf_34 : decode cX6_aimOf 34 = .ok (.aload_n 0, 1) := by decide +kernel
theorem dX6_aimOf_35 : decode cX6_aimOf 35 = .ok (.iload_n 1, 1) := by decide +kernel
theorem dX6_aimOf_36 : decode cX6_aimOf 36 = .ok (.iload_n 3, 1) := by decide +kernel
theorem dX6_aimOf_37 : decode cX6_aimOf 37 = .ok (.invokevirtual 115, 3) := by decide +kernel
theorem dX6_aimOf_40 : decode cX6_aimOf 40 = .ok (.iconst (-1), 1) := by decide +kernel
theorem dX6_aimOf_41 : decode cX6_aimOf 41 = .ok (.if_icmp .eq 7, 3) := by decide +kernel
theorem dX6_aimOf_44 : decode cX6_aimOf 44 = .ok (.iconst 1, 1) := by decide +kernel
theorem dX6_aimOf_45 : decode cX6_aimOf 45 = .ok (.goto 4, 3) := by decide +kernel
theorem dX6_aimOf_48 : decode cX6_aimOf 48 = .ok (.iconst 0, 1) := by decide +kernel
theorem dX6_aimOf_49 : decode cX6_aimOf 49 = .ok (.istore 4, 2) := by decide +kernel
theorem dX6_aimOf_51 : decode cX6_aimOf 51 = .ok (.iload 4, 2) := by decide +kernel
theorem dX6_aimOf_53 : decode cX6_aimOf 53 = .ok (.ifCond .eq 23, 3) := by decide +kernel
theorem dX6_aimOf_56 : decode cX6_aimOf 56 = .ok (.aload_n 0, 1) := by decide +kernel
theorem dX6_aimOf_57 : decode cX6_aimOf 57 = .ok (.iload_n 2, 1) := by decide +kernel
theorem dX6_aimOf_58 : decode cX6_aimOf 58 = .ok (.iconst 2, 1) := by decide +kernel
theorem dX6_aimOf_59 : decode cX6_aimOf 59 = .ok (.invokevirtual 81, 3) := by decide +kernel
theorem dX6_aimOf_62 : decode cX6_aimOf 62 = .ok (.ifCond .ne 14, 3) := by decide +kernel
theorem dX6_aimOf_65 : decode cX6_aimOf 65 = .ok (.aload_n 0, 1) := by decide +kernel
theorem dX6_aimOf_66 : decode cX6_aimOf 66 = .ok (.iload_n 2, 1) := by decide +kernel
theorem dX6_aimOf_67 : decode cX6_aimOf 67 = .ok (.iload_n 1, 1) := by decide +kernel
theorem dX6_aimOf_68 : decode cX6_aimOf 68 = .ok (.invokevirtual 118, 3) := by decide +kernel
theorem dX6_aimOf_71 : decode cX6_aimOf 71 = .ok (.ifCond .ne 5, 3) := by decide +kernel
theorem dX6_aimOf_74 : decode cX6_aimOf 74 = .ok (.iload_n 2, 1) := by decide +kernel
theorem dX6_aimOf_75 : decode cX6_aimOf 75 = .ok (.ireturn, 1) := by decide +kernel
theorem dX6_aimOf_76 : decode cX6_aimOf 76 = .ok (.iinc 2 1, 3) := by decide +kernel
theorem dX6_aimOf_79 : decode cX6_aimOf 79 = .ok (.goto (-77), 3) := by decide +kernel
theorem dX6_aimOf_82 : decode cX6_aimOf 82 = .ok (.iconst (-1), 1) := by decide +kernel
theorem dX6_aimOf_83 : decode cX6_aimOf 83 = .ok (.ireturn, 1) := by decide +kernel
set_option maxRecDepth 20000 in
theorem ggX6_layAims_X6_aimOf : GoodIn wsX6_layAims wsX6_aimOf := goodIn_r _ [6, 7, 8, 9, 10, 5, 11, 12, 13, 14, 15, 16, 17, 18, 19, 20, 21, 22, 23, 24, 25, 26, 27, 28, 29, 30, 31, 32, 33, 34, 35, 36, 37, 38, 39, 40, 41, 42, 1, 43, 44, 45, 46, 47, 48, 49, 50, 51, 52, 53, 54, 55, 56, 57] (by decide +kernel) (by decide +kernel)
set_option maxRecDepth 20000 in
theorem gX6_layAims_X6_aimOf : GoodIn wsX6_layAims (wsV RX6 121 RX6 yX6_aimOf wsX6_aimOf) := goodIn_app (goodIn_of _ (by decide +kernel)) ggX6_layAims_X6_aimOf
theorem dX6_layAims_0 : decode cX6_layAims 0 = .ok (.iconst 0, 1) := by decide +kernel
theorem dX6_layAims_1 : decode cX6_layAims 1 = .ok (.istore_n 1, 1) := by decide +kernel
theorem dX6_layAims_2 : decode cX6_layAims 2 = .ok (.iload_n 1, 1) := by decide +kernel
theorem dX6_layAims_3 : decode cX6_layAims 3 = .ok (.iconst 4, 1) := by decide +kernel
theorem dX6_layAims_4 : decode cX6_layAims 4 = .ok (.if_icmp .ge 20, 3) := by decide +kernel
theorem dX6_layAims_7 : decode cX6_layAims 7 = .ok (.aload_n 0, 1) := by decide +kernel
theorem dX6_layAims_8 : decode cX6_layAims 8 = .ok (.getfield 19, 3) := by decide +kernel
theorem dX6_layAims_11 : decode cX6_layAims 11 = .ok (.iload_n 1, 1) := by decide +kernel
theorem dX6_layAims_12 : decode cX6_layAims 12 = .ok (.aload_n 0, 1) := by decide +kernel
theorem dX6_layAims_13 : decode cX6_layAims 13 = .ok (.iload_n 1, 1) := by decide +kernel
theorem dX6_layAims_14 : decode cX6_layAims 14 = .ok (.invokevirtual 121, 3) := by decide +kernel
theorem dX6_layAims_17 : decode cX6_layAims 17 = .ok (.iastore, 1) := by decide +kernel
theorem dX6_layAims_18 : decode cX6_layAims 18 = .ok (.iinc 1 1, 3) := by decide +kernel
theorem dX6_layAims_21 : decode cX6_layAims 21 = .ok (.goto (-19), 3) := by decide +kernel
theorem dX6_layAims_24 : decode cX6_layAims 24 = .ok (.return_, 1) := by decide +kernel
set_option maxRecDepth 20000 in
theorem ggX6_tries_X6_go : GoodIn wsX6_tries wsX6_go := goodIn_r _ [8, 1, 9, 10, 7, 11, 28, 29, 30, 31, 32, 33, 34, 35, 36, 37, 38, 39, 40, 41, 42] (by decide +kernel) (by decide +kernel)
set_option maxRecDepth 20000 in
theorem gX6_tries_X6_go : GoodIn wsX6_tries (wsV RX6 124 RX6 yX6_go wsX6_go) := goodIn_app (goodIn_of _ (by decide +kernel)) ggX6_tries_X6_go
set_option maxRecDepth 20000 in
theorem ggX6_tries_X6_draw : GoodIn wsX6_tries wsX6_draw := goodIn_r _ [15, 1, 16, 17, 18, 19, 28, 29, 30, 31, 32, 33, 34, 35, 36, 37, 38, 39, 40, 41, 42] (by decide +kernel) (by decide +kernel)
set_option maxRecDepth 20000 in
theorem gX6_tries_X6_draw : GoodIn wsX6_tries (wsV RX6 128 RX6 yX6_draw wsX6_draw) := goodIn_app (goodIn_of _ (by decide +kernel)) ggX6_tries_X6_draw
set_option maxRecDepth 20000 in
theorem ggX6_tries_X6_trustMore : GoodIn wsX6_tries wsX6_trustMore := goodIn_r _ [23, 1, 24, 25, 26, 7, 27, 28, 29, 30, 31, 32, 33, 34, 35, 36, 37, 38, 39, 40, 41, 42] (by decide +kernel) (by decide +kernel)
set_option maxRecDepth 20000 in
theorem gX6_tries_X6_trustMore : GoodIn wsX6_tries (wsV RX6 131 RX6 yX6_trustMore wsX6_trustMore) := goodIn_app (goodIn_of _ (by decide +kernel)) ggX6_tries_X6_trustMore
theorem dX6_tries_0 : decode cX6_tries 0 = .ok (.bipush 12, 2) := by decide +kernel
theorem dX6_tries_2 : decode cX6_tries 2 = .ok (.bipush 8, 2) := by decide +kernel
theorem dX6_tries_4 : decode cX6_tries 4 = .ok (.iload_n 2, 1) := by decide +kernel
theorem dX6_tries_5 : decode cX6_tries 5 = .ok (.imul, 1) := by decide +kernel
theorem dX6_tries_6 : decode cX6_tries 6 = .ok (.iadd, 1) := by decide +kernel
theorem dX6_tries_7 : decode cX6_tries 7 = .ok (.istore_n 3, 1) := by decide +kernel
theorem dX6_tries_8 : decode cX6_tries 8 = .ok (.aload_n 0, 1) := by decide +kernel
theorem dX6_tries_9 : decode cX6_tries 9 = .ok (.aload_n 0, 1) := by decide +kernel
theorem dX6_tries_10 : decode cX6_tries 10 = .ok (.getfield 7, 3) := by decide +kernel
theorem dX6_tries_13 : decode cX6_tries 13 = .ok (.iload_n 3, 1) := by decide +kernel
theorem dX6_tries_14 : decode cX6_tries 14 = .ok (.iconst 0, 1) := by decide +kernel
theorem dX6_tries_15 : decode cX6_tries 15 = .ok (.iadd, 1) := by decide +kernel
theorem dX6_tries_16 : decode cX6_tries 16 = .ok (.iaload, 1) := by decide +kernel
theorem dX6_tries_17 : decode cX6_tries 17 = .ok (.iconst 2, 1) := by decide +kernel
theorem dX6_tries_18 : decode cX6_tries 18 = .ok (.invokevirtual 124, 3) := by decide +kernel
theorem dX6_tries_21 : decode cX6_tries 21 = .ok (.aload_n 0, 1) := by decide +kernel
theorem dX6_tries_22 : decode cX6_tries 22 = .ok (.getfield 7, 3) := by decide +kernel
theorem dX6_tries_25 : decode cX6_tries 25 = .ok (.iload_n 3, 1) := by decide +kernel
theorem dX6_tries_26 : decode cX6_tries 26 = .ok (.iconst 5, 1) := by decide +kernel
theorem dX6_tries_27 : decode cX6_tries 27 = .ok (.iadd, 1) := by decide +kernel
theorem dX6_tries_28 : decode cX6_tries 28 = .ok (.dup2, 1) := by decide +kernel
theorem dX6_tries_29 : decode cX6_tries 29 = .ok (.iaload, 1) := by decide +kernel
theorem dX6_tries_30 : decode cX6_tries 30 = .ok (.iconst 1, 1) := by decide +kernel
theorem dX6_tries_31 : decode cX6_tries 31 = .ok (.iadd, 1) := by decide +kernel
theorem dX6_tries_32 : decode cX6_tries 32 = .ok (.iastore, 1) := by decide +kernel
theorem dX6_tries_33 : decode cX6_tries 33 = .ok (.aload_n 0, 1) := by decide +kernel
theorem dX6_tries_34 : decode cX6_tries 34 = .ok (.getfield 7, 3) := by decide +kernel
theorem dX6_tries_37 : decode cX6_tries 37 = .ok (.sipush 196, 3) := by decide +kernel
theorem dX6_tries_40 : decode cX6_tries 40 = .ok (.iconst 5, 1) := by decide +kernel
theorem dX6_tries_41 : decode cX6_tries 41 = .ok (.iload_n 1, 1) := by decide +kernel
theorem dX6_tries_42 : decode cX6_tries 42 = .ok (.imul, 1) := by decide +kernel
theorem dX6_tries_43 : decode cX6_tries 43 = .ok (.iadd, 1) := by decide +kernel
theorem dX6_tries_44 : decode cX6_tries 44 = .ok (.iconst 1, 1) := by decide +kernel
theorem dX6_tries_45 : decode cX6_tries 45 = .ok (.iadd, 1) := by decide +kernel
theorem dX6_tries_46 : decode cX6_tries 46 = .ok (.dup2, 1) := by decide +kernel
theorem dX6_tries_47 : decode cX6_tries 47 = .ok (.iaload, 1) := by decide +kernel
theorem dX6_tries_48 : decode cX6_tries 48 = .ok (.iconst 1, 1) := by decide +kernel
theorem dX6_tries_49 : decode cX6_tries 49 = .ok (.iadd, 1) := by decide +kernel
theorem dX6_tries_50 : decode cX6_tries 50 = .ok (.iastore, 1) := by decide +kernel
theorem dX6_tries_51 : decode cX6_tries 51 = .ok (.aload_n 0, 1) := by decide +kernel
theorem dX6_tries_52 : decode cX6_tries 52 = .ok (.bipush 100, 2) := by decide +kernel
theorem dX6_tries_54 : decode cX6_tries 54 = .ok (.invokevirtual 128, 3) := by decide +kernel
theorem dX6_tries_57 : decode cX6_tries 57 = .ok (.aload_n 0, 1) := by decide +kernel
theorem dX6_tries_58 : decode cX6_tries 58 = .ok (.getfield 7, 3) := by decide +kernel
theorem dX6_tries_61 : decode cX6_tries 61 = .ok (.iload_n 3, 1) := by decide +kernel
theorem dX6_tries_62 : decode cX6_tries 62 = .ok (.iconst 3, 1) := by decide +kernel
theorem dX6_tries_63 : decode cX6_tries 63 = .ok (.iadd, 1) := by decide +kernel
theorem dX6_tries_64 : decode cX6_tries 64 = .ok (.iaload, 1) := by decide +kernel
theorem dX6_tries_65 : decode cX6_tries 65 = .ok (.if_icmp .ge 49, 3) := by decide +kernel
theorem dX6_tries_68 : decode cX6_tries 68 = .ok (.aload_n 0, 1) := by decide +kernel
theorem dX6_tries_69 : decode cX6_tries 69 = .ok (.iload_n 1, 1) := by decide +kernel
theorem dX6_tries_70 : decode cX6_tries 70 = .ok (.iload_n 2, 1) := by decide +kernel
theorem dX6_tries_71 : decode cX6_tries 71 = .ok (.aload_n 0, 1) := by decide +kernel
theorem dX6_tries_72 : decode cX6_tries 72 = .ok (.getfield 7, 3) := by decide +kernel
theorem dX6_tries_75 : decode cX6_tries 75 = .ok (.iconst 1, 1) := by decide +kernel
theorem dX6_tries_76 : decode cX6_tries 76 = .ok (.iaload, 1) := by decide +kernel
theorem dX6_tries_77 : decode cX6_tries 77 = .ok (.ineg, 1) := by decide +kernel
theorem dX6_tries_78 : decode cX6_tries 78 = .ok (.invokevirtual 131, 3) := by decide +kernel
theorem dX6_tries_81 : decode cX6_tries 81 = .ok (.aload_n 0, 1) := by decide +kernel
theorem dX6_tries_82 : decode cX6_tries 82 = .ok (.getfield 7, 3) := by decide +kernel
theorem dX6_tries_85 : decode cX6_tries 85 = .ok (.iload_n 3, 1) := by decide +kernel
theorem dX6_tries_86 : decode cX6_tries 86 = .ok (.bipush 6, 2) := by decide +kernel
theorem dX6_tries_88 : decode cX6_tries 88 = .ok (.iadd, 1) := by decide +kernel
theorem dX6_tries_89 : decode cX6_tries 89 = .ok (.dup2, 1) := by decide +kernel
theorem dX6_tries_90 : decode cX6_tries 90 = .ok (.iaload, 1) := by decide +kernel
theorem dX6_tries_91 : decode cX6_tries 91 = .ok (.iconst 1, 1) := by decide +kernel
theorem dX6_tries_92 : decode cX6_tries 92 = .ok (.iadd, 1) := by decide +kernel
theorem dX6_tries_93 : decode cX6_tries 93 = .ok (.iastore, 1) := by decide +kernel
theorem dX6_tries_94 : decode cX6_tries 94 = .ok (.aload_n 0, 1) := by decide +kernel
theorem dX6_tries_95 : decode cX6_tries 95 = .ok (.getfield 7, 3) := by decide +kernel
theorem dX6_tries_98 : decode cX6_tries 98 = .ok (.sipush 196, 3) := by decide +kernel
theorem dX6_tries_101 : decode cX6_tries 101 = .ok (.iconst 5, 1) := by decide +kernel
theorem dX6_tries_102 : decode cX6_tries 102 = .ok (.iload_n 1, 1) := by decide +kernel
theorem dX6_tries_103 : decode cX6_tries 103 = .ok (.imul, 1) := by decide +kernel
theorem dX6_tries_104 : decode cX6_tries 104 = .ok (.iadd, 1) := by decide +kernel
theorem dX6_tries_105 : decode cX6_tries 105 = .ok (.iconst 2, 1) := by decide +kernel
theorem dX6_tries_106 : decode cX6_tries 106 = .ok (.iadd, 1) := by decide +kernel
theorem dX6_tries_107 : decode cX6_tries 107 = .ok (.dup2, 1) := by decide +kernel
theorem dX6_tries_108 : decode cX6_tries 108 = .ok (.iaload, 1) := by decide +kernel
theorem dX6_tries_109 : decode cX6_tries 109 = .ok (.iconst 1, 1) := by decide +kernel
theorem dX6_tries_110 : decode cX6_tries 110 = .ok (.iadd, 1) := by decide +kernel
theorem dX6_tries_111 : decode cX6_tries 111 = .ok (.iastore, 1) := by decide +kernel
theorem dX6_tries_112 : decode cX6_tries 112 = .ok (.iconst 0, 1) := by decide +kernel
theorem dX6_tries_113 : decode cX6_tries 113 = .ok (.ireturn, 1) := by decide +kernel
theorem dX6_tries_114 : decode cX6_tries 114 = .ok (.aload_n 0, 1) := by decide +kernel
theorem dX6_tries_115 : decode cX6_tries 115 = .ok (.getfield 7, 3) := by decide +kernel
theorem dX6_tries_118 : decode cX6_tries 118 = .ok (.iload_n 3, 1) := by decide +kernel
theorem dX6_tries_119 : decode cX6_tries 119 = .ok (.iconst 2, 1) := by decide +kernel
theorem dX6_tries_120 : decode cX6_tries 120 = .ok (.iadd, 1) := by decide +kernel
theorem dX6_tries_121 : decode cX6_tries 121 = .ok (.dup2, 1) := by decide +kernel
theorem dX6_tries_122 : decode cX6_tries 122 = .ok (.iaload, 1) := by decide +kernel
theorem dX6_tries_123 : decode cX6_tries 123 = .ok (.iconst 1, 1) := by decide +kernel
theorem dX6_tries_124 : decode cX6_tries 124 = .ok (.isub, 1) := by decide +kernel
theorem dX6_tries_125 : decode cX6_tries 125 = .ok (.iastore, 1) := by decide +kernel
theorem dX6_tries_126 : decode cX6_tries 126 = .ok (.aload_n 0, 1) := by decide +kernel
theorem dX6_tries_127 : decode cX6_tries 127 = .ok (.iload_n 1, 1) := by decide +kernel
theorem dX6_tries_128 : decode cX6_tries 128 = .ok (.iload_n 2, 1) := by decide +kernel
theorem dX6_tries_129 : decode cX6_tries 129 = .ok (.aload_n 0, 1) := by decide +kernel
theorem dX6_tries_130 : decode cX6_tries 130 = .ok (.getfield 7, 3) := by decide +kernel
theorem dX6_tries_133 : decode cX6_tries 133 = .ok (.iconst 2, 1) := by decide +kernel
theorem dX6_tries_134 : decode cX6_tries 134 = .ok (.iaload, 1) := by decide +kernel
theorem dX6_tries_135 : decode cX6_tries 135 = .ok (.invokevirtual 131, 3) := by decide +kernel
theorem dX6_tries_138 : decode cX6_tries 138 = .ok (.aload_n 0, 1) := by decide +kernel
theorem dX6_tries_139 : decode cX6_tries 139 = .ok (.getfield 22, 3) := by decide +kernel
theorem dX6_tries_142 : decode cX6_tries 142 = .ok (.iload_n 1, 1) := by decide +kernel
theorem dX6_tries_143 : decode cX6_tries 143 = .ok (.iload_n 2, 1) := by decide +kernel
theorem dX6_tries_144 : decode cX6_tries 144 = .ok (.iastore, 1) := by decide +kernel
theorem dX6_tries_145 : decode cX6_tries 145 = .ok (.aload_n 0, 1) := by decide +kernel
theorem dX6_tries_146 : decode cX6_tries 146 = .ok (.getfield 25, 3) := by decide +kernel
theorem dX6_tries_149 : decode cX6_tries 149 = .ok (.iload_n 1, 1) := by decide +kernel
theorem dX6_tries_150 : decode cX6_tries 150 = .ok (.aload_n 0, 1) := by decide +kernel
theorem dX6_tries_151 : decode cX6_tries 151 = .ok (.bipush 100, 2) := by decide +kernel
theorem dX6_tries_153 : decode cX6_tries 153 = .ok (.invokevirtual 128, 3) := by decide +kernel
theorem dX6_tries_156 : decode cX6_tries 156 = .ok (.aload_n 0, 1) := by decide +kernel
theorem dX6_tries_157 : decode cX6_tries 157 = .ok (.getfield 7, 3) := by decide +kernel
theorem dX6_tries_160 : decode cX6_tries 160 = .ok (.iload_n 3, 1) := by decide +kernel
theorem dX6_tries_161 : decode cX6_tries 161 = .ok (.iconst 4, 1) := by decide +kernel
theorem dX6_tries_162 : decode cX6_tries 162 = .ok (.iadd, 1) := by decide +kernel
theorem dX6_tries_163 : decode cX6_tries 163 = .ok (.iaload, 1) := by decide +kernel
theorem dX6_tries_164 : decode cX6_tries 164 = .ok (.if_icmp .ge 7, 3) := by decide +kernel
theorem dX6_tries_167 : decode cX6_tries 167 = .ok (.iconst 1, 1) := by decide +kernel
theorem dX6_tries_168 : decode cX6_tries 168 = .ok (.goto 4, 3) := by decide +kernel
theorem dX6_tries_171 : decode cX6_tries 171 = .ok (.iconst 0, 1) := by decide +kernel
theorem dX6_tries_172 : decode cX6_tries 172 = .ok (.iastore, 1) := by decide +kernel
theorem dX6_tries_173 : decode cX6_tries 173 = .ok (.iconst 1, 1) := by decide +kernel
theorem dX6_tries_174 : decode cX6_tries 174 = .ok (.ireturn, 1) := by decide +kernel
set_option maxRecDepth 20000 in
theorem ggX6_pick_X6_ofPlace : GoodIn wsX6_pick wsX6_ofPlace := goodIn_r _ [8, 3, 53, 54, 55, 56, 57, 58, 59, 60, 61, 62, 63, 64, 65, 66, 67] (by decide +kernel) (by decide +kernel)
set_option maxRecDepth 20000 in
theorem gX6_pick_X6_ofPlace : GoodIn wsX6_pick (wsV RX6 81 RX6 yX6_ofPlace wsX6_ofPlace) := goodIn_app (goodIn_of _ (by decide +kernel)) ggX6_pick_X6_ofPlace
set_option maxRecDepth 20000 in
theorem ggX6_pick_X6_choiceOf : GoodIn wsX6_pick wsX6_choiceOf := goodIn_r _ [12, 3, 13, 14, 15, 7, 16, 17, 18, 19, 20, 21, 22, 23, 24, 25, 26, 27, 28, 29, 30, 31, 53, 54, 55, 56, 57, 58, 59, 60, 61, 62, 63, 64, 65, 66, 67] (by decide +kernel) (by decide +kernel)
set_option maxRecDepth 20000 in
theorem gX6_pick_X6_choiceOf : GoodIn wsX6_pick (wsV RX6 115 RX6 yX6_choiceOf wsX6_choiceOf) := goodIn_app (goodIn_of _ (by decide +kernel)) ggX6_pick_X6_choiceOf
set_option maxRecDepth 20000 in
theorem ggX6_pick_X6_tries : GoodIn wsX6_pick wsX6_tries := goodIn_r _ [35, 3, 1, 36, 37, 38, 39, 7, 40, 29, 30, 31, 41, 42, 43, 44, 45, 46, 47, 48, 49, 50, 51, 52, 25, 26, 27, 28, 53, 54, 55, 56, 57, 58, 59, 60, 61, 62, 63, 64, 65, 66, 67] (by decide +kernel) (by decide +kernel)
set_option maxRecDepth 20000 in
theorem gX6_pick_X6_tries : GoodIn wsX6_pick (wsV RX6 135 RX6 yX6_tries wsX6_tries) := goodIn_app (goodIn_of _ (by decide +kernel)) ggX6_pick_X6_tries
theorem dX6_pick_0 : decode cX6_pick 0 = .ok (.aload_n 0, 1) := by decide +kernel
theorem dX6_pick_1 : decode cX6_pick 1 = .ok (.getfield 22, 3) := by decide +kernel
theorem dX6_pick_4 : decode cX6_pick 4 = .ok (.iload_n 1, 1) := by decide +kernel
theorem dX6_pick_5 : decode cX6_pick 5 = .ok (.iconst (-1), 1) := by decide +kernel
theorem dX6_pick_6 : decode cX6_pick 6 = .ok (.iastore, 1) := by decide +kernel
theorem dX6_pick_7 : decode cX6_pick 7 = .ok (.aload_n 0, 1) := by decide +kernel
theorem dX6_pick_8 : decode cX6_pick 8 = .ok (.getfield 19, 3) := by decide +kernel
theorem dX6_pick_11 : decode cX6_pick 11 = .ok (.iload_n 1, 1) := by decide +kernel
theorem dX6_pick_12 : decode cX6_pick 12 = .ok (.iaload, 1) := by decide +kernel
theorem dX6_pick_13 : decode cX6_pick 13 = .ok (.iconst (-1), 1) := by decide +kernel
theorem dX6_pick_14 : decode cX6_pick 14 = .ok (.if_icmp .eq 7, 3) := by decide +kernel
theorem dX6_pick_17 : decode cX6_pick 17 = .ok (.iconst 1, 1) := by decide +kernel
theorem dX6_pick_18 : decode cX6_pick 18 = .ok (.goto 4, 3) := by decide +kernel
theorem dX6_pick_21 : decode cX6_pick 21 = .ok (.iconst 0, 1) := by decide +kernel
theorem dX6_pick_22 : decode cX6_pick 22 = .ok (.istore_n 2, 1) := by decide +kernel
theorem dX6_pick_23 : decode cX6_pick 23 = .ok (.iconst 0, 1) := by decide +kernel
theorem dX6_pick_24 : decode cX6_pick 24 = .ok (.istore_n 3, 1) := by decide +kernel
theorem dX6_pick_25 : decode cX6_pick 25 = .ok (.iload_n 3, 1) := by decide +kernel
theorem dX6_pick_26 : decode cX6_pick 26 = .ok (.aload_n 0, 1) := by decide +kernel
theorem dX6_pick_27 : decode cX6_pick 27 = .ok (.getfield 7, 3) := by decide +kernel
theorem dX6_pick_30 : decode cX6_pick 30 = .ok (.iconst 0, 1) := by decide +kernel
theorem dX6_pick_31 : decode cX6_pick 31 = .ok (.iaload, 1) := by decide +kernel
theorem dX6_pick_32 : decode cX6_pick 32 = .ok (.if_icmp .gt 53, 3) := by decide +kernel
theorem dX6_pick_35 : decode cX6_pick 35 = .ok (.iload_n 2, 1) := by decide +kernel
theorem dX6_pick_36 : decode cX6_pick 36 = .ok (.ifCond .eq 49, 3) := by decide +kernel
theorem dX6_pick_39 : decode cX6_pick 39 = .ok (.aload_n 0, 1) := by decide +kernel
theorem dX6_pick_40 : decode cX6_pick 40 = .ok (.iload_n 1, 1) := by decide +kernel
theorem dX6_pick_41 : decode cX6_pick 41 = .ok (.aload_n 0, 1) := by decide +kernel
theorem dX6_pick_42 : decode cX6_pick 42 = .ok (.aload_n 0, 1) := by decide +kernel
theorem dX6_pick_43 : decode cX6_pick 43 = .ok (.getfield 19, 3) := by decide +kernel
theorem dX6_pick_46 : decode cX6_pick 46 = .ok (.iload_n 1, 1) := by decide +kernel
theorem dX6_pick_47 : decode cX6_pick 47 = .ok (.iaload, 1) := by decide +kernel
theorem dX6_pick_48 : decode cX6_pick 48 = .ok (.iconst 1, 1) := by decide +kernel
theorem dX6_pick_49 : decode cX6_pick 49 = .ok (.invokevirtual 81, 3) := by decide +kernel
theorem dX6_pick_52 : decode cX6_pick 52 = .ok (.invokevirtual 115, 3) := by decide +kernel
theorem dX6_pick_55 : decode cX6_pick 55 = .ok (.istore 4, 2) := by decide +kernel
theorem dX6_pick_57 : decode cX6_pick 57 = .ok (.iload 4, 2) := by decide +kernel
theorem dX6_pick_59 : decode cX6_pick 59 = .ok (.iconst (-1), 1) := by decide +kernel
theorem dX6_pick_60 : decode cX6_pick 60 = .ok (.if_icmp .eq 17, 3) := by decide +kernel
theorem dX6_pick_63 : decode cX6_pick 63 = .ok (.aload_n 0, 1) := by decide +kernel
theorem dX6_pick_64 : decode cX6_pick 64 = .ok (.iload_n 1, 1) := by decide +kernel
theorem dX6_pick_65 : decode cX6_pick 65 = .ok (.iload 4, 2) := by decide +kernel
theorem dX6_pick_67 : decode cX6_pick 67 = .ok (.invokevirtual 135, 3) := by decide +kernel
theorem dX6_pick_70 : decode cX6_pick 70 = .ok (.ifCond .ne 7, 3) := by decide +kernel
theorem dX6_pick_73 : decode cX6_pick 73 = .ok (.iconst 1, 1) := by decide +kernel
theorem dX6_pick_74 : decode cX6_pick 74 = .ok (.goto 4, 3) := by decide +kernel
theorem dX6_pick_77 : decode cX6_pick 77 = .ok (.iconst 0, 1) := by decide +kernel
theorem dX6_pick_78 : decode cX6_pick 78 = .ok (.istore_n 2, 1) := by decide +kernel
theorem dX6_pick_79 : decode cX6_pick 79 = .ok (.iinc 3 1, 3) := by decide +kernel
theorem dX6_pick_82 : decode cX6_pick 82 = .ok (.goto (-57), 3) := by decide +kernel
theorem dX6_pick_85 : decode cX6_pick 85 = .ok (.return_, 1) := by decide +kernel
set_option maxRecDepth 20000 in
theorem ggX6_look_X6_draw : GoodIn wsX6_look wsX6_draw := goodIn_r _ [8, 2, 9, 10, 11, 12, 21, 22, 23, 24, 25, 26, 27, 28, 29, 30, 31, 32, 33, 34, 35] (by decide +kernel) (by decide +kernel)
set_option maxRecDepth 20000 in
theorem gX6_look_X6_draw : GoodIn wsX6_look (wsV RX6 128 RX6 yX6_draw wsX6_draw) := goodIn_app (goodIn_of _ (by decide +kernel)) ggX6_look_X6_draw
set_option maxRecDepth 20000 in
theorem ggX6_look_X6_trustMore : GoodIn wsX6_look wsX6_trustMore := goodIn_r _ [16, 2, 17, 18, 19, 7, 20, 21, 22, 23, 24, 25, 26, 27, 28, 29, 30, 31, 32, 33, 34, 35] (by decide +kernel) (by decide +kernel)
set_option maxRecDepth 20000 in
theorem gX6_look_X6_trustMore : GoodIn wsX6_look (wsV RX6 131 RX6 yX6_trustMore wsX6_trustMore) := goodIn_app (goodIn_of _ (by decide +kernel)) ggX6_look_X6_trustMore
theorem dX6_look_0 : decode cX6_look 0 = .ok (.aload_n 0, 1) := by decide +kernel
theorem dX6_look_1 : decode cX6_look 1 = .ok (.getfield 22, 3) := by decide +kernel
theorem dX6_look_4 : decode cX6_look 4 = .ok (.iload_n 1, 1) := by decide +kernel
theorem dX6_look_5 : decode cX6_look 5 = .ok (.iaload, 1) := by decide +kernel
theorem dX6_look_6 : decode cX6_look 6 = .ok (.istore_n 2, 1) := by decide +kernel
theorem dX6_look_7 : decode cX6_look 7 = .ok (.iload_n 2, 1) := by decide +kernel
theorem dX6_look_8 : decode cX6_look 8 = .ok (.iconst (-1), 1) := by decide +kernel
theorem dX6_look_9 : decode cX6_look 9 = .ok (.if_icmp .ne 4, 3) := by decide +kernel
theorem dX6_look_12 : decode cX6_look 12 = .ok (.return_, 1) := by decide +kernel
theorem dX6_look_13 : decode cX6_look 13 = .ok (.aload_n 0, 1) := by decide +kernel
theorem dX6_look_14 : decode cX6_look 14 = .ok (.bipush 100, 2) := by decide +kernel
theorem dX6_look_16 : decode cX6_look 16 = .ok (.invokevirtual 128, 3) := by decide +kernel
theorem dX6_look_19 : decode cX6_look 19 = .ok (.aload_n 0, 1) := by decide +kernel
theorem dX6_look_20 : decode cX6_look 20 = .ok (.getfield 7, 3) := by decide +kernel
theorem dX6_look_23 : decode cX6_look 23 = .ok (.iconst 3, 1) := by decide +kernel
theorem dX6_look_24 : decode cX6_look 24 = .ok (.iaload, 1) := by decide +kernel
theorem dX6_look_25 : decode cX6_look 25 = .ok (.if_icmp .ge 7, 3) := by decide +kernel
theorem dX6_look_28 : decode cX6_look 28 = .ok (.iconst 1, 1) := by decide +kernel
theorem dX6_look_29 : decode cX6_look 29 = .ok (.goto 4, 3) := by decide +kernel
theorem dX6_look_32 : decode cX6_look 32 = .ok (.iconst 0, 1) := by decide +kernel
theorem dX6_look_33 : decode cX6_look 33 = .ok (.istore_n 3, 1) := by decide +kernel
theorem dX6_look_34 : decode cX6_look 34 = .ok (.iload_n 3, 1) := by decide +kernel
theorem dX6_look_35 : decode cX6_look 35 = .ok (.ifCond .eq 70, 3) := by decide +kernel
theorem dX6_look_38 : decode cX6_look 38 = .ok (.aload_n 0, 1) := by decide +kernel
theorem dX6_look_39 : decode cX6_look 39 = .ok (.getfield 25, 3) := by decide +kernel
theorem dX6_look_42 : decode cX6_look 42 = .ok (.iload_n 1, 1) := by decide +kernel
theorem dX6_look_43 : decode cX6_look 43 = .ok (.iaload, 1) := by decide +kernel
