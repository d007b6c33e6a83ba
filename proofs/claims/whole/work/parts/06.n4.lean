theorem dX5_checkFeeder_6 : decode cX5_checkFeeder 6 = .ok (.getfield 10, 3) := by decide +kernel
theorem dX5_checkFeeder_9 : decode cX5_checkFeeder 9 = .ok (.getfield 44, 3) := by decide +kernel
theorem dX5_checkFeeder_12 : decode cX5_checkFeeder 12 = .ok (.if_icmp .lt 14, 3) := by decide +kernel
theorem dX5_checkFeeder_15 : decode cX5_checkFeeder 15 = .ok (.new 159, 3) := by decide +kernel
theorem dX5_checkFeeder_18 : decode cX5_checkFeeder 18 = .ok (.dup, 1) := by decide +kernel
theorem dX5_checkFeeder_19 : decode cX5_checkFeeder 19 = .ok (.ldc_w 270, 3) := by decide +kernel
theorem dX5_checkFeeder_22 : decode cX5_checkFeeder 22 = .ok (.invokespecial 163, 3) := by decide +kernel
theorem dX5_checkFeeder_25 : decode cX5_checkFeeder 25 = .ok (.athrow, 1) := by decide +kernel
theorem dX5_checkFeeder_26 : decode cX5_checkFeeder 26 = .ok (.return_, 1) := by decide +kernel
theorem dX5_checkNozzle_0 : decode cX5_checkNozzle 0 = .ok (.iload_n 0, 1) := by decide +kernel
theorem dX5_checkNozzle_1 : decode cX5_checkNozzle 1 = .ok (.ifCond .lt 8, 3) := by decide +kernel
theorem dX5_checkNozzle_4 : decode cX5_checkNozzle 4 = .ok (.iload_n 0, 1) := by decide +kernel
theorem dX5_checkNozzle_5 : decode cX5_checkNozzle 5 = .ok (.iconst 4, 1) := by decide +kernel
theorem dX5_checkNozzle_6 : decode cX5_checkNozzle 6 = .ok (.if_icmp .lt 14, 3) := by decide +kernel
theorem dX5_checkNozzle_9 : decode cX5_checkNozzle 9 = .ok (.new 159, 3) := by decide +kernel
theorem dX5_checkNozzle_12 : decode cX5_checkNozzle 12 = .ok (.dup, 1) := by decide +kernel
theorem dX5_checkNozzle_13 : decode cX5_checkNozzle 13 = .ok (.ldc_w 272, 3) := by decide +kernel
theorem dX5_checkNozzle_16 : decode cX5_checkNozzle 16 = .ok (.invokespecial 163, 3) := by decide +kernel
theorem dX5_checkNozzle_19 : decode cX5_checkNozzle 19 = .ok (.athrow, 1) := by decide +kernel
theorem dX5_checkNozzle_20 : decode cX5_checkNozzle 20 = .ok (.return_, 1) := by decide +kernel
theorem dX5_checkSetting_0 : decode cX5_checkSetting 0 = .ok (.iload_n 0, 1) := by decide +kernel
theorem dX5_checkSetting_1 : decode cX5_checkSetting 1 = .ok (.ifCond .lt 8, 3) := by decide +kernel
theorem dX5_checkSetting_4 : decode cX5_checkSetting 4 = .ok (.iload_n 0, 1) := by decide +kernel
theorem dX5_checkSetting_5 : decode cX5_checkSetting 5 = .ok (.iconst 5, 1) := by decide +kernel
theorem dX5_checkSetting_6 : decode cX5_checkSetting 6 = .ok (.if_icmp .lt 14, 3) := by decide +kernel
theorem dX5_checkSetting_9 : decode cX5_checkSetting 9 = .ok (.new 159, 3) := by decide +kernel
theorem dX5_checkSetting_12 : decode cX5_checkSetting 12 = .ok (.dup, 1) := by decide +kernel
theorem dX5_checkSetting_13 : decode cX5_checkSetting 13 = .ok (.ldc_w 274, 3) := by decide +kernel
theorem dX5_checkSetting_16 : decode cX5_checkSetting 16 = .ok (.invokespecial 163, 3) := by decide +kernel
theorem dX5_checkSetting_19 : decode cX5_checkSetting 19 = .ok (.athrow, 1) := by decide +kernel
theorem dX5_checkSetting_20 : decode cX5_checkSetting 20 = .ok (.return_, 1) := by decide +kernel
theorem dX5_checkRange_0 : decode cX5_checkRange 0 = .ok (.iload_n 0, 1) := by decide +kernel
theorem dX5_checkRange_1 : decode cX5_checkRange 1 = .ok (.iload_n 1, 1) := by decide +kernel
theorem dX5_checkRange_2 : decode cX5_checkRange 2 = .ok (.if_icmp .lt 8, 3) := by decide +kernel
theorem dX5_checkRange_5 : decode cX5_checkRange 5 = .ok (.iload_n 0, 1) := by decide +kernel
theorem dX5_checkRange_6 : decode cX5_checkRange 6 = .ok (.iload_n 2, 1) := by decide +kernel
theorem dX5_checkRange_7 : decode cX5_checkRange 7 = .ok (.if_icmp .le 14, 3) := by decide +kernel
theorem dX5_checkRange_10 : decode cX5_checkRange 10 = .ok (.new 136, 3) := by decide +kernel
theorem dX5_checkRange_13 : decode cX5_checkRange 13 = .ok (.dup, 1) := by decide +kernel
theorem dX5_checkRange_14 : decode cX5_checkRange 14 = .ok (.ldc_w 276, 3) := by decide +kernel
theorem dX5_checkRange_17 : decode cX5_checkRange 17 = .ok (.invokespecial 140, 3) := by decide +kernel
theorem dX5_checkRange_20 : decode cX5_checkRange 20 = .ok (.athrow, 1) := by decide +kernel
theorem dX5_checkRange_21 : decode cX5_checkRange 21 = .ok (.return_, 1) := by decide +kernel
theorem dX6_init_0 : decode cX6_init 0 = .ok (.aload_n 0, 1) := by decide +kernel
theorem dX6_init_1 : decode cX6_init 1 = .ok (.invokespecial 1, 3) := by decide +kernel
theorem dX6_init_4 : decode cX6_init 4 = .ok (.aload_n 0, 1) := by decide +kernel
theorem dX6_init_5 : decode cX6_init 5 = .ok (.sipush 248, 3) := by decide +kernel
theorem dX6_init_8 : decode cX6_init 8 = .ok (.newarray .int, 2) := by decide +kernel
theorem dX6_init_10 : decode cX6_init 10 = .ok (.putfield 7, 3) := by decide +kernel
theorem dX6_init_13 : decode cX6_init 13 = .ok (.aload_n 0, 1) := by decide +kernel
theorem dX6_init_14 : decode cX6_init 14 = .ok (.sipush 1488, 3) := by decide +kernel
theorem dX6_init_17 : decode cX6_init 17 = .ok (.newarray .int, 2) := by decide +kernel
theorem dX6_init_19 : decode cX6_init 19 = .ok (.putfield 13, 3) := by decide +kernel
theorem dX6_init_22 : decode cX6_init 22 = .ok (.aload_n 0, 1) := by decide +kernel
theorem dX6_init_23 : decode cX6_init 23 = .ok (.bipush 60, 2) := by decide +kernel
theorem dX6_init_25 : decode cX6_init 25 = .ok (.newarray .int, 2) := by decide +kernel
theorem dX6_init_27 : decode cX6_init 27 = .ok (.putfield 16, 3) := by decide +kernel
theorem dX6_init_30 : decode cX6_init 30 = .ok (.aload_n 0, 1) := by decide +kernel
theorem dX6_init_31 : decode cX6_init 31 = .ok (.iconst 4, 1) := by decide +kernel
theorem dX6_init_32 : decode cX6_init 32 = .ok (.newarray .int, 2) := by decide +kernel
theorem dX6_init_34 : decode cX6_init 34 = .ok (.putfield 19, 3) := by decide +kernel
theorem dX6_init_37 : decode cX6_init 37 = .ok (.aload_n 0, 1) := by decide +kernel
theorem dX6_init_38 : decode cX6_init 38 = .ok (.iconst 4, 1) := by decide +kernel
theorem dX6_init_39 : decode cX6_init 39 = .ok (.newarray .int, 2) := by decide +kernel
theorem dX6_init_41 : decode cX6_init 41 = .ok (.putfield 22, 3) := by decide +kernel
theorem dX6_init_44 : decode cX6_init 44 = .ok (.aload_n 0, 1) := by decide +kernel
theorem dX6_init_45 : decode cX6_init 45 = .ok (.iconst 4, 1) := by decide +kernel
theorem dX6_init_46 : decode cX6_init 46 = .ok (.newarray .int, 2) := by decide +kernel
theorem dX6_init_48 : decode cX6_init 48 = .ok (.putfield 25, 3) := by decide +kernel
theorem dX6_init_51 : decode cX6_init 51 = .ok (.aload_n 0, 1) := by decide +kernel
theorem dX6_init_52 : decode cX6_init 52 = .ok (.bipush 56, 2) := by decide +kernel
theorem dX6_init_54 : decode cX6_init 54 = .ok (.newarray .int, 2) := by decide +kernel
theorem dX6_init_56 : decode cX6_init 56 = .ok (.putfield 28, 3) := by decide +kernel
theorem dX6_init_59 : decode cX6_init 59 = .ok (.aload_n 0, 1) := by decide +kernel
theorem dX6_init_60 : decode cX6_init 60 = .ok (.sipush 248, 3) := by decide +kernel
theorem dX6_init_63 : decode cX6_init 63 = .ok (.newarray .int, 2) := by decide +kernel
theorem dX6_init_65 : decode cX6_init 65 = .ok (.putfield 31, 3) := by decide +kernel
theorem dX6_init_68 : decode cX6_init 68 = .ok (.aload_n 0, 1) := by decide +kernel
theorem dX6_init_69 : decode cX6_init 69 = .ok (.getfield 7, 3) := by decide +kernel
theorem dX6_init_72 : decode cX6_init 72 = .ok (.iconst 0, 1) := by decide +kernel
theorem dX6_init_73 : decode cX6_init 73 = .ok (.iconst 2, 1) := by decide +kernel
theorem dX6_init_74 : decode cX6_init 74 = .ok (.iastore, 1) := by decide +kernel
theorem dX6_init_75 : decode cX6_init 75 = .ok (.aload_n 0, 1) := by decide +kernel
theorem dX6_init_76 : decode cX6_init 76 = .ok (.getfield 7, 3) := by decide +kernel
theorem dX6_init_79 : decode cX6_init 79 = .ok (.iconst 1, 1) := by decide +kernel
theorem dX6_init_80 : decode cX6_init 80 = .ok (.bipush 20, 2) := by decide +kernel
theorem dX6_init_82 : decode cX6_init 82 = .ok (.iastore, 1) := by decide +kernel
theorem dX6_init_83 : decode cX6_init 83 = .ok (.aload_n 0, 1) := by decide +kernel
theorem dX6_init_84 : decode cX6_init 84 = .ok (.getfield 7, 3) := by decide +kernel
theorem dX6_init_87 : decode cX6_init 87 = .ok (.iconst 2, 1) := by decide +kernel
theorem dX6_init_88 : decode cX6_init 88 = .ok (.iconst 5, 1) := by decide +kernel
theorem dX6_init_89 : decode cX6_init 89 = .ok (.iastore, 1) := by decide +kernel
theorem dX6_init_90 : decode cX6_init 90 = .ok (.aload_n 0, 1) := by decide +kernel
theorem dX6_init_91 : decode cX6_init 91 = .ok (.getfield 7, 3) := by decide +kernel
theorem dX6_init_94 : decode cX6_init 94 = .ok (.iconst 3, 1) := by decide +kernel
theorem dX6_init_95 : decode cX6_init 95 = .ok (.bipush 80, 2) := by decide +kernel
theorem dX6_init_97 : decode cX6_init 97 = .ok (.iastore, 1) := by decide +kernel
theorem dX6_init_98 : decode cX6_init 98 = .ok (.aload_n 0, 1) := by decide +kernel
theorem dX6_init_99 : decode cX6_init 99 = .ok (.getfield 7, 3) := by decide +kernel
theorem dX6_init_102 : decode cX6_init 102 = .ok (.iconst 4, 1) := by decide +kernel
theorem dX6_init_103 : decode cX6_init 103 = .ok (.bipush 50, 2) := by decide +kernel
theorem dX6_init_105 : decode cX6_init 105 = .ok (.iastore, 1) := by decide +kernel
theorem dX6_init_106 : decode cX6_init 106 = .ok (.aload_n 0, 1) := by decide +kernel
theorem dX6_init_107 : decode cX6_init 107 = .ok (.getfield 7, 3) := by decide +kernel
theorem dX6_init_110 : decode cX6_init 110 = .ok (.bipush 8, 2) := by decide +kernel
theorem dX6_init_112 : decode cX6_init 112 = .ok (.iconst 1, 1) := by decide +kernel
theorem dX6_init_113 : decode cX6_init 113 = .ok (.iastore, 1) := by decide +kernel
theorem dX6_init_114 : decode cX6_init 114 = .ok (.iconst 0, 1) := by decide +kernel
theorem dX6_init_115 : decode cX6_init 115 = .ok (.istore_n 1, 1) := by decide +kernel
theorem dX6_init_116 : decode cX6_init 116 = .ok (.iload_n 1, 1) := by decide +kernel
theorem dX6_init_117 : decode cX6_init 117 = .ok (.iconst 4, 1) := by decide +kernel
theorem dX6_init_118 : decode cX6_init 118 = .ok (.if_icmp .ge 25, 3) := by decide +kernel
theorem dX6_init_121 : decode cX6_init 121 = .ok (.aload_n 0, 1) := by decide +kernel
theorem dX6_init_122 : decode cX6_init 122 = .ok (.getfield 7, 3) := by decide +kernel
theorem dX6_init_125 : decode cX6_init 125 = .ok (.sipush 196, 3) := by decide +kernel
theorem dX6_init_128 : decode cX6_init 128 = .ok (.iconst 5, 1) := by decide +kernel
theorem dX6_init_129 : decode cX6_init 129 = .ok (.iload_n 1, 1) := by decide +kernel
theorem dX6_init_130 : decode cX6_init 130 = .ok (.imul, 1) := by decide +kernel
theorem dX6_init_131 : decode cX6_init 131 = .ok (.iadd, 1) := by decide +kernel
theorem dX6_init_132 : decode cX6_init 132 = .ok (.iconst 0, 1) := by decide +kernel
theorem dX6_init_133 : decode cX6_init 133 = .ok (.iadd, 1) := by decide +kernel
theorem dX6_init_134 : decode cX6_init 134 = .ok (.bipush 63, 2) := by decide +kernel
theorem dX6_init_136 : decode cX6_init 136 = .ok (.iastore, 1) := by decide +kernel
theorem dX6_init_137 : decode cX6_init 137 = .ok (.iinc 1 1, 3) := by decide +kernel
theorem dX6_init_140 : decode cX6_init 140 = .ok (.goto (-24), 3) := by decide +kernel
theorem dX6_init_143 : decode cX6_init 143 = .ok (.return_, 1) := by decide +kernel
theorem dX6_thrown_0 : decode cX6_thrown 0 = .ok (.aload_n 0, 1) := by decide +kernel
theorem dX6_thrown_1 : decode cX6_thrown 1 = .ok (.getfield 34, 3) := by decide +kernel
theorem dX6_thrown_4 : decode cX6_thrown 4 = .ok (.ireturn, 1) := by decide +kernel
theorem dX6_within_0 : decode cX6_within 0 = .ok (.iload_n 0, 1) := by decide +kernel
theorem dX6_within_1 : decode cX6_within 1 = .ok (.iload_n 1, 1) := by decide +kernel
theorem dX6_within_2 : decode cX6_within 2 = .ok (.if_icmp .lt 12, 3) := by decide +kernel
theorem dX6_within_5 : decode cX6_within 5 = .ok (.iload_n 0, 1) := by decide +kernel
theorem dX6_within_6 : decode cX6_within 6 = .ok (.iload_n 2, 1) := by decide +kernel
theorem dX6_within_7 : decode cX6_within 7 = .ok (.if_icmp .gt 7, 3) := by decide +kernel
theorem dX6_within_10 : decode cX6_within 10 = .ok (.iconst 1, 1) := by decide +kernel
theorem dX6_within_11 : decode cX6_within 11 = .ok (.goto 4, 3) := by decide +kernel
theorem dX6_within_14 : decode cX6_within 14 = .ok (.iconst 0, 1) := by decide +kernel
theorem dX6_within_15 : decode cX6_within 15 = .ok (.ireturn, 1) := by decide +kernel
theorem dX6_save_0 : decode cX6_save 0 = .ok (.aload_n 0, 1) := by decide +kernel
theorem dX6_save_1 : decode cX6_save 1 = .ok (.getfield 38, 3) := by decide +kernel
theorem dX6_save_4 : decode cX6_save 4 = .ok (.bipush 6, 2) := by decide +kernel
theorem dX6_save_6 : decode cX6_save 6 = .ok (.if_icmp .ne 46, 3) := by decide +kernel
theorem dX6_save_9 : decode cX6_save 9 = .ok (.sipush 248, 3) := by decide +kernel
theorem dX6_save_12 : decode cX6_save 12 = .ok (.istore_n 1, 1) := by decide +kernel
theorem dX6_save_13 : decode cX6_save 13 = .ok (.iload_n 1, 1) := by decide +kernel
theorem dX6_save_14 : decode cX6_save 14 = .ok (.sipush 1488, 3) := by decide +kernel
theorem dX6_save_17 : decode cX6_save 17 = .ok (.if_icmp .ge 25, 3) := by decide +kernel
theorem dX6_save_20 : decode cX6_save 20 = .ok (.aload_n 0, 1) := by decide +kernel
theorem dX6_save_21 : decode cX6_save 21 = .ok (.getfield 13, 3) := by decide +kernel
theorem dX6_save_24 : decode cX6_save 24 = .ok (.iload_n 1, 1) := by decide +kernel
theorem dX6_save_25 : decode cX6_save 25 = .ok (.sipush 248, 3) := by decide +kernel
theorem dX6_save_28 : decode cX6_save 28 = .ok (.isub, 1) := by decide +kernel
theorem dX6_save_29 : decode cX6_save 29 = .ok (.aload_n 0, 1) := by decide +kernel
theorem dX6_save_30 : decode cX6_save 30 = .ok (.getfield 13, 3) := by decide +kernel
theorem dX6_save_33 : decode cX6_save 33 = .ok (.iload_n 1, 1) := by decide +kernel
theorem dX6_save_34 : decode cX6_save 34 = .ok (.iaload, 1) := by decide +kernel
theorem dX6_save_35 : decode cX6_save 35 = .ok (.iastore, 1) := by decide +kernel
theorem dX6_save_36 : decode cX6_save 36 = .ok (.iinc 1 1, 3) := by decide +kernel
theorem dX6_save_39 : decode cX6_save 39 = .ok (.goto (-26), 3) := by decide +kernel
theorem dX6_save_42 : decode cX6_save 42 = .ok (.aload_n 0, 1) := by decide +kernel
theorem dX6_save_43 : decode cX6_save 43 = .ok (.dup, 1) := by decide +kernel
theorem dX6_save_44 : decode cX6_save 44 = .ok (.getfield 38, 3) := by decide +kernel
theorem dX6_save_47 : decode cX6_save 47 = .ok (.iconst 1, 1) := by decide +kernel
theorem dX6_save_48 : decode cX6_save 48 = .ok (.isub, 1) := by decide +kernel
theorem dX6_save_49 : decode cX6_save 49 = .ok (.putfield 38, 3) := by decide +kernel
theorem dX6_save_52 : decode cX6_save 52 = .ok (.iconst 0, 1) := by decide +kernel
theorem dX6_save_53 : decode cX6_save 53 = .ok (.istore_n 1, 1) := by decide +kernel
theorem dX6_save_54 : decode cX6_save 54 = .ok (.iload_n 1, 1) := by decide +kernel
theorem dX6_save_55 : decode cX6_save 55 = .ok (.sipush 248, 3) := by decide +kernel
theorem dX6_save_58 : decode cX6_save 58 = .ok (.if_icmp .ge 30, 3) := by decide +kernel
theorem dX6_save_61 : decode cX6_save 61 = .ok (.aload_n 0, 1) := by decide +kernel
theorem dX6_save_62 : decode cX6_save 62 = .ok (.getfield 13, 3) := by decide +kernel
theorem dX6_save_65 : decode cX6_save 65 = .ok (.sipush 248, 3) := by decide +kernel
theorem dX6_save_68 : decode cX6_save 68 = .ok (.aload_n 0, 1) := by decide +kernel
theorem dX6_save_69 : decode cX6_save 69 = .ok (.getfield 38, 3) := by decide +kernel
theorem dX6_save_72 : decode cX6_save 72 = .ok (.imul, 1) := by decide +kernel
theorem dX6_save_73 : decode cX6_save 73 = .ok (.iload_n 1, 1) := by decide +kernel
theorem dX6_save_74 : decode cX6_save 74 = .ok (.iadd, 1) := by decide +kernel
theorem dX6_save_75 : decode cX6_save 75 = .ok (.aload_n 0, 1) := by decide +kernel
theorem dX6_save_76 : decode cX6_save 76 = .ok (.getfield 7, 3) := by decide +kernel
theorem dX6_save_79 : decode cX6_save 79 = .ok (.iload_n 1, 1) := by decide +kernel
theorem dX6_save_80 : decode cX6_save 80 = .ok (.iaload, 1) := by decide +kernel
theorem dX6_save_81 : decode cX6_save 81 = .ok (.iastore, 1) := by decide +kernel
theorem dX6_save_82 : decode cX6_save 82 = .ok (.iinc 1 1, 3) := by decide +kernel
theorem dX6_save_85 : decode cX6_save 85 = .ok (.goto (-31), 3) := by decide +kernel
theorem dX6_save_88 : decode cX6_save 88 = .ok (.aload_n 0, 1) := by decide +kernel
theorem dX6_save_89 : decode cX6_save 89 = .ok (.dup, 1) := by decide +kernel
theorem dX6_save_90 : decode cX6_save 90 = .ok (.getfield 38, 3) := by decide +kernel
theorem dX6_save_93 : decode cX6_save 93 = .ok (.iconst 1, 1) := by decide +kernel
theorem dX6_save_94 : decode cX6_save 94 = .ok (.iadd, 1) := by decide +kernel
theorem dX6_save_95 : decode cX6_save 95 = .ok (.putfield 38, 3) := by decide +kernel
theorem dX6_save_98 : decode cX6_save 98 = .ok (.return_, 1) := by decide +kernel
theorem dX6_ofFeeder_0 : decode cX6_ofFeeder 0 = .ok (.aload_n 0, 1) := by decide +kernel
theorem dX6_ofFeeder_1 : decode cX6_ofFeeder 1 = .ok (.getfield 7, 3) := by decide +kernel
theorem dX6_ofFeeder_4 : decode cX6_ofFeeder 4 = .ok (.bipush 12, 2) := by decide +kernel
theorem dX6_ofFeeder_6 : decode cX6_ofFeeder 6 = .ok (.bipush 8, 2) := by decide +kernel
theorem dX6_ofFeeder_8 : decode cX6_ofFeeder 8 = .ok (.iload_n 1, 1) := by decide +kernel
theorem dX6_ofFeeder_9 : decode cX6_ofFeeder 9 = .ok (.imul, 1) := by decide +kernel
theorem dX6_ofFeeder_10 : decode cX6_ofFeeder 10 = .ok (.iadd, 1) := by decide +kernel
theorem dX6_ofFeeder_11 : decode cX6_ofFeeder 11 = .ok (.iload_n 2, 1) := by decide +kernel
theorem dX6_ofFeeder_12 : decode cX6_ofFeeder 12 = .ok (.iadd, 1) := by decide +kernel
theorem dX6_ofFeeder_13 : decode cX6_ofFeeder 13 = .ok (.iaload, 1) := by decide +kernel
theorem dX6_ofFeeder_14 : decode cX6_ofFeeder 14 = .ok (.ireturn, 1) := by decide +kernel
theorem dX6_ofPlace_0 : decode cX6_ofPlace 0 = .ok (.aload_n 0, 1) := by decide +kernel
theorem dX6_ofPlace_1 : decode cX6_ofPlace 1 = .ok (.getfield 7, 3) := by decide +kernel
theorem dX6_ofPlace_4 : decode cX6_ofPlace 4 = .ok (.bipush 76, 2) := by decide +kernel
theorem dX6_ofPlace_6 : decode cX6_ofPlace 6 = .ok (.iconst 5, 1) := by decide +kernel
theorem dX6_ofPlace_7 : decode cX6_ofPlace 7 = .ok (.iload_n 1, 1) := by decide +kernel
theorem dX6_ofPlace_8 : decode cX6_ofPlace 8 = .ok (.imul, 1) := by decide +kernel
theorem dX6_ofPlace_9 : decode cX6_ofPlace 9 = .ok (.iadd, 1) := by decide +kernel
theorem dX6_ofPlace_10 : decode cX6_ofPlace 10 = .ok (.iload_n 2, 1) := by decide +kernel
theorem dX6_ofPlace_11 : decode cX6_ofPlace 11 = .ok (.iadd, 1) := by decide +kernel
theorem dX6_ofPlace_12 : decode cX6_ofPlace 12 = .ok (.iaload, 1) := by decide +kernel
theorem dX6_ofPlace_13 : decode cX6_ofPlace 13 = .ok (.ireturn, 1) := by decide +kernel
theorem dX6_ofNozzle_0 : decode cX6_ofNozzle 0 = .ok (.aload_n 0, 1) := by decide +kernel
theorem dX6_ofNozzle_1 : decode cX6_ofNozzle 1 = .ok (.getfield 7, 3) := by decide +kernel
theorem dX6_ofNozzle_4 : decode cX6_ofNozzle 4 = .ok (.sipush 196, 3) := by decide +kernel
theorem dX6_ofNozzle_7 : decode cX6_ofNozzle 7 = .ok (.iconst 5, 1) := by decide +kernel
theorem dX6_ofNozzle_8 : decode cX6_ofNozzle 8 = .ok (.iload_n 1, 1) := by decide +kernel
theorem dX6_ofNozzle_9 : decode cX6_ofNozzle 9 = .ok (.imul, 1) := by decide +kernel
theorem dX6_ofNozzle_10 : decode cX6_ofNozzle 10 = .ok (.iadd, 1) := by decide +kernel
theorem dX6_ofNozzle_11 : decode cX6_ofNozzle 11 = .ok (.iload_n 2, 1) := by decide +kernel
theorem dX6_ofNozzle_12 : decode cX6_ofNozzle 12 = .ok (.iadd, 1) := by decide +kernel
theorem dX6_ofNozzle_13 : decode cX6_ofNozzle 13 = .ok (.iaload, 1) := by decide +kernel
theorem dX6_ofNozzle_14 : decode cX6_ofNozzle 14 = .ok (.ireturn, 1) := by decide +kernel
theorem dX6_trustOf_0 : decode cX6_trustOf 0 = .ok (.aload_n 0, 1) := by decide +kernel
theorem dX6_trustOf_1 : decode cX6_trustOf 1 = .ok (.getfield 7, 3) := by decide +kernel
theorem dX6_trustOf_4 : decode cX6_trustOf 4 = .ok (.sipush 216, 3) := by decide +kernel
theorem dX6_trustOf_7 : decode cX6_trustOf 7 = .ok (.bipush 8, 2) := by decide +kernel
theorem dX6_trustOf_9 : decode cX6_trustOf 9 = .ok (.iload_n 1, 1) := by decide +kernel
theorem dX6_trustOf_10 : decode cX6_trustOf 10 = .ok (.imul, 1) := by decide +kernel
theorem dX6_trustOf_11 : decode cX6_trustOf 11 = .ok (.iadd, 1) := by decide +kernel
theorem dX6_trustOf_12 : decode cX6_trustOf 12 = .ok (.iload_n 2, 1) := by decide +kernel
theorem dX6_trustOf_13 : decode cX6_trustOf 13 = .ok (.iadd, 1) := by decide +kernel
theorem dX6_trustOf_14 : decode cX6_trustOf 14 = .ok (.iaload, 1) := by decide +kernel
theorem dX6_trustOf_15 : decode cX6_trustOf 15 = .ok (.ireturn, 1) := by decide +kernel
set_option maxRecDepth 20000 in
theorem ggX6_trustMore_X6_trustOf : GoodIn wsX6_trustMore wsX6_trustOf := goodIn_r _ [6, 1, 7, 8, 9, 10, 11, 12, 13, 14, 15, 16, 17, 18, 19, 20, 21] (by decide +kernel) (by decide +kernel)
set_option maxRecDepth 20000 in
theorem gX6_trustMore_X6_trustOf : GoodIn wsX6_trustMore (wsV RX6 41 RX6 yX6_trustOf wsX6_trustOf) := goodIn_app (goodIn_of _ (by decide +kernel)) ggX6_trustMore_X6_trustOf
theorem dX6_trustMore_0 : decode cX6_trustMore 0 = .ok (.aload_n 0, 1) := by decide +kernel
theorem dX6_trustMore_1 : decode cX6_trustMore 1 = .ok (.iload_n 1, 1) := by decide +kernel
theorem dX6_trustMore_2 : decode cX6_trustMore 2 = .ok (.iload_n 2, 1) := by decide +kernel
theorem dX6_trustMore_3 : decode cX6_trustMore 3 = .ok (.invokevirtual 41, 3) := by decide +kernel
theorem dX6_trustMore_6 : decode cX6_trustMore 6 = .ok (.iload_n 3, 1) := by decide +kernel
theorem dX6_trustMore_7 : decode cX6_trustMore 7 = .ok (.iadd, 1) := by decide +kernel
theorem dX6_trustMore_8 : decode cX6_trustMore 8 = .ok (.istore 4, 2) := by decide +kernel
theorem dX6_trustMore_10 : decode cX6_trustMore 10 = .ok (.aload_n 0, 1) := by decide +kernel
theorem dX6_trustMore_11 : decode cX6_trustMore 11 = .ok (.getfield 7, 3) := by decide +kernel
theorem dX6_trustMore_14 : decode cX6_trustMore 14 = .ok (.sipush 216, 3) := by decide +kernel
theorem dX6_trustMore_17 : decode cX6_trustMore 17 = .ok (.bipush 8, 2) := by decide +kernel
theorem dX6_trustMore_19 : decode cX6_trustMore 19 = .ok (.iload_n 1, 1) := by decide +kernel
theorem dX6_trustMore_20 : decode cX6_trustMore 20 = .ok (.imul, 1) := by decide +kernel
theorem dX6_trustMore_21 : decode cX6_trustMore 21 = .ok (.iadd, 1) := by decide +kernel
theorem dX6_trustMore_22 : decode cX6_trustMore 22 = .ok (.iload_n 2, 1) := by decide +kernel
theorem dX6_trustMore_23 : decode cX6_trustMore 23 = .ok (.iadd, 1) := by decide +kernel
theorem dX6_trustMore_24 : decode cX6_trustMore 24 = .ok (.iload 4, 2) := by decide +kernel
theorem dX6_trustMore_26 : decode cX6_trustMore 26 = .ok (.ifCond .ge 7, 3) := by decide +kernel
theorem dX6_trustMore_29 : decode cX6_trustMore 29 = .ok (.iconst 0, 1) := by decide +kernel
theorem dX6_trustMore_30 : decode cX6_trustMore 30 = .ok (.goto 17, 3) := by decide +kernel
theorem dX6_trustMore_33 : decode cX6_trustMore 33 = .ok (.iload 4, 2) := by decide +kernel
theorem dX6_trustMore_35 : decode cX6_trustMore 35 = .ok (.bipush 100, 2) := by decide +kernel
theorem dX6_trustMore_37 : decode cX6_trustMore 37 = .ok (.if_icmp .le 8, 3) := by decide +kernel
theorem dX6_trustMore_40 : decode cX6_trustMore 40 = .ok (.bipush 100, 2) := by decide +kernel
theorem dX6_trustMore_42 : decode cX6_trustMore 42 = .ok (.goto 5, 3) := by decide +kernel
theorem dX6_trustMore_45 : decode cX6_trustMore 45 = .ok (.iload 4, 2) := by decide +kernel
theorem dX6_trustMore_47 : decode cX6_trustMore 47 = .ok (.iastore, 1) := by decide +kernel
theorem dX6_trustMore_48 : decode cX6_trustMore 48 = .ok (.return_, 1) := by decide +kernel
set_option maxRecDepth 20000 in
theorem ggX6_isFeeder_X6_within : GoodIn wsX6_isFeeder wsX6_within := goodIn_r _ [5] (by decide +kernel) (by decide +kernel)
set_option maxRecDepth 20000 in
theorem gX6_isFeeder_X6_within : GoodIn wsX6_isFeeder (va_wsS RX6 45 yX6_within wsX6_within) := goodIn_app (goodIn_of _ (by decide +kernel)) ggX6_isFeeder_X6_within
theorem dX6_isFeeder_0 : decode cX6_isFeeder 0 = .ok (.iload_n 1, 1) := by decide +kernel
theorem dX6_isFeeder_1 : decode cX6_isFeeder 1 = .ok (.iconst 0, 1) := by decide +kernel
theorem dX6_isFeeder_2 : decode cX6_isFeeder 2 = .ok (.aload_n 0, 1) := by decide +kernel
theorem dX6_isFeeder_3 : decode cX6_isFeeder 3 = .ok (.getfield 7, 3) := by decide +kernel
theorem dX6_isFeeder_6 : decode cX6_isFeeder 6 = .ok (.iconst 5, 1) := by decide +kernel
theorem dX6_isFeeder_7 : decode cX6_isFeeder 7 = .ok (.iaload, 1) := by decide +kernel
theorem dX6_isFeeder_8 : decode cX6_isFeeder 8 = .ok (.iconst 1, 1) := by decide +kernel
theorem dX6_isFeeder_9 : decode cX6_isFeeder 9 = .ok (.isub, 1) := by decide +kernel
theorem dX6_isFeeder_10 : decode cX6_isFeeder 10 = .ok (.invokestatic 45, 3) := by decide +kernel
theorem dX6_isFeeder_13 : decode cX6_isFeeder 13 = .ok (.ireturn, 1) := by decide +kernel
set_option maxRecDepth 20000 in
theorem ggX6_isPlace_X6_within : GoodIn wsX6_isPlace wsX6_within := goodIn_r _ [5] (by decide +kernel) (by decide +kernel)
set_option maxRecDepth 20000 in
theorem gX6_isPlace_X6_within : GoodIn wsX6_isPlace (va_wsS RX6 45 yX6_within wsX6_within) := goodIn_app (goodIn_of _ (by decide +kernel)) ggX6_isPlace_X6_within
theorem dX6_isPlace_0 : decode cX6_isPlace 0 = .ok (.iload_n 1, 1) := by decide +kernel
theorem dX6_isPlace_1 : decode cX6_isPlace 1 = .ok (.iconst 0, 1) := by decide +kernel
theorem dX6_isPlace_2 : decode cX6_isPlace 2 = .ok (.aload_n 0, 1) := by decide +kernel
theorem dX6_isPlace_3 : decode cX6_isPlace 3 = .ok (.getfield 7, 3) := by decide +kernel
theorem dX6_isPlace_6 : decode cX6_isPlace 6 = .ok (.bipush 6, 2) := by decide +kernel
theorem dX6_isPlace_8 : decode cX6_isPlace 8 = .ok (.iaload, 1) := by decide +kernel
theorem dX6_isPlace_9 : decode cX6_isPlace 9 = .ok (.iconst 1, 1) := by decide +kernel
theorem dX6_isPlace_10 : decode cX6_isPlace 10 = .ok (.isub, 1) := by decide +kernel
theorem dX6_isPlace_11 : decode cX6_isPlace 11 = .ok (.invokestatic 45, 3) := by decide +kernel
theorem dX6_isPlace_14 : decode cX6_isPlace 14 = .ok (.ireturn, 1) := by decide +kernel
set_option maxRecDepth 20000 in
theorem ggX6_isNozzle_X6_within : GoodIn wsX6_isNozzle wsX6_within := goodIn_r _ [4] (by decide +kernel) (by decide +kernel)
set_option maxRecDepth 20000 in
theorem gX6_isNozzle_X6_within : GoodIn wsX6_isNozzle (va_wsS RX6 45 yX6_within wsX6_within) := goodIn_app (goodIn_of _ (by decide +kernel)) ggX6_isNozzle_X6_within
theorem dX6_isNozzle_0 : decode cX6_isNozzle 0 = .ok (.iload_n 0, 1) := by decide +kernel
theorem dX6_isNozzle_1 : decode cX6_isNozzle 1 = .ok (.iconst 0, 1) := by decide +kernel
theorem dX6_isNozzle_2 : decode cX6_isNozzle 2 = .ok (.iconst 3, 1) := by decide +kernel
theorem dX6_isNozzle_3 : decode cX6_isNozzle 3 = .ok (.invokestatic 45, 3) := by decide +kernel
theorem dX6_isNozzle_6 : decode cX6_isNozzle 6 = .ok (.ireturn, 1) := by decide +kernel
set_option maxRecDepth 20000 in
theorem ggX6_isKind_X6_within : GoodIn wsX6_isKind wsX6_within := goodIn_r _ [4] (by decide +kernel) (by decide +kernel)
set_option maxRecDepth 20000 in
theorem gX6_isKind_X6_within : GoodIn wsX6_isKind (va_wsS RX6 45 yX6_within wsX6_within) := goodIn_app (goodIn_of _ (by decide +kernel)) ggX6_isKind_X6_within
theorem dX6_isKind_0 : decode cX6_isKind 0 = .ok (.iload_n 0, 1) := by decide +kernel
theorem dX6_isKind_1 : decode cX6_isKind 1 = .ok (.iconst 0, 1) := by decide +kernel
theorem dX6_isKind_2 : decode cX6_isKind 2 = .ok (.iconst 5, 1) := by decide +kernel
theorem dX6_isKind_3 : decode cX6_isKind 3 = .ok (.invokestatic 45, 3) := by decide +kernel
theorem dX6_isKind_6 : decode cX6_isKind 6 = .ok (.ireturn, 1) := by decide +kernel
set_option maxRecDepth 20000 in
theorem ggX6_isX_X6_within : GoodIn wsX6_isX wsX6_within := goodIn_r _ [4] (by decide +kernel) (by decide +kernel)
set_option maxRecDepth 20000 in
theorem gX6_isX_X6_within : GoodIn wsX6_isX (va_wsS RX6 45 yX6_within wsX6_within) := goodIn_app (goodIn_of _ (by decide +kernel)) ggX6_isX_X6_within
theorem dX6_isX_0 : decode cX6_isX 0 = .ok (.iload_n 0, 1) := by decide +kernel
theorem dX6_isX_1 : decode cX6_isX 1 = .ok (.iconst 0, 1) := by decide +kernel
theorem dX6_isX_2 : decode cX6_isX 2 = .ok (.bipush 99, 2) := by decide +kernel
theorem dX6_isX_4 : decode cX6_isX 4 = .ok (.invokestatic 45, 3) := by decide +kernel
theorem dX6_isX_7 : decode cX6_isX 7 = .ok (.ireturn, 1) := by decide +kernel
set_option maxRecDepth 20000 in
theorem ggX6_isPercent_X6_within : GoodIn wsX6_isPercent wsX6_within := goodIn_r _ [4] (by decide +kernel) (by decide +kernel)
set_option maxRecDepth 20000 in
theorem gX6_isPercent_X6_within : GoodIn wsX6_isPercent (va_wsS RX6 45 yX6_within wsX6_within) := goodIn_app (goodIn_of _ (by decide +kernel)) ggX6_isPercent_X6_within
theorem dX6_isPercent_0 : decode cX6_isPercent 0 = .ok (.iload_n 0, 1) := by decide +kernel
theorem dX6_isPercent_1 : decode cX6_isPercent 1 = .ok (.iconst 0, 1) := by decide +kernel
theorem dX6_isPercent_2 : decode cX6_isPercent 2 = .ok (.bipush 100, 2) := by decide +kernel
theorem dX6_isPercent_4 : decode cX6_isPercent 4 = .ok (.invokestatic 45, 3) := by decide +kernel
theorem dX6_isPercent_7 : decode cX6_isPercent 7 = .ok (.ireturn, 1) := by decide +kernel
theorem dX6_addsFeeder_0 : decode cX6_addsFeeder 0 = .ok (.aload_n 0, 1) := by decide +kernel
theorem dX6_addsFeeder_1 : decode cX6_addsFeeder 1 = .ok (.getfield 7, 3) := by decide +kernel
theorem dX6_addsFeeder_4 : decode cX6_addsFeeder 4 = .ok (.iconst 5, 1) := by decide +kernel
theorem dX6_addsFeeder_5 : decode cX6_addsFeeder 5 = .ok (.iaload, 1) := by decide +kernel
theorem dX6_addsFeeder_6 : decode cX6_addsFeeder 6 = .ok (.istore 6, 2) := by decide +kernel
theorem dX6_addsFeeder_8 : decode cX6_addsFeeder 8 = .ok (.bipush 12, 2) := by decide +kernel
theorem dX6_addsFeeder_10 : decode cX6_addsFeeder 10 = .ok (.bipush 8, 2) := by decide +kernel
theorem dX6_addsFeeder_12 : decode cX6_addsFeeder 12 = .ok (.iload 6, 2) := by decide +kernel
theorem dX6_addsFeeder_14 : decode cX6_addsFeeder 14 = .ok (.imul, 1) := by decide +kernel
theorem dX6_addsFeeder_15 : decode cX6_addsFeeder 15 = .ok (.iadd, 1) := by decide +kernel
theorem dX6_addsFeeder_16 : decode cX6_addsFeeder 16 = .ok (.istore 7, 2) := by decide +kernel
theorem dX6_addsFeeder_18 : decode cX6_addsFeeder 18 = .ok (.aload_n 0, 1) := by decide +kernel
theorem dX6_addsFeeder_19 : decode cX6_addsFeeder 19 = .ok (.getfield 7, 3) := by decide +kernel
theorem dX6_addsFeeder_22 : decode cX6_addsFeeder 22 = .ok (.iconst 5, 1) := by decide +kernel
theorem dX6_addsFeeder_23 : decode cX6_addsFeeder 23 = .ok (.dup2, 1) := by decide +kernel
theorem dX6_addsFeeder_24 : decode cX6_addsFeeder 24 = .ok (.iaload, 1) := by decide +kernel
theorem dX6_addsFeeder_25 : decode cX6_addsFeeder 25 = .ok (.iconst 1, 1) := by decide +kernel
theorem dX6_addsFeeder_26 : decode cX6_addsFeeder 26 = .ok (.iadd, 1) := by decide +kernel
theorem dX6_addsFeeder_27 : decode cX6_addsFeeder 27 = .ok (.iastore, 1) := by decide +kernel
theorem dX6_addsFeeder_28 : decode cX6_addsFeeder 28 = .ok (.aload_n 0, 1) := by decide +kernel
theorem dX6_addsFeeder_29 : decode cX6_addsFeeder 29 = .ok (.getfield 7, 3) := by decide +kernel
theorem dX6_addsFeeder_32 : decode cX6_addsFeeder 32 = .ok (.iload 7, 2) := by decide +kernel
theorem dX6_addsFeeder_34 : decode cX6_addsFeeder 34 = .ok (.iconst 0, 1) := by decide +kernel
theorem dX6_addsFeeder_35 : decode cX6_addsFeeder 35 = .ok (.iadd, 1) := by decide +kernel
theorem dX6_addsFeeder_36 : decode cX6_addsFeeder 36 = .ok (.iload_n 1, 1) := by decide +kernel
theorem dX6_addsFeeder_37 : decode cX6_addsFeeder 37 = .ok (.iastore, 1) := by decide +kernel
theorem dX6_addsFeeder_38 : decode cX6_addsFeeder 38 = .ok (.aload_n 0, 1) := by decide +kernel
theorem dX6_addsFeeder_39 : decode cX6_addsFeeder 39 = .ok (.getfield 7, 3) := by decide +kernel
theorem dX6_addsFeeder_42 : decode cX6_addsFeeder 42 = .ok (.iload 7, 2) := by decide +kernel
theorem dX6_addsFeeder_44 : decode cX6_addsFeeder 44 = .ok (.iconst 1, 1) := by decide +kernel
theorem dX6_addsFeeder_45 : decode cX6_addsFeeder 45 = .ok (.iadd, 1) := by decide +kernel
theorem dX6_addsFeeder_46 : decode cX6_addsFeeder 46 = .ok (.iload_n 2, 1) := by decide +kernel
theorem dX6_addsFeeder_47 : decode cX6_addsFeeder 47 = .ok (.iastore, 1) := by decide +kernel
theorem dX6_addsFeeder_48 : decode cX6_addsFeeder 48 = .ok (.aload_n 0, 1) := by decide +kernel
theorem dX6_addsFeeder_49 : decode cX6_addsFeeder 49 = .ok (.getfield 7, 3) := by decide +kernel
theorem dX6_addsFeeder_52 : decode cX6_addsFeeder 52 = .ok (.iload 7, 2) := by decide +kernel
theorem dX6_addsFeeder_54 : decode cX6_addsFeeder 54 = .ok (.iconst 2, 1) := by decide +kernel
theorem dX6_addsFeeder_55 : decode cX6_addsFeeder 55 = .ok (.iadd, 1) := by decide +kernel
theorem dX6_addsFeeder_56 : decode cX6_addsFeeder 56 = .ok (.iload_n 3, 1) := by decide +kernel
theorem dX6_addsFeeder_57 : decode cX6_addsFeeder 57 = .ok (.iastore, 1) := by decide +kernel
theorem dX6_addsFeeder_58 : decode cX6_addsFeeder 58 = .ok (.aload_n 0, 1) := by decide +kernel
theorem dX6_addsFeeder_59 : decode cX6_addsFeeder 59 = .ok (.getfield 7, 3) := by decide +kernel
theorem dX6_addsFeeder_62 : decode cX6_addsFeeder 62 = .ok (.iload 7, 2) := by decide +kernel
theorem dX6_addsFeeder_64 : decode cX6_addsFeeder 64 = .ok (.iconst 3, 1) := by decide +kernel
theorem dX6_addsFeeder_65 : decode cX6_addsFeeder 65 = .ok (.iadd, 1) := by decide +kernel
theorem dX6_addsFeeder_66 : decode cX6_addsFeeder 66 = .ok (.iload 4, 2) := by decide +kernel
theorem dX6_addsFeeder_68 : decode cX6_addsFeeder 68 = .ok (.iastore, 1) := by decide +kernel
theorem dX6_addsFeeder_69 : decode cX6_addsFeeder 69 = .ok (.aload_n 0, 1) := by decide +kernel
theorem dX6_addsFeeder_70 : decode cX6_addsFeeder 70 = .ok (.getfield 7, 3) := by decide +kernel
theorem dX6_addsFeeder_73 : decode cX6_addsFeeder 73 = .ok (.iload 7, 2) := by decide +kernel
theorem dX6_addsFeeder_75 : decode cX6_addsFeeder 75 = .ok (.iconst 4, 1) := by decide +kernel
theorem dX6_addsFeeder_76 : decode cX6_addsFeeder 76 = .ok (.iadd, 1) := by decide +kernel
theorem dX6_addsFeeder_77 : decode cX6_addsFeeder 77 = .ok (.iload 5, 2) := by decide +kernel
theorem dX6_addsFeeder_79 : decode cX6_addsFeeder 79 = .ok (.iastore, 1) := by decide +kernel
theorem dX6_addsFeeder_80 : decode cX6_addsFeeder 80 = .ok (.iconst 5, 1) := by decide +kernel
theorem dX6_addsFeeder_81 : decode cX6_addsFeeder 81 = .ok (.istore 8, 2) := by decide +kernel
theorem dX6_addsFeeder_83 : decode cX6_addsFeeder 83 = .ok (.iload 8, 2) := by decide +kernel
theorem dX6_addsFeeder_85 : decode cX6_addsFeeder 85 = .ok (.bipush 7, 2) := by decide +kernel
theorem dX6_addsFeeder_87 : decode cX6_addsFeeder 87 = .ok (.if_icmp .gt 20, 3) := by decide +kernel
theorem dX6_addsFeeder_90 : decode cX6_addsFeeder 90 = .ok (.aload_n 0, 1) := by decide +kernel
theorem dX6_addsFeeder_91 : decode cX6_addsFeeder 91 = .ok (.getfield 7, 3) := by decide +kernel
theorem dX6_addsFeeder_94 : decode cX6_addsFeeder 94 = .ok (.iload 7, 2) := by decide +kernel
theorem dX6_addsFeeder_96 : decode cX6_addsFeeder 96 = .ok (.iload 8, 2) := by decide +kernel
theorem dX6_addsFeeder_98 : decode cX6_addsFeeder 98 = .ok (.iadd, 1) := by decide +kernel
theorem dX6_addsFeeder_99 : decode cX6_addsFeeder 99 = .ok (.iconst 0, 1) := by decide +kernel
theorem dX6_addsFeeder_100 : decode cX6_addsFeeder 100 = .ok (.iastore, 1) := by decide +kernel
theorem dX6_addsFeeder_101 : decode cX6_addsFeeder 101 = .ok (.iinc 8 1, 3) := by decide +kernel
theorem dX6_addsFeeder_104 : decode cX6_addsFeeder 104 = .ok (.goto (-21), 3) := by decide +kernel
theorem dX6_addsFeeder_107 : decode cX6_addsFeeder 107 = .ok (.iconst 0, 1) := by decide +kernel
theorem dX6_addsFeeder_108 : decode cX6_addsFeeder 108 = .ok (.istore 8, 2) := by decide +kernel
theorem dX6_addsFeeder_110 : decode cX6_addsFeeder 110 = .ok (.iload 8, 2) := by decide +kernel
theorem dX6_addsFeeder_112 : decode cX6_addsFeeder 112 = .ok (.iconst 4, 1) := by decide +kernel
theorem dX6_addsFeeder_113 : decode cX6_addsFeeder 113 = .ok (.if_icmp .ge 28, 3) := by decide +kernel
theorem dX6_addsFeeder_116 : decode cX6_addsFeeder 116 = .ok (.aload_n 0, 1) := by decide +kernel
theorem dX6_addsFeeder_117 : decode cX6_addsFeeder 117 = .ok (.getfield 7, 3) := by decide +kernel
theorem dX6_addsFeeder_120 : decode cX6_addsFeeder 120 = .ok (.sipush 216, 3) := by decide +kernel
theorem dX6_addsFeeder_123 : decode cX6_addsFeeder 123 = .ok (.bipush 8, 2) := by decide +kernel
theorem dX6_addsFeeder_125 : decode cX6_addsFeeder 125 = .ok (.iload 8, 2) := by decide +kernel
theorem dX6_addsFeeder_127 : decode cX6_addsFeeder 127 = .ok (.imul, 1) := by decide +kernel
theorem dX6_addsFeeder_128 : decode cX6_addsFeeder 128 = .ok (.iadd, 1) := by decide +kernel
theorem dX6_addsFeeder_129 : decode cX6_addsFeeder 129 = .ok (.iload 6, 2) := by decide +kernel
theorem dX6_addsFeeder_131 : decode cX6_addsFeeder 131 = .ok (.iadd, 1) := by decide +kernel
theorem dX6_addsFeeder_132 : decode cX6_addsFeeder 132 = .ok (.bipush 50, 2) := by decide +kernel
theorem dX6_addsFeeder_134 : decode cX6_addsFeeder 134 = .ok (.iastore, 1) := by decide +kernel
theorem dX6_addsFeeder_135 : decode cX6_addsFeeder 135 = .ok (.iinc 8 1, 3) := by decide +kernel
theorem dX6_addsFeeder_138 : decode cX6_addsFeeder 138 = .ok (.goto (-28), 3) := by decide +kernel
theorem dX6_addsFeeder_141 : decode cX6_addsFeeder 141 = .ok (.iload 6, 2) := by decide +kernel
theorem dX6_addsFeeder_143 : decode cX6_addsFeeder 143 = .ok (.ireturn, 1) := by decide +kernel
set_option maxRecDepth 20000 in
theorem ggX6_addFeeder_X6_isX : GoodIn wsX6_addFeeder wsX6_isX := goodIn_r _ [6, 7, 8, 5, 9] (by decide +kernel) (by decide +kernel)
set_option maxRecDepth 20000 in
theorem gX6_addFeeder_X6_isX : GoodIn wsX6_addFeeder (va_wsS RX6 49 yX6_isX wsX6_isX) := goodIn_app (goodIn_of _ (by decide +kernel)) ggX6_addFeeder_X6_isX
set_option maxRecDepth 20000 in
theorem ggX6_addFeeder_X6_isKind : GoodIn wsX6_addFeeder wsX6_isKind := goodIn_r _ [12, 7, 8, 5, 9] (by decide +kernel) (by decide +kernel)
set_option maxRecDepth 20000 in
theorem gX6_addFeeder_X6_isKind : GoodIn wsX6_addFeeder (va_wsS RX6 53 yX6_isKind wsX6_isKind) := goodIn_app (goodIn_of _ (by decide +kernel)) ggX6_addFeeder_X6_isKind
set_option maxRecDepth 20000 in
theorem ggX6_addFeeder_X6_within : GoodIn wsX6_addFeeder wsX6_within := goodIn_r _ [9] (by decide +kernel) (by decide +kernel)
set_option maxRecDepth 20000 in
theorem gX6_addFeeder_X6_within : GoodIn wsX6_addFeeder (va_wsS RX6 45 yX6_within wsX6_within) := goodIn_app (goodIn_of _ (by decide +kernel)) ggX6_addFeeder_X6_within
set_option maxRecDepth 20000 in
theorem ggX6_addFeeder_X6_isPercent : GoodIn wsX6_addFeeder wsX6_isPercent := goodIn_r _ [15, 7, 8, 5, 9] (by decide +kernel) (by decide +kernel)
set_option maxRecDepth 20000 in
theorem gX6_addFeeder_X6_isPercent : GoodIn wsX6_addFeeder (va_wsS RX6 56 yX6_isPercent wsX6_isPercent) := goodIn_app (goodIn_of _ (by decide +kernel)) ggX6_addFeeder_X6_isPercent
set_option maxRecDepth 20000 in
theorem ggX6_addFeeder_X6_save : GoodIn wsX6_addFeeder wsX6_save := goodIn_r _ [19, 20, 21, 1, 26, 27, 28, 29, 30, 31, 32, 33, 34, 35, 36, 37, 38, 39, 40] (by decide +kernel) (by decide +kernel)
set_option maxRecDepth 20000 in
theorem gX6_addFeeder_X6_save : GoodIn wsX6_addFeeder (wsV RX6 59 RX6 yX6_save wsX6_save) := goodIn_app (goodIn_of _ (by decide +kernel)) ggX6_addFeeder_X6_save
set_option maxRecDepth 20000 in
theorem ggX6_addFeeder_X6_addsFeeder : GoodIn wsX6_addFeeder wsX6_addsFeeder := goodIn_r _ [25, 1, 26, 27, 28, 29, 30, 31, 32, 33, 34, 35, 36, 37, 38, 39, 40] (by decide +kernel) (by decide +kernel)
set_option maxRecDepth 20000 in
theorem gX6_addFeeder_X6_addsFeeder : GoodIn wsX6_addFeeder (wsV RX6 62 RX6 yX6_addsFeeder wsX6_addsFeeder) := goodIn_app (goodIn_of _ (by decide +kernel)) ggX6_addFeeder_X6_addsFeeder
theorem dX6_addFeeder_0 : decode cX6_addFeeder 0 = .ok (.iload_n 1, 1) := by decide +kernel
theorem dX6_addFeeder_1 : decode cX6_addFeeder 1 = .ok (.invokestatic 49, 3) := by decide +kernel
theorem dX6_addFeeder_4 : decode cX6_addFeeder 4 = .ok (.ifCond .eq 41, 3) := by decide +kernel
theorem dX6_addFeeder_7 : decode cX6_addFeeder 7 = .ok (.iload_n 2, 1) := by decide +kernel
theorem dX6_addFeeder_8 : decode cX6_addFeeder 8 = .ok (.invokestatic 53, 3) := by decide +kernel
theorem dX6_addFeeder_11 : decode cX6_addFeeder 11 = .ok (.ifCond .eq 34, 3) := by decide +kernel
theorem dX6_addFeeder_14 : decode cX6_addFeeder 14 = .ok (.iload_n 3, 1) := by decide +kernel
theorem dX6_addFeeder_15 : decode cX6_addFeeder 15 = .ok (.iconst 0, 1) := by decide +kernel
theorem dX6_addFeeder_16 : decode cX6_addFeeder 16 = .ok (.sipush 500, 3) := by decide +kernel
theorem dX6_addFeeder_19 : decode cX6_addFeeder 19 = .ok (.invokestatic 45, 3) := by decide +kernel
theorem dX6_addFeeder_22 : decode cX6_addFeeder 22 = .ok (.ifCond .eq 23, 3) := by decide +kernel
theorem dX6_addFeeder_25 : decode cX6_addFeeder 25 = .ok (.iload 4, 2) := by decide +kernel
theorem dX6_addFeeder_27 : decode cX6_addFeeder 27 = .ok (.invokestatic 56, 3) := by decide +kernel
theorem dX6_addFeeder_30 : decode cX6_addFeeder 30 = .ok (.ifCond .eq 15, 3) := by decide +kernel
theorem dX6_addFeeder_33 : decode cX6_addFeeder 33 = .ok (.iload 5, 2) := by decide +kernel
theorem dX6_addFeeder_35 : decode cX6_addFeeder 35 = .ok (.invokestatic 56, 3) := by decide +kernel
theorem dX6_addFeeder_38 : decode cX6_addFeeder 38 = .ok (.ifCond .eq 7, 3) := by decide +kernel
theorem dX6_addFeeder_41 : decode cX6_addFeeder 41 = .ok (.iconst 1, 1) := by decide +kernel
theorem dX6_addFeeder_42 : decode cX6_addFeeder 42 = .ok (.goto 4, 3) := by decide +kernel
theorem dX6_addFeeder_45 : decode cX6_addFeeder 45 = .ok (.iconst 0, 1) := by decide +kernel
theorem dX6_addFeeder_46 : decode cX6_addFeeder 46 = .ok (.istore 6, 2) := by decide +kernel
theorem dX6_addFeeder_48 : decode cX6_addFeeder 48 = .ok (.aload_n 0, 1) := by decide +kernel
theorem dX6_addFeeder_49 : decode cX6_addFeeder 49 = .ok (.iload 6, 2) := by decide +kernel
theorem dX6_addFeeder_51 : decode cX6_addFeeder 51 = .ok (.ifCond .ne 7, 3) := by decide +kernel
theorem dX6_addFeeder_54 : decode cX6_addFeeder 54 = .ok (.iconst 1, 1) := by decide +kernel
theorem dX6_addFeeder_55 : decode cX6_addFeeder 55 = .ok (.goto 19, 3) := by decide +kernel
theorem dX6_addFeeder_58 : decode cX6_addFeeder 58 = .ok (.aload_n 0, 1) := by decide +kernel
theorem dX6_addFeeder_59 : decode cX6_addFeeder 59 = .ok (.getfield 7, 3) := by decide +kernel
theorem dX6_addFeeder_62 : decode cX6_addFeeder 62 = .ok (.iconst 5, 1) := by decide +kernel
theorem dX6_addFeeder_63 : decode cX6_addFeeder 63 = .ok (.iaload, 1) := by decide +kernel
theorem dX6_addFeeder_64 : decode cX6_addFeeder 64 = .ok (.bipush 8, 2) := by decide +kernel
theorem dX6_addFeeder_66 : decode cX6_addFeeder 66 = .ok (.if_icmp .ne 7, 3) := by decide +kernel
theorem dX6_addFeeder_69 : decode cX6_addFeeder 69 = .ok (.iconst 2, 1) := by decide +kernel
theorem dX6_addFeeder_70 : decode cX6_addFeeder 70 = .ok (.goto 4, 3) := by decide +kernel
theorem dX6_addFeeder_73 : decode cX6_addFeeder 73 = .ok (.iconst 0, 1) := by decide +kernel
theorem dX6_addFeeder_74 : decode cX6_addFeeder 74 = .ok (.putfield 34, 3) := by decide +kernel
theorem dX6_addFeeder_77 : decode cX6_addFeeder 77 = .ok (.aload_n 0, 1) := by decide +kernel
theorem dX6_addFeeder_78 : decode cX6_addFeeder 78 = .ok (.getfield 34, 3) := by decide +kernel
theorem dX6_addFeeder_81 : decode cX6_addFeeder 81 = .ok (.ifCond .le 5, 3) := by decide +kernel
theorem dX6_addFeeder_84 : decode cX6_addFeeder 84 = .ok (.iconst 0, 1) := by decide +kernel
theorem dX6_addFeeder_85 : decode cX6_addFeeder 85 = .ok (.ireturn, 1) := by decide +kernel
theorem dX6_addFeeder_86 : decode cX6_addFeeder 86 = .ok (.aload_n 0, 1) := by decide +kernel
theorem dX6_addFeeder_87 : decode cX6_addFeeder 87 = .ok (.invokevirtual 59, 3) := by decide +kernel
theorem dX6_addFeeder_90 : decode cX6_addFeeder 90 = .ok (.aload_n 0, 1) := by decide +kernel
theorem dX6_addFeeder_91 : decode cX6_addFeeder 91 = .ok (.iload_n 1, 1) := by decide +kernel
theorem dX6_addFeeder_92 : decode cX6_addFeeder 92 = .ok (.iload_n 2, 1) := by decide +kernel
theorem dX6_addFeeder_93 : decode cX6_addFeeder 93 = .ok (.iload_n 3, 1) := by decide +kernel
theorem dX6_addFeeder_94 : decode cX6_addFeeder 94 = .ok (.iload 4, 2) := by decide +kernel
theorem dX6_addFeeder_96 : decode cX6_addFeeder 96 = .ok (.iload 5, 2) := by decide +kernel
theorem dX6_addFeeder_98 : decode cX6_addFeeder 98 = .ok (.invokevirtual 62, 3) := by decide +kernel
theorem dX6_addFeeder_101 : decode cX6_addFeeder 101 = .ok (.ireturn, 1) := by decide +kernel
theorem dX6_addsPlace_0 : decode cX6_addsPlace 0 = .ok (.aload_n 0, 1) := by decide +kernel
theorem dX6_addsPlace_1 : decode cX6_addsPlace 1 = .ok (.getfield 7, 3) := by decide +kernel
theorem dX6_addsPlace_4 : decode cX6_addsPlace 4 = .ok (.bipush 6, 2) := by decide +kernel
theorem dX6_addsPlace_6 : decode cX6_addsPlace 6 = .ok (.iaload, 1) := by decide +kernel
theorem dX6_addsPlace_7 : decode cX6_addsPlace 7 = .ok (.istore_n 3, 1) := by decide +kernel
theorem dX6_addsPlace_8 : decode cX6_addsPlace 8 = .ok (.bipush 76, 2) := by decide +kernel
theorem dX6_addsPlace_10 : decode cX6_addsPlace 10 = .ok (.iconst 5, 1) := by decide +kernel
theorem dX6_addsPlace_11 : decode cX6_addsPlace 11 = .ok (.iload_n 3, 1) := by decide +kernel
theorem dX6_addsPlace_12 : decode cX6_addsPlace 12 = .ok (.imul, 1) := by decide +kernel
theorem dX6_addsPlace_13 : decode cX6_addsPlace 13 = .ok (.iadd, 1) := by decide +kernel
theorem dX6_addsPlace_14 : decode cX6_addsPlace 14 = .ok (.istore 4, 2) := by decide +kernel
theorem dX6_addsPlace_16 : decode cX6_addsPlace 16 = .ok (.aload_n 0, 1) := by decide +kernel
theorem dX6_addsPlace_17 : decode cX6_addsPlace 17 = .ok (.getfield 7, 3) := by decide +kernel
theorem dX6_addsPlace_20 : decode cX6_addsPlace 20 = .ok (.bipush 6, 2) := by decide +kernel
theorem dX6_addsPlace_22 : decode cX6_addsPlace 22 = .ok (.dup2, 1) := by decide +kernel
theorem dX6_addsPlace_23 : decode cX6_addsPlace 23 = .ok (.iaload, 1) := by decide +kernel
theorem dX6_addsPlace_24 : decode cX6_addsPlace 24 = .ok (.iconst 1, 1) := by decide +kernel
theorem dX6_addsPlace_25 : decode cX6_addsPlace 25 = .ok (.iadd, 1) := by decide +kernel
theorem dX6_addsPlace_26 : decode cX6_addsPlace 26 = .ok (.iastore, 1) := by decide +kernel
theorem dX6_addsPlace_27 : decode cX6_addsPlace 27 = .ok (.aload_n 0, 1) := by decide +kernel
theorem dX6_addsPlace_28 : decode cX6_addsPlace 28 = .ok (.getfield 7, 3) := by decide +kernel
theorem dX6_addsPlace_31 : decode cX6_addsPlace 31 = .ok (.iload 4, 2) := by decide +kernel
theorem dX6_addsPlace_33 : decode cX6_addsPlace 33 = .ok (.iconst 0, 1) := by decide +kernel
theorem dX6_addsPlace_34 : decode cX6_addsPlace 34 = .ok (.iadd, 1) := by decide +kernel
theorem dX6_addsPlace_35 : decode cX6_addsPlace 35 = .ok (.iload_n 1, 1) := by decide +kernel
theorem dX6_addsPlace_36 : decode cX6_addsPlace 36 = .ok (.iastore, 1) := by decide +kernel
theorem dX6_addsPlace_37 : decode cX6_addsPlace 37 = .ok (.aload_n 0, 1) := by decide +kernel
theorem dX6_addsPlace_38 : decode cX6_addsPlace 38 = .ok (.getfield 7, 3) := by decide +kernel
theorem dX6_addsPlace_41 : decode cX6_addsPlace 41 = .ok (.iload 4, 2) := by decide +kernel
theorem dX6_addsPlace_43 : decode cX6_addsPlace 43 = .ok (.iconst 1, 1) := by decide +kernel
theorem dX6_addsPlace_44 : decode cX6_addsPlace 44 = .ok (.iadd, 1) := by decide +kernel
theorem dX6_addsPlace_45 : decode cX6_addsPlace 45 = .ok (.iload_n 2, 1) := by decide +kernel
theorem dX6_addsPlace_46 : decode cX6_addsPlace 46 = .ok (.iastore, 1) := by decide +kernel
theorem dX6_addsPlace_47 : decode cX6_addsPlace 47 = .ok (.aload_n 0, 1) := by decide +kernel
theorem dX6_addsPlace_48 : decode cX6_addsPlace 48 = .ok (.getfield 7, 3) := by decide +kernel
theorem dX6_addsPlace_51 : decode cX6_addsPlace 51 = .ok (.iload 4, 2) := by decide +kernel
theorem dX6_addsPlace_53 : decode cX6_addsPlace 53 = .ok (.iconst 2, 1) := by decide +kernel
theorem dX6_addsPlace_54 : decode cX6_addsPlace 54 = .ok (.iadd, 1) := by decide +kernel
theorem dX6_addsPlace_55 : decode cX6_addsPlace 55 = .ok (.iconst 0, 1) := by decide +kernel
theorem dX6_addsPlace_56 : decode cX6_addsPlace 56 = .ok (.iastore, 1) := by decide +kernel
theorem dX6_addsPlace_57 : decode cX6_addsPlace 57 = .ok (.aload_n 0, 1) := by decide +kernel
theorem dX6_addsPlace_58 : decode cX6_addsPlace 58 = .ok (.getfield 7, 3) := by decide +kernel
theorem dX6_addsPlace_61 : decode cX6_addsPlace 61 = .ok (.iload 4, 2) := by decide +kernel
theorem dX6_addsPlace_63 : decode cX6_addsPlace 63 = .ok (.iconst 3, 1) := by decide +kernel
theorem dX6_addsPlace_64 : decode cX6_addsPlace 64 = .ok (.iadd, 1) := by decide +kernel
theorem dX6_addsPlace_65 : decode cX6_addsPlace 65 = .ok (.iconst (-1), 1) := by decide +kernel
theorem dX6_addsPlace_66 : decode cX6_addsPlace 66 = .ok (.iastore, 1) := by decide +kernel
theorem dX6_addsPlace_67 : decode cX6_addsPlace 67 = .ok (.aload_n 0, 1) := by decide +kernel
theorem dX6_addsPlace_68 : decode cX6_addsPlace 68 = .ok (.getfield 7, 3) := by decide +kernel
theorem dX6_addsPlace_71 : decode cX6_addsPlace 71 = .ok (.iload 4, 2) := by decide +kernel
theorem dX6_addsPlace_73 : decode cX6_addsPlace 73 = .ok (.iconst 4, 1) := by decide +kernel
theorem dX6_addsPlace_74 : decode cX6_addsPlace 74 = .ok (.iadd, 1) := by decide +kernel
theorem dX6_addsPlace_75 : decode cX6_addsPlace 75 = .ok (.iconst (-1), 1) := by decide +kernel
theorem dX6_addsPlace_76 : decode cX6_addsPlace 76 = .ok (.iastore, 1) := by decide +kernel
theorem dX6_addsPlace_77 : decode cX6_addsPlace 77 = .ok (.iload_n 3, 1) := by decide +kernel
theorem dX6_addsPlace_78 : decode cX6_addsPlace 78 = .ok (.ireturn, 1) := by decide +kernel
set_option maxRecDepth 20000 in
theorem ggX6_addPlace_X6_isX : GoodIn wsX6_addPlace wsX6_isX := goodIn_r _ [6, 7, 8, 5, 9] (by decide +kernel) (by decide +kernel)
set_option maxRecDepth 20000 in
theorem gX6_addPlace_X6_isX : GoodIn wsX6_addPlace (va_wsS RX6 49 yX6_isX wsX6_isX) := goodIn_app (goodIn_of _ (by decide +kernel)) ggX6_addPlace_X6_isX
set_option maxRecDepth 20000 in
theorem ggX6_addPlace_X6_isKind : GoodIn wsX6_addPlace wsX6_isKind := goodIn_r _ [12, 7, 8, 5, 9] (by decide +kernel) (by decide +kernel)
set_option maxRecDepth 20000 in
theorem gX6_addPlace_X6_isKind : GoodIn wsX6_addPlace (va_wsS RX6 53 yX6_isKind wsX6_isKind) := goodIn_app (goodIn_of _ (by decide +kernel)) ggX6_addPlace_X6_isKind
set_option maxRecDepth 20000 in
theorem ggX6_addPlace_X6_save : GoodIn wsX6_addPlace wsX6_save := goodIn_r _ [16, 17, 18, 1, 23, 24, 25, 26, 27, 28, 29, 30, 31, 32, 33, 34, 35, 36, 37] (by decide +kernel) (by decide +kernel)
set_option maxRecDepth 20000 in
theorem gX6_addPlace_X6_save : GoodIn wsX6_addPlace (wsV RX6 59 RX6 yX6_save wsX6_save) := goodIn_app (goodIn_of _ (by decide +kernel)) ggX6_addPlace_X6_save
set_option maxRecDepth 20000 in
theorem ggX6_addPlace_X6_addsPlace : GoodIn wsX6_addPlace wsX6_addsPlace := goodIn_r _ [22, 1, 23, 24, 25, 26, 27, 28, 29, 30, 31, 32, 33, 34, 35, 36, 37] (by decide +kernel) (by decide +kernel)
set_option maxRecDepth 20000 in
theorem gX6_addPlace_X6_addsPlace : GoodIn wsX6_addPlace (wsV RX6 66 RX6 yX6_addsPlace wsX6_addsPlace) := goodIn_app (goodIn_of _ (by decide +kernel)) ggX6_addPlace_X6_addsPlace
theorem dX6_addPlace_0 : decode cX6_addPlace 0 = .ok (.aload_n 0, 1) := by decide +kernel
theorem dX6_addPlace_1 : decode cX6_addPlace 1 = .ok (.iload_n 1, 1) := by decide +kernel
theorem dX6_addPlace_2 : decode cX6_addPlace 2 = .ok (.invokestatic 49, 3) := by decide +kernel
theorem dX6_addPlace_5 : decode cX6_addPlace 5 = .ok (.ifCond .eq 10, 3) := by decide +kernel
theorem dX6_addPlace_8 : decode cX6_addPlace 8 = .ok (.iload_n 2, 1) := by decide +kernel
theorem dX6_addPlace_9 : decode cX6_addPlace 9 = .ok (.invokestatic 53, 3) := by decide +kernel
theorem dX6_addPlace_12 : decode cX6_addPlace 12 = .ok (.ifCond .ne 7, 3) := by decide +kernel
theorem dX6_addPlace_15 : decode cX6_addPlace 15 = .ok (.iconst 1, 1) := by decide +kernel
theorem dX6_addPlace_16 : decode cX6_addPlace 16 = .ok (.goto 20, 3) := by decide +kernel
theorem dX6_addPlace_19 : decode cX6_addPlace 19 = .ok (.aload_n 0, 1) := by decide +kernel
theorem dX6_addPlace_20 : decode cX6_addPlace 20 = .ok (.getfield 7, 3) := by decide +kernel
theorem dX6_addPlace_23 : decode cX6_addPlace 23 = .ok (.bipush 6, 2) := by decide +kernel
theorem dX6_addPlace_25 : decode cX6_addPlace 25 = .ok (.iaload, 1) := by decide +kernel
theorem dX6_addPlace_26 : decode cX6_addPlace 26 = .ok (.bipush 24, 2) := by decide +kernel
theorem dX6_addPlace_28 : decode cX6_addPlace 28 = .ok (.if_icmp .ne 7, 3) := by decide +kernel
theorem dX6_addPlace_31 : decode cX6_addPlace 31 = .ok (.iconst 2, 1) := by decide +kernel
theorem dX6_addPlace_32 : decode cX6_addPlace 32 = .ok (.goto 4, 3) := by decide +kernel
theorem dX6_addPlace_35 : decode cX6_addPlace 35 = .ok (.iconst 0, 1) := by decide +kernel
theorem dX6_addPlace_36 : decode cX6_addPlace 36 = .ok (.putfield 34, 3) := by decide +kernel
theorem dX6_addPlace_39 : decode cX6_addPlace 39 = .ok (.aload_n 0, 1) := by decide +kernel
theorem dX6_addPlace_40 : decode cX6_addPlace 40 = .ok (.getfield 34, 3) := by decide +kernel
theorem dX6_addPlace_43 : decode cX6_addPlace 43 = .ok (.ifCond .le 5, 3) := by decide +kernel
theorem dX6_addPlace_46 : decode cX6_addPlace 46 = .ok (.iconst 0, 1) := by decide +kernel
theorem dX6_addPlace_47 : decode cX6_addPlace 47 = .ok (.ireturn, 1) := by decide +kernel
theorem dX6_addPlace_48 : decode cX6_addPlace 48 = .ok (.aload_n 0, 1) := by decide +kernel
theorem dX6_addPlace_49 : decode cX6_addPlace 49 = .ok (.invokevirtual 59, 3) := by decide +kernel
theorem dX6_addPlace_52 : decode cX6_addPlace 52 = .ok (.aload_n 0, 1) := by decide +kernel
theorem dX6_addPlace_53 : decode cX6_addPlace 53 = .ok (.iload_n 1, 1) := by decide +kernel
theorem dX6_addPlace_54 : decode cX6_addPlace 54 = .ok (.iload_n 2, 1) := by decide +kernel
theorem dX6_addPlace_55 : decode cX6_addPlace 55 = .ok (.invokevirtual 66, 3) := by decide +kernel
theorem dX6_addPlace_58 : decode cX6_addPlace 58 = .ok (.ireturn, 1) := by decide +kernel
set_option maxRecDepth 20000 in
theorem ggX6_fill_X6_isFeeder : GoodIn wsX6_fill wsX6_isFeeder := goodIn_r _ [7, 2, 8, 9, 6, 10, 21, 22, 23, 24, 25, 26, 27, 28, 29, 30, 31, 32, 33, 34, 35] (by decide +kernel) (by decide +kernel)
set_option maxRecDepth 20000 in
theorem gX6_fill_X6_isFeeder : GoodIn wsX6_fill (wsV RX6 69 RX6 yX6_isFeeder wsX6_isFeeder) := goodIn_app (goodIn_of _ (by decide +kernel)) ggX6_fill_X6_isFeeder
set_option maxRecDepth 20000 in
theorem ggX6_fill_X6_within : GoodIn wsX6_fill wsX6_within := goodIn_r _ [10] (by decide +kernel) (by decide +kernel)
set_option maxRecDepth 20000 in
theorem gX6_fill_X6_within : GoodIn wsX6_fill (va_wsS RX6 45 yX6_within wsX6_within) := goodIn_app (goodIn_of _ (by decide +kernel)) ggX6_fill_X6_within
set_option maxRecDepth 20000 in
theorem ggX6_fill_X6_ofFeeder : GoodIn wsX6_fill wsX6_ofFeeder := goodIn_r _ [14, 2, 21, 22, 23, 24, 25, 26, 27, 28, 29, 30, 31, 32, 33, 34, 35] (by decide +kernel) (by decide +kernel)
set_option maxRecDepth 20000 in
theorem gX6_fill_X6_ofFeeder : GoodIn wsX6_fill (wsV RX6 72 RX6 yX6_ofFeeder wsX6_ofFeeder) := goodIn_app (goodIn_of _ (by decide +kernel)) ggX6_fill_X6_ofFeeder
set_option maxRecDepth 20000 in
theorem ggX6_fill_X6_save : GoodIn wsX6_fill wsX6_save := goodIn_r _ [18, 19, 20, 2, 21, 22, 23, 24, 25, 26, 27, 28, 29, 30, 31, 32, 33, 34, 35] (by decide +kernel) (by decide +kernel)
set_option maxRecDepth 20000 in
theorem gX6_fill_X6_save : GoodIn wsX6_fill (wsV RX6 59 RX6 yX6_save wsX6_save) := goodIn_app (goodIn_of _ (by decide +kernel)) ggX6_fill_X6_save
theorem dX6_fill_0 : decode cX6_fill 0 = .ok (.aload_n 0, 1) := by decide +kernel
theorem dX6_fill_1 : decode cX6_fill 1 = .ok (.aload_n 0, 1) := by decide +kernel
theorem dX6_fill_2 : decode cX6_fill 2 = .ok (.iload_n 1, 1) := by decide +kernel
theorem dX6_fill_3 : decode cX6_fill 3 = .ok (.invokevirtual 69, 3) := by decide +kernel
theorem dX6_fill_6 : decode cX6_fill 6 = .ok (.ifCond .ne 7, 3) := by decide +kernel
theorem dX6_fill_9 : decode cX6_fill 9 = .ok (.iconst 1, 1) := by decide +kernel
theorem dX6_fill_10 : decode cX6_fill 10 = .ok (.goto 37, 3) := by decide +kernel
theorem dX6_fill_13 : decode cX6_fill 13 = .ok (.iload_n 2, 1) := by decide +kernel
theorem dX6_fill_14 : decode cX6_fill 14 = .ok (.iconst 1, 1) := by decide +kernel
theorem dX6_fill_15 : decode cX6_fill 15 = .ok (.sipush 500, 3) := by decide +kernel
theorem dX6_fill_18 : decode cX6_fill 18 = .ok (.invokestatic 45, 3) := by decide +kernel
theorem dX6_fill_21 : decode cX6_fill 21 = .ok (.ifCond .ne 7, 3) := by decide +kernel
theorem dX6_fill_24 : decode cX6_fill 24 = .ok (.iconst 2, 1) := by decide +kernel
theorem dX6_fill_25 : decode cX6_fill 25 = .ok (.goto 22, 3) := by decide +kernel
theorem dX6_fill_28 : decode cX6_fill 28 = .ok (.aload_n 0, 1) := by decide +kernel
theorem dX6_fill_29 : decode cX6_fill 29 = .ok (.iload_n 1, 1) := by decide +kernel
theorem dX6_fill_30 : decode cX6_fill 30 = .ok (.iconst 2, 1) := by decide +kernel
theorem dX6_fill_31 : decode cX6_fill 31 = .ok (.invokevirtual 72, 3) := by decide +kernel
theorem dX6_fill_34 : decode cX6_fill 34 = .ok (.iload_n 2, 1) := by decide +kernel
theorem dX6_fill_35 : decode cX6_fill 35 = .ok (.iadd, 1) := by decide +kernel
theorem dX6_fill_36 : decode cX6_fill 36 = .ok (.sipush 500, 3) := by decide +kernel
theorem dX6_fill_39 : decode cX6_fill 39 = .ok (.if_icmp .le 7, 3) := by decide +kernel
theorem dX6_fill_42 : decode cX6_fill 42 = .ok (.iconst 3, 1) := by decide +kernel
theorem dX6_fill_43 : decode cX6_fill 43 = .ok (.goto 4, 3) := by decide +kernel
theorem dX6_fill_46 : decode cX6_fill 46 = .ok (.iconst 0, 1) := by decide +kernel
theorem dX6_fill_47 : decode cX6_fill 47 = .ok (.putfield 34, 3) := by decide +kernel
theorem dX6_fill_50 : decode cX6_fill 50 = .ok (.aload_n 0, 1) := by decide +kernel
theorem dX6_fill_51 : decode cX6_fill 51 = .ok (.getfield 34, 3) := by decide +kernel
theorem dX6_fill_54 : decode cX6_fill 54 = .ok (.ifCond .le 5, 3) := by decide +kernel
theorem dX6_fill_57 : decode cX6_fill 57 = .ok (.iconst 0, 1) := by decide +kernel
theorem dX6_fill_58 : decode cX6_fill 58 = .ok (.ireturn, 1) := by decide +kernel
theorem dX6_fill_59 : decode cX6_fill 59 = .ok (.aload_n 0, 1) := by decide +kernel
theorem dX6_fill_60 : decode cX6_fill 60 = .ok (.invokevirtual 59, 3) := by decide +kernel
theorem dX6_fill_63 : decode cX6_fill 63 = .ok (.aload_n 0, 1) := by decide +kernel
theorem dX6_fill_64 : decode cX6_fill 64 = .ok (.getfield 7, 3) := by decide +kernel
theorem dX6_fill_67 : decode cX6_fill 67 = .ok (.bipush 12, 2) := by decide +kernel
theorem dX6_fill_69 : decode cX6_fill 69 = .ok (.bipush 8, 2) := by decide +kernel
theorem dX6_fill_71 : decode cX6_fill 71 = .ok (.iload_n 1, 1) := by decide +kernel
theorem dX6_fill_72 : decode cX6_fill 72 = .ok (.imul, 1) := by decide +kernel
theorem dX6_fill_73 : decode cX6_fill 73 = .ok (.iadd, 1) := by decide +kernel
theorem dX6_fill_74 : decode cX6_fill 74 = .ok (.iconst 2, 1) := by decide +kernel
theorem dX6_fill_75 : decode cX6_fill 75 = .ok (.iadd, 1) := by decide +kernel
theorem dX6_fill_76 : decode cX6_fill 76 = .ok (.dup2, 1) := by decide +kernel
theorem dX6_fill_77 : decode cX6_fill 77 = .ok (.iaload, 1) := by decide +kernel
theorem dX6_fill_78 : decode cX6_fill 78 = .ok (.iload_n 2, 1) := by decide +kernel
theorem dX6_fill_79 : decode cX6_fill 79 = .ok (.iadd, 1) := by decide +kernel
theorem dX6_fill_80 : decode cX6_fill 80 = .ok (.iastore, 1) := by decide +kernel
theorem dX6_fill_81 : decode cX6_fill 81 = .ok (.aload_n 0, 1) := by decide +kernel
theorem dX6_fill_82 : decode cX6_fill 82 = .ok (.iload_n 1, 1) := by decide +kernel
theorem dX6_fill_83 : decode cX6_fill 83 = .ok (.iconst 2, 1) := by decide +kernel
theorem dX6_fill_84 : decode cX6_fill 84 = .ok (.invokevirtual 72, 3) := by decide +kernel
theorem dX6_fill_87 : decode cX6_fill 87 = .ok (.ireturn, 1) := by decide +kernel
set_option maxRecDepth 20000 in
theorem ggX6_repair_X6_isFeeder : GoodIn wsX6_repair wsX6_isFeeder := goodIn_r _ [7, 2, 8, 9, 6, 10, 24, 25, 26, 27, 28, 29, 30, 31, 32, 33, 34, 35, 36, 37, 38] (by decide +kernel) (by decide +kernel)
set_option maxRecDepth 20000 in
theorem gX6_repair_X6_isFeeder : GoodIn wsX6_repair (wsV RX6 69 RX6 yX6_isFeeder wsX6_isFeeder) := goodIn_app (goodIn_of _ (by decide +kernel)) ggX6_repair_X6_isFeeder
set_option maxRecDepth 20000 in
theorem ggX6_repair_X6_isPercent : GoodIn wsX6_repair wsX6_isPercent := goodIn_r _ [13, 8, 9, 6, 10] (by decide +kernel) (by decide +kernel)
set_option maxRecDepth 20000 in
theorem gX6_repair_X6_isPercent : GoodIn wsX6_repair (va_wsS RX6 56 yX6_isPercent wsX6_isPercent) := goodIn_app (goodIn_of _ (by decide +kernel)) ggX6_repair_X6_isPercent
set_option maxRecDepth 20000 in
theorem ggX6_repair_X6_save : GoodIn wsX6_repair wsX6_save := goodIn_r _ [17, 18, 19, 2, 24, 25, 26, 27, 28, 29, 30, 31, 32, 33, 34, 35, 36, 37, 38] (by decide +kernel) (by decide +kernel)
set_option maxRecDepth 20000 in
theorem gX6_repair_X6_save : GoodIn wsX6_repair (wsV RX6 59 RX6 yX6_save wsX6_save) := goodIn_app (goodIn_of _ (by decide +kernel)) ggX6_repair_X6_save
set_option maxRecDepth 20000 in
theorem ggX6_repair_X6_ofFeeder : GoodIn wsX6_repair wsX6_ofFeeder := goodIn_r _ [23, 2, 24, 25, 26, 27, 28, 29, 30, 31, 32, 33, 34, 35, 36, 37, 38] (by decide +kernel) (by decide +kernel)
set_option maxRecDepth 20000 in
theorem gX6_repair_X6_ofFeeder : GoodIn wsX6_repair (wsV RX6 72 RX6 yX6_ofFeeder wsX6_ofFeeder) := goodIn_app (goodIn_of _ (by decide +kernel)) ggX6_repair_X6_ofFeeder
theorem dX6_repair_0 : decode cX6_repair 0 = .ok (.aload_n 0, 1) := by decide +kernel
theorem dX6_repair_1 : decode cX6_repair 1 = .ok (.aload_n 0, 1) := by decide +kernel
theorem dX6_repair_2 : decode cX6_repair 2 = .ok (.iload_n 1, 1) := by decide +kernel
theorem dX6_repair_3 : decode cX6_repair 3 = .ok (.invokevirtual 69, 3) := by decide +kernel
theorem dX6_repair_6 : decode cX6_repair 6 = .ok (.ifCond .ne 7, 3) := by decide +kernel
theorem dX6_repair_9 : decode cX6_repair 9 = .ok (.iconst 1, 1) := by decide +kernel
theorem dX6_repair_10 : decode cX6_repair 10 = .ok (.goto 22, 3) := by decide +kernel
theorem dX6_repair_13 : decode cX6_repair 13 = .ok (.iload_n 2, 1) := by decide +kernel
theorem dX6_repair_14 : decode cX6_repair 14 = .ok (.invokestatic 56, 3) := by decide +kernel
theorem dX6_repair_17 : decode cX6_repair 17 = .ok (.ifCond .eq 14, 3) := by decide +kernel
theorem dX6_repair_20 : decode cX6_repair 20 = .ok (.iload_n 3, 1) := by decide +kernel
theorem dX6_repair_21 : decode cX6_repair 21 = .ok (.invokestatic 56, 3) := by decide +kernel
theorem dX6_repair_24 : decode cX6_repair 24 = .ok (.ifCond .eq 7, 3) := by decide +kernel
theorem dX6_repair_27 : decode cX6_repair 27 = .ok (.iconst 0, 1) := by decide +kernel
theorem dX6_repair_28 : decode cX6_repair 28 = .ok (.goto 4, 3) := by decide +kernel
theorem dX6_repair_31 : decode cX6_repair 31 = .ok (.iconst 2, 1) := by decide +kernel
theorem dX6_repair_32 : decode cX6_repair 32 = .ok (.putfield 34, 3) := by decide +kernel
theorem dX6_repair_35 : decode cX6_repair 35 = .ok (.aload_n 0, 1) := by decide +kernel
theorem dX6_repair_36 : decode cX6_repair 36 = .ok (.getfield 34, 3) := by decide +kernel
theorem dX6_repair_39 : decode cX6_repair 39 = .ok (.ifCond .le 5, 3) := by decide +kernel
theorem dX6_repair_42 : decode cX6_repair 42 = .ok (.iconst 0, 1) := by decide +kernel
theorem dX6_repair_43 : decode cX6_repair 43 = .ok (.ireturn, 1) := by decide +kernel
theorem dX6_repair_44 : decode cX6_repair 44 = .ok (.aload_n 0, 1) := by decide +kernel
theorem dX6_repair_45 : decode cX6_repair 45 = .ok (.invokevirtual 59, 3) := by decide +kernel
theorem dX6_repair_48 : decode cX6_repair 48 = .ok (.aload_n 0, 1) := by decide +kernel
theorem dX6_repair_49 : decode cX6_repair 49 = .ok (.iload_n 1, 1) := by decide +kernel
theorem dX6_repair_50 : decode cX6_repair 50 = .ok (.iconst 3, 1) := by decide +kernel
theorem dX6_repair_51 : decode cX6_repair 51 = .ok (.invokevirtual 72, 3) := by decide +kernel
theorem dX6_repair_54 : decode cX6_repair 54 = .ok (.istore 4, 2) := by decide +kernel
theorem dX6_repair_56 : decode cX6_repair 56 = .ok (.aload_n 0, 1) := by decide +kernel
theorem dX6_repair_57 : decode cX6_repair 57 = .ok (.getfield 7, 3) := by decide +kernel
theorem dX6_repair_60 : decode cX6_repair 60 = .ok (.bipush 12, 2) := by decide +kernel
theorem dX6_repair_62 : decode cX6_repair 62 = .ok (.bipush 8, 2) := by decide +kernel
theorem dX6_repair_64 : decode cX6_repair 64 = .ok (.iload_n 1, 1) := by decide +kernel
theorem dX6_repair_65 : decode cX6_repair 65 = .ok (.imul, 1) := by decide +kernel
theorem dX6_repair_66 : decode cX6_repair 66 = .ok (.iadd, 1) := by decide +kernel
theorem dX6_repair_67 : decode cX6_repair 67 = .ok (.iconst 3, 1) := by decide +kernel
theorem dX6_repair_68 : decode cX6_repair 68 = .ok (.iadd, 1) := by decide +kernel
theorem dX6_repair_69 : decode cX6_repair 69 = .ok (.iload_n 2, 1) := by decide +kernel
theorem dX6_repair_70 : decode cX6_repair 70 = .ok (.iastore, 1) := by decide +kernel
theorem dX6_repair_71 : decode cX6_repair 71 = .ok (.aload_n 0, 1) := by decide +kernel
theorem dX6_repair_72 : decode cX6_repair 72 = .ok (.getfield 7, 3) := by decide +kernel
theorem dX6_repair_75 : decode cX6_repair 75 = .ok (.bipush 12, 2) := by decide +kernel
theorem dX6_repair_77 : decode cX6_repair 77 = .ok (.bipush 8, 2) := by decide +kernel
theorem dX6_repair_79 : decode cX6_repair 79 = .ok (.iload_n 1, 1) := by decide +kernel
theorem dX6_repair_80 : decode cX6_repair 80 = .ok (.imul, 1) := by decide +kernel
theorem dX6_repair_81 : decode cX6_repair 81 = .ok (.iadd, 1) := by decide +kernel
theorem dX6_repair_82 : decode cX6_repair 82 = .ok (.iconst 4, 1) := by decide +kernel
theorem dX6_repair_83 : decode cX6_repair 83 = .ok (.iadd, 1) := by decide +kernel
theorem dX6_repair_84 : decode cX6_repair 84 = .ok (.iload_n 3, 1) := by decide +kernel
theorem dX6_repair_85 : decode cX6_repair 85 = .ok (.iastore, 1) := by decide +kernel
theorem dX6_repair_86 : decode cX6_repair 86 = .ok (.iload 4, 2) := by decide +kernel
theorem dX6_repair_88 : decode cX6_repair 88 = .ok (.ireturn, 1) := by decide +kernel
set_option maxRecDepth 20000 in
theorem ggX6_fit_X6_isNozzle : GoodIn wsX6_fit wsX6_isNozzle := goodIn_r _ [6, 7, 8, 5, 9] (by decide +kernel) (by decide +kernel)
set_option maxRecDepth 20000 in
theorem gX6_fit_X6_isNozzle : GoodIn wsX6_fit (va_wsS RX6 75 yX6_isNozzle wsX6_isNozzle) := goodIn_app (goodIn_of _ (by decide +kernel)) ggX6_fit_X6_isNozzle
set_option maxRecDepth 20000 in
theorem ggX6_fit_X6_within : GoodIn wsX6_fit wsX6_within := goodIn_r _ [9] (by decide +kernel) (by decide +kernel)
set_option maxRecDepth 20000 in
theorem gX6_fit_X6_within : GoodIn wsX6_fit (va_wsS RX6 45 yX6_within wsX6_within) := goodIn_app (goodIn_of _ (by decide +kernel)) ggX6_fit_X6_within
set_option maxRecDepth 20000 in
theorem ggX6_fit_X6_save : GoodIn wsX6_fit wsX6_save := goodIn_r _ [13, 14, 15, 2, 20, 21, 22, 23, 24, 25, 26, 27, 28, 29, 30, 31, 32, 33, 34] (by decide +kernel) (by decide +kernel)
set_option maxRecDepth 20000 in
theorem gX6_fit_X6_save : GoodIn wsX6_fit (wsV RX6 59 RX6 yX6_save wsX6_save) := goodIn_app (goodIn_of _ (by decide +kernel)) ggX6_fit_X6_save
set_option maxRecDepth 20000 in
theorem ggX6_fit_X6_ofNozzle : GoodIn wsX6_fit wsX6_ofNozzle := goodIn_r _ [19, 2, 20, 21, 22, 23, 24, 25, 26, 27, 28, 29, 30, 31, 32, 33, 34] (by decide +kernel) (by decide +kernel)
set_option maxRecDepth 20000 in
theorem gX6_fit_X6_ofNozzle : GoodIn wsX6_fit (wsV RX6 78 RX6 yX6_ofNozzle wsX6_ofNozzle) := goodIn_app (goodIn_of _ (by decide +kernel)) ggX6_fit_X6_ofNozzle
theorem dX6_fit_0 : decode cX6_fit 0 = .ok (.aload_n 0, 1) := by decide +kernel
theorem dX6_fit_1 : decode cX6_fit 1 = .ok (.iload_n 1, 1) := by decide +kernel
theorem dX6_fit_2 : decode cX6_fit 2 = .ok (.invokestatic 75, 3) := by decide +kernel
theorem dX6_fit_5 : decode cX6_fit 5 = .ok (.ifCond .ne 7, 3) := by decide +kernel
theorem dX6_fit_8 : decode cX6_fit 8 = .ok (.iconst 1, 1) := by decide +kernel
theorem dX6_fit_9 : decode cX6_fit 9 = .ok (.goto 18, 3) := by decide +kernel
theorem dX6_fit_12 : decode cX6_fit 12 = .ok (.iload_n 2, 1) := by decide +kernel
theorem dX6_fit_13 : decode cX6_fit 13 = .ok (.iconst 0, 1) := by decide +kernel
theorem dX6_fit_14 : decode cX6_fit 14 = .ok (.bipush 63, 2) := by decide +kernel
theorem dX6_fit_16 : decode cX6_fit 16 = .ok (.invokestatic 45, 3) := by decide +kernel
theorem dX6_fit_19 : decode cX6_fit 19 = .ok (.ifCond .eq 7, 3) := by decide +kernel
theorem dX6_fit_22 : decode cX6_fit 22 = .ok (.iconst 0, 1) := by decide +kernel
theorem dX6_fit_23 : decode cX6_fit 23 = .ok (.goto 4, 3) := by decide +kernel
theorem dX6_fit_26 : decode cX6_fit 26 = .ok (.iconst 2, 1) := by decide +kernel
theorem dX6_fit_27 : decode cX6_fit 27 = .ok (.putfield 34, 3) := by decide +kernel
theorem dX6_fit_30 : decode cX6_fit 30 = .ok (.aload_n 0, 1) := by decide +kernel
theorem dX6_fit_31 : decode cX6_fit 31 = .ok (.getfield 34, 3) := by decide +kernel
theorem dX6_fit_34 : decode cX6_fit 34 = .ok (.ifCond .le 5, 3) := by decide +kernel
theorem dX6_fit_37 : decode cX6_fit 37 = .ok (.iconst 0, 1) := by decide +kernel
theorem dX6_fit_38 : decode cX6_fit 38 = .ok (.ireturn, 1) := by decide +kernel
theorem dX6_fit_39 : decode cX6_fit 39 = .ok (.aload_n 0, 1) := by decide +kernel
theorem dX6_fit_40 : decode cX6_fit 40 = .ok (.invokevirtual 59, 3) := by decide +kernel
theorem dX6_fit_43 : decode cX6_fit 43 = .ok (.aload_n 0, 1) := by decide +kernel
theorem dX6_fit_44 : decode cX6_fit 44 = .ok (.iload_n 1, 1) := by decide +kernel
theorem dX6_fit_45 : decode cX6_fit 45 = .ok (.iconst 0, 1) := by decide +kernel
theorem dX6_fit_46 : decode cX6_fit 46 = .ok (.invokevirtual 78, 3) := by decide +kernel
theorem dX6_fit_49 : decode cX6_fit 49 = .ok (.istore_n 3, 1) := by decide +kernel
theorem dX6_fit_50 : decode cX6_fit 50 = .ok (.aload_n 0, 1) := by decide +kernel
theorem dX6_fit_51 : decode cX6_fit 51 = .ok (.getfield 7, 3) := by decide +kernel
theorem dX6_fit_54 : decode cX6_fit 54 = .ok (.sipush 196, 3) := by decide +kernel
theorem dX6_fit_57 : decode cX6_fit 57 = .ok (.iconst 5, 1) := by decide +kernel
theorem dX6_fit_58 : decode cX6_fit 58 = .ok (.iload_n 1, 1) := by decide +kernel
theorem dX6_fit_59 : decode cX6_fit 59 = .ok (.imul, 1) := by decide +kernel
theorem dX6_fit_60 : decode cX6_fit 60 = .ok (.iadd, 1) := by decide +kernel
theorem dX6_fit_61 : decode cX6_fit 61 = .ok (.iconst 0, 1) := by decide +kernel
theorem dX6_fit_62 : decode cX6_fit 62 = .ok (.iadd, 1) := by decide +kernel
theorem dX6_fit_63 : decode cX6_fit 63 = .ok (.iload_n 2, 1) := by decide +kernel
theorem dX6_fit_64 : decode cX6_fit 64 = .ok (.iastore, 1) := by decide +kernel
theorem dX6_fit_65 : decode cX6_fit 65 = .ok (.iload_n 3, 1) := by decide +kernel
theorem dX6_fit_66 : decode cX6_fit 66 = .ok (.ireturn, 1) := by decide +kernel
theorem dX6_empty_0 : decode cX6_empty 0 = .ok (.bipush 76, 2) := by decide +kernel
theorem dX6_empty_2 : decode cX6_empty 2 = .ok (.iconst 5, 1) := by decide +kernel
theorem dX6_empty_3 : decode cX6_empty 3 = .ok (.iload_n 1, 1) := by decide +kernel
theorem dX6_empty_4 : decode cX6_empty 4 = .ok (.imul, 1) := by decide +kernel
theorem dX6_empty_5 : decode cX6_empty 5 = .ok (.iadd, 1) := by decide +kernel
theorem dX6_empty_6 : decode cX6_empty 6 = .ok (.istore_n 2, 1) := by decide +kernel
theorem dX6_empty_7 : decode cX6_empty 7 = .ok (.aload_n 0, 1) := by decide +kernel
theorem dX6_empty_8 : decode cX6_empty 8 = .ok (.getfield 7, 3) := by decide +kernel
theorem dX6_empty_11 : decode cX6_empty 11 = .ok (.iload_n 2, 1) := by decide +kernel
theorem dX6_empty_12 : decode cX6_empty 12 = .ok (.iconst 2, 1) := by decide +kernel
theorem dX6_empty_13 : decode cX6_empty 13 = .ok (.iadd, 1) := by decide +kernel
theorem dX6_empty_14 : decode cX6_empty 14 = .ok (.iconst 0, 1) := by decide +kernel
theorem dX6_empty_15 : decode cX6_empty 15 = .ok (.iastore, 1) := by decide +kernel
theorem dX6_empty_16 : decode cX6_empty 16 = .ok (.aload_n 0, 1) := by decide +kernel
theorem dX6_empty_17 : decode cX6_empty 17 = .ok (.getfield 7, 3) := by decide +kernel
theorem dX6_empty_20 : decode cX6_empty 20 = .ok (.iload_n 2, 1) := by decide +kernel
theorem dX6_empty_21 : decode cX6_empty 21 = .ok (.iconst 3, 1) := by decide +kernel
theorem dX6_empty_22 : decode cX6_empty 22 = .ok (.iadd, 1) := by decide +kernel
theorem dX6_empty_23 : decode cX6_empty 23 = .ok (.iconst (-1), 1) := by decide +kernel
theorem dX6_empty_24 : decode cX6_empty 24 = .ok (.iastore, 1) := by decide +kernel
theorem dX6_empty_25 : decode cX6_empty 25 = .ok (.aload_n 0, 1) := by decide +kernel
theorem dX6_empty_26 : decode cX6_empty 26 = .ok (.getfield 7, 3) := by decide +kernel
theorem dX6_empty_29 : decode cX6_empty 29 = .ok (.iload_n 2, 1) := by decide +kernel
theorem dX6_empty_30 : decode cX6_empty 30 = .ok (.iconst 4, 1) := by decide +kernel
theorem dX6_empty_31 : decode cX6_empty 31 = .ok (.iadd, 1) := by decide +kernel
theorem dX6_empty_32 : decode cX6_empty 32 = .ok (.iconst (-1), 1) := by decide +kernel
theorem dX6_empty_33 : decode cX6_empty 33 = .ok (.iastore, 1) := by decide +kernel
theorem dX6_empty_34 : decode cX6_empty 34 = .ok (.return_, 1) := by decide +kernel
set_option maxRecDepth 20000 in
theorem ggX6_placesThat_X6_ofPlace : GoodIn wsX6_placesThat wsX6_ofPlace := goodIn_r _ [6, 1, 7, 8, 9, 10, 11, 12, 13, 14, 15, 16, 17, 18, 19, 20, 21] (by decide +kernel) (by decide +kernel)
set_option maxRecDepth 20000 in
theorem gX6_placesThat_X6_ofPlace : GoodIn wsX6_placesThat (wsV RX6 81 RX6 yX6_ofPlace wsX6_ofPlace) := goodIn_app (goodIn_of _ (by decide +kernel)) ggX6_placesThat_X6_ofPlace
theorem dX6_placesThat_0 : decode cX6_placesThat 0 = .ok (.iconst 0, 1) := by decide +kernel
theorem dX6_placesThat_1 : decode cX6_placesThat 1 = .ok (.istore_n 2, 1) := by decide +kernel
theorem dX6_placesThat_2 : decode cX6_placesThat 2 = .ok (.iconst 0, 1) := by decide +kernel
theorem dX6_placesThat_3 : decode cX6_placesThat 3 = .ok (.istore_n 3, 1) := by decide +kernel
theorem dX6_placesThat_4 : decode cX6_placesThat 4 = .ok (.iload_n 3, 1) := by decide +kernel
theorem dX6_placesThat_5 : decode cX6_placesThat 5 = .ok (.aload_n 0, 1) := by decide +kernel
theorem dX6_placesThat_6 : decode cX6_placesThat 6 = .ok (.getfield 7, 3) := by decide +kernel
theorem dX6_placesThat_9 : decode cX6_placesThat 9 = .ok (.bipush 6, 2) := by decide +kernel
theorem dX6_placesThat_11 : decode cX6_placesThat 11 = .ok (.iaload, 1) := by decide +kernel
theorem dX6_placesThat_12 : decode cX6_placesThat 12 = .ok (.if_icmp .ge 27, 3) := by decide +kernel
theorem dX6_placesThat_15 : decode cX6_placesThat 15 = .ok (.iload_n 2, 1) := by decide +kernel
theorem dX6_placesThat_16 : decode cX6_placesThat 16 = .ok (.aload_n 0, 1) := by decide +kernel
theorem dX6_placesThat_17 : decode cX6_placesThat 17 = .ok (.iload_n 3, 1) := by decide +kernel
theorem dX6_placesThat_18 : decode cX6_placesThat 18 = .ok (.iconst 2, 1) := by decide +kernel
theorem dX6_placesThat_19 : decode cX6_placesThat 19 = .ok (.invokevirtual 81, 3) := by decide +kernel
theorem dX6_placesThat_22 : decode cX6_placesThat 22 = .ok (.iload_n 1, 1) := by decide +kernel
theorem dX6_placesThat_23 : decode cX6_placesThat 23 = .ok (.if_icmp .ne 7, 3) := by decide +kernel
theorem dX6_placesThat_26 : decode cX6_placesThat 26 = .ok (.iconst 1, 1) := by decide +kernel
theorem dX6_placesThat_27 : decode cX6_placesThat 27 = .ok (.goto 4, 3) := by decide +kernel
theorem dX6_placesThat_30 : decode cX6_placesThat 30 = .ok (.iconst 0, 1) := by decide +kernel
theorem dX6_placesThat_31 : decode cX6_placesThat 31 = .ok (.iadd, 1) := by decide +kernel
theorem dX6_placesThat_32 : decode cX6_placesThat 32 = .ok (.istore_n 2, 1) := by decide +kernel
theorem dX6_placesThat_33 : decode cX6_placesThat 33 = .ok (.iinc 3 1, 3) := by decide +kernel
theorem dX6_placesThat_36 : decode cX6_placesThat 36 = .ok (.goto (-32), 3) := by decide +kernel
theorem dX6_placesThat_39 : decode cX6_placesThat 39 = .ok (.iload_n 2, 1) := by decide +kernel
theorem dX6_placesThat_40 : decode cX6_placesThat 40 = .ok (.ireturn, 1) := by decide +kernel
set_option maxRecDepth 20000 in
theorem ggX6_clear_X6_save : GoodIn wsX6_clear wsX6_save := goodIn_r _ [7, 8, 9, 2, 22, 23, 24, 25, 26, 27, 28, 29, 30, 31, 32, 33, 34, 35, 36] (by decide +kernel) (by decide +kernel)
set_option maxRecDepth 20000 in
theorem gX6_clear_X6_save : GoodIn wsX6_clear (wsV RX6 59 RX6 yX6_save wsX6_save) := goodIn_app (goodIn_of _ (by decide +kernel)) ggX6_clear_X6_save
set_option maxRecDepth 20000 in
theorem ggX6_clear_X6_placesThat : GoodIn wsX6_clear wsX6_placesThat := goodIn_r _ [13, 2, 14, 15, 16, 6, 17, 22, 23, 24, 25, 26, 27, 28, 29, 30, 31, 32, 33, 34, 35, 36] (by decide +kernel) (by decide +kernel)
set_option maxRecDepth 20000 in
theorem gX6_clear_X6_placesThat : GoodIn wsX6_clear (wsV RX6 84 RX6 yX6_placesThat wsX6_placesThat) := goodIn_app (goodIn_of _ (by decide +kernel)) ggX6_clear_X6_placesThat
set_option maxRecDepth 20000 in
theorem ggX6_clear_X6_empty : GoodIn wsX6_clear wsX6_empty := goodIn_r _ [21, 2, 22, 23, 24, 25, 26, 27, 28, 29, 30, 31, 32, 33, 34, 35, 36] (by decide +kernel) (by decide +kernel)
set_option maxRecDepth 20000 in
theorem gX6_clear_X6_empty : GoodIn wsX6_clear (wsV RX6 88 RX6 yX6_empty wsX6_empty) := goodIn_app (goodIn_of _ (by decide +kernel)) ggX6_clear_X6_empty
theorem dX6_clear_0 : decode cX6_clear 0 = .ok (.aload_n 0, 1) := by decide +kernel
theorem dX6_clear_1 : decode cX6_clear 1 = .ok (.iconst 0, 1) := by decide +kernel
theorem dX6_clear_2 : decode cX6_clear 2 = .ok (.putfield 34, 3) := by decide +kernel
theorem dX6_clear_5 : decode cX6_clear 5 = .ok (.aload_n 0, 1) := by decide +kernel
theorem dX6_clear_6 : decode cX6_clear 6 = .ok (.invokevirtual 59, 3) := by decide +kernel
theorem dX6_clear_9 : decode cX6_clear 9 = .ok (.aload_n 0, 1) := by decide +kernel
theorem dX6_clear_10 : decode cX6_clear 10 = .ok (.iconst 1, 1) := by decide +kernel
theorem dX6_clear_11 : decode cX6_clear 11 = .ok (.invokevirtual 84, 3) := by decide +kernel
theorem dX6_clear_14 : decode cX6_clear 14 = .ok (.istore_n 1, 1) := by decide +kernel
theorem dX6_clear_15 : decode cX6_clear 15 = .ok (.iconst 0, 1) := by decide +kernel
theorem dX6_clear_16 : decode cX6_clear 16 = .ok (.istore_n 2, 1) := by decide +kernel
theorem dX6_clear_17 : decode cX6_clear 17 = .ok (.iload_n 2, 1) := by decide +kernel
theorem dX6_clear_18 : decode cX6_clear 18 = .ok (.aload_n 0, 1) := by decide +kernel
theorem dX6_clear_19 : decode cX6_clear 19 = .ok (.getfield 7, 3) := by decide +kernel
theorem dX6_clear_22 : decode cX6_clear 22 = .ok (.bipush 6, 2) := by decide +kernel
theorem dX6_clear_24 : decode cX6_clear 24 = .ok (.iaload, 1) := by decide +kernel
theorem dX6_clear_25 : decode cX6_clear 25 = .ok (.if_icmp .ge 14, 3) := by decide +kernel
theorem dX6_clear_28 : decode cX6_clear 28 = .ok (.aload_n 0, 1) := by decide +kernel
theorem dX6_clear_29 : decode cX6_clear 29 = .ok (.iload_n 2, 1) := by decide +kernel
theorem dX6_clear_30 : decode cX6_clear 30 = .ok (.invokevirtual 88, 3) := by decide +kernel
theorem dX6_clear_33 : decode cX6_clear 33 = .ok (.iinc 2 1, 3) := by decide +kernel
theorem dX6_clear_36 : decode cX6_clear 36 = .ok (.goto (-19), 3) := by decide +kernel
theorem dX6_clear_39 : decode cX6_clear 39 = .ok (.iload_n 1, 1) := by decide +kernel
theorem dX6_clear_40 : decode cX6_clear 40 = .ok (.ireturn, 1) := by decide +kernel
set_option maxRecDepth 20000 in
theorem ggX6_isSetting_X6_within : GoodIn wsX6_isSetting wsX6_within := goodIn_r _ [4] (by decide +kernel) (by decide +kernel)
set_option maxRecDepth 20000 in
theorem gX6_isSetting_X6_within : GoodIn wsX6_isSetting (va_wsS RX6 45 yX6_within wsX6_within) := goodIn_app (goodIn_of _ (by decide +kernel)) ggX6_isSetting_X6_within
theorem dX6_isSetting_0 : decode cX6_isSetting 0 = .ok (.iload_n 0, 1) := by decide +kernel
theorem dX6_isSetting_1 : decode cX6_isSetting 1 = .ok (.iconst 0, 1) := by decide +kernel
theorem dX6_isSetting_2 : decode cX6_isSetting 2 = .ok (.iconst 4, 1) := by decide +kernel
theorem dX6_isSetting_3 : decode cX6_isSetting 3 = .ok (.invokestatic 45, 3) := by decide +kernel
theorem dX6_isSetting_6 : decode cX6_isSetting 6 = .ok (.ireturn, 1) := by decide +kernel
theorem dX6_greatest_0 : decode cX6_greatest 0 = .ok (.iload_n 0, 1) := by decide +kernel
theorem dX6_greatest_1 : decode cX6_greatest 1 = .ok (.ifCond .ne 7, 3) := by decide +kernel
theorem dX6_greatest_4 : decode cX6_greatest 4 = .ok (.iconst 5, 1) := by decide +kernel
theorem dX6_greatest_5 : decode cX6_greatest 5 = .ok (.goto 20, 3) := by decide +kernel
theorem dX6_greatest_8 : decode cX6_greatest 8 = .ok (.iload_n 0, 1) := by decide +kernel
theorem dX6_greatest_9 : decode cX6_greatest 9 = .ok (.iconst 1, 1) := by decide +kernel
theorem dX6_greatest_10 : decode cX6_greatest 10 = .ok (.if_icmp .eq 8, 3) := by decide +kernel
theorem dX6_greatest_13 : decode cX6_greatest 13 = .ok (.iload_n 0, 1) := by decide +kernel
theorem dX6_greatest_14 : decode cX6_greatest 14 = .ok (.iconst 2, 1) := by decide +kernel
theorem dX6_greatest_15 : decode cX6_greatest 15 = .ok (.if_icmp .ne 8, 3) := by decide +kernel
theorem dX6_greatest_18 : decode cX6_greatest 18 = .ok (.bipush 50, 2) := by decide +kernel
theorem dX6_greatest_20 : decode cX6_greatest 20 = .ok (.goto 5, 3) := by decide +kernel
theorem dX6_greatest_23 : decode cX6_greatest 23 = .ok (.bipush 100, 2) := by decide +kernel
theorem dX6_greatest_25 : decode cX6_greatest 25 = .ok (.ireturn, 1) := by decide +kernel
set_option maxRecDepth 20000 in
theorem ggX6_set_X6_isSetting : GoodIn wsX6_set wsX6_isSetting := goodIn_r _ [6, 7, 8, 5, 9] (by decide +kernel) (by decide +kernel)
set_option maxRecDepth 20000 in
theorem gX6_set_X6_isSetting : GoodIn wsX6_set (va_wsS RX6 92 yX6_isSetting wsX6_isSetting) := goodIn_app (goodIn_of _ (by decide +kernel)) ggX6_set_X6_isSetting
set_option maxRecDepth 20000 in
theorem ggX6_set_X6_greatest : GoodIn wsX6_set wsX6_greatest := goodIn_r _ [12] (by decide +kernel) (by decide +kernel)
set_option maxRecDepth 20000 in
theorem gX6_set_X6_greatest : GoodIn wsX6_set (va_wsS RX6 95 yX6_greatest wsX6_greatest) := goodIn_app (goodIn_of _ (by decide +kernel)) ggX6_set_X6_greatest
set_option maxRecDepth 20000 in
theorem ggX6_set_X6_within : GoodIn wsX6_set wsX6_within := goodIn_r _ [9] (by decide +kernel) (by decide +kernel)
set_option maxRecDepth 20000 in
theorem gX6_set_X6_within : GoodIn wsX6_set (va_wsS RX6 45 yX6_within wsX6_within) := goodIn_app (goodIn_of _ (by decide +kernel)) ggX6_set_X6_within
set_option maxRecDepth 20000 in
theorem ggX6_set_X6_save : GoodIn wsX6_set wsX6_save := goodIn_r _ [16, 17, 18, 2, 19, 20, 21, 22, 23, 24, 25, 26, 27, 28, 29, 30, 31, 32, 33] (by decide +kernel) (by decide +kernel)
set_option maxRecDepth 20000 in
theorem gX6_set_X6_save : GoodIn wsX6_set (wsV RX6 59 RX6 yX6_save wsX6_save) := goodIn_app (goodIn_of _ (by decide +kernel)) ggX6_set_X6_save
theorem dX6_set_0 : decode cX6_set 0 = .ok (.aload_n 0, 1) := by decide +kernel
theorem dX6_set_1 : decode cX6_set 1 = .ok (.iload_n 1, 1) := by decide +kernel
theorem dX6_set_2 : decode cX6_set 2 = .ok (.invokestatic 92, 3) := by decide +kernel
theorem dX6_set_5 : decode cX6_set 5 = .ok (.ifCond .ne 7, 3) := by decide +kernel
theorem dX6_set_8 : decode cX6_set 8 = .ok (.iconst 1, 1) := by decide +kernel
theorem dX6_set_9 : decode cX6_set 9 = .ok (.goto 20, 3) := by decide +kernel
theorem dX6_set_12 : decode cX6_set 12 = .ok (.iload_n 2, 1) := by decide +kernel
theorem dX6_set_13 : decode cX6_set 13 = .ok (.iconst 0, 1) := by decide +kernel
theorem dX6_set_14 : decode cX6_set 14 = .ok (.iload_n 1, 1) := by decide +kernel
theorem dX6_set_15 : decode cX6_set 15 = .ok (.invokestatic 95, 3) := by decide +kernel
theorem dX6_set_18 : decode cX6_set 18 = .ok (.invokestatic 45, 3) := by decide +kernel
theorem dX6_set_21 : decode cX6_set 21 = .ok (.ifCond .eq 7, 3) := by decide +kernel
theorem dX6_set_24 : decode cX6_set 24 = .ok (.iconst 0, 1) := by decide +kernel
theorem dX6_set_25 : decode cX6_set 25 = .ok (.goto 4, 3) := by decide +kernel
theorem dX6_set_28 : decode cX6_set 28 = .ok (.iconst 2, 1) := by decide +kernel
theorem dX6_set_29 : decode cX6_set 29 = .ok (.putfield 34, 3) := by decide +kernel
theorem dX6_set_32 : decode cX6_set 32 = .ok (.aload_n 0, 1) := by decide +kernel
theorem dX6_set_33 : decode cX6_set 33 = .ok (.getfield 34, 3) := by decide +kernel
theorem dX6_set_36 : decode cX6_set 36 = .ok (.ifCond .le 5, 3) := by decide +kernel
theorem dX6_set_39 : decode cX6_set 39 = .ok (.iconst 0, 1) := by decide +kernel
theorem dX6_set_40 : decode cX6_set 40 = .ok (.ireturn, 1) := by decide +kernel
theorem dX6_set_41 : decode cX6_set 41 = .ok (.aload_n 0, 1) := by decide +kernel
theorem dX6_set_42 : decode cX6_set 42 = .ok (.invokevirtual 59, 3) := by decide +kernel
theorem dX6_set_45 : decode cX6_set 45 = .ok (.aload_n 0, 1) := by decide +kernel
theorem dX6_set_46 : decode cX6_set 46 = .ok (.getfield 7, 3) := by decide +kernel
theorem dX6_set_49 : decode cX6_set 49 = .ok (.iconst 0, 1) := by decide +kernel
theorem dX6_set_50 : decode cX6_set 50 = .ok (.iload_n 1, 1) := by decide +kernel
theorem dX6_set_51 : decode cX6_set 51 = .ok (.iadd, 1) := by decide +kernel
theorem dX6_set_52 : decode cX6_set 52 = .ok (.iaload, 1) := by decide +kernel
theorem dX6_set_53 : decode cX6_set 53 = .ok (.istore_n 3, 1) := by decide +kernel
theorem dX6_set_54 : decode cX6_set 54 = .ok (.aload_n 0, 1) := by decide +kernel
theorem dX6_set_55 : decode cX6_set 55 = .ok (.getfield 7, 3) := by decide +kernel
theorem dX6_set_58 : decode cX6_set 58 = .ok (.iconst 0, 1) := by decide +kernel
theorem dX6_set_59 : decode cX6_set 59 = .ok (.iload_n 1, 1) := by decide +kernel
theorem dX6_set_60 : decode cX6_set 60 = .ok (.iadd, 1) := by decide +kernel
theorem dX6_set_61 : decode cX6_set 61 = .ok (.iload_n 2, 1) := by decide +kernel
theorem dX6_set_62 : decode cX6_set 62 = .ok (.iastore, 1) := by decide +kernel
theorem dX6_set_63 : decode cX6_set 63 = .ok (.iload_n 3, 1) := by decide +kernel
theorem dX6_set_64 : decode cX6_set 64 = .ok (.ireturn, 1) := by decide +kernel
theorem dX6_draw_0 : decode cX6_draw 0 = .ok (.aload_n 0, 1) := by decide +kernel
theorem dX6_draw_1 : decode cX6_draw 1 = .ok (.getfield 7, 3) := by decide +kernel
theorem dX6_draw_4 : decode cX6_draw 4 = .ok (.bipush 8, 2) := by decide +kernel
theorem dX6_draw_6 : decode cX6_draw 6 = .ok (.ldc2_w 98, 3) := by decide +kernel
theorem dX6_draw_9 : decode cX6_draw 9 = .ok (.aload_n 0, 1) := by decide +kernel
theorem dX6_draw_10 : decode cX6_draw 10 = .ok (.getfield 7, 3) := by decide +kernel
theorem dX6_draw_13 : decode cX6_draw 13 = .ok (.bipush 8, 2) := by decide +kernel
theorem dX6_draw_15 : decode cX6_draw 15 = .ok (.iaload, 1) := by decide +kernel
theorem dX6_draw_16 : decode cX6_draw 16 = .ok (.i2l, 1) := by decide +kernel
theorem dX6_draw_17 : decode cX6_draw 17 = .ok (.lmul, 1) := by decide +kernel
theorem dX6_draw_18 : decode cX6_draw 18 = .ok (.ldc2_w 100, 3) := by decide +kernel
theorem dX6_draw_21 : decode cX6_draw 21 = .ok (.ladd, 1) := by decide +kernel
theorem dX6_draw_22 : decode cX6_draw 22 = .ok (.ldc2_w 102, 3) := by decide +kernel
theorem dX6_draw_25 : decode cX6_draw 25 = .ok (.land, 1) := by decide +kernel
theorem dX6_draw_26 : decode cX6_draw 26 = .ok (.l2i, 1) := by decide +kernel
theorem dX6_draw_27 : decode cX6_draw 27 = .ok (.iastore, 1) := by decide +kernel
theorem dX6_draw_28 : decode cX6_draw 28 = .ok (.aload_n 0, 1) := by decide +kernel
theorem dX6_draw_29 : decode cX6_draw 29 = .ok (.getfield 7, 3) := by decide +kernel
theorem dX6_draw_32 : decode cX6_draw 32 = .ok (.bipush 8, 2) := by decide +kernel
theorem dX6_draw_34 : decode cX6_draw 34 = .ok (.iaload, 1) := by decide +kernel
theorem dX6_draw_35 : decode cX6_draw 35 = .ok (.ldc 104, 2) := by decide +kernel
theorem dX6_draw_37 : decode cX6_draw 37 = .ok (.idiv, 1) := by decide +kernel
theorem dX6_draw_38 : decode cX6_draw 38 = .ok (.iload_n 1, 1) := by decide +kernel
theorem dX6_draw_39 : decode cX6_draw 39 = .ok (.irem, 1) := by decide +kernel
theorem dX6_draw_40 : decode cX6_draw 40 = .ok (.ireturn, 1) := by decide +kernel
theorem dX6_apart_0 : decode cX6_apart 0 = .ok (.iload_n 0, 1) := by decide +kernel
theorem dX6_apart_1 : decode cX6_apart 1 = .ok (.iload_n 1, 1) := by decide +kernel
theorem dX6_apart_2 : decode cX6_apart 2 = .ok (.if_icmp .ge 9, 3) := by decide +kernel
theorem dX6_apart_5 : decode cX6_apart 5 = .ok (.iload_n 1, 1) := by decide +kernel
theorem dX6_apart_6 : decode cX6_apart 6 = .ok (.iload_n 0, 1) := by decide +kernel
theorem dX6_apart_7 : decode cX6_apart 7 = .ok (.isub, 1) := by decide +kernel
theorem dX6_apart_8 : decode cX6_apart 8 = .ok (.goto 6, 3) := by decide +kernel
theorem dX6_apart_11 : decode cX6_apart 11 = .ok (.iload_n 0, 1) := by decide +kernel
theorem dX6_apart_12 : decode cX6_apart 12 = .ok (.iload_n 1, 1) := by decide +kernel
theorem dX6_apart_13 : decode cX6_apart 13 = .ok (.isub, 1) := by decide +kernel
theorem dX6_apart_14 : decode cX6_apart 14 = .ok (.ireturn, 1) := by decide +kernel
set_option maxRecDepth 20000 in
theorem ggX6_gives_X6_ofFeeder : GoodIn wsX6_gives wsX6_ofFeeder := goodIn_r _ [5, 6, 7, 8, 9, 10, 11, 12, 13, 14, 15, 16, 17, 18, 19, 20, 21] (by decide +kernel) (by decide +kernel)
set_option maxRecDepth 20000 in
theorem gX6_gives_X6_ofFeeder : GoodIn wsX6_gives (wsV RX6 72 RX6 yX6_ofFeeder wsX6_ofFeeder) := goodIn_app (goodIn_of _ (by decide +kernel)) ggX6_gives_X6_ofFeeder
theorem dX6_gives_0 : decode cX6_gives 0 = .ok (.aload_n 0, 1) := by decide +kernel
theorem dX6_gives_1 : decode cX6_gives 1 = .ok (.iload_n 1, 1) := by decide +kernel
theorem dX6_gives_2 : decode cX6_gives 2 = .ok (.iconst 1, 1) := by decide +kernel
theorem dX6_gives_3 : decode cX6_gives 3 = .ok (.invokevirtual 72, 3) := by decide +kernel
theorem dX6_gives_6 : decode cX6_gives 6 = .ok (.iload_n 2, 1) := by decide +kernel
theorem dX6_gives_7 : decode cX6_gives 7 = .ok (.if_icmp .ne 16, 3) := by decide +kernel
