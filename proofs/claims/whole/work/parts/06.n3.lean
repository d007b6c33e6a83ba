theorem dX5_trust_18 : decode cX5_trust 18 = .ok (.invokevirtual 80, 3) := by decide +kernel
theorem dX5_trust_21 : decode cX5_trust 21 = .ok (.ireturn, 1) := by decide +kernel
set_option maxRecDepth 20000 in
theorem ggX5_count_X2_placesWith : GoodIn wsX5_count wsX2_placesWith := goodIn_r _ [19, 20, 21, 22, 23, 24, 25, 26, 27, 28, 45, 46, 47, 48, 49, 50, 51, 52, 53, 54, 55, 56, 59, 60] (by decide +kernel) (by decide +kernel)
set_option maxRecDepth 20000 in
theorem gX5_count_X2_placesWith : GoodIn wsX5_count (wsV RX5 96 RX2 yX2_placesWith wsX2_placesWith) := goodIn_app (goodIn_of _ (by decide +kernel)) ggX5_count_X2_placesWith
set_option maxRecDepth 20000 in
theorem ggX5_count_X2_misses : GoodIn wsX5_count wsX2_misses := goodIn_r _ [32, 33, 34, 35, 36, 25, 37, 38, 23, 24, 26, 27, 28, 45, 46, 47, 48, 49, 50, 51, 52, 53, 54, 55, 56, 59, 60] (by decide +kernel) (by decide +kernel)
set_option maxRecDepth 20000 in
theorem gX5_count_X2_misses : GoodIn wsX5_count (wsV RX5 179 RX2 yX2_misses wsX2_misses) := goodIn_app (goodIn_of _ (by decide +kernel)) ggX5_count_X2_misses
set_option maxRecDepth 20000 in
theorem ggX5_count_X3_sum : GoodIn wsX5_count wsX3_sum := goodIn_r _ [37, 38, 23, 24, 25, 26, 27, 28, 59, 60] (by decide +kernel) (by decide +kernel)
set_option maxRecDepth 20000 in
theorem gX5_count_X3_sum : GoodIn wsX5_count (wsV RX5 156 RX3 yX3_sum wsX3_sum) := goodIn_app (goodIn_of _ (by decide +kernel)) ggX5_count_X3_sum
theorem dX5_count_0 : decode cX5_count 0 = .ok (.iload_n 1, 1) := by decide +kernel
theorem dX5_count_1 : decode cX5_count 1 = .ok (.tableswitch 202 0 13 #[71, 79, 87, 95, 103, 111, 119, 128, 137, 146, 154, 167, 175, 194], 71) := by decide +kernel
theorem dX5_count_72 : decode cX5_count 72 = .ok (.aload_n 0, 1) := by decide +kernel
theorem dX5_count_73 : decode cX5_count 73 = .ok (.getfield 10, 3) := by decide +kernel
theorem dX5_count_76 : decode cX5_count 76 = .ok (.getfield 44, 3) := by decide +kernel
theorem dX5_count_79 : decode cX5_count 79 = .ok (.ireturn, 1) := by decide +kernel
theorem dX5_count_80 : decode cX5_count 80 = .ok (.aload_n 0, 1) := by decide +kernel
theorem dX5_count_81 : decode cX5_count 81 = .ok (.getfield 10, 3) := by decide +kernel
theorem dX5_count_84 : decode cX5_count 84 = .ok (.getfield 63, 3) := by decide +kernel
theorem dX5_count_87 : decode cX5_count 87 = .ok (.ireturn, 1) := by decide +kernel
theorem dX5_count_88 : decode cX5_count 88 = .ok (.aload_n 0, 1) := by decide +kernel
theorem dX5_count_89 : decode cX5_count 89 = .ok (.getfield 10, 3) := by decide +kernel
theorem dX5_count_92 : decode cX5_count 92 = .ok (.getfield 167, 3) := by decide +kernel
theorem dX5_count_95 : decode cX5_count 95 = .ok (.ireturn, 1) := by decide +kernel
theorem dX5_count_96 : decode cX5_count 96 = .ok (.aload_n 0, 1) := by decide +kernel
theorem dX5_count_97 : decode cX5_count 97 = .ok (.getfield 10, 3) := by decide +kernel
theorem dX5_count_100 : decode cX5_count 100 = .ok (.getfield 170, 3) := by decide +kernel
theorem dX5_count_103 : decode cX5_count 103 = .ok (.ireturn, 1) := by decide +kernel
theorem dX5_count_104 : decode cX5_count 104 = .ok (.aload_n 0, 1) := by decide +kernel
theorem dX5_count_105 : decode cX5_count 105 = .ok (.getfield 10, 3) := by decide +kernel
theorem dX5_count_108 : decode cX5_count 108 = .ok (.getfield 173, 3) := by decide +kernel
theorem dX5_count_111 : decode cX5_count 111 = .ok (.ireturn, 1) := by decide +kernel
theorem dX5_count_112 : decode cX5_count 112 = .ok (.aload_n 0, 1) := by decide +kernel
theorem dX5_count_113 : decode cX5_count 113 = .ok (.getfield 10, 3) := by decide +kernel
theorem dX5_count_116 : decode cX5_count 116 = .ok (.getfield 176, 3) := by decide +kernel
theorem dX5_count_119 : decode cX5_count 119 = .ok (.ireturn, 1) := by decide +kernel
theorem dX5_count_120 : decode cX5_count 120 = .ok (.aload_n 0, 1) := by decide +kernel
theorem dX5_count_121 : decode cX5_count 121 = .ok (.getfield 10, 3) := by decide +kernel
theorem dX5_count_124 : decode cX5_count 124 = .ok (.iconst 0, 1) := by decide +kernel
theorem dX5_count_125 : decode cX5_count 125 = .ok (.invokevirtual 96, 3) := by decide +kernel
theorem dX5_count_128 : decode cX5_count 128 = .ok (.ireturn, 1) := by decide +kernel
theorem dX5_count_129 : decode cX5_count 129 = .ok (.aload_n 0, 1) := by decide +kernel
theorem dX5_count_130 : decode cX5_count 130 = .ok (.getfield 10, 3) := by decide +kernel
theorem dX5_count_133 : decode cX5_count 133 = .ok (.iconst 1, 1) := by decide +kernel
theorem dX5_count_134 : decode cX5_count 134 = .ok (.invokevirtual 96, 3) := by decide +kernel
theorem dX5_count_137 : decode cX5_count 137 = .ok (.ireturn, 1) := by decide +kernel
theorem dX5_count_138 : decode cX5_count 138 = .ok (.aload_n 0, 1) := by decide +kernel
theorem dX5_count_139 : decode cX5_count 139 = .ok (.getfield 10, 3) := by decide +kernel
theorem dX5_count_142 : decode cX5_count 142 = .ok (.iconst 2, 1) := by decide +kernel
theorem dX5_count_143 : decode cX5_count 143 = .ok (.invokevirtual 96, 3) := by decide +kernel
theorem dX5_count_146 : decode cX5_count 146 = .ok (.ireturn, 1) := by decide +kernel
theorem dX5_count_147 : decode cX5_count 147 = .ok (.aload_n 0, 1) := by decide +kernel
theorem dX5_count_148 : decode cX5_count 148 = .ok (.getfield 10, 3) := by decide +kernel
theorem dX5_count_151 : decode cX5_count 151 = .ok (.invokevirtual 179, 3) := by decide +kernel
theorem dX5_count_154 : decode cX5_count 154 = .ok (.ireturn, 1) := by decide +kernel
theorem dX5_count_155 : decode cX5_count 155 = .ok (.aload_n 0, 1) := by decide +kernel
theorem dX5_count_156 : decode cX5_count 156 = .ok (.getfield 10, 3) := by decide +kernel
theorem dX5_count_159 : decode cX5_count 159 = .ok (.getfield 93, 3) := by decide +kernel
theorem dX5_count_162 : decode cX5_count 162 = .ok (.iconst 4, 1) := by decide +kernel
theorem dX5_count_163 : decode cX5_count 163 = .ok (.iconst 4, 1) := by decide +kernel
theorem dX5_count_164 : decode cX5_count 164 = .ok (.invokevirtual 156, 3) := by decide +kernel
theorem dX5_count_167 : decode cX5_count 167 = .ok (.ireturn, 1) := by decide +kernel
theorem dX5_count_168 : decode cX5_count 168 = .ok (.aload_n 0, 1) := by decide +kernel
theorem dX5_count_169 : decode cX5_count 169 = .ok (.getfield 10, 3) := by decide +kernel
theorem dX5_count_172 : decode cX5_count 172 = .ok (.getfield 182, 3) := by decide +kernel
theorem dX5_count_175 : decode cX5_count 175 = .ok (.ireturn, 1) := by decide +kernel
theorem dX5_count_176 : decode cX5_count 176 = .ok (.aload_n 0, 1) := by decide +kernel
theorem dX5_count_177 : decode cX5_count 177 = .ok (.getfield 10, 3) := by decide +kernel
theorem dX5_count_180 : decode cX5_count 180 = .ok (.getfield 76, 3) := by decide +kernel
theorem dX5_count_183 : decode cX5_count 183 = .ok (.aload_n 0, 1) := by decide +kernel
theorem dX5_count_184 : decode cX5_count 184 = .ok (.getfield 10, 3) := by decide +kernel
theorem dX5_count_187 : decode cX5_count 187 = .ok (.getfield 44, 3) := by decide +kernel
theorem dX5_count_190 : decode cX5_count 190 = .ok (.iconst 2, 1) := by decide +kernel
theorem dX5_count_191 : decode cX5_count 191 = .ok (.invokevirtual 156, 3) := by decide +kernel
theorem dX5_count_194 : decode cX5_count 194 = .ok (.ireturn, 1) := by decide +kernel
theorem dX5_count_195 : decode cX5_count 195 = .ok (.aload_n 0, 1) := by decide +kernel
theorem dX5_count_196 : decode cX5_count 196 = .ok (.getfield 29, 3) := by decide +kernel
theorem dX5_count_199 : decode cX5_count 199 = .ok (.getfield 150, 3) := by decide +kernel
theorem dX5_count_202 : decode cX5_count 202 = .ok (.ireturn, 1) := by decide +kernel
theorem dX5_count_203 : decode cX5_count 203 = .ok (.new 136, 3) := by decide +kernel
theorem dX5_count_206 : decode cX5_count 206 = .ok (.dup, 1) := by decide +kernel
theorem dX5_count_207 : decode cX5_count 207 = .ok (.ldc 185, 2) := by decide +kernel
theorem dX5_count_209 : decode cX5_count 209 = .ok (.invokespecial 140, 3) := by decide +kernel
theorem dX5_count_212 : decode cX5_count 212 = .ok (.athrow, 1) := by decide +kernel
set_option maxRecDepth 20000 in
theorem ggX5_setting_X5_checkSetting : GoodIn wsX5_setting wsX5_checkSetting := goodIn_ca (goodIn_r _ [6, 7, 8] (by decide +kernel) (by decide +kernel)) (goodIn_sub (fun _ h => List.mem_cons_of_mem _ (List.mem_append_right _ h)) (by decide +kernel))
set_option maxRecDepth 20000 in
theorem gX5_setting_X5_checkSetting : GoodIn wsX5_setting (va_wsS RX5 103 yX5_checkSetting wsX5_checkSetting) := goodIn_app (goodIn_of _ (by decide +kernel)) ggX5_setting_X5_checkSetting
theorem dX5_setting_0 : decode cX5_setting 0 = .ok (.iload_n 1, 1) := by decide +kernel
theorem dX5_setting_1 : decode cX5_setting 1 = .ok (.invokestatic 103, 3) := by decide +kernel
theorem dX5_setting_4 : decode cX5_setting 4 = .ok (.aload_n 0, 1) := by decide +kernel
theorem dX5_setting_5 : decode cX5_setting 5 = .ok (.getfield 10, 3) := by decide +kernel
theorem dX5_setting_8 : decode cX5_setting 8 = .ok (.getfield 110, 3) := by decide +kernel
theorem dX5_setting_11 : decode cX5_setting 11 = .ok (.iload_n 1, 1) := by decide +kernel
theorem dX5_setting_12 : decode cX5_setting 12 = .ok (.iaload, 1) := by decide +kernel
theorem dX5_setting_13 : decode cX5_setting 13 = .ok (.ireturn, 1) := by decide +kernel
set_option maxRecDepth 20000 in
theorem ggX5_ifToured_X5_checkRange : GoodIn wsX5_ifToured wsX5_checkRange := goodIn_ca (goodIn_r _ [8, 9, 10] (by decide +kernel) (by decide +kernel)) (goodIn_sub (fun _ h => List.mem_cons_of_mem _ (List.mem_append_right _ h)) (by decide +kernel))
set_option maxRecDepth 20000 in
theorem gX5_ifToured_X5_checkRange : GoodIn wsX5_ifToured (va_wsS RX5 40 yX5_checkRange wsX5_checkRange) := goodIn_app (goodIn_of _ (by decide +kernel)) ggX5_ifToured_X5_checkRange
set_option maxRecDepth 20000 in
theorem ggX5_ifToured_X2_copyFrom : GoodIn wsX5_ifToured wsX2_copyFrom := goodIn_r _ [15, 16, 17, 18, 19, 20, 21, 22, 23, 24, 25, 26, 27, 28, 29, 30, 31, 32, 33, 34, 35, 36, 37, 38, 39, 40, 41, 42, 162, 163, 164, 165, 166, 167, 168, 169, 170, 171, 172, 173, 174, 175] (by decide +kernel) (by decide +kernel)
set_option maxRecDepth 20000 in
theorem gX5_ifToured_X2_copyFrom : GoodIn wsX5_ifToured (wsV RX5 187 RX2 yX2_copyFrom wsX2_copyFrom) := goodIn_app (goodIn_of _ (by decide +kernel)) ggX5_ifToured_X2_copyFrom
set_option maxRecDepth 20000 in
theorem ggX5_ifToured_X4_make : GoodIn wsX5_ifToured wsX4_make := goodIn_r _ [47, 48, 49, 50, 51, 46, 52, 53, 54, 55, 56, 57, 14, 58, 16, 28, 59, 60, 61, 35, 62, 63, 37, 64, 65, 66, 67, 68, 69, 70, 71, 72, 73, 74, 75, 76, 77, 78, 79, 80, 81, 82, 83, 84, 31, 20, 85, 86, 40, 87, 88, 89, 90, 91, 92, 93, 94, 95, 96, 18, 97, 98, 99, 100, 101, 102, 103, 104, 105, 106, 107, 108, 109, 110, 19, 111, 112, 113, 114, 115, 116, 117, 23, 118, 119, 120, 121, 122, 123, 124, 125, 126, 39, 41, 127, 128, 129, 130, 131, 132, 133, 134, 135, 136, 137, 138, 139, 140, 141, 142, 143, 144, 162, 163, 164, 165, 166, 167, 168, 169, 170, 171, 172, 173, 176, 177, 178, 174, 175] (by decide +kernel) (by decide +kernel)
set_option maxRecDepth 20000 in
theorem gX5_ifToured_X4_make : GoodIn wsX5_ifToured (wsV RX5 113 RX4 yX4_make wsX4_make) := goodIn_app (goodIn_of _ (by decide +kernel)) ggX5_ifToured_X4_make
set_option maxRecDepth 20000 in
theorem ggX5_ifToured_X2_misses : GoodIn wsX5_ifToured wsX2_misses := goodIn_r _ [148, 30, 149, 150, 151, 35, 152, 101, 60, 61, 62, 63, 37, 162, 163, 164, 165, 166, 167, 168, 169, 170, 171, 172, 173, 174, 175] (by decide +kernel) (by decide +kernel)
set_option maxRecDepth 20000 in
theorem gX5_ifToured_X2_misses : GoodIn wsX5_ifToured (wsV RX5 179 RX2 yX2_misses wsX2_misses) := goodIn_app (goodIn_of _ (by decide +kernel)) ggX5_ifToured_X2_misses
set_option maxRecDepth 20000 in
theorem ggX5_ifToured_X2_placesWith : GoodIn wsX5_ifToured wsX2_placesWith := goodIn_r _ [156, 17, 29, 59, 60, 61, 35, 62, 63, 37, 162, 163, 164, 165, 166, 167, 168, 169, 170, 171, 172, 173, 174, 175] (by decide +kernel) (by decide +kernel)
set_option maxRecDepth 20000 in
theorem gX5_ifToured_X2_placesWith : GoodIn wsX5_ifToured (wsV RX5 96 RX2 yX2_placesWith wsX2_placesWith) := goodIn_app (goodIn_of _ (by decide +kernel)) ggX5_ifToured_X2_placesWith
theorem dX5_ifToured_0 : decode cX5_ifToured 0 = .ok (.iload_n 1, 1) := by decide +kernel
theorem dX5_ifToured_1 : decode cX5_ifToured 1 = .ok (.iconst 1, 1) := by decide +kernel
theorem dX5_ifToured_2 : decode cX5_ifToured 2 = .ok (.bipush 20, 2) := by decide +kernel
theorem dX5_ifToured_4 : decode cX5_ifToured 4 = .ok (.invokestatic 40, 3) := by decide +kernel
theorem dX5_ifToured_7 : decode cX5_ifToured 7 = .ok (.iload_n 2, 1) := by decide +kernel
theorem dX5_ifToured_8 : decode cX5_ifToured 8 = .ok (.iconst 0, 1) := by decide +kernel
theorem dX5_ifToured_9 : decode cX5_ifToured 9 = .ok (.iconst 3, 1) := by decide +kernel
theorem dX5_ifToured_10 : decode cX5_ifToured 10 = .ok (.invokestatic 40, 3) := by decide +kernel
theorem dX5_ifToured_13 : decode cX5_ifToured 13 = .ok (.aload_n 0, 1) := by decide +kernel
theorem dX5_ifToured_14 : decode cX5_ifToured 14 = .ok (.getfield 16, 3) := by decide +kernel
theorem dX5_ifToured_17 : decode cX5_ifToured 17 = .ok (.aload_n 0, 1) := by decide +kernel
theorem dX5_ifToured_18 : decode cX5_ifToured 18 = .ok (.getfield 10, 3) := by decide +kernel
theorem dX5_ifToured_21 : decode cX5_ifToured 21 = .ok (.invokevirtual 187, 3) := by decide +kernel
theorem dX5_ifToured_24 : decode cX5_ifToured 24 = .ok (.aload_n 0, 1) := by decide +kernel
theorem dX5_ifToured_25 : decode cX5_ifToured 25 = .ok (.getfield 22, 3) := by decide +kernel
theorem dX5_ifToured_28 : decode cX5_ifToured 28 = .ok (.aload_n 0, 1) := by decide +kernel
theorem dX5_ifToured_29 : decode cX5_ifToured 29 = .ok (.getfield 16, 3) := by decide +kernel
theorem dX5_ifToured_32 : decode cX5_ifToured 32 = .ok (.iload_n 1, 1) := by decide +kernel
theorem dX5_ifToured_33 : decode cX5_ifToured 33 = .ok (.invokevirtual 113, 3) := by decide +kernel
theorem dX5_ifToured_36 : decode cX5_ifToured 36 = .ok (.istore_n 3, 1) := by decide +kernel
theorem dX5_ifToured_37 : decode cX5_ifToured 37 = .ok (.iload_n 2, 1) := by decide +kernel
theorem dX5_ifToured_38 : decode cX5_ifToured 38 = .ok (.tableswitch 60 0 2 #[26, 28, 44], 26) := by decide +kernel
theorem dX5_ifToured_64 : decode cX5_ifToured 64 = .ok (.iload_n 3, 1) := by decide +kernel
theorem dX5_ifToured_65 : decode cX5_ifToured 65 = .ok (.ireturn, 1) := by decide +kernel
theorem dX5_ifToured_66 : decode cX5_ifToured 66 = .ok (.aload_n 0, 1) := by decide +kernel
theorem dX5_ifToured_67 : decode cX5_ifToured 67 = .ok (.getfield 16, 3) := by decide +kernel
theorem dX5_ifToured_70 : decode cX5_ifToured 70 = .ok (.invokevirtual 179, 3) := by decide +kernel
theorem dX5_ifToured_73 : decode cX5_ifToured 73 = .ok (.aload_n 0, 1) := by decide +kernel
theorem dX5_ifToured_74 : decode cX5_ifToured 74 = .ok (.getfield 10, 3) := by decide +kernel
theorem dX5_ifToured_77 : decode cX5_ifToured 77 = .ok (.invokevirtual 179, 3) := by decide +kernel
theorem dX5_ifToured_80 : decode cX5_ifToured 80 = .ok (.isub, 1) := by decide +kernel
theorem dX5_ifToured_81 : decode cX5_ifToured 81 = .ok (.ireturn, 1) := by decide +kernel
theorem dX5_ifToured_82 : decode cX5_ifToured 82 = .ok (.aload_n 0, 1) := by decide +kernel
theorem dX5_ifToured_83 : decode cX5_ifToured 83 = .ok (.getfield 16, 3) := by decide +kernel
theorem dX5_ifToured_86 : decode cX5_ifToured 86 = .ok (.getfield 167, 3) := by decide +kernel
theorem dX5_ifToured_89 : decode cX5_ifToured 89 = .ok (.aload_n 0, 1) := by decide +kernel
theorem dX5_ifToured_90 : decode cX5_ifToured 90 = .ok (.getfield 10, 3) := by decide +kernel
theorem dX5_ifToured_93 : decode cX5_ifToured 93 = .ok (.getfield 167, 3) := by decide +kernel
theorem dX5_ifToured_96 : decode cX5_ifToured 96 = .ok (.isub, 1) := by decide +kernel
theorem dX5_ifToured_97 : decode cX5_ifToured 97 = .ok (.ireturn, 1) := by decide +kernel
theorem dX5_ifToured_98 : decode cX5_ifToured 98 = .ok (.aload_n 0, 1) := by decide +kernel
theorem dX5_ifToured_99 : decode cX5_ifToured 99 = .ok (.getfield 16, 3) := by decide +kernel
theorem dX5_ifToured_102 : decode cX5_ifToured 102 = .ok (.iconst 1, 1) := by decide +kernel
theorem dX5_ifToured_103 : decode cX5_ifToured 103 = .ok (.invokevirtual 96, 3) := by decide +kernel
theorem dX5_ifToured_106 : decode cX5_ifToured 106 = .ok (.ireturn, 1) := by decide +kernel
set_option maxRecDepth 20000 in
theorem ggX5_choice_X5_checkNozzle : GoodIn wsX5_choice wsX5_checkNozzle := goodIn_ca (goodIn_r _ [5, 6, 7] (by decide +kernel) (by decide +kernel)) (goodIn_sub (fun _ h => List.mem_cons_of_mem _ (List.mem_append_left _ (List.mem_append_right _ h))) (by decide +kernel))
set_option maxRecDepth 20000 in
theorem gX5_choice_X5_checkNozzle : GoodIn wsX5_choice (va_wsS RX5 90 yX5_checkNozzle wsX5_checkNozzle) := goodIn_app (goodIn_of _ (by decide +kernel)) ggX5_choice_X5_checkNozzle
set_option maxRecDepth 20000 in
theorem ggX5_choice_X5_checkRange : GoodIn wsX5_choice wsX5_checkRange := goodIn_ca (goodIn_r _ [10, 11, 12] (by decide +kernel) (by decide +kernel)) (goodIn_sub (fun _ h => List.mem_cons_of_mem _ (List.mem_append_right _ h)) (by decide +kernel))
set_option maxRecDepth 20000 in
theorem gX5_choice_X5_checkRange : GoodIn wsX5_choice (va_wsS RX5 40 yX5_checkRange wsX5_checkRange) := goodIn_app (goodIn_of _ (by decide +kernel)) ggX5_choice_X5_checkRange
set_option maxRecDepth 20000 in
theorem ggX5_choice_X2_favorite : GoodIn wsX5_choice wsX2_favorite := goodIn_r _ [17, 18, 19, 20, 21, 22, 23, 24, 25, 26, 27, 28, 29, 16, 30, 31, 32, 33, 34, 35, 36, 42, 43, 44, 45, 46, 47, 48, 49, 50, 51, 52, 53, 54, 55] (by decide +kernel) (by decide +kernel)
set_option maxRecDepth 20000 in
theorem gX5_choice_X2_favorite : GoodIn wsX5_choice (wsV RX5 190 RX2 yX2_favorite wsX2_favorite) := goodIn_app (goodIn_of _ (by decide +kernel)) ggX5_choice_X2_favorite
theorem dX5_choice_0 : decode cX5_choice 0 = .ok (.iload_n 1, 1) := by decide +kernel
theorem dX5_choice_1 : decode cX5_choice 1 = .ok (.invokestatic 90, 3) := by decide +kernel
theorem dX5_choice_4 : decode cX5_choice 4 = .ok (.iload_n 2, 1) := by decide +kernel
theorem dX5_choice_5 : decode cX5_choice 5 = .ok (.iconst 0, 1) := by decide +kernel
theorem dX5_choice_6 : decode cX5_choice 6 = .ok (.iconst 5, 1) := by decide +kernel
theorem dX5_choice_7 : decode cX5_choice 7 = .ok (.invokestatic 40, 3) := by decide +kernel
theorem dX5_choice_10 : decode cX5_choice 10 = .ok (.aload_n 0, 1) := by decide +kernel
theorem dX5_choice_11 : decode cX5_choice 11 = .ok (.getfield 10, 3) := by decide +kernel
theorem dX5_choice_14 : decode cX5_choice 14 = .ok (.iload_n 1, 1) := by decide +kernel
theorem dX5_choice_15 : decode cX5_choice 15 = .ok (.iload_n 2, 1) := by decide +kernel
theorem dX5_choice_16 : decode cX5_choice 16 = .ok (.invokevirtual 190, 3) := by decide +kernel
theorem dX5_choice_19 : decode cX5_choice 19 = .ok (.ireturn, 1) := by decide +kernel
set_option maxRecDepth 20000 in
theorem ggX5_aim_X5_checkNozzle : GoodIn wsX5_aim wsX5_checkNozzle := goodIn_ca (goodIn_r _ [7, 8, 9] (by decide +kernel) (by decide +kernel)) (goodIn_sub (fun _ h => List.mem_cons_of_mem _ (List.mem_append_right _ h)) (by decide +kernel))
set_option maxRecDepth 20000 in
theorem gX5_aim_X5_checkNozzle : GoodIn wsX5_aim (va_wsS RX5 90 yX5_checkNozzle wsX5_checkNozzle) := goodIn_app (goodIn_of _ (by decide +kernel)) ggX5_aim_X5_checkNozzle
set_option maxRecDepth 20000 in
theorem ggX5_aim_X4_chooseAims : GoodIn wsX5_aim wsX4_chooseAims := goodIn_r _ [14, 15, 16, 17, 18, 19, 20, 21, 22, 23, 24, 25, 26, 27, 28, 29, 30, 31, 32, 33, 13, 34, 35, 36, 45, 46, 47, 48, 49, 50, 51, 52, 53, 54, 55, 56, 42, 43, 44, 57, 58] (by decide +kernel) (by decide +kernel)
set_option maxRecDepth 20000 in
theorem gX5_aim_X4_chooseAims : GoodIn wsX5_aim (wsV RX5 193 RX4 yX4_chooseAims wsX4_chooseAims) := goodIn_app (goodIn_of _ (by decide +kernel)) ggX5_aim_X4_chooseAims
theorem dX5_aim_0 : decode cX5_aim 0 = .ok (.iload_n 1, 1) := by decide +kernel
theorem dX5_aim_1 : decode cX5_aim 1 = .ok (.invokestatic 90, 3) := by decide +kernel
theorem dX5_aim_4 : decode cX5_aim 4 = .ok (.aload_n 0, 1) := by decide +kernel
theorem dX5_aim_5 : decode cX5_aim 5 = .ok (.getfield 22, 3) := by decide +kernel
theorem dX5_aim_8 : decode cX5_aim 8 = .ok (.aload_n 0, 1) := by decide +kernel
theorem dX5_aim_9 : decode cX5_aim 9 = .ok (.getfield 10, 3) := by decide +kernel
theorem dX5_aim_12 : decode cX5_aim 12 = .ok (.invokevirtual 193, 3) := by decide +kernel
theorem dX5_aim_15 : decode cX5_aim 15 = .ok (.aload_n 0, 1) := by decide +kernel
theorem dX5_aim_16 : decode cX5_aim 16 = .ok (.getfield 22, 3) := by decide +kernel
theorem dX5_aim_19 : decode cX5_aim 19 = .ok (.getfield 196, 3) := by decide +kernel
theorem dX5_aim_22 : decode cX5_aim 22 = .ok (.iload_n 1, 1) := by decide +kernel
theorem dX5_aim_23 : decode cX5_aim 23 = .ok (.iaload, 1) := by decide +kernel
theorem dX5_aim_24 : decode cX5_aim 24 = .ok (.ireturn, 1) := by decide +kernel
set_option maxRecDepth 20000 in
theorem ggX5_needed_X2_copyFrom : GoodIn wsX5_needed wsX2_copyFrom := goodIn_r _ [9, 10, 11, 12, 13, 14, 15, 16, 17, 18, 19, 20, 21, 22, 23, 24, 25, 26, 27, 28, 29, 30, 31, 32, 33, 34, 35, 36, 157, 158, 159, 160, 161, 162, 163, 164, 165, 166, 167, 168, 169, 170] (by decide +kernel) (by decide +kernel)
set_option maxRecDepth 20000 in
theorem gX5_needed_X2_copyFrom : GoodIn wsX5_needed (wsV RX5 187 RX2 yX2_copyFrom wsX2_copyFrom) := goodIn_app (goodIn_of _ (by decide +kernel)) ggX5_needed_X2_copyFrom
set_option maxRecDepth 20000 in
theorem ggX5_needed_X2_placesWith : GoodIn wsX5_needed wsX2_placesWith := goodIn_r _ [40, 11, 23, 41, 42, 43, 29, 44, 45, 31, 157, 158, 159, 160, 161, 162, 163, 164, 165, 166, 167, 168, 169, 170] (by decide +kernel) (by decide +kernel)
set_option maxRecDepth 20000 in
theorem gX5_needed_X2_placesWith : GoodIn wsX5_needed (wsV RX5 96 RX2 yX2_placesWith wsX2_placesWith) := goodIn_app (goodIn_of _ (by decide +kernel)) ggX5_needed_X2_placesWith
set_option maxRecDepth 20000 in
theorem ggX5_needed_X4_make : GoodIn wsX5_needed wsX4_make := goodIn_r _ [50, 51, 52, 53, 54, 49, 55, 56, 57, 58, 59, 60, 8, 61, 10, 22, 41, 42, 43, 29, 44, 45, 31, 62, 63, 64, 65, 66, 67, 68, 69, 70, 71, 72, 73, 74, 75, 76, 77, 78, 79, 80, 81, 82, 25, 14, 83, 84, 34, 85, 86, 87, 88, 89, 90, 91, 92, 93, 94, 12, 95, 96, 97, 98, 99, 100, 101, 102, 103, 104, 105, 106, 107, 108, 13, 109, 110, 111, 112, 113, 114, 115, 17, 116, 117, 118, 119, 120, 121, 122, 123, 124, 33, 35, 125, 126, 127, 128, 129, 130, 131, 132, 133, 134, 135, 136, 137, 138, 139, 140, 141, 142, 157, 158, 159, 160, 161, 162, 163, 164, 165, 166, 167, 168, 171, 172, 173, 169, 170] (by decide +kernel) (by decide +kernel)
set_option maxRecDepth 20000 in
theorem gX5_needed_X4_make : GoodIn wsX5_needed (wsV RX5 113 RX4 yX4_make wsX4_make) := goodIn_app (goodIn_of _ (by decide +kernel)) ggX5_needed_X4_make
set_option maxRecDepth 20000 in
theorem ggX5_needed_X2_takeOffWrong : GoodIn wsX5_needed wsX2_takeOffWrong := goodIn_r _ [146, 11, 23, 16, 12, 41, 42, 43, 29, 44, 45, 31, 147, 113, 114, 8, 115, 25, 17, 116, 117, 34, 118, 119, 101, 102, 103, 148, 149, 150, 151, 157, 158, 159, 160, 161, 162, 163, 164, 165, 166, 167, 168, 169, 170] (by decide +kernel) (by decide +kernel)
set_option maxRecDepth 20000 in
theorem gX5_needed_X2_takeOffWrong : GoodIn wsX5_needed (wsV RX5 117 RX2 yX2_takeOffWrong wsX2_takeOffWrong) := goodIn_app (goodIn_of _ (by decide +kernel)) ggX5_needed_X2_takeOffWrong
theorem dX5_needed_0 : decode cX5_needed 0 = .ok (.aload_n 0, 1) := by decide +kernel
theorem dX5_needed_1 : decode cX5_needed 1 = .ok (.getfield 16, 3) := by decide +kernel
theorem dX5_needed_4 : decode cX5_needed 4 = .ok (.aload_n 0, 1) := by decide +kernel
theorem dX5_needed_5 : decode cX5_needed 5 = .ok (.getfield 10, 3) := by decide +kernel
theorem dX5_needed_8 : decode cX5_needed 8 = .ok (.invokevirtual 187, 3) := by decide +kernel
theorem dX5_needed_11 : decode cX5_needed 11 = .ok (.iconst 0, 1) := by decide +kernel
theorem dX5_needed_12 : decode cX5_needed 12 = .ok (.istore_n 1, 1) := by decide +kernel
theorem dX5_needed_13 : decode cX5_needed 13 = .ok (.iload_n 1, 1) := by decide +kernel
theorem dX5_needed_14 : decode cX5_needed 14 = .ok (.bipush 40, 2) := by decide +kernel
theorem dX5_needed_16 : decode cX5_needed 16 = .ok (.if_icmp .gt 50, 3) := by decide +kernel
theorem dX5_needed_19 : decode cX5_needed 19 = .ok (.aload_n 0, 1) := by decide +kernel
theorem dX5_needed_20 : decode cX5_needed 20 = .ok (.getfield 16, 3) := by decide +kernel
theorem dX5_needed_23 : decode cX5_needed 23 = .ok (.iconst 1, 1) := by decide +kernel
theorem dX5_needed_24 : decode cX5_needed 24 = .ok (.invokevirtual 96, 3) := by decide +kernel
theorem dX5_needed_27 : decode cX5_needed 27 = .ok (.aload_n 0, 1) := by decide +kernel
theorem dX5_needed_28 : decode cX5_needed 28 = .ok (.getfield 16, 3) := by decide +kernel
theorem dX5_needed_31 : decode cX5_needed 31 = .ok (.getfield 63, 3) := by decide +kernel
theorem dX5_needed_34 : decode cX5_needed 34 = .ok (.if_icmp .ne 5, 3) := by decide +kernel
theorem dX5_needed_37 : decode cX5_needed 37 = .ok (.iload_n 1, 1) := by decide +kernel
theorem dX5_needed_38 : decode cX5_needed 38 = .ok (.ireturn, 1) := by decide +kernel
theorem dX5_needed_39 : decode cX5_needed 39 = .ok (.aload_n 0, 1) := by decide +kernel
theorem dX5_needed_40 : decode cX5_needed 40 = .ok (.getfield 22, 3) := by decide +kernel
theorem dX5_needed_43 : decode cX5_needed 43 = .ok (.aload_n 0, 1) := by decide +kernel
theorem dX5_needed_44 : decode cX5_needed 44 = .ok (.getfield 16, 3) := by decide +kernel
theorem dX5_needed_47 : decode cX5_needed 47 = .ok (.iconst 1, 1) := by decide +kernel
theorem dX5_needed_48 : decode cX5_needed 48 = .ok (.invokevirtual 113, 3) := by decide +kernel
theorem dX5_needed_51 : decode cX5_needed 51 = .ok (.pop, 1) := by decide +kernel
theorem dX5_needed_52 : decode cX5_needed 52 = .ok (.aload_n 0, 1) := by decide +kernel
theorem dX5_needed_53 : decode cX5_needed 53 = .ok (.getfield 16, 3) := by decide +kernel
theorem dX5_needed_56 : decode cX5_needed 56 = .ok (.invokevirtual 117, 3) := by decide +kernel
theorem dX5_needed_59 : decode cX5_needed 59 = .ok (.pop, 1) := by decide +kernel
theorem dX5_needed_60 : decode cX5_needed 60 = .ok (.iinc 1 1, 3) := by decide +kernel
theorem dX5_needed_63 : decode cX5_needed 63 = .ok (.goto (-50), 3) := by decide +kernel
theorem dX5_needed_66 : decode cX5_needed 66 = .ok (.iconst (-1), 1) := by decide +kernel
theorem dX5_needed_67 : decode cX5_needed 67 = .ok (.ireturn, 1) := by decide +kernel
set_option maxRecDepth 20000 in
theorem ggX5_rumored_X2_trustSpread : GoodIn wsX5_rumored wsX2_trustSpread := goodIn_r _ [7, 8, 9, 10, 11, 12, 13, 14, 15, 16, 17, 18, 19, 20, 21, 22, 28, 29, 30, 31, 32, 33, 34, 35, 36, 37, 38, 39, 40, 41] (by decide +kernel) (by decide +kernel)
set_option maxRecDepth 20000 in
theorem gX5_rumored_X2_trustSpread : GoodIn wsX5_rumored (wsV RX5 199 RX2 yX2_trustSpread wsX2_trustSpread) := goodIn_app (goodIn_of _ (by decide +kernel)) ggX5_rumored_X2_trustSpread
theorem dX5_rumored_0 : decode cX5_rumored 0 = .ok (.iconst (-1), 1) := by decide +kernel
theorem dX5_rumored_1 : decode cX5_rumored 1 = .ok (.istore_n 1, 1) := by decide +kernel
theorem dX5_rumored_2 : decode cX5_rumored 2 = .ok (.iconst (-1), 1) := by decide +kernel
theorem dX5_rumored_3 : decode cX5_rumored 3 = .ok (.istore_n 2, 1) := by decide +kernel
theorem dX5_rumored_4 : decode cX5_rumored 4 = .ok (.iconst 0, 1) := by decide +kernel
theorem dX5_rumored_5 : decode cX5_rumored 5 = .ok (.istore_n 3, 1) := by decide +kernel
theorem dX5_rumored_6 : decode cX5_rumored 6 = .ok (.iload_n 3, 1) := by decide +kernel
theorem dX5_rumored_7 : decode cX5_rumored 7 = .ok (.aload_n 0, 1) := by decide +kernel
theorem dX5_rumored_8 : decode cX5_rumored 8 = .ok (.getfield 10, 3) := by decide +kernel
theorem dX5_rumored_11 : decode cX5_rumored 11 = .ok (.getfield 44, 3) := by decide +kernel
theorem dX5_rumored_14 : decode cX5_rumored 14 = .ok (.if_icmp .ge 30, 3) := by decide +kernel
theorem dX5_rumored_17 : decode cX5_rumored 17 = .ok (.aload_n 0, 1) := by decide +kernel
theorem dX5_rumored_18 : decode cX5_rumored 18 = .ok (.getfield 10, 3) := by decide +kernel
theorem dX5_rumored_21 : decode cX5_rumored 21 = .ok (.iload_n 3, 1) := by decide +kernel
theorem dX5_rumored_22 : decode cX5_rumored 22 = .ok (.invokevirtual 199, 3) := by decide +kernel
theorem dX5_rumored_25 : decode cX5_rumored 25 = .ok (.istore 4, 2) := by decide +kernel
theorem dX5_rumored_27 : decode cX5_rumored 27 = .ok (.iload 4, 2) := by decide +kernel
theorem dX5_rumored_29 : decode cX5_rumored 29 = .ok (.iload_n 2, 1) := by decide +kernel
theorem dX5_rumored_30 : decode cX5_rumored 30 = .ok (.if_icmp .le 8, 3) := by decide +kernel
theorem dX5_rumored_33 : decode cX5_rumored 33 = .ok (.iload 4, 2) := by decide +kernel
theorem dX5_rumored_35 : decode cX5_rumored 35 = .ok (.istore_n 2, 1) := by decide +kernel
theorem dX5_rumored_36 : decode cX5_rumored 36 = .ok (.iload_n 3, 1) := by decide +kernel
theorem dX5_rumored_37 : decode cX5_rumored 37 = .ok (.istore_n 1, 1) := by decide +kernel
theorem dX5_rumored_38 : decode cX5_rumored 38 = .ok (.iinc 3 1, 3) := by decide +kernel
theorem dX5_rumored_41 : decode cX5_rumored 41 = .ok (.goto (-35), 3) := by decide +kernel
theorem dX5_rumored_44 : decode cX5_rumored 44 = .ok (.iload_n 1, 1) := by decide +kernel
theorem dX5_rumored_45 : decode cX5_rumored 45 = .ok (.ireturn, 1) := by decide +kernel
set_option maxRecDepth 20000 in
theorem ggX5_missShare_X3_sum : GoodIn wsX5_missShare wsX3_sum := goodIn_r _ [7, 8, 9, 10, 6, 11, 12, 13, 38, 39] (by decide +kernel) (by decide +kernel)
set_option maxRecDepth 20000 in
theorem gX5_missShare_X3_sum : GoodIn wsX5_missShare (wsV RX5 156 RX3 yX3_sum wsX3_sum) := goodIn_app (goodIn_of _ (by decide +kernel)) ggX5_missShare_X3_sum
set_option maxRecDepth 20000 in
theorem ggX5_missShare_X2_misses : GoodIn wsX5_missShare wsX2_misses := goodIn_r _ [18, 19, 20, 4, 5, 6, 7, 8, 9, 10, 11, 12, 13, 26, 27, 28, 29, 30, 31, 32, 33, 34, 35, 36, 37, 38, 39] (by decide +kernel) (by decide +kernel)
set_option maxRecDepth 20000 in
theorem gX5_missShare_X2_misses : GoodIn wsX5_missShare (wsV RX5 179 RX2 yX2_misses wsX2_misses) := goodIn_app (goodIn_of _ (by decide +kernel)) ggX5_missShare_X2_misses
theorem dX5_missShare_0 : decode cX5_missShare 0 = .ok (.aload_n 0, 1) := by decide +kernel
theorem dX5_missShare_1 : decode cX5_missShare 1 = .ok (.getfield 10, 3) := by decide +kernel
theorem dX5_missShare_4 : decode cX5_missShare 4 = .ok (.getfield 93, 3) := by decide +kernel
theorem dX5_missShare_7 : decode cX5_missShare 7 = .ok (.iconst 4, 1) := by decide +kernel
theorem dX5_missShare_8 : decode cX5_missShare 8 = .ok (.iconst 1, 1) := by decide +kernel
theorem dX5_missShare_9 : decode cX5_missShare 9 = .ok (.invokevirtual 156, 3) := by decide +kernel
theorem dX5_missShare_12 : decode cX5_missShare 12 = .ok (.istore_n 1, 1) := by decide +kernel
theorem dX5_missShare_13 : decode cX5_missShare 13 = .ok (.iload_n 1, 1) := by decide +kernel
theorem dX5_missShare_14 : decode cX5_missShare 14 = .ok (.ifCond .le 17, 3) := by decide +kernel
theorem dX5_missShare_17 : decode cX5_missShare 17 = .ok (.aload_n 0, 1) := by decide +kernel
theorem dX5_missShare_18 : decode cX5_missShare 18 = .ok (.getfield 10, 3) := by decide +kernel
theorem dX5_missShare_21 : decode cX5_missShare 21 = .ok (.invokevirtual 179, 3) := by decide +kernel
theorem dX5_missShare_24 : decode cX5_missShare 24 = .ok (.i2d, 1) := by decide +kernel
theorem dX5_missShare_25 : decode cX5_missShare 25 = .ok (.iload_n 1, 1) := by decide +kernel
theorem dX5_missShare_26 : decode cX5_missShare 26 = .ok (.i2d, 1) := by decide +kernel
theorem dX5_missShare_27 : decode cX5_missShare 27 = .ok (.ddiv, 1) := by decide +kernel
theorem dX5_missShare_28 : decode cX5_missShare 28 = .ok (.goto 4, 3) := by decide +kernel
theorem dX5_missShare_31 : decode cX5_missShare 31 = .ok (.dconst 0, 1) := by decide +kernel
theorem dX5_missShare_32 : decode cX5_missShare 32 = .ok (.dreturn, 1) := by decide +kernel
set_option maxRecDepth 20000 in
theorem ggX5_digest_X5_count : GoodIn wsX5_digest wsX5_count := goodIn_ca (goodIn_r _ [11, 12, 13, 2, 14, 15, 16, 17, 18, 19, 20, 21, 22, 23, 24, 25, 26, 27, 28, 29, 30, 31, 32, 33, 34, 35, 36, 37, 38, 39, 40, 41, 42, 43, 44, 45, 46, 47, 48, 49, 247, 248, 249, 250, 251, 252, 253, 254, 255, 256, 257, 258, 259, 260, 261, 262, 263, 270, 271, 272, 273] (by decide +kernel) (by decide +kernel)) (goodIn_sub (fun _ h => List.mem_cons_of_mem _ (List.mem_append_left _ (List.mem_append_right _ h))) (by decide +kernel))
set_option maxRecDepth 20000 in
theorem gX5_digest_X5_count : GoodIn wsX5_digest (wsV RX5 204 RX5 yX5_count wsX5_count) := goodIn_app (goodIn_of _ (by decide +kernel)) ggX5_digest_X5_count
set_option maxRecDepth 20000 in
theorem ggX5_digest_X5_mix : GoodIn wsX5_digest wsX5_mix := goodIn_r _ [52, 53] (by decide +kernel) (by decide +kernel)
set_option maxRecDepth 20000 in
theorem gX5_digest_X5_mix : GoodIn wsX5_digest (va_wsS RX5 207 yX5_mix wsX5_mix) := goodIn_app (goodIn_of _ (by decide +kernel)) ggX5_digest_X5_mix
set_option maxRecDepth 20000 in
theorem ggX5_digest_X5_mixFeedersAndPlaces : GoodIn wsX5_digest wsX5_mixFeedersAndPlaces := goodIn_ca (goodIn_ca (goodIn_r _ [57, 2, 14, 15, 58, 59, 60, 61, 10, 62, 63, 22, 64, 65, 66, 67, 68, 69, 70, 71, 72, 12, 13, 49, 45, 46, 35, 47, 48, 33, 34, 36, 37, 38, 73, 50, 51, 52, 53, 247, 248, 249, 250, 251, 252, 253, 254, 255, 256, 257, 258, 259, 260, 261, 262, 263, 272, 273] (by decide +kernel) (by decide +kernel)) (goodIn_sub (fun _ h => List.mem_cons_of_mem _ (List.mem_append_right _ h)) (by decide +kernel))) (goodIn_sub (fun _ h => List.mem_cons_of_mem _ (List.mem_append_left _ (List.mem_append_right _ h))) (by decide +kernel))
set_option maxRecDepth 20000 in
theorem gX5_digest_X5_mixFeedersAndPlaces : GoodIn wsX5_digest (wsV RX5 211 RX5 yX5_mixFeedersAndPlaces wsX5_mixFeedersAndPlaces) := goodIn_app (goodIn_of _ (by decide +kernel)) ggX5_digest_X5_mixFeedersAndPlaces
set_option maxRecDepth 20000 in
theorem ggX5_digest_X5_mixNozzle : GoodIn wsX5_digest wsX5_mixNozzle := goodIn_ca (goodIn_r _ [77, 2, 20, 14, 63, 73, 33, 34, 35, 36, 37, 38, 50, 51, 10, 52, 53, 78, 79, 80, 28, 81, 82, 83, 32, 84, 85, 86, 87, 88, 89, 90, 91, 92, 93, 94, 95, 96, 97, 98, 99, 100, 101, 102, 68, 69, 103, 104, 105, 106, 107, 108, 109, 110, 111, 112, 113, 114, 115, 116, 117, 118, 119, 247, 248, 249, 250, 251, 252, 253, 254, 255, 256, 257, 258, 259, 260, 261, 262, 263, 272, 273, 274, 275, 276] (by decide +kernel) (by decide +kernel)) (goodIn_sub (fun _ h => List.mem_cons_of_mem _ (List.mem_append_right _ h)) (by decide +kernel))
set_option maxRecDepth 20000 in
theorem gX5_digest_X5_mixNozzle : GoodIn wsX5_digest (wsV RX5 215 RX5 yX5_mixNozzle wsX5_mixNozzle) := goodIn_app (goodIn_of _ (by decide +kernel)) ggX5_digest_X5_mixNozzle
set_option maxRecDepth 20000 in
theorem ggX5_digest_X5_ifToured : GoodIn wsX5_digest wsX5_ifToured := goodIn_ca (goodIn_r _ [123, 124, 2, 98, 16, 70, 71, 10, 72, 12, 13, 125, 126, 127, 28, 128, 82, 30, 129, 130, 89, 131, 132, 133, 134, 135, 136, 137, 83, 31, 43, 88, 138, 139, 140, 35, 141, 38, 142, 143, 92, 144, 145, 146, 147, 148, 106, 149, 150, 151, 104, 105, 107, 108, 109, 110, 111, 112, 113, 32, 33, 34, 36, 37, 114, 115, 116, 117, 118, 119, 152, 153, 154, 155, 156, 157, 158, 159, 79, 80, 81, 84, 85, 86, 87, 90, 91, 93, 160, 161, 162, 163, 164, 165, 166, 167, 168, 169, 170, 171, 172, 48, 173, 174, 175, 176, 177, 178, 179, 180, 181, 182, 183, 184, 185, 186, 187, 188, 189, 190, 191, 192, 193, 194, 195, 196, 197, 198, 199, 200, 201, 202, 203, 204, 205, 206, 207, 208, 209, 210, 211, 212, 213, 214, 215, 39, 40, 41, 42, 44, 45, 46, 47, 25, 26, 27, 29, 247, 248, 249, 250, 251, 252, 253, 254, 255, 256, 257, 258, 259, 260, 261, 262, 263, 272, 273, 274, 275, 276] (by decide +kernel) (by decide +kernel)) (goodIn_sub (fun _ h => List.mem_cons_of_mem _ (List.mem_append_left _ (List.mem_append_right _ h))) (by decide +kernel))
set_option maxRecDepth 20000 in
theorem gX5_digest_X5_ifToured : GoodIn wsX5_digest (wsV RX5 219 RX5 yX5_ifToured wsX5_ifToured) := goodIn_app (goodIn_of _ (by decide +kernel)) ggX5_digest_X5_ifToured
set_option maxRecDepth 20000 in
theorem ggX5_digest_X5_needed : GoodIn wsX5_digest wsX5_needed := goodIn_r _ [219, 124, 2, 15, 98, 125, 126, 127, 28, 128, 82, 30, 129, 130, 89, 131, 132, 133, 134, 135, 136, 137, 83, 31, 43, 88, 138, 139, 140, 35, 141, 38, 142, 143, 92, 144, 145, 25, 26, 27, 29, 32, 33, 34, 36, 37, 146, 147, 148, 106, 149, 150, 151, 104, 105, 107, 108, 109, 110, 111, 112, 113, 114, 115, 116, 117, 118, 119, 152, 153, 154, 155, 156, 157, 158, 159, 79, 80, 81, 84, 85, 86, 87, 90, 91, 93, 160, 161, 162, 163, 164, 165, 166, 167, 168, 169, 170, 171, 172, 48, 173, 174, 175, 176, 177, 178, 179, 180, 181, 182, 183, 184, 185, 186, 187, 188, 189, 190, 191, 192, 193, 194, 195, 196, 197, 198, 199, 200, 201, 202, 203, 204, 205, 206, 207, 208, 209, 210, 211, 212, 213, 214, 215, 220, 221, 222, 223, 224, 225, 226, 227, 228, 247, 248, 249, 250, 251, 252, 253, 254, 255, 256, 257, 258, 259, 260, 261, 262, 263, 272, 273, 274, 275, 276] (by decide +kernel) (by decide +kernel)
set_option maxRecDepth 20000 in
theorem gX5_digest_X5_needed : GoodIn wsX5_digest (wsV RX5 222 RX5 yX5_needed wsX5_needed) := goodIn_app (goodIn_of _ (by decide +kernel)) ggX5_digest_X5_needed
set_option maxRecDepth 20000 in
theorem ggX5_digest_X5_rumored : GoodIn wsX5_digest wsX5_rumored := goodIn_r _ [232, 2, 14, 233, 234, 235, 28, 236, 88, 197, 143, 92, 144, 189, 190, 191, 32, 33, 34, 35, 36, 37, 38, 247, 248, 249, 250, 251, 252, 253, 254, 255, 256, 257, 258, 259, 260, 261, 262, 263, 272, 273] (by decide +kernel) (by decide +kernel)
set_option maxRecDepth 20000 in
theorem gX5_digest_X5_rumored : GoodIn wsX5_digest (wsV RX5 225 RX5 yX5_rumored wsX5_rumored) := goodIn_app (goodIn_of _ (by decide +kernel)) ggX5_digest_X5_rumored
set_option maxRecDepth 20000 in
theorem ggX5_digest_X5_missShare : GoodIn wsX5_digest wsX5_missShare := goodIn_r _ [240, 2, 20, 49, 45, 46, 35, 47, 48, 33, 34, 36, 37, 38, 39, 40, 41, 28, 42, 43, 44, 247, 248, 249, 250, 251, 252, 253, 254, 255, 256, 257, 258, 259, 260, 261, 262, 263, 272, 273] (by decide +kernel) (by decide +kernel)
set_option maxRecDepth 20000 in
theorem gX5_digest_X5_missShare : GoodIn wsX5_digest (wsV RX5 228 RX5 yX5_missShare wsX5_missShare) := goodIn_app (goodIn_of _ (by decide +kernel)) ggX5_digest_X5_missShare
set_option maxRecDepth 20000 in
theorem ggX5_digest_X5_bitsOfShare : GoodIn wsX5_digest wsX5_bitsOfShare := goodIn_r _ [243, 244, 245, 246] (by decide +kernel) (by decide +kernel)
set_option maxRecDepth 20000 in
theorem gX5_digest_X5_bitsOfShare : GoodIn wsX5_digest (va_wsS RX5 232 yX5_bitsOfShare wsX5_bitsOfShare) := goodIn_app (goodIn_of _ (by decide +kernel)) ggX5_digest_X5_bitsOfShare
theorem dX5_digest_0 : decode cX5_digest 0 = .ok (.ldc2_w 202, 3) := by decide +kernel
theorem dX5_digest_3 : decode cX5_digest 3 = .ok (.lstore_n 1, 1) := by decide +kernel
theorem dX5_digest_4 : decode cX5_digest 4 = .ok (.iconst 0, 1) := by decide +kernel
theorem dX5_digest_5 : decode cX5_digest 5 = .ok (.istore_n 3, 1) := by decide +kernel
theorem dX5_digest_6 : decode cX5_digest 6 = .ok (.iload_n 3, 1) := by decide +kernel
theorem dX5_digest_7 : decode cX5_digest 7 = .ok (.bipush 13, 2) := by decide +kernel
theorem dX5_digest_9 : decode cX5_digest 9 = .ok (.if_icmp .gt 20, 3) := by decide +kernel
theorem dX5_digest_12 : decode cX5_digest 12 = .ok (.lload_n 1, 1) := by decide +kernel
theorem dX5_digest_13 : decode cX5_digest 13 = .ok (.aload_n 0, 1) := by decide +kernel
theorem dX5_digest_14 : decode cX5_digest 14 = .ok (.iload_n 3, 1) := by decide +kernel
theorem dX5_digest_15 : decode cX5_digest 15 = .ok (.invokevirtual 204, 3) := by decide +kernel
theorem dX5_digest_18 : decode cX5_digest 18 = .ok (.i2l, 1) := by decide +kernel
theorem dX5_digest_19 : decode cX5_digest 19 = .ok (.invokestatic 207, 3) := by decide +kernel
theorem dX5_digest_22 : decode cX5_digest 22 = .ok (.lstore_n 1, 1) := by decide +kernel
theorem dX5_digest_23 : decode cX5_digest 23 = .ok (.iinc 3 1, 3) := by decide +kernel
theorem dX5_digest_26 : decode cX5_digest 26 = .ok (.goto (-20), 3) := by decide +kernel
theorem dX5_digest_29 : decode cX5_digest 29 = .ok (.iconst 0, 1) := by decide +kernel
theorem dX5_digest_30 : decode cX5_digest 30 = .ok (.istore_n 3, 1) := by decide +kernel
theorem dX5_digest_31 : decode cX5_digest 31 = .ok (.iload_n 3, 1) := by decide +kernel
theorem dX5_digest_32 : decode cX5_digest 32 = .ok (.iconst 5, 1) := by decide +kernel
theorem dX5_digest_33 : decode cX5_digest 33 = .ok (.if_icmp .ge 24, 3) := by decide +kernel
theorem dX5_digest_36 : decode cX5_digest 36 = .ok (.lload_n 1, 1) := by decide +kernel
theorem dX5_digest_37 : decode cX5_digest 37 = .ok (.aload_n 0, 1) := by decide +kernel
theorem dX5_digest_38 : decode cX5_digest 38 = .ok (.getfield 10, 3) := by decide +kernel
theorem dX5_digest_41 : decode cX5_digest 41 = .ok (.getfield 110, 3) := by decide +kernel
theorem dX5_digest_44 : decode cX5_digest 44 = .ok (.iload_n 3, 1) := by decide +kernel
theorem dX5_digest_45 : decode cX5_digest 45 = .ok (.iaload, 1) := by decide +kernel
theorem dX5_digest_46 : decode cX5_digest 46 = .ok (.i2l, 1) := by decide +kernel
theorem dX5_digest_47 : decode cX5_digest 47 = .ok (.invokestatic 207, 3) := by decide +kernel
theorem dX5_digest_50 : decode cX5_digest 50 = .ok (.lstore_n 1, 1) := by decide +kernel
theorem dX5_digest_51 : decode cX5_digest 51 = .ok (.iinc 3 1, 3) := by decide +kernel
theorem dX5_digest_54 : decode cX5_digest 54 = .ok (.goto (-23), 3) := by decide +kernel
theorem dX5_digest_57 : decode cX5_digest 57 = .ok (.aload_n 0, 1) := by decide +kernel
theorem dX5_digest_58 : decode cX5_digest 58 = .ok (.lload_n 1, 1) := by decide +kernel
theorem dX5_digest_59 : decode cX5_digest 59 = .ok (.invokevirtual 211, 3) := by decide +kernel
theorem dX5_digest_62 : decode cX5_digest 62 = .ok (.lstore_n 1, 1) := by decide +kernel
theorem dX5_digest_63 : decode cX5_digest 63 = .ok (.iconst 0, 1) := by decide +kernel
theorem dX5_digest_64 : decode cX5_digest 64 = .ok (.istore_n 3, 1) := by decide +kernel
theorem dX5_digest_65 : decode cX5_digest 65 = .ok (.iload_n 3, 1) := by decide +kernel
theorem dX5_digest_66 : decode cX5_digest 66 = .ok (.iconst 4, 1) := by decide +kernel
theorem dX5_digest_67 : decode cX5_digest 67 = .ok (.if_icmp .ge 16, 3) := by decide +kernel
theorem dX5_digest_70 : decode cX5_digest 70 = .ok (.aload_n 0, 1) := by decide +kernel
theorem dX5_digest_71 : decode cX5_digest 71 = .ok (.lload_n 1, 1) := by decide +kernel
theorem dX5_digest_72 : decode cX5_digest 72 = .ok (.iload_n 3, 1) := by decide +kernel
theorem dX5_digest_73 : decode cX5_digest 73 = .ok (.invokevirtual 215, 3) := by decide +kernel
theorem dX5_digest_76 : decode cX5_digest 76 = .ok (.lstore_n 1, 1) := by decide +kernel
theorem dX5_digest_77 : decode cX5_digest 77 = .ok (.iinc 3 1, 3) := by decide +kernel
theorem dX5_digest_80 : decode cX5_digest 80 = .ok (.goto (-15), 3) := by decide +kernel
theorem dX5_digest_83 : decode cX5_digest 83 = .ok (.iconst 0, 1) := by decide +kernel
theorem dX5_digest_84 : decode cX5_digest 84 = .ok (.istore_n 3, 1) := by decide +kernel
theorem dX5_digest_85 : decode cX5_digest 85 = .ok (.iload_n 3, 1) := by decide +kernel
theorem dX5_digest_86 : decode cX5_digest 86 = .ok (.iconst 3, 1) := by decide +kernel
theorem dX5_digest_87 : decode cX5_digest 87 = .ok (.if_icmp .gt 21, 3) := by decide +kernel
theorem dX5_digest_90 : decode cX5_digest 90 = .ok (.lload_n 1, 1) := by decide +kernel
theorem dX5_digest_91 : decode cX5_digest 91 = .ok (.aload_n 0, 1) := by decide +kernel
theorem dX5_digest_92 : decode cX5_digest 92 = .ok (.iconst 3, 1) := by decide +kernel
theorem dX5_digest_93 : decode cX5_digest 93 = .ok (.iload_n 3, 1) := by decide +kernel
theorem dX5_digest_94 : decode cX5_digest 94 = .ok (.invokevirtual 219, 3) := by decide +kernel
theorem dX5_digest_97 : decode cX5_digest 97 = .ok (.i2l, 1) := by decide +kernel
theorem dX5_digest_98 : decode cX5_digest 98 = .ok (.invokestatic 207, 3) := by decide +kernel
theorem dX5_digest_101 : decode cX5_digest 101 = .ok (.lstore_n 1, 1) := by decide +kernel
theorem dX5_digest_102 : decode cX5_digest 102 = .ok (.iinc 3 1, 3) := by decide +kernel
theorem dX5_digest_105 : decode cX5_digest 105 = .ok (.goto (-20), 3) := by decide +kernel
theorem dX5_digest_108 : decode cX5_digest 108 = .ok (.lload_n 1, 1) := by decide +kernel
theorem dX5_digest_109 : decode cX5_digest 109 = .ok (.aload_n 0, 1) := by decide +kernel
theorem dX5_digest_110 : decode cX5_digest 110 = .ok (.invokevirtual 222, 3) := by decide +kernel
theorem dX5_digest_113 : decode cX5_digest 113 = .ok (.i2l, 1) := by decide +kernel
theorem dX5_digest_114 : decode cX5_digest 114 = .ok (.invokestatic 207, 3) := by decide +kernel
theorem dX5_digest_117 : decode cX5_digest 117 = .ok (.lstore_n 1, 1) := by decide +kernel
theorem dX5_digest_118 : decode cX5_digest 118 = .ok (.lload_n 1, 1) := by decide +kernel
theorem dX5_digest_119 : decode cX5_digest 119 = .ok (.aload_n 0, 1) := by decide +kernel
theorem dX5_digest_120 : decode cX5_digest 120 = .ok (.invokevirtual 225, 3) := by decide +kernel
theorem dX5_digest_123 : decode cX5_digest 123 = .ok (.i2l, 1) := by decide +kernel
theorem dX5_digest_124 : decode cX5_digest 124 = .ok (.invokestatic 207, 3) := by decide +kernel
theorem dX5_digest_127 : decode cX5_digest 127 = .ok (.lstore_n 1, 1) := by decide +kernel
theorem dX5_digest_128 : decode cX5_digest 128 = .ok (.lload_n 1, 1) := by decide +kernel
theorem dX5_digest_129 : decode cX5_digest 129 = .ok (.aload_n 0, 1) := by decide +kernel
theorem dX5_digest_130 : decode cX5_digest 130 = .ok (.invokevirtual 228, 3) := by decide +kernel
theorem dX5_digest_133 : decode cX5_digest 133 = .ok (.invokestatic 232, 3) := by decide +kernel
theorem dX5_digest_136 : decode cX5_digest 136 = .ok (.invokestatic 207, 3) := by decide +kernel
theorem dX5_digest_139 : decode cX5_digest 139 = .ok (.lstore_n 1, 1) := by decide +kernel
theorem dX5_digest_140 : decode cX5_digest 140 = .ok (.lload_n 1, 1) := by decide +kernel
theorem dX5_digest_141 : decode cX5_digest 141 = .ok (.aload_n 0, 1) := by decide +kernel
theorem dX5_digest_142 : decode cX5_digest 142 = .ok (.getfield 36, 3) := by decide +kernel
theorem dX5_digest_145 : decode cX5_digest 145 = .ok (.getfield 121, 3) := by decide +kernel
theorem dX5_digest_148 : decode cX5_digest 148 = .ok (.i2l, 1) := by decide +kernel
theorem dX5_digest_149 : decode cX5_digest 149 = .ok (.invokestatic 207, 3) := by decide +kernel
theorem dX5_digest_152 : decode cX5_digest 152 = .ok (.lstore_n 1, 1) := by decide +kernel
theorem dX5_digest_153 : decode cX5_digest 153 = .ok (.iconst 0, 1) := by decide +kernel
theorem dX5_digest_154 : decode cX5_digest 154 = .ok (.istore_n 3, 1) := by decide +kernel
theorem dX5_digest_155 : decode cX5_digest 155 = .ok (.iload_n 3, 1) := by decide +kernel
theorem dX5_digest_156 : decode cX5_digest 156 = .ok (.aload_n 0, 1) := by decide +kernel
theorem dX5_digest_157 : decode cX5_digest 157 = .ok (.getfield 36, 3) := by decide +kernel
theorem dX5_digest_160 : decode cX5_digest 160 = .ok (.getfield 121, 3) := by decide +kernel
theorem dX5_digest_163 : decode cX5_digest 163 = .ok (.if_icmp .ge 24, 3) := by decide +kernel
theorem dX5_digest_166 : decode cX5_digest 166 = .ok (.lload_n 1, 1) := by decide +kernel
theorem dX5_digest_167 : decode cX5_digest 167 = .ok (.aload_n 0, 1) := by decide +kernel
theorem dX5_digest_168 : decode cX5_digest 168 = .ok (.getfield 36, 3) := by decide +kernel
theorem dX5_digest_171 : decode cX5_digest 171 = .ok (.getfield 126, 3) := by decide +kernel
theorem dX5_digest_174 : decode cX5_digest 174 = .ok (.iload_n 3, 1) := by decide +kernel
theorem dX5_digest_175 : decode cX5_digest 175 = .ok (.iaload, 1) := by decide +kernel
theorem dX5_digest_176 : decode cX5_digest 176 = .ok (.i2l, 1) := by decide +kernel
theorem dX5_digest_177 : decode cX5_digest 177 = .ok (.invokestatic 207, 3) := by decide +kernel
theorem dX5_digest_180 : decode cX5_digest 180 = .ok (.lstore_n 1, 1) := by decide +kernel
theorem dX5_digest_181 : decode cX5_digest 181 = .ok (.iinc 3 1, 3) := by decide +kernel
theorem dX5_digest_184 : decode cX5_digest 184 = .ok (.goto (-29), 3) := by decide +kernel
theorem dX5_digest_187 : decode cX5_digest 187 = .ok (.lload_n 1, 1) := by decide +kernel
theorem dX5_digest_188 : decode cX5_digest 188 = .ok (.lreturn, 1) := by decide +kernel
set_option maxRecDepth 20000 in
theorem ggX5_mixFeedersAndPlaces_X5_feeder : GoodIn wsX5_mixFeedersAndPlaces wsX5_feeder := goodIn_ca (goodIn_ca (goodIn_r _ [9, 1, 10, 11, 12, 13, 14, 8, 15, 16, 17, 2, 18, 19, 20, 21, 22, 23, 24, 25, 26, 27, 28, 29, 30, 31, 32, 33, 34, 39, 40, 41, 42, 43, 44, 45, 46, 47, 48, 49, 50, 51, 52, 53, 54, 55, 56, 57] (by decide +kernel) (by decide +kernel)) (goodIn_sub (fun _ h => List.mem_cons_of_mem _ (List.mem_append_left _ (List.mem_append_right _ h))) (by decide +kernel))) (goodIn_sub (fun _ h => List.mem_cons_of_mem _ (List.mem_append_right _ h)) (by decide +kernel))
set_option maxRecDepth 20000 in
theorem gX5_mixFeedersAndPlaces_X5_feeder : GoodIn wsX5_mixFeedersAndPlaces (wsV RX5 236 RX5 yX5_feeder wsX5_feeder) := goodIn_app (goodIn_of _ (by decide +kernel)) ggX5_mixFeedersAndPlaces_X5_feeder
set_option maxRecDepth 20000 in
theorem ggX5_mixFeedersAndPlaces_X5_mix : GoodIn wsX5_mixFeedersAndPlaces wsX5_mix := goodIn_r _ [37, 38] (by decide +kernel) (by decide +kernel)
set_option maxRecDepth 20000 in
theorem gX5_mixFeedersAndPlaces_X5_mix : GoodIn wsX5_mixFeedersAndPlaces (va_wsS RX5 207 yX5_mix wsX5_mix) := goodIn_app (goodIn_of _ (by decide +kernel)) ggX5_mixFeedersAndPlaces_X5_mix
set_option maxRecDepth 20000 in
theorem ggX5_mixFeedersAndPlaces_X3_at : GoodIn wsX5_mixFeedersAndPlaces wsX3_at := goodIn_r _ [31, 32, 33, 56, 57] (by decide +kernel) (by decide +kernel)
set_option maxRecDepth 20000 in
theorem gX5_mixFeedersAndPlaces_X3_at : GoodIn wsX5_mixFeedersAndPlaces (wsV RX5 80 RX3 yX3_at wsX3_at) := goodIn_app (goodIn_of _ (by decide +kernel)) ggX5_mixFeedersAndPlaces_X3_at
theorem dX5_mixFeedersAndPlaces_0 : decode cX5_mixFeedersAndPlaces 0 = .ok (.lload_n 1, 1) := by decide +kernel
theorem dX5_mixFeedersAndPlaces_1 : decode cX5_mixFeedersAndPlaces 1 = .ok (.lstore_n 3, 1) := by decide +kernel
theorem dX5_mixFeedersAndPlaces_2 : decode cX5_mixFeedersAndPlaces 2 = .ok (.iconst 0, 1) := by decide +kernel
theorem dX5_mixFeedersAndPlaces_3 : decode cX5_mixFeedersAndPlaces 3 = .ok (.istore 5, 2) := by decide +kernel
theorem dX5_mixFeedersAndPlaces_5 : decode cX5_mixFeedersAndPlaces 5 = .ok (.iload 5, 2) := by decide +kernel
theorem dX5_mixFeedersAndPlaces_7 : decode cX5_mixFeedersAndPlaces 7 = .ok (.aload_n 0, 1) := by decide +kernel
theorem dX5_mixFeedersAndPlaces_8 : decode cX5_mixFeedersAndPlaces 8 = .ok (.getfield 10, 3) := by decide +kernel
theorem dX5_mixFeedersAndPlaces_11 : decode cX5_mixFeedersAndPlaces 11 = .ok (.getfield 44, 3) := by decide +kernel
theorem dX5_mixFeedersAndPlaces_14 : decode cX5_mixFeedersAndPlaces 14 = .ok (.if_icmp .ge 39, 3) := by decide +kernel
theorem dX5_mixFeedersAndPlaces_17 : decode cX5_mixFeedersAndPlaces 17 = .ok (.iconst 0, 1) := by decide +kernel
theorem dX5_mixFeedersAndPlaces_18 : decode cX5_mixFeedersAndPlaces 18 = .ok (.istore 6, 2) := by decide +kernel
theorem dX5_mixFeedersAndPlaces_20 : decode cX5_mixFeedersAndPlaces 20 = .ok (.iload 6, 2) := by decide +kernel
theorem dX5_mixFeedersAndPlaces_22 : decode cX5_mixFeedersAndPlaces 22 = .ok (.bipush 8, 2) := by decide +kernel
theorem dX5_mixFeedersAndPlaces_24 : decode cX5_mixFeedersAndPlaces 24 = .ok (.if_icmp .gt 23, 3) := by decide +kernel
theorem dX5_mixFeedersAndPlaces_27 : decode cX5_mixFeedersAndPlaces 27 = .ok (.lload_n 3, 1) := by decide +kernel
theorem dX5_mixFeedersAndPlaces_28 : decode cX5_mixFeedersAndPlaces 28 = .ok (.aload_n 0, 1) := by decide +kernel
theorem dX5_mixFeedersAndPlaces_29 : decode cX5_mixFeedersAndPlaces 29 = .ok (.iload 5, 2) := by decide +kernel
theorem dX5_mixFeedersAndPlaces_31 : decode cX5_mixFeedersAndPlaces 31 = .ok (.iload 6, 2) := by decide +kernel
theorem dX5_mixFeedersAndPlaces_33 : decode cX5_mixFeedersAndPlaces 33 = .ok (.invokevirtual 236, 3) := by decide +kernel
theorem dX5_mixFeedersAndPlaces_36 : decode cX5_mixFeedersAndPlaces 36 = .ok (.i2l, 1) := by decide +kernel
theorem dX5_mixFeedersAndPlaces_37 : decode cX5_mixFeedersAndPlaces 37 = .ok (.invokestatic 207, 3) := by decide +kernel
theorem dX5_mixFeedersAndPlaces_40 : decode cX5_mixFeedersAndPlaces 40 = .ok (.lstore_n 3, 1) := by decide +kernel
theorem dX5_mixFeedersAndPlaces_41 : decode cX5_mixFeedersAndPlaces 41 = .ok (.iinc 6 1, 3) := by decide +kernel
theorem dX5_mixFeedersAndPlaces_44 : decode cX5_mixFeedersAndPlaces 44 = .ok (.goto (-24), 3) := by decide +kernel
theorem dX5_mixFeedersAndPlaces_47 : decode cX5_mixFeedersAndPlaces 47 = .ok (.iinc 5 1, 3) := by decide +kernel
theorem dX5_mixFeedersAndPlaces_50 : decode cX5_mixFeedersAndPlaces 50 = .ok (.goto (-45), 3) := by decide +kernel
theorem dX5_mixFeedersAndPlaces_53 : decode cX5_mixFeedersAndPlaces 53 = .ok (.iconst 0, 1) := by decide +kernel
theorem dX5_mixFeedersAndPlaces_54 : decode cX5_mixFeedersAndPlaces 54 = .ok (.istore 5, 2) := by decide +kernel
theorem dX5_mixFeedersAndPlaces_56 : decode cX5_mixFeedersAndPlaces 56 = .ok (.iload 5, 2) := by decide +kernel
theorem dX5_mixFeedersAndPlaces_58 : decode cX5_mixFeedersAndPlaces 58 = .ok (.aload_n 0, 1) := by decide +kernel
theorem dX5_mixFeedersAndPlaces_59 : decode cX5_mixFeedersAndPlaces 59 = .ok (.getfield 10, 3) := by decide +kernel
theorem dX5_mixFeedersAndPlaces_62 : decode cX5_mixFeedersAndPlaces 62 = .ok (.getfield 63, 3) := by decide +kernel
theorem dX5_mixFeedersAndPlaces_65 : decode cX5_mixFeedersAndPlaces 65 = .ok (.if_icmp .ge 44, 3) := by decide +kernel
theorem dX5_mixFeedersAndPlaces_68 : decode cX5_mixFeedersAndPlaces 68 = .ok (.iconst 0, 1) := by decide +kernel
theorem dX5_mixFeedersAndPlaces_69 : decode cX5_mixFeedersAndPlaces 69 = .ok (.istore 6, 2) := by decide +kernel
theorem dX5_mixFeedersAndPlaces_71 : decode cX5_mixFeedersAndPlaces 71 = .ok (.iload 6, 2) := by decide +kernel
theorem dX5_mixFeedersAndPlaces_73 : decode cX5_mixFeedersAndPlaces 73 = .ok (.iconst 5, 1) := by decide +kernel
theorem dX5_mixFeedersAndPlaces_74 : decode cX5_mixFeedersAndPlaces 74 = .ok (.if_icmp .ge 29, 3) := by decide +kernel
theorem dX5_mixFeedersAndPlaces_77 : decode cX5_mixFeedersAndPlaces 77 = .ok (.lload_n 3, 1) := by decide +kernel
theorem dX5_mixFeedersAndPlaces_78 : decode cX5_mixFeedersAndPlaces 78 = .ok (.aload_n 0, 1) := by decide +kernel
theorem dX5_mixFeedersAndPlaces_79 : decode cX5_mixFeedersAndPlaces 79 = .ok (.getfield 10, 3) := by decide +kernel
theorem dX5_mixFeedersAndPlaces_82 : decode cX5_mixFeedersAndPlaces 82 = .ok (.getfield 164, 3) := by decide +kernel
theorem dX5_mixFeedersAndPlaces_85 : decode cX5_mixFeedersAndPlaces 85 = .ok (.iload 5, 2) := by decide +kernel
theorem dX5_mixFeedersAndPlaces_87 : decode cX5_mixFeedersAndPlaces 87 = .ok (.iload 6, 2) := by decide +kernel
theorem dX5_mixFeedersAndPlaces_89 : decode cX5_mixFeedersAndPlaces 89 = .ok (.invokevirtual 80, 3) := by decide +kernel
theorem dX5_mixFeedersAndPlaces_92 : decode cX5_mixFeedersAndPlaces 92 = .ok (.i2l, 1) := by decide +kernel
theorem dX5_mixFeedersAndPlaces_93 : decode cX5_mixFeedersAndPlaces 93 = .ok (.invokestatic 207, 3) := by decide +kernel
theorem dX5_mixFeedersAndPlaces_96 : decode cX5_mixFeedersAndPlaces 96 = .ok (.lstore_n 3, 1) := by decide +kernel
theorem dX5_mixFeedersAndPlaces_97 : decode cX5_mixFeedersAndPlaces 97 = .ok (.iinc 6 1, 3) := by decide +kernel
theorem dX5_mixFeedersAndPlaces_100 : decode cX5_mixFeedersAndPlaces 100 = .ok (.goto (-29), 3) := by decide +kernel
theorem dX5_mixFeedersAndPlaces_103 : decode cX5_mixFeedersAndPlaces 103 = .ok (.iinc 5 1, 3) := by decide +kernel
theorem dX5_mixFeedersAndPlaces_106 : decode cX5_mixFeedersAndPlaces 106 = .ok (.goto (-50), 3) := by decide +kernel
theorem dX5_mixFeedersAndPlaces_109 : decode cX5_mixFeedersAndPlaces 109 = .ok (.lload_n 3, 1) := by decide +kernel
theorem dX5_mixFeedersAndPlaces_110 : decode cX5_mixFeedersAndPlaces 110 = .ok (.lreturn, 1) := by decide +kernel
set_option maxRecDepth 20000 in
theorem ggX5_mixNozzle_X3_at : GoodIn wsX5_mixNozzle wsX3_at := goodIn_r _ [9, 10, 11, 80, 81] (by decide +kernel) (by decide +kernel)
set_option maxRecDepth 20000 in
theorem gX5_mixNozzle_X3_at : GoodIn wsX5_mixNozzle (wsV RX5 80 RX3 yX3_at wsX3_at) := goodIn_app (goodIn_of _ (by decide +kernel)) ggX5_mixNozzle_X3_at
set_option maxRecDepth 20000 in
theorem ggX5_mixNozzle_X5_mix : GoodIn wsX5_mixNozzle wsX5_mix := goodIn_r _ [15, 16] (by decide +kernel) (by decide +kernel)
set_option maxRecDepth 20000 in
theorem gX5_mixNozzle_X5_mix : GoodIn wsX5_mixNozzle (va_wsS RX5 207 yX5_mix wsX5_mix) := goodIn_app (goodIn_of _ (by decide +kernel)) ggX5_mixNozzle_X5_mix
set_option maxRecDepth 20000 in
theorem ggX5_mixNozzle_X2_favorite : GoodIn wsX5_mixNozzle wsX2_favorite := goodIn_r _ [21, 22, 23, 24, 6, 7, 8, 9, 10, 11, 25, 26, 27, 20, 28, 29, 30, 31, 32, 33, 34, 68, 69, 70, 71, 72, 73, 74, 75, 76, 77, 78, 79, 80, 81] (by decide +kernel) (by decide +kernel)
set_option maxRecDepth 20000 in
theorem gX5_mixNozzle_X2_favorite : GoodIn wsX5_mixNozzle (wsV RX5 190 RX2 yX2_favorite wsX2_favorite) := goodIn_app (goodIn_of _ (by decide +kernel)) ggX5_mixNozzle_X2_favorite
set_option maxRecDepth 20000 in
theorem ggX5_mixNozzle_X5_aim : GoodIn wsX5_mixNozzle wsX5_aim := goodIn_ca (goodIn_r _ [38, 39, 1, 40, 41, 42, 14, 43, 44, 45, 46, 47, 48, 49, 50, 51, 52, 53, 54, 55, 20, 56, 22, 23, 24, 6, 7, 8, 9, 10, 11, 57, 58, 59, 60, 61, 62, 63, 64, 65, 66, 67, 82, 83, 84, 68, 69, 70, 71, 72, 73, 74, 75, 76, 77, 78, 79, 80, 81] (by decide +kernel) (by decide +kernel)) (goodIn_sub (fun _ h => List.mem_cons_of_mem _ (List.mem_append_right _ h)) (by decide +kernel))
set_option maxRecDepth 20000 in
theorem gX5_mixNozzle_X5_aim : GoodIn wsX5_mixNozzle (wsV RX5 239 RX5 yX5_aim wsX5_aim) := goodIn_app (goodIn_of _ (by decide +kernel)) ggX5_mixNozzle_X5_aim
theorem dX5_mixNozzle_0 : decode cX5_mixNozzle 0 = .ok (.lload_n 1, 1) := by decide +kernel
theorem dX5_mixNozzle_1 : decode cX5_mixNozzle 1 = .ok (.lstore 4, 2) := by decide +kernel
theorem dX5_mixNozzle_3 : decode cX5_mixNozzle 3 = .ok (.iconst 0, 1) := by decide +kernel
theorem dX5_mixNozzle_4 : decode cX5_mixNozzle 4 = .ok (.istore 6, 2) := by decide +kernel
theorem dX5_mixNozzle_6 : decode cX5_mixNozzle 6 = .ok (.iload 6, 2) := by decide +kernel
theorem dX5_mixNozzle_8 : decode cX5_mixNozzle 8 = .ok (.iconst 5, 1) := by decide +kernel
theorem dX5_mixNozzle_9 : decode cX5_mixNozzle 9 = .ok (.if_icmp .ge 30, 3) := by decide +kernel
theorem dX5_mixNozzle_12 : decode cX5_mixNozzle 12 = .ok (.lload 4, 2) := by decide +kernel
theorem dX5_mixNozzle_14 : decode cX5_mixNozzle 14 = .ok (.aload_n 0, 1) := by decide +kernel
theorem dX5_mixNozzle_15 : decode cX5_mixNozzle 15 = .ok (.getfield 10, 3) := by decide +kernel
theorem dX5_mixNozzle_18 : decode cX5_mixNozzle 18 = .ok (.getfield 93, 3) := by decide +kernel
theorem dX5_mixNozzle_21 : decode cX5_mixNozzle 21 = .ok (.iload_n 3, 1) := by decide +kernel
theorem dX5_mixNozzle_22 : decode cX5_mixNozzle 22 = .ok (.iload 6, 2) := by decide +kernel
theorem dX5_mixNozzle_24 : decode cX5_mixNozzle 24 = .ok (.invokevirtual 80, 3) := by decide +kernel
theorem dX5_mixNozzle_27 : decode cX5_mixNozzle 27 = .ok (.i2l, 1) := by decide +kernel
theorem dX5_mixNozzle_28 : decode cX5_mixNozzle 28 = .ok (.invokestatic 207, 3) := by decide +kernel
theorem dX5_mixNozzle_31 : decode cX5_mixNozzle 31 = .ok (.lstore 4, 2) := by decide +kernel
theorem dX5_mixNozzle_33 : decode cX5_mixNozzle 33 = .ok (.iinc 6 1, 3) := by decide +kernel
theorem dX5_mixNozzle_36 : decode cX5_mixNozzle 36 = .ok (.goto (-30), 3) := by decide +kernel
theorem dX5_mixNozzle_39 : decode cX5_mixNozzle 39 = .ok (.iconst 0, 1) := by decide +kernel
theorem dX5_mixNozzle_40 : decode cX5_mixNozzle 40 = .ok (.istore 6, 2) := by decide +kernel
theorem dX5_mixNozzle_42 : decode cX5_mixNozzle 42 = .ok (.iload 6, 2) := by decide +kernel
theorem dX5_mixNozzle_44 : decode cX5_mixNozzle 44 = .ok (.aload_n 0, 1) := by decide +kernel
theorem dX5_mixNozzle_45 : decode cX5_mixNozzle 45 = .ok (.getfield 10, 3) := by decide +kernel
theorem dX5_mixNozzle_48 : decode cX5_mixNozzle 48 = .ok (.getfield 44, 3) := by decide +kernel
theorem dX5_mixNozzle_51 : decode cX5_mixNozzle 51 = .ok (.if_icmp .ge 30, 3) := by decide +kernel
theorem dX5_mixNozzle_54 : decode cX5_mixNozzle 54 = .ok (.lload 4, 2) := by decide +kernel
theorem dX5_mixNozzle_56 : decode cX5_mixNozzle 56 = .ok (.aload_n 0, 1) := by decide +kernel
theorem dX5_mixNozzle_57 : decode cX5_mixNozzle 57 = .ok (.getfield 10, 3) := by decide +kernel
theorem dX5_mixNozzle_60 : decode cX5_mixNozzle 60 = .ok (.getfield 153, 3) := by decide +kernel
theorem dX5_mixNozzle_63 : decode cX5_mixNozzle 63 = .ok (.iload_n 3, 1) := by decide +kernel
theorem dX5_mixNozzle_64 : decode cX5_mixNozzle 64 = .ok (.iload 6, 2) := by decide +kernel
theorem dX5_mixNozzle_66 : decode cX5_mixNozzle 66 = .ok (.invokevirtual 80, 3) := by decide +kernel
theorem dX5_mixNozzle_69 : decode cX5_mixNozzle 69 = .ok (.i2l, 1) := by decide +kernel
theorem dX5_mixNozzle_70 : decode cX5_mixNozzle 70 = .ok (.invokestatic 207, 3) := by decide +kernel
theorem dX5_mixNozzle_73 : decode cX5_mixNozzle 73 = .ok (.lstore 4, 2) := by decide +kernel
theorem dX5_mixNozzle_75 : decode cX5_mixNozzle 75 = .ok (.iinc 6 1, 3) := by decide +kernel
theorem dX5_mixNozzle_78 : decode cX5_mixNozzle 78 = .ok (.goto (-36), 3) := by decide +kernel
theorem dX5_mixNozzle_81 : decode cX5_mixNozzle 81 = .ok (.iconst 0, 1) := by decide +kernel
theorem dX5_mixNozzle_82 : decode cX5_mixNozzle 82 = .ok (.istore 6, 2) := by decide +kernel
theorem dX5_mixNozzle_84 : decode cX5_mixNozzle 84 = .ok (.iload 6, 2) := by decide +kernel
theorem dX5_mixNozzle_86 : decode cX5_mixNozzle 86 = .ok (.iconst 5, 1) := by decide +kernel
theorem dX5_mixNozzle_87 : decode cX5_mixNozzle 87 = .ok (.if_icmp .gt 27, 3) := by decide +kernel
theorem dX5_mixNozzle_90 : decode cX5_mixNozzle 90 = .ok (.lload 4, 2) := by decide +kernel
theorem dX5_mixNozzle_92 : decode cX5_mixNozzle 92 = .ok (.aload_n 0, 1) := by decide +kernel
theorem dX5_mixNozzle_93 : decode cX5_mixNozzle 93 = .ok (.getfield 10, 3) := by decide +kernel
theorem dX5_mixNozzle_96 : decode cX5_mixNozzle 96 = .ok (.iload_n 3, 1) := by decide +kernel
theorem dX5_mixNozzle_97 : decode cX5_mixNozzle 97 = .ok (.iload 6, 2) := by decide +kernel
theorem dX5_mixNozzle_99 : decode cX5_mixNozzle 99 = .ok (.invokevirtual 190, 3) := by decide +kernel
theorem dX5_mixNozzle_102 : decode cX5_mixNozzle 102 = .ok (.i2l, 1) := by decide +kernel
theorem dX5_mixNozzle_103 : decode cX5_mixNozzle 103 = .ok (.invokestatic 207, 3) := by decide +kernel
theorem dX5_mixNozzle_106 : decode cX5_mixNozzle 106 = .ok (.lstore 4, 2) := by decide +kernel
theorem dX5_mixNozzle_108 : decode cX5_mixNozzle 108 = .ok (.iinc 6 1, 3) := by decide +kernel
theorem dX5_mixNozzle_111 : decode cX5_mixNozzle 111 = .ok (.goto (-27), 3) := by decide +kernel
theorem dX5_mixNozzle_114 : decode cX5_mixNozzle 114 = .ok (.lload 4, 2) := by decide +kernel
theorem dX5_mixNozzle_116 : decode cX5_mixNozzle 116 = .ok (.aload_n 0, 1) := by decide +kernel
theorem dX5_mixNozzle_117 : decode cX5_mixNozzle 117 = .ok (.iload_n 3, 1) := by decide +kernel
theorem dX5_mixNozzle_118 : decode cX5_mixNozzle 118 = .ok (.invokevirtual 239, 3) := by decide +kernel
theorem dX5_mixNozzle_121 : decode cX5_mixNozzle 121 = .ok (.i2l, 1) := by decide +kernel
theorem dX5_mixNozzle_122 : decode cX5_mixNozzle 122 = .ok (.invokestatic 207, 3) := by decide +kernel
theorem dX5_mixNozzle_125 : decode cX5_mixNozzle 125 = .ok (.lreturn, 1) := by decide +kernel
theorem dX5_mix_0 : decode cX5_mix 0 = .ok (.ldc2_w 242, 3) := by decide +kernel
theorem dX5_mix_3 : decode cX5_mix 3 = .ok (.lload_n 0, 1) := by decide +kernel
theorem dX5_mix_4 : decode cX5_mix 4 = .ok (.lmul, 1) := by decide +kernel
theorem dX5_mix_5 : decode cX5_mix 5 = .ok (.lload_n 2, 1) := by decide +kernel
theorem dX5_mix_6 : decode cX5_mix 6 = .ok (.ladd, 1) := by decide +kernel
theorem dX5_mix_7 : decode cX5_mix 7 = .ok (.lreturn, 1) := by decide +kernel
theorem dX5_bitsOfShare_0 : decode cX5_bitsOfShare 0 = .ok (.dload_n 0, 1) := by decide +kernel
theorem dX5_bitsOfShare_1 : decode cX5_bitsOfShare 1 = .ok (.dconst 0, 1) := by decide +kernel
theorem dX5_bitsOfShare_2 : decode cX5_bitsOfShare 2 = .ok (.dcmp .g, 1) := by decide +kernel
theorem dX5_bitsOfShare_3 : decode cX5_bitsOfShare 3 = .ok (.ifCond .gt 5, 3) := by decide +kernel
theorem dX5_bitsOfShare_6 : decode cX5_bitsOfShare 6 = .ok (.lconst 0, 1) := by decide +kernel
theorem dX5_bitsOfShare_7 : decode cX5_bitsOfShare 7 = .ok (.lreturn, 1) := by decide +kernel
theorem dX5_bitsOfShare_8 : decode cX5_bitsOfShare 8 = .ok (.dload_n 0, 1) := by decide +kernel
theorem dX5_bitsOfShare_9 : decode cX5_bitsOfShare 9 = .ok (.dstore_n 2, 1) := by decide +kernel
theorem dX5_bitsOfShare_10 : decode cX5_bitsOfShare 10 = .ok (.ldc2_w 244, 3) := by decide +kernel
theorem dX5_bitsOfShare_13 : decode cX5_bitsOfShare 13 = .ok (.lstore 4, 2) := by decide +kernel
theorem dX5_bitsOfShare_15 : decode cX5_bitsOfShare 15 = .ok (.iconst 0, 1) := by decide +kernel
theorem dX5_bitsOfShare_16 : decode cX5_bitsOfShare 16 = .ok (.istore 6, 2) := by decide +kernel
theorem dX5_bitsOfShare_18 : decode cX5_bitsOfShare 18 = .ok (.iload 6, 2) := by decide +kernel
theorem dX5_bitsOfShare_20 : decode cX5_bitsOfShare 20 = .ok (.sipush 1000, 3) := by decide +kernel
theorem dX5_bitsOfShare_23 : decode cX5_bitsOfShare 23 = .ok (.if_icmp .ge 27, 3) := by decide +kernel
theorem dX5_bitsOfShare_26 : decode cX5_bitsOfShare 26 = .ok (.dload_n 2, 1) := by decide +kernel
theorem dX5_bitsOfShare_27 : decode cX5_bitsOfShare 27 = .ok (.dconst 1, 1) := by decide +kernel
theorem dX5_bitsOfShare_28 : decode cX5_bitsOfShare 28 = .ok (.dcmp .g, 1) := by decide +kernel
theorem dX5_bitsOfShare_29 : decode cX5_bitsOfShare 29 = .ok (.ifCond .ge 21, 3) := by decide +kernel
theorem dX5_bitsOfShare_32 : decode cX5_bitsOfShare 32 = .ok (.dload_n 2, 1) := by decide +kernel
theorem dX5_bitsOfShare_33 : decode cX5_bitsOfShare 33 = .ok (.ldc2_w 246, 3) := by decide +kernel
theorem dX5_bitsOfShare_36 : decode cX5_bitsOfShare 36 = .ok (.dmul, 1) := by decide +kernel
theorem dX5_bitsOfShare_37 : decode cX5_bitsOfShare 37 = .ok (.dstore_n 2, 1) := by decide +kernel
theorem dX5_bitsOfShare_38 : decode cX5_bitsOfShare 38 = .ok (.lload 4, 2) := by decide +kernel
theorem dX5_bitsOfShare_40 : decode cX5_bitsOfShare 40 = .ok (.lconst 1, 1) := by decide +kernel
theorem dX5_bitsOfShare_41 : decode cX5_bitsOfShare 41 = .ok (.lsub, 1) := by decide +kernel
theorem dX5_bitsOfShare_42 : decode cX5_bitsOfShare 42 = .ok (.lstore 4, 2) := by decide +kernel
theorem dX5_bitsOfShare_44 : decode cX5_bitsOfShare 44 = .ok (.iinc 6 1, 3) := by decide +kernel
theorem dX5_bitsOfShare_47 : decode cX5_bitsOfShare 47 = .ok (.goto (-29), 3) := by decide +kernel
theorem dX5_bitsOfShare_50 : decode cX5_bitsOfShare 50 = .ok (.ldc2_w 248, 3) := by decide +kernel
theorem dX5_bitsOfShare_53 : decode cX5_bitsOfShare 53 = .ok (.lstore 6, 2) := by decide +kernel
theorem dX5_bitsOfShare_55 : decode cX5_bitsOfShare 55 = .ok (.lload 4, 2) := by decide +kernel
theorem dX5_bitsOfShare_57 : decode cX5_bitsOfShare 57 = .ok (.bipush 52, 2) := by decide +kernel
theorem dX5_bitsOfShare_59 : decode cX5_bitsOfShare 59 = .ok (.lshl, 1) := by decide +kernel
theorem dX5_bitsOfShare_60 : decode cX5_bitsOfShare 60 = .ok (.dload_n 2, 1) := by decide +kernel
theorem dX5_bitsOfShare_61 : decode cX5_bitsOfShare 61 = .ok (.lload 6, 2) := by decide +kernel
theorem dX5_bitsOfShare_63 : decode cX5_bitsOfShare 63 = .ok (.l2d, 1) := by decide +kernel
theorem dX5_bitsOfShare_64 : decode cX5_bitsOfShare 64 = .ok (.dmul, 1) := by decide +kernel
theorem dX5_bitsOfShare_65 : decode cX5_bitsOfShare 65 = .ok (.d2l, 1) := by decide +kernel
theorem dX5_bitsOfShare_66 : decode cX5_bitsOfShare 66 = .ok (.lload 6, 2) := by decide +kernel
theorem dX5_bitsOfShare_68 : decode cX5_bitsOfShare 68 = .ok (.lsub, 1) := by decide +kernel
theorem dX5_bitsOfShare_69 : decode cX5_bitsOfShare 69 = .ok (.ladd, 1) := by decide +kernel
theorem dX5_bitsOfShare_70 : decode cX5_bitsOfShare 70 = .ok (.lreturn, 1) := by decide +kernel
set_option maxRecDepth 20000 in
theorem ggX5_addPartsOfText_X0_startReading : GoodIn wsX5_addPartsOfText wsX0_startReading := goodIn_r _ [8, 9, 79, 80, 81, 82, 83, 84] (by decide +kernel) (by decide +kernel)
set_option maxRecDepth 20000 in
theorem gX5_addPartsOfText_X0_startReading : GoodIn wsX5_addPartsOfText (wsV RX5 250 RX0 yX0_startReading wsX0_startReading) := goodIn_app (goodIn_of _ (by decide +kernel)) ggX5_addPartsOfText_X0_startReading
set_option maxRecDepth 20000 in
theorem ggX5_addPartsOfText_X5_addPartOfText : GoodIn wsX5_addPartsOfText wsX5_addPartOfText := goodIn_r _ [14, 1, 15, 16, 17, 18, 19, 20, 21, 22, 23, 24, 25, 26, 27, 28, 29, 30, 31, 32, 33, 34, 35, 36, 37, 38, 39, 40, 41, 42, 43, 44, 74, 75, 76, 77, 78, 79, 80, 81, 82, 83, 84, 85, 86, 87, 88, 89, 90, 91, 92, 93, 94, 95, 96, 97, 98] (by decide +kernel) (by decide +kernel)
set_option maxRecDepth 20000 in
theorem gX5_addPartsOfText_X5_addPartOfText : GoodIn wsX5_addPartsOfText (wsV RX5 253 RX5 yX5_addPartOfText wsX5_addPartOfText) := goodIn_app (goodIn_of _ (by decide +kernel)) ggX5_addPartsOfText_X5_addPartOfText
set_option maxRecDepth 20000 in
theorem ggX5_addPartsOfText_X0_accept : GoodIn wsX5_addPartsOfText wsX0_accept := goodIn_r _ [48, 9, 49, 50, 51, 7, 52, 53, 54, 55, 56, 57, 58, 59, 60, 61, 62, 63, 64, 65, 66, 67, 68, 69, 70, 71, 72, 73, 5, 6, 8, 79, 80, 81, 82, 83, 84] (by decide +kernel) (by decide +kernel)
set_option maxRecDepth 20000 in
theorem gX5_addPartsOfText_X0_accept : GoodIn wsX5_addPartsOfText (wsV RX5 256 RX0 yX0_accept wsX0_accept) := goodIn_app (goodIn_of _ (by decide +kernel)) ggX5_addPartsOfText_X0_accept
theorem dX5_addPartsOfText_0 : decode cX5_addPartsOfText 0 = .ok (.iconst 0, 1) := by decide +kernel
theorem dX5_addPartsOfText_1 : decode cX5_addPartsOfText 1 = .ok (.istore_n 1, 1) := by decide +kernel
theorem dX5_addPartsOfText_2 : decode cX5_addPartsOfText 2 = .ok (.aload_n 0, 1) := by decide +kernel
theorem dX5_addPartsOfText_3 : decode cX5_addPartsOfText 3 = .ok (.getfield 36, 3) := by decide +kernel
theorem dX5_addPartsOfText_6 : decode cX5_addPartsOfText 6 = .ok (.invokevirtual 250, 3) := by decide +kernel
theorem dX5_addPartsOfText_9 : decode cX5_addPartsOfText 9 = .ok (.iconst 0, 1) := by decide +kernel
theorem dX5_addPartsOfText_10 : decode cX5_addPartsOfText 10 = .ok (.istore_n 2, 1) := by decide +kernel
theorem dX5_addPartsOfText_11 : decode cX5_addPartsOfText 11 = .ok (.iload_n 2, 1) := by decide +kernel
theorem dX5_addPartsOfText_12 : decode cX5_addPartsOfText 12 = .ok (.aload_n 0, 1) := by decide +kernel
theorem dX5_addPartsOfText_13 : decode cX5_addPartsOfText 13 = .ok (.getfield 36, 3) := by decide +kernel
theorem dX5_addPartsOfText_16 : decode cX5_addPartsOfText 16 = .ok (.getfield 121, 3) := by decide +kernel
theorem dX5_addPartsOfText_19 : decode cX5_addPartsOfText 19 = .ok (.if_icmp .gt 88, 3) := by decide +kernel
theorem dX5_addPartsOfText_22 : decode cX5_addPartsOfText 22 = .ok (.iload_n 2, 1) := by decide +kernel
theorem dX5_addPartsOfText_23 : decode cX5_addPartsOfText 23 = .ok (.aload_n 0, 1) := by decide +kernel
theorem dX5_addPartsOfText_24 : decode cX5_addPartsOfText 24 = .ok (.getfield 36, 3) := by decide +kernel
theorem dX5_addPartsOfText_27 : decode cX5_addPartsOfText 27 = .ok (.getfield 121, 3) := by decide +kernel
theorem dX5_addPartsOfText_30 : decode cX5_addPartsOfText 30 = .ok (.if_icmp .eq 17, 3) := by decide +kernel
theorem dX5_addPartsOfText_33 : decode cX5_addPartsOfText 33 = .ok (.aload_n 0, 1) := by decide +kernel
theorem dX5_addPartsOfText_34 : decode cX5_addPartsOfText 34 = .ok (.getfield 36, 3) := by decide +kernel
theorem dX5_addPartsOfText_37 : decode cX5_addPartsOfText 37 = .ok (.getfield 126, 3) := by decide +kernel
theorem dX5_addPartsOfText_40 : decode cX5_addPartsOfText 40 = .ok (.iload_n 2, 1) := by decide +kernel
theorem dX5_addPartsOfText_41 : decode cX5_addPartsOfText 41 = .ok (.iaload, 1) := by decide +kernel
theorem dX5_addPartsOfText_42 : decode cX5_addPartsOfText 42 = .ok (.bipush 59, 2) := by decide +kernel
theorem dX5_addPartsOfText_44 : decode cX5_addPartsOfText 44 = .ok (.if_icmp .ne 7, 3) := by decide +kernel
theorem dX5_addPartsOfText_47 : decode cX5_addPartsOfText 47 = .ok (.iconst 1, 1) := by decide +kernel
theorem dX5_addPartsOfText_48 : decode cX5_addPartsOfText 48 = .ok (.goto 4, 3) := by decide +kernel
theorem dX5_addPartsOfText_51 : decode cX5_addPartsOfText 51 = .ok (.iconst 0, 1) := by decide +kernel
theorem dX5_addPartsOfText_52 : decode cX5_addPartsOfText 52 = .ok (.istore_n 3, 1) := by decide +kernel
theorem dX5_addPartsOfText_53 : decode cX5_addPartsOfText 53 = .ok (.iload_n 3, 1) := by decide +kernel
theorem dX5_addPartsOfText_54 : decode cX5_addPartsOfText 54 = .ok (.ifCond .eq 12, 3) := by decide +kernel
theorem dX5_addPartsOfText_57 : decode cX5_addPartsOfText 57 = .ok (.aload_n 0, 1) := by decide +kernel
theorem dX5_addPartsOfText_58 : decode cX5_addPartsOfText 58 = .ok (.invokevirtual 253, 3) := by decide +kernel
theorem dX5_addPartsOfText_61 : decode cX5_addPartsOfText 61 = .ok (.ifCond .ne 5, 3) := by decide +kernel
theorem dX5_addPartsOfText_64 : decode cX5_addPartsOfText 64 = .ok (.iload_n 1, 1) := by decide +kernel
theorem dX5_addPartsOfText_65 : decode cX5_addPartsOfText 65 = .ok (.ireturn, 1) := by decide +kernel
theorem dX5_addPartsOfText_66 : decode cX5_addPartsOfText 66 = .ok (.iload_n 3, 1) := by decide +kernel
theorem dX5_addPartsOfText_67 : decode cX5_addPartsOfText 67 = .ok (.ifCond .eq 6, 3) := by decide +kernel
theorem dX5_addPartsOfText_70 : decode cX5_addPartsOfText 70 = .ok (.iinc 1 1, 3) := by decide +kernel
theorem dX5_addPartsOfText_73 : decode cX5_addPartsOfText 73 = .ok (.iload_n 2, 1) := by decide +kernel
theorem dX5_addPartsOfText_74 : decode cX5_addPartsOfText 74 = .ok (.aload_n 0, 1) := by decide +kernel
theorem dX5_addPartsOfText_75 : decode cX5_addPartsOfText 75 = .ok (.getfield 36, 3) := by decide +kernel
theorem dX5_addPartsOfText_78 : decode cX5_addPartsOfText 78 = .ok (.getfield 121, 3) := by decide +kernel
theorem dX5_addPartsOfText_81 : decode cX5_addPartsOfText 81 = .ok (.if_icmp .ge 20, 3) := by decide +kernel
theorem dX5_addPartsOfText_84 : decode cX5_addPartsOfText 84 = .ok (.aload_n 0, 1) := by decide +kernel
theorem dX5_addPartsOfText_85 : decode cX5_addPartsOfText 85 = .ok (.getfield 36, 3) := by decide +kernel
theorem dX5_addPartsOfText_88 : decode cX5_addPartsOfText 88 = .ok (.aload_n 0, 1) := by decide +kernel
theorem dX5_addPartsOfText_89 : decode cX5_addPartsOfText 89 = .ok (.getfield 36, 3) := by decide +kernel
theorem dX5_addPartsOfText_92 : decode cX5_addPartsOfText 92 = .ok (.getfield 126, 3) := by decide +kernel
theorem dX5_addPartsOfText_95 : decode cX5_addPartsOfText 95 = .ok (.iload_n 2, 1) := by decide +kernel
theorem dX5_addPartsOfText_96 : decode cX5_addPartsOfText 96 = .ok (.iaload, 1) := by decide +kernel
theorem dX5_addPartsOfText_97 : decode cX5_addPartsOfText 97 = .ok (.invokevirtual 256, 3) := by decide +kernel
theorem dX5_addPartsOfText_100 : decode cX5_addPartsOfText 100 = .ok (.pop, 1) := by decide +kernel
theorem dX5_addPartsOfText_101 : decode cX5_addPartsOfText 101 = .ok (.iinc 2 1, 3) := by decide +kernel
theorem dX5_addPartsOfText_104 : decode cX5_addPartsOfText 104 = .ok (.goto (-93), 3) := by decide +kernel
theorem dX5_addPartsOfText_107 : decode cX5_addPartsOfText 107 = .ok (.iload_n 1, 1) := by decide +kernel
theorem dX5_addPartsOfText_108 : decode cX5_addPartsOfText 108 = .ok (.ireturn, 1) := by decide +kernel
set_option maxRecDepth 20000 in
theorem ggX5_addPartOfText_X2_newFeeder : GoodIn wsX5_addPartOfText wsX2_newFeeder := goodIn_r _ [11, 12, 13, 14, 15, 16, 17, 18, 19, 20, 21, 43, 44, 45, 46, 47, 48, 49, 50, 51, 52, 53, 54, 55, 56] (by decide +kernel) (by decide +kernel)
set_option maxRecDepth 20000 in
theorem gX5_addPartOfText_X2_newFeeder : GoodIn wsX5_addPartOfText (wsV RX5 59 RX2 yX2_newFeeder wsX2_newFeeder) := goodIn_app (goodIn_of _ (by decide +kernel)) ggX5_addPartOfText_X2_newFeeder
set_option maxRecDepth 20000 in
theorem ggX5_addPartOfText_X2_newPlace : GoodIn wsX5_addPartOfText wsX2_newPlace := goodIn_r _ [25, 26, 27, 15, 16, 17, 18, 19, 20, 21, 28, 29, 30, 10, 31, 43, 44, 45, 46, 47, 48, 49, 50, 51, 52, 53, 54, 55, 56] (by decide +kernel) (by decide +kernel)
set_option maxRecDepth 20000 in
theorem gX5_addPartOfText_X2_newPlace : GoodIn wsX5_addPartOfText (wsV RX5 68 RX2 yX2_newPlace wsX2_newPlace) := goodIn_app (goodIn_of _ (by decide +kernel)) ggX5_addPartOfText_X2_newPlace
theorem dX5_addPartOfText_0 : decode cX5_addPartOfText 0 = .ok (.aload_n 0, 1) := by decide +kernel
theorem dX5_addPartOfText_1 : decode cX5_addPartOfText 1 = .ok (.getfield 36, 3) := by decide +kernel
theorem dX5_addPartOfText_4 : decode cX5_addPartOfText 4 = .ok (.getfield 260, 3) := by decide +kernel
theorem dX5_addPartOfText_7 : decode cX5_addPartOfText 7 = .ok (.ifCond .eq 54, 3) := by decide +kernel
theorem dX5_addPartOfText_10 : decode cX5_addPartOfText 10 = .ok (.aload_n 0, 1) := by decide +kernel
theorem dX5_addPartOfText_11 : decode cX5_addPartOfText 11 = .ok (.getfield 10, 3) := by decide +kernel
theorem dX5_addPartOfText_14 : decode cX5_addPartOfText 14 = .ok (.getfield 44, 3) := by decide +kernel
theorem dX5_addPartOfText_17 : decode cX5_addPartOfText 17 = .ok (.bipush 8, 2) := by decide +kernel
theorem dX5_addPartOfText_19 : decode cX5_addPartOfText 19 = .ok (.if_icmp .ge 42, 3) := by decide +kernel
theorem dX5_addPartOfText_22 : decode cX5_addPartOfText 22 = .ok (.aload_n 0, 1) := by decide +kernel
theorem dX5_addPartOfText_23 : decode cX5_addPartOfText 23 = .ok (.getfield 10, 3) := by decide +kernel
theorem dX5_addPartOfText_26 : decode cX5_addPartOfText 26 = .ok (.aload_n 0, 1) := by decide +kernel
theorem dX5_addPartOfText_27 : decode cX5_addPartOfText 27 = .ok (.getfield 36, 3) := by decide +kernel
theorem dX5_addPartOfText_30 : decode cX5_addPartOfText 30 = .ok (.getfield 264, 3) := by decide +kernel
theorem dX5_addPartOfText_33 : decode cX5_addPartOfText 33 = .ok (.iconst 0, 1) := by decide +kernel
theorem dX5_addPartOfText_34 : decode cX5_addPartOfText 34 = .ok (.iaload, 1) := by decide +kernel
theorem dX5_addPartOfText_35 : decode cX5_addPartOfText 35 = .ok (.aload_n 0, 1) := by decide +kernel
theorem dX5_addPartOfText_36 : decode cX5_addPartOfText 36 = .ok (.getfield 36, 3) := by decide +kernel
theorem dX5_addPartOfText_39 : decode cX5_addPartOfText 39 = .ok (.getfield 264, 3) := by decide +kernel
theorem dX5_addPartOfText_42 : decode cX5_addPartOfText 42 = .ok (.iconst 1, 1) := by decide +kernel
theorem dX5_addPartOfText_43 : decode cX5_addPartOfText 43 = .ok (.iaload, 1) := by decide +kernel
theorem dX5_addPartOfText_44 : decode cX5_addPartOfText 44 = .ok (.aload_n 0, 1) := by decide +kernel
theorem dX5_addPartOfText_45 : decode cX5_addPartOfText 45 = .ok (.getfield 36, 3) := by decide +kernel
theorem dX5_addPartOfText_48 : decode cX5_addPartOfText 48 = .ok (.getfield 264, 3) := by decide +kernel
theorem dX5_addPartOfText_51 : decode cX5_addPartOfText 51 = .ok (.iconst 2, 1) := by decide +kernel
theorem dX5_addPartOfText_52 : decode cX5_addPartOfText 52 = .ok (.iaload, 1) := by decide +kernel
theorem dX5_addPartOfText_53 : decode cX5_addPartOfText 53 = .ok (.iconst 0, 1) := by decide +kernel
theorem dX5_addPartOfText_54 : decode cX5_addPartOfText 54 = .ok (.iconst 0, 1) := by decide +kernel
theorem dX5_addPartOfText_55 : decode cX5_addPartOfText 55 = .ok (.invokevirtual 59, 3) := by decide +kernel
theorem dX5_addPartOfText_58 : decode cX5_addPartOfText 58 = .ok (.pop, 1) := by decide +kernel
theorem dX5_addPartOfText_59 : decode cX5_addPartOfText 59 = .ok (.iconst 1, 1) := by decide +kernel
theorem dX5_addPartOfText_60 : decode cX5_addPartOfText 60 = .ok (.ireturn, 1) := by decide +kernel
theorem dX5_addPartOfText_61 : decode cX5_addPartOfText 61 = .ok (.aload_n 0, 1) := by decide +kernel
theorem dX5_addPartOfText_62 : decode cX5_addPartOfText 62 = .ok (.getfield 36, 3) := by decide +kernel
theorem dX5_addPartOfText_65 : decode cX5_addPartOfText 65 = .ok (.getfield 260, 3) := by decide +kernel
theorem dX5_addPartOfText_68 : decode cX5_addPartOfText 68 = .ok (.ifCond .ne 43, 3) := by decide +kernel
theorem dX5_addPartOfText_71 : decode cX5_addPartOfText 71 = .ok (.aload_n 0, 1) := by decide +kernel
theorem dX5_addPartOfText_72 : decode cX5_addPartOfText 72 = .ok (.getfield 10, 3) := by decide +kernel
theorem dX5_addPartOfText_75 : decode cX5_addPartOfText 75 = .ok (.getfield 63, 3) := by decide +kernel
theorem dX5_addPartOfText_78 : decode cX5_addPartOfText 78 = .ok (.bipush 24, 2) := by decide +kernel
theorem dX5_addPartOfText_80 : decode cX5_addPartOfText 80 = .ok (.if_icmp .ge 31, 3) := by decide +kernel
theorem dX5_addPartOfText_83 : decode cX5_addPartOfText 83 = .ok (.aload_n 0, 1) := by decide +kernel
theorem dX5_addPartOfText_84 : decode cX5_addPartOfText 84 = .ok (.getfield 10, 3) := by decide +kernel
theorem dX5_addPartOfText_87 : decode cX5_addPartOfText 87 = .ok (.aload_n 0, 1) := by decide +kernel
theorem dX5_addPartOfText_88 : decode cX5_addPartOfText 88 = .ok (.getfield 36, 3) := by decide +kernel
theorem dX5_addPartOfText_91 : decode cX5_addPartOfText 91 = .ok (.getfield 264, 3) := by decide +kernel
theorem dX5_addPartOfText_94 : decode cX5_addPartOfText 94 = .ok (.iconst 0, 1) := by decide +kernel
theorem dX5_addPartOfText_95 : decode cX5_addPartOfText 95 = .ok (.iaload, 1) := by decide +kernel
theorem dX5_addPartOfText_96 : decode cX5_addPartOfText 96 = .ok (.aload_n 0, 1) := by decide +kernel
theorem dX5_addPartOfText_97 : decode cX5_addPartOfText 97 = .ok (.getfield 36, 3) := by decide +kernel
theorem dX5_addPartOfText_100 : decode cX5_addPartOfText 100 = .ok (.getfield 264, 3) := by decide +kernel
theorem dX5_addPartOfText_103 : decode cX5_addPartOfText 103 = .ok (.iconst 1, 1) := by decide +kernel
theorem dX5_addPartOfText_104 : decode cX5_addPartOfText 104 = .ok (.iaload, 1) := by decide +kernel
theorem dX5_addPartOfText_105 : decode cX5_addPartOfText 105 = .ok (.invokevirtual 68, 3) := by decide +kernel
theorem dX5_addPartOfText_108 : decode cX5_addPartOfText 108 = .ok (.pop, 1) := by decide +kernel
theorem dX5_addPartOfText_109 : decode cX5_addPartOfText 109 = .ok (.iconst 1, 1) := by decide +kernel
theorem dX5_addPartOfText_110 : decode cX5_addPartOfText 110 = .ok (.ireturn, 1) := by decide +kernel
theorem dX5_addPartOfText_111 : decode cX5_addPartOfText 111 = .ok (.iconst 0, 1) := by decide +kernel
theorem dX5_addPartOfText_112 : decode cX5_addPartOfText 112 = .ok (.ireturn, 1) := by decide +kernel
theorem dX5_checkFeeder_0 : decode cX5_checkFeeder 0 = .ok (.iload_n 1, 1) := by decide +kernel
theorem dX5_checkFeeder_1 : decode cX5_checkFeeder 1 = .ok (.ifCond .lt 14, 3) := by decide +kernel
theorem dX5_checkFeeder_4 : decode cX5_checkFeeder 4 = .ok (.iload_n 1, 1) := by decide +kernel
theorem dX5_checkFeeder_5 : decode cX5_checkFeeder 5 = .ok (.aload_n 0, 1) := by decide +kernel
theorem dX5_checkFeeder_6 : decode cX5_checkFeeder 6 = .ok (.getfield 10, 3) := by decide +kernel
theorem dX5_checkFeeder_9 : decode cX5_checkFeeder 9 = .ok (.getfield 44, 3) := by decide +kernel
theorem dX5_checkFeeder_12 : decode cX5_checkFeeder 12 = .ok (.if_icmp .lt 14, 3) := by decide +kernel
theorem dX5_checkFeeder_15 : decode cX5_checkFeeder 15 = .ok (.new 159, 3) := by decide +kernel
theorem dX5_checkFeeder_18 : decode cX5_checkFeeder 18 = .ok (.dup, 1) := by decide +kernel
theorem dX5_checkFeeder_19 : decode cX5_checkFeeder 19 = .ok (.ldc_w 267, 3) := by decide +kernel
theorem dX5_checkFeeder_22 : decode cX5_checkFeeder 22 = .ok (.invokespecial 163, 3) := by decide +kernel
theorem dX5_checkFeeder_25 : decode cX5_checkFeeder 25 = .ok (.athrow, 1) := by decide +kernel
theorem dX5_checkFeeder_26 : decode cX5_checkFeeder 26 = .ok (.return_, 1) := by decide +kernel
theorem dX5_checkNozzle_0 : decode cX5_checkNozzle 0 = .ok (.iload_n 0, 1) := by decide +kernel
theorem dX5_checkNozzle_1 : decode cX5_checkNozzle 1 = .ok (.ifCond .lt 8, 3) := by decide +kernel
theorem dX5_checkNozzle_4 : decode cX5_checkNozzle 4 = .ok (.iload_n 0, 1) := by decide +kernel
theorem dX5_checkNozzle_5 : decode cX5_checkNozzle 5 = .ok (.iconst 4, 1) := by decide +kernel
theorem dX5_checkNozzle_6 : decode cX5_checkNozzle 6 = .ok (.if_icmp .lt 14, 3) := by decide +kernel
theorem dX5_checkNozzle_9 : decode cX5_checkNozzle 9 = .ok (.new 159, 3) := by decide +kernel
theorem dX5_checkNozzle_12 : decode cX5_checkNozzle 12 = .ok (.dup, 1) := by decide +kernel
theorem dX5_checkNozzle_13 : decode cX5_checkNozzle 13 = .ok (.ldc_w 269, 3) := by decide +kernel
theorem dX5_checkNozzle_16 : decode cX5_checkNozzle 16 = .ok (.invokespecial 163, 3) := by decide +kernel
theorem dX5_checkNozzle_19 : decode cX5_checkNozzle 19 = .ok (.athrow, 1) := by decide +kernel
theorem dX5_checkNozzle_20 : decode cX5_checkNozzle 20 = .ok (.return_, 1) := by decide +kernel
theorem dX5_checkSetting_0 : decode cX5_checkSetting 0 = .ok (.iload_n 0, 1) := by decide +kernel
theorem dX5_checkSetting_1 : decode cX5_checkSetting 1 = .ok (.ifCond .lt 8, 3) := by decide +kernel
theorem dX5_checkSetting_4 : decode cX5_checkSetting 4 = .ok (.iload_n 0, 1) := by decide +kernel
theorem dX5_checkSetting_5 : decode cX5_checkSetting 5 = .ok (.iconst 5, 1) := by decide +kernel
theorem dX5_checkSetting_6 : decode cX5_checkSetting 6 = .ok (.if_icmp .lt 14, 3) := by decide +kernel
theorem dX5_checkSetting_9 : decode cX5_checkSetting 9 = .ok (.new 159, 3) := by decide +kernel
theorem dX5_checkSetting_12 : decode cX5_checkSetting 12 = .ok (.dup, 1) := by decide +kernel
theorem dX5_checkSetting_13 : decode cX5_checkSetting 13 = .ok (.ldc_w 271, 3) := by decide +kernel
theorem dX5_checkSetting_16 : decode cX5_checkSetting 16 = .ok (.invokespecial 163, 3) := by decide +kernel
theorem dX5_checkSetting_19 : decode cX5_checkSetting 19 = .ok (.athrow, 1) := by decide +kernel
theorem dX5_checkSetting_20 : decode cX5_checkSetting 20 = .ok (.return_, 1) := by decide +kernel
theorem dX5_checkRange_0 : decode cX5_checkRange 0 = .ok (.iload_n 0, 1) := by decide +kernel
theorem dX5_checkRange_1 : decode cX5_checkRange 1 = .ok (.iload_n 1, 1) := by decide +kernel
theorem dX5_checkRange_2 : decode cX5_checkRange 2 = .ok (.if_icmp .lt 8, 3) := by decide +kernel
theorem dX5_checkRange_5 : decode cX5_checkRange 5 = .ok (.iload_n 0, 1) := by decide +kernel
theorem dX5_checkRange_6 : decode cX5_checkRange 6 = .ok (.iload_n 2, 1) := by decide +kernel
theorem dX5_checkRange_7 : decode cX5_checkRange 7 = .ok (.if_icmp .le 14, 3) := by decide +kernel
theorem dX5_checkRange_10 : decode cX5_checkRange 10 = .ok (.new 136, 3) := by decide +kernel
theorem dX5_checkRange_13 : decode cX5_checkRange 13 = .ok (.dup, 1) := by decide +kernel
theorem dX5_checkRange_14 : decode cX5_checkRange 14 = .ok (.ldc_w 273, 3) := by decide +kernel
theorem dX5_checkRange_17 : decode cX5_checkRange 17 = .ok (.invokespecial 140, 3) := by decide +kernel
theorem dX5_checkRange_20 : decode cX5_checkRange 20 = .ok (.athrow, 1) := by decide +kernel
theorem dX5_checkRange_21 : decode cX5_checkRange 21 = .ok (.return_, 1) := by decide +kernel
theorem dX6_init_0 : decode cX6_init 0 = .ok (.aload_n 0, 1) := by decide +kernel
theorem dX6_init_1 : decode cX6_init 1 = .ok (.invokespecial 1, 3) := by decide +kernel
theorem dX6_init_4 : decode cX6_init 4 = .ok (.aload_n 0, 1) := by decide +kernel
theorem dX6_init_5 : decode cX6_init 5 = .ok (.sipush 248, 3) := by decide +kernel
theorem dX6_init_8 : decode cX6_init 8 = .ok (.newarray .int, 2) := by decide +kernel
theorem dX6_init_10 : decode cX6_init 10 = .ok (.putfield 7, 3) := by decide +kernel
theorem dX6_init_13 : decode cX6_init 13 = .ok (.aload_n 0, 1) := by decide +kernel
theorem dX6_init_14 : decode cX6_init 14 = .ok (.sipush 1488, 3) := by decide +kernel
theorem dX6_init_17 : decode cX6_init 17 = .ok (.newarray .int, 2) := by decide +kernel
theorem dX6_init_19 : decode cX6_init 19 = .ok (.putfield 13, 3) := by decide +kernel
theorem dX6_init_22 : decode cX6_init 22 = .ok (.aload_n 0, 1) := by decide +kernel
theorem dX6_init_23 : decode cX6_init 23 = .ok (.bipush 60, 2) := by decide +kernel
theorem dX6_init_25 : decode cX6_init 25 = .ok (.newarray .int, 2) := by decide +kernel
theorem dX6_init_27 : decode cX6_init 27 = .ok (.putfield 16, 3) := by decide +kernel
theorem dX6_init_30 : decode cX6_init 30 = .ok (.aload_n 0, 1) := by decide +kernel
theorem dX6_init_31 : decode cX6_init 31 = .ok (.iconst 4, 1) := by decide +kernel
theorem dX6_init_32 : decode cX6_init 32 = .ok (.newarray .int, 2) := by decide +kernel
theorem dX6_init_34 : decode cX6_init 34 = .ok (.putfield 19, 3) := by decide +kernel
theorem dX6_init_37 : decode cX6_init 37 = .ok (.aload_n 0, 1) := by decide +kernel
theorem dX6_init_38 : decode cX6_init 38 = .ok (.iconst 4, 1) := by decide +kernel
theorem dX6_init_39 : decode cX6_init 39 = .ok (.newarray .int, 2) := by decide +kernel
theorem dX6_init_41 : decode cX6_init 41 = .ok (.putfield 22, 3) := by decide +kernel
theorem dX6_init_44 : decode cX6_init 44 = .ok (.aload_n 0, 1) := by decide +kernel
theorem dX6_init_45 : decode cX6_init 45 = .ok (.iconst 4, 1) := by decide +kernel
theorem dX6_init_46 : decode cX6_init 46 = .ok (.newarray .int, 2) := by decide +kernel
theorem dX6_init_48 : decode cX6_init 48 = .ok (.putfield 25, 3) := by decide +kernel
theorem dX6_init_51 : decode cX6_init 51 = .ok (.aload_n 0, 1) := by decide +kernel
theorem dX6_init_52 : decode cX6_init 52 = .ok (.bipush 56, 2) := by decide +kernel
theorem dX6_init_54 : decode cX6_init 54 = .ok (.newarray .int, 2) := by decide +kernel
theorem dX6_init_56 : decode cX6_init 56 = .ok (.putfield 28, 3) := by decide +kernel
theorem dX6_init_59 : decode cX6_init 59 = .ok (.aload_n 0, 1) := by decide +kernel
theorem dX6_init_60 : decode cX6_init 60 = .ok (.sipush 248, 3) := by decide +kernel
theorem dX6_init_63 : decode cX6_init 63 = .ok (.newarray .int, 2) := by decide +kernel
theorem dX6_init_65 : decode cX6_init 65 = .ok (.putfield 31, 3) := by decide +kernel
theorem dX6_init_68 : decode cX6_init 68 = .ok (.aload_n 0, 1) := by decide +kernel
theorem dX6_init_69 : decode cX6_init 69 = .ok (.getfield 7, 3) := by decide +kernel
theorem dX6_init_72 : decode cX6_init 72 = .ok (.iconst 0, 1) := by decide +kernel
theorem dX6_init_73 : decode cX6_init 73 = .ok (.iconst 2, 1) := by decide +kernel
theorem dX6_init_74 : decode cX6_init 74 = .ok (.iastore, 1) := by decide +kernel
theorem dX6_init_75 : decode cX6_init 75 = .ok (.aload_n 0, 1) := by decide +kernel
theorem dX6_init_76 : decode cX6_init 76 = .ok (.getfield 7, 3) := by decide +kernel
theorem dX6_init_79 : decode cX6_init 79 = .ok (.iconst 1, 1) := by decide +kernel
theorem dX6_init_80 : decode cX6_init 80 = .ok (.bipush 20, 2) := by decide +kernel
theorem dX6_init_82 : decode cX6_init 82 = .ok (.iastore, 1) := by decide +kernel
theorem dX6_init_83 : decode cX6_init 83 = .ok (.aload_n 0, 1) := by decide +kernel
theorem dX6_init_84 : decode cX6_init 84 = .ok (.getfield 7, 3) := by decide +kernel
theorem dX6_init_87 : decode cX6_init 87 = .ok (.iconst 2, 1) := by decide +kernel
theorem dX6_init_88 : decode cX6_init 88 = .ok (.iconst 5, 1) := by decide +kernel
theorem dX6_init_89 : decode cX6_init 89 = .ok (.iastore, 1) := by decide +kernel
theorem dX6_init_90 : decode cX6_init 90 = .ok (.aload_n 0, 1) := by decide +kernel
theorem dX6_init_91 : decode cX6_init 91 = .ok (.getfield 7, 3) := by decide +kernel
theorem dX6_init_94 : decode cX6_init 94 = .ok (.iconst 3, 1) := by decide +kernel
theorem dX6_init_95 : decode cX6_init 95 = .ok (.bipush 80, 2) := by decide +kernel
theorem dX6_init_97 : decode cX6_init 97 = .ok (.iastore, 1) := by decide +kernel
theorem dX6_init_98 : decode cX6_init 98 = .ok (.aload_n 0, 1) := by decide +kernel
theorem dX6_init_99 : decode cX6_init 99 = .ok (.getfield 7, 3) := by decide +kernel
theorem dX6_init_102 : decode cX6_init 102 = .ok (.iconst 4, 1) := by decide +kernel
theorem dX6_init_103 : decode cX6_init 103 = .ok (.bipush 50, 2) := by decide +kernel
theorem dX6_init_105 : decode cX6_init 105 = .ok (.iastore, 1) := by decide +kernel
theorem dX6_init_106 : decode cX6_init 106 = .ok (.aload_n 0, 1) := by decide +kernel
theorem dX6_init_107 : decode cX6_init 107 = .ok (.getfield 7, 3) := by decide +kernel
theorem dX6_init_110 : decode cX6_init 110 = .ok (.bipush 8, 2) := by decide +kernel
theorem dX6_init_112 : decode cX6_init 112 = .ok (.iconst 1, 1) := by decide +kernel
theorem dX6_init_113 : decode cX6_init 113 = .ok (.iastore, 1) := by decide +kernel
theorem dX6_init_114 : decode cX6_init 114 = .ok (.iconst 0, 1) := by decide +kernel
theorem dX6_init_115 : decode cX6_init 115 = .ok (.istore_n 1, 1) := by decide +kernel
theorem dX6_init_116 : decode cX6_init 116 = .ok (.iload_n 1, 1) := by decide +kernel
theorem dX6_init_117 : decode cX6_init 117 = .ok (.iconst 4, 1) := by decide +kernel
theorem dX6_init_118 : decode cX6_init 118 = .ok (.if_icmp .ge 25, 3) := by decide +kernel
theorem dX6_init_121 : decode cX6_init 121 = .ok (.aload_n 0, 1) := by decide +kernel
theorem dX6_init_122 : decode cX6_init 122 = .ok (.getfield 7, 3) := by decide +kernel
theorem dX6_init_125 : decode cX6_init 125 = .ok (.sipush 196, 3) := by decide +kernel
theorem dX6_init_128 : decode cX6_init 128 = .ok (.iconst 5, 1) := by decide +kernel
theorem dX6_init_129 : decode cX6_init 129 = .ok (.iload_n 1, 1) := by decide +kernel
theorem dX6_init_130 : decode cX6_init 130 = .ok (.imul, 1) := by decide +kernel
theorem dX6_init_131 : decode cX6_init 131 = .ok (.iadd, 1) := by decide +kernel
theorem dX6_init_132 : decode cX6_init 132 = .ok (.iconst 0, 1) := by decide +kernel
theorem dX6_init_133 : decode cX6_init 133 = .ok (.iadd, 1) := by decide +kernel
theorem dX6_init_134 : decode cX6_init 134 = .ok (.bipush 63, 2) := by decide +kernel
theorem dX6_init_136 : decode cX6_init 136 = .ok (.iastore, 1) := by decide +kernel
theorem dX6_init_137 : decode cX6_init 137 = .ok (.iinc 1 1, 3) := by decide +kernel
theorem dX6_init_140 : decode cX6_init 140 = .ok (.goto (-24), 3) := by decide +kernel
theorem dX6_init_143 : decode cX6_init 143 = .ok (.return_, 1) := by decide +kernel
theorem dX6_thrown_0 : decode cX6_thrown 0 = .ok (.aload_n 0, 1) := by decide +kernel
theorem dX6_thrown_1 : decode cX6_thrown 1 = .ok (.getfield 34, 3) := by decide +kernel
theorem dX6_thrown_4 : decode cX6_thrown 4 = .ok (.ireturn, 1) := by decide +kernel
theorem dX6_within_0 : decode cX6_within 0 = .ok (.iload_n 0, 1) := by decide +kernel
theorem dX6_within_1 : decode cX6_within 1 = .ok (.iload_n 1, 1) := by decide +kernel
theorem dX6_within_2 : decode cX6_within 2 = .ok (.if_icmp .lt 12, 3) := by decide +kernel
theorem dX6_within_5 : decode cX6_within 5 = .ok (.iload_n 0, 1) := by decide +kernel
theorem dX6_within_6 : decode cX6_within 6 = .ok (.iload_n 2, 1) := by decide +kernel
theorem dX6_within_7 : decode cX6_within 7 = .ok (.if_icmp .gt 7, 3) := by decide +kernel
theorem dX6_within_10 : decode cX6_within 10 = .ok (.iconst 1, 1) := by decide +kernel
theorem dX6_within_11 : decode cX6_within 11 = .ok (.goto 4, 3) := by decide +kernel
theorem dX6_within_14 : decode cX6_within 14 = .ok (.iconst 0, 1) := by decide +kernel
theorem dX6_within_15 : decode cX6_within 15 = .ok (.ireturn, 1) := by decide +kernel
theorem dX6_save_0 : decode cX6_save 0 = .ok (.aload_n 0, 1) := by decide +kernel
theorem dX6_save_1 : decode cX6_save 1 = .ok (.getfield 38, 3) := by decide +kernel
theorem dX6_save_4 : decode cX6_save 4 = .ok (.bipush 6, 2) := by decide +kernel
theorem dX6_save_6 : decode cX6_save 6 = .ok (.if_icmp .ne 46, 3) := by decide +kernel
theorem dX6_save_9 : decode cX6_save 9 = .ok (.sipush 248, 3) := by decide +kernel
theorem dX6_save_12 : decode cX6_save 12 = .ok (.istore_n 1, 1) := by decide +kernel
theorem dX6_save_13 : decode cX6_save 13 = .ok (.iload_n 1, 1) := by decide +kernel
theorem dX6_save_14 : decode cX6_save 14 = .ok (.sipush 1488, 3) := by decide +kernel
theorem dX6_save_17 : decode cX6_save 17 = .ok (.if_icmp .ge 25, 3) := by decide +kernel
theorem dX6_save_20 : decode cX6_save 20 = .ok (.aload_n 0, 1) := by decide +kernel
theorem dX6_save_21 : decode cX6_save 21 = .ok (.getfield 13, 3) := by decide +kernel
theorem dX6_save_24 : decode cX6_save 24 = .ok (.iload_n 1, 1) := by decide +kernel
theorem dX6_save_25 : decode cX6_save 25 = .ok (.sipush 248, 3) := by decide +kernel
theorem dX6_save_28 : decode cX6_save 28 = .ok (.isub, 1) := by decide +kernel
theorem dX6_save_29 : decode cX6_save 29 = .ok (.aload_n 0, 1) := by decide +kernel
theorem dX6_save_30 : decode cX6_save 30 = .ok (.getfield 13, 3) := by decide +kernel
theorem dX6_save_33 : decode cX6_save 33 = .ok (.iload_n 1, 1) := by decide +kernel
theorem dX6_save_34 : decode cX6_save 34 = .ok (.iaload, 1) := by decide +kernel
theorem dX6_save_35 : decode cX6_save 35 = .ok (.iastore, 1) := by decide +kernel
theorem dX6_save_36 : decode cX6_save 36 = .ok (.iinc 1 1, 3) := by decide +kernel
theorem dX6_save_39 : decode cX6_save 39 = .ok (.goto (-26), 3) := by decide +kernel
theorem dX6_save_42 : decode cX6_save 42 = .ok (.aload_n 0, 1) := by decide +kernel
theorem dX6_save_43 : decode cX6_save 43 = .ok (.dup, 1) := by decide +kernel
theorem dX6_save_44 : decode cX6_save 44 = .ok (.getfield 38, 3) := by decide +kernel
theorem dX6_save_47 : decode cX6_save 47 = .ok (.iconst 1, 1) := by decide +kernel
theorem dX6_save_48 : decode cX6_save 48 = .ok (.isub, 1) := by decide +kernel
theorem dX6_save_49 : decode cX6_save 49 = .ok (.putfield 38, 3) := by decide +kernel
theorem dX6_save_52 : decode cX6_save 52 = .ok (.iconst 0, 1) := by decide +kernel
theorem dX6_save_53 : decode cX6_save 53 = .ok (.istore_n 1, 1) := by decide +kernel
theorem dX6_save_54 : decode cX6_save 54 = .ok (.iload_n 1, 1) := by decide +kernel
theorem dX6_save_55 : decode cX6_save 55 = .ok (.sipush 248, 3) := by decide +kernel
theorem dX6_save_58 : decode cX6_save 58 = .ok (.if_icmp .ge 30, 3) := by decide +kernel
theorem dX6_save_61 : decode cX6_save 61 = .ok (.aload_n 0, 1) := by decide +kernel
theorem dX6_save_62 : decode cX6_save 62 = .ok (.getfield 13, 3) := by decide +kernel
theorem dX6_save_65 : decode cX6_save 65 = .ok (.sipush 248, 3) := by decide +kernel
theorem dX6_save_68 : decode cX6_save 68 = .ok (.aload_n 0, 1) := by decide +kernel
theorem dX6_save_69 : decode cX6_save 69 = .ok (.getfield 38, 3) := by decide +kernel
theorem dX6_save_72 : decode cX6_save 72 = .ok (.imul, 1) := by decide +kernel
theorem dX6_save_73 : decode cX6_save 73 = .ok (.iload_n 1, 1) := by decide +kernel
theorem dX6_save_74 : decode cX6_save 74 = .ok (.iadd, 1) := by decide +kernel
theorem dX6_save_75 : decode cX6_save 75 = .ok (.aload_n 0, 1) := by decide +kernel
theorem dX6_save_76 : decode cX6_save 76 = .ok (.getfield 7, 3) := by decide +kernel
theorem dX6_save_79 : decode cX6_save 79 = .ok (.iload_n 1, 1) := by decide +kernel
theorem dX6_save_80 : decode cX6_save 80 = .ok (.iaload, 1) := by decide +kernel
theorem dX6_save_81 : decode cX6_save 81 = .ok (.iastore, 1) := by decide +kernel
theorem dX6_save_82 : decode cX6_save 82 = .ok (.iinc 1 1, 3) := by decide +kernel
theorem dX6_save_85 : decode cX6_save 85 = .ok (.goto (-31), 3) := by decide +kernel
theorem dX6_save_88 : decode cX6_save 88 = .ok (.aload_n 0, 1) := by decide +kernel
theorem dX6_save_89 : decode cX6_save 89 = .ok (.dup, 1) := by decide +kernel
theorem dX6_save_90 : decode cX6_save 90 = .ok (.getfield 38, 3) := by decide +kernel
theorem dX6_save_93 : decode cX6_save 93 = .ok (.iconst 1, 1) := by decide +kernel
theorem dX6_save_94 : decode cX6_save 94 = .ok (.iadd, 1) := by decide +kernel
theorem dX6_save_95 : decode cX6_save 95 = .ok (.putfield 38, 3) := by decide +kernel
theorem dX6_save_98 : decode cX6_save 98 = .ok (.return_, 1) := by decide +kernel
theorem dX6_ofFeeder_0 : decode cX6_ofFeeder 0 = .ok (.aload_n 0, 1) := by decide +kernel
theorem dX6_ofFeeder_1 : decode cX6_ofFeeder 1 = .ok (.getfield 7, 3) := by decide +kernel
theorem dX6_ofFeeder_4 : decode cX6_ofFeeder 4 = .ok (.bipush 12, 2) := by decide +kernel
theorem dX6_ofFeeder_6 : decode cX6_ofFeeder 6 = .ok (.bipush 8, 2) := by decide +kernel
theorem dX6_ofFeeder_8 : decode cX6_ofFeeder 8 = .ok (.iload_n 1, 1) := by decide +kernel
theorem dX6_ofFeeder_9 : decode cX6_ofFeeder 9 = .ok (.imul, 1) := by decide +kernel
theorem dX6_ofFeeder_10 : decode cX6_ofFeeder 10 = .ok (.iadd, 1) := by decide +kernel
theorem dX6_ofFeeder_11 : decode cX6_ofFeeder 11 = .ok (.iload_n 2, 1) := by decide +kernel
theorem dX6_ofFeeder_12 : decode cX6_ofFeeder 12 = .ok (.iadd, 1) := by decide +kernel
theorem dX6_ofFeeder_13 : decode cX6_ofFeeder 13 = .ok (.iaload, 1) := by decide +kernel
theorem dX6_ofFeeder_14 : decode cX6_ofFeeder 14 = .ok (.ireturn, 1) := by decide +kernel
theorem dX6_ofPlace_0 : decode cX6_ofPlace 0 = .ok (.aload_n 0, 1) := by decide +kernel
theorem dX6_ofPlace_1 : decode cX6_ofPlace 1 = .ok (.getfield 7, 3) := by decide +kernel
theorem dX6_ofPlace_4 : decode cX6_ofPlace 4 = .ok (.bipush 76, 2) := by decide +kernel
theorem dX6_ofPlace_6 : decode cX6_ofPlace 6 = .ok (.iconst 5, 1) := by decide +kernel
theorem dX6_ofPlace_7 : decode cX6_ofPlace 7 = .ok (.iload_n 1, 1) := by decide +kernel
theorem dX6_ofPlace_8 : decode cX6_ofPlace 8 = .ok (.imul, 1) := by decide +kernel
theorem dX6_ofPlace_9 : decode cX6_ofPlace 9 = .ok (.iadd, 1) := by decide +kernel
theorem dX6_ofPlace_10 : decode cX6_ofPlace 10 = .ok (.iload_n 2, 1) := by decide +kernel
theorem dX6_ofPlace_11 : decode cX6_ofPlace 11 = .ok (.iadd, 1) := by decide +kernel
theorem dX6_ofPlace_12 : decode cX6_ofPlace 12 = .ok (.iaload, 1) := by decide +kernel
theorem dX6_ofPlace_13 : decode cX6_ofPlace 13 = .ok (.ireturn, 1) := by decide +kernel
theorem dX6_ofNozzle_0 : decode cX6_ofNozzle 0 = .ok (.aload_n 0, 1) := by decide +kernel
theorem dX6_ofNozzle_1 : decode cX6_ofNozzle 1 = .ok (.getfield 7, 3) := by decide +kernel
theorem dX6_ofNozzle_4 : decode cX6_ofNozzle 4 = .ok (.sipush 196, 3) := by decide +kernel
theorem dX6_ofNozzle_7 : decode cX6_ofNozzle 7 = .ok (.iconst 5, 1) := by decide +kernel
theorem dX6_ofNozzle_8 : decode cX6_ofNozzle 8 = .ok (.iload_n 1, 1) := by decide +kernel
theorem dX6_ofNozzle_9 : decode cX6_ofNozzle 9 = .ok (.imul, 1) := by decide +kernel
theorem dX6_ofNozzle_10 : decode cX6_ofNozzle 10 = .ok (.iadd, 1) := by decide +kernel
theorem dX6_ofNozzle_11 : decode cX6_ofNozzle 11 = .ok (.iload_n 2, 1) := by decide +kernel
theorem dX6_ofNozzle_12 : decode cX6_ofNozzle 12 = .ok (.iadd, 1) := by decide +kernel
theorem dX6_ofNozzle_13 : decode cX6_ofNozzle 13 = .ok (.iaload, 1) := by decide +kernel
theorem dX6_ofNozzle_14 : decode cX6_ofNozzle 14 = .ok (.ireturn, 1) := by decide +kernel
theorem dX6_trustOf_0 : decode cX6_trustOf 0 = .ok (.aload_n 0, 1) := by decide +kernel
theorem dX6_trustOf_1 : decode cX6_trustOf 1 = .ok (.getfield 7, 3) := by decide +kernel
theorem dX6_trustOf_4 : decode cX6_trustOf 4 = .ok (.sipush 216, 3) := by decide +kernel
theorem dX6_trustOf_7 : decode cX6_trustOf 7 = .ok (.bipush 8, 2) := by decide +kernel
theorem dX6_trustOf_9 : decode cX6_trustOf 9 = .ok (.iload_n 1, 1) := by decide +kernel
theorem dX6_trustOf_10 : decode cX6_trustOf 10 = .ok (.imul, 1) := by decide +kernel
theorem dX6_trustOf_11 : decode cX6_trustOf 11 = .ok (.iadd, 1) := by decide +kernel
theorem dX6_trustOf_12 : decode cX6_trustOf 12 = .ok (.iload_n 2, 1) := by decide +kernel
theorem dX6_trustOf_13 : decode cX6_trustOf 13 = .ok (.iadd, 1) := by decide +kernel
theorem dX6_trustOf_14 : decode cX6_trustOf 14 = .ok (.iaload, 1) := by decide +kernel
theorem dX6_trustOf_15 : decode cX6_trustOf 15 = .ok (.ireturn, 1) := by decide +kernel
set_option maxRecDepth 20000 in
theorem ggX6_trustMore_X6_trustOf : GoodIn wsX6_trustMore wsX6_trustOf := goodIn_r _ [6, 1, 7, 8, 9, 10, 11, 12, 13, 14, 15, 16, 17, 18, 19, 20, 21] (by decide +kernel) (by decide +kernel)
set_option maxRecDepth 20000 in
theorem gX6_trustMore_X6_trustOf : GoodIn wsX6_trustMore (wsV RX6 41 RX6 yX6_trustOf wsX6_trustOf) := goodIn_app (goodIn_of _ (by decide +kernel)) ggX6_trustMore_X6_trustOf
theorem dX6_trustMore_0 : decode cX6_trustMore 0 = .ok (.aload_n 0, 1) := by decide +kernel
theorem dX6_trustMore_1 : decode cX6_trustMore 1 = .ok (.iload_n 1, 1) := by decide +kernel
theorem dX6_trustMore_2 : decode cX6_trustMore 2 = .ok (.iload_n 2, 1) := by decide +kernel
theorem dX6_trustMore_3 : decode cX6_trustMore 3 = .ok (.invokevirtual 41, 3) := by decide +kernel
theorem dX6_trustMore_6 : decode cX6_trustMore 6 = .ok (.iload_n 3, 1) := by decide +kernel
theorem dX6_trustMore_7 : decode cX6_trustMore 7 = .ok (.iadd, 1) := by decide +kernel
theorem dX6_trustMore_8 : decode cX6_trustMore 8 = .ok (.istore 4, 2) := by decide +kernel
theorem dX6_trustMore_10 : decode cX6_trustMore 10 = .ok (.aload_n 0, 1) := by decide +kernel
theorem dX6_trustMore_11 : decode cX6_trustMore 11 = .ok (.getfield 7, 3) := by decide +kernel
theorem dX6_trustMore_14 : decode cX6_trustMore 14 = .ok (.sipush 216, 3) := by decide +kernel
theorem dX6_trustMore_17 : decode cX6_trustMore 17 = .ok (.bipush 8, 2) := by decide +kernel
theorem dX6_trustMore_19 : decode cX6_trustMore 19 = .ok (.iload_n 1, 1) := by decide +kernel
theorem dX6_trustMore_20 : decode cX6_trustMore 20 = .ok (.imul, 1) := by decide +kernel
theorem dX6_trustMore_21 : decode cX6_trustMore 21 = .ok (.iadd, 1) := by decide +kernel
theorem dX6_trustMore_22 : decode cX6_trustMore 22 = .ok (.iload_n 2, 1) := by decide +kernel
theorem dX6_trustMore_23 : decode cX6_trustMore 23 = .ok (.iadd, 1) := by decide +kernel
theorem dX6_trustMore_24 : decode cX6_trustMore 24 = .ok (.iload 4, 2) := by decide +kernel
theorem dX6_trustMore_26 : decode cX6_trustMore 26 = .ok (.ifCond .ge 7, 3) := by decide +kernel
theorem dX6_trustMore_29 : decode cX6_trustMore 29 = .ok (.iconst 0, 1) := by decide +kernel
theorem dX6_trustMore_30 : decode cX6_trustMore 30 = .ok (.goto 17, 3) := by decide +kernel
theorem dX6_trustMore_33 : decode cX6_trustMore 33 = .ok (.iload 4, 2) := by decide +kernel
theorem dX6_trustMore_35 : decode cX6_trustMore 35 = .ok (.bipush 100, 2) := by decide +kernel
theorem dX6_trustMore_37 : decode cX6_trustMore 37 = .ok (.if_icmp .le 8, 3) := by decide +kernel
theorem dX6_trustMore_40 : decode cX6_trustMore 40 = .ok (.bipush 100, 2) := by decide +kernel
theorem dX6_trustMore_42 : decode cX6_trustMore 42 = .ok (.goto 5, 3) := by decide +kernel
theorem dX6_trustMore_45 : decode cX6_trustMore 45 = .ok (.iload 4, 2) := by decide +kernel
theorem dX6_trustMore_47 : decode cX6_trustMore 47 = .ok (.iastore, 1) := by decide +kernel
theorem dX6_trustMore_48 : decode cX6_trustMore 48 = .ok (.return_, 1) := by decide +kernel
set_option maxRecDepth 20000 in
theorem ggX6_isFeeder_X6_within : GoodIn wsX6_isFeeder wsX6_within := goodIn_r _ [5] (by decide +kernel) (by decide +kernel)
set_option maxRecDepth 20000 in
theorem gX6_isFeeder_X6_within : GoodIn wsX6_isFeeder (va_wsS RX6 45 yX6_within wsX6_within) := goodIn_app (goodIn_of _ (by decide +kernel)) ggX6_isFeeder_X6_within
theorem dX6_isFeeder_0 : decode cX6_isFeeder 0 = .ok (.iload_n 1, 1) := by decide +kernel
theorem dX6_isFeeder_1 : decode cX6_isFeeder 1 = .ok (.iconst 0, 1) := by decide +kernel
theorem dX6_isFeeder_2 : decode cX6_isFeeder 2 = .ok (.aload_n 0, 1) := by decide +kernel
theorem dX6_isFeeder_3 : decode cX6_isFeeder 3 = .ok (.getfield 7, 3) := by decide +kernel
theorem dX6_isFeeder_6 : decode cX6_isFeeder 6 = .ok (.iconst 5, 1) := by decide +kernel
theorem dX6_isFeeder_7 : decode cX6_isFeeder 7 = .ok (.iaload, 1) := by decide +kernel
theorem dX6_isFeeder_8 : decode cX6_isFeeder 8 = .ok (.iconst 1, 1) := by decide +kernel
theorem dX6_isFeeder_9 : decode cX6_isFeeder 9 = .ok (.isub, 1) := by decide +kernel
theorem dX6_isFeeder_10 : decode cX6_isFeeder 10 = .ok (.invokestatic 45, 3) := by decide +kernel
theorem dX6_isFeeder_13 : decode cX6_isFeeder 13 = .ok (.ireturn, 1) := by decide +kernel
set_option maxRecDepth 20000 in
theorem ggX6_isPlace_X6_within : GoodIn wsX6_isPlace wsX6_within := goodIn_r _ [5] (by decide +kernel) (by decide +kernel)
set_option maxRecDepth 20000 in
theorem gX6_isPlace_X6_within : GoodIn wsX6_isPlace (va_wsS RX6 45 yX6_within wsX6_within) := goodIn_app (goodIn_of _ (by decide +kernel)) ggX6_isPlace_X6_within
theorem dX6_isPlace_0 : decode cX6_isPlace 0 = .ok (.iload_n 1, 1) := by decide +kernel
theorem dX6_isPlace_1 : decode cX6_isPlace 1 = .ok (.iconst 0, 1) := by decide +kernel
theorem dX6_isPlace_2 : decode cX6_isPlace 2 = .ok (.aload_n 0, 1) := by decide +kernel
theorem dX6_isPlace_3 : decode cX6_isPlace 3 = .ok (.getfield 7, 3) := by decide +kernel
theorem dX6_isPlace_6 : decode cX6_isPlace 6 = .ok (.bipush 6, 2) := by decide +kernel
theorem dX6_isPlace_8 : decode cX6_isPlace 8 = .ok (.iaload, 1) := by decide +kernel
theorem dX6_isPlace_9 : decode cX6_isPlace 9 = .ok (.iconst 1, 1) := by decide +kernel
theorem dX6_isPlace_10 : decode cX6_isPlace 10 = .ok (.isub, 1) := by decide +kernel
theorem dX6_isPlace_11 : decode cX6_isPlace 11 = .ok (.invokestatic 45, 3) := by decide +kernel
theorem dX6_isPlace_14 : decode cX6_isPlace 14 = .ok (.ireturn, 1) := by decide +kernel
set_option maxRecDepth 20000 in
theorem ggX6_isNozzle_X6_within : GoodIn wsX6_isNozzle wsX6_within := goodIn_r _ [4] (by decide +kernel) (by decide +kernel)
set_option maxRecDepth 20000 in
theorem gX6_isNozzle_X6_within : GoodIn wsX6_isNozzle (va_wsS RX6 45 yX6_within wsX6_within) := goodIn_app (goodIn_of _ (by decide +kernel)) ggX6_isNozzle_X6_within
theorem dX6_isNozzle_0 : decode cX6_isNozzle 0 = .ok (.iload_n 0, 1) := by decide +kernel
theorem dX6_isNozzle_1 : decode cX6_isNozzle 1 = .ok (.iconst 0, 1) := by decide +kernel
theorem dX6_isNozzle_2 : decode cX6_isNozzle 2 = .ok (.iconst 3, 1) := by decide +kernel
theorem dX6_isNozzle_3 : decode cX6_isNozzle 3 = .ok (.invokestatic 45, 3) := by decide +kernel
theorem dX6_isNozzle_6 : decode cX6_isNozzle 6 = .ok (.ireturn, 1) := by decide +kernel
set_option maxRecDepth 20000 in
theorem ggX6_isKind_X6_within : GoodIn wsX6_isKind wsX6_within := goodIn_r _ [4] (by decide +kernel) (by decide +kernel)
set_option maxRecDepth 20000 in
theorem gX6_isKind_X6_within : GoodIn wsX6_isKind (va_wsS RX6 45 yX6_within wsX6_within) := goodIn_app (goodIn_of _ (by decide +kernel)) ggX6_isKind_X6_within
theorem dX6_isKind_0 : decode cX6_isKind 0 = .ok (.iload_n 0, 1) := by decide +kernel
theorem dX6_isKind_1 : decode cX6_isKind 1 = .ok (.iconst 0, 1) := by decide +kernel
theorem dX6_isKind_2 : decode cX6_isKind 2 = .ok (.iconst 5, 1) := by decide +kernel
theorem dX6_isKind_3 : decode cX6_isKind 3 = .ok (.invokestatic 45, 3) := by decide +kernel
theorem dX6_isKind_6 : decode cX6_isKind 6 = .ok (.ireturn, 1) := by decide +kernel
set_option maxRecDepth 20000 in
theorem ggX6_isX_X6_within : GoodIn wsX6_isX wsX6_within := goodIn_r _ [4] (by decide +kernel) (by decide +kernel)
set_option maxRecDepth 20000 in
theorem gX6_isX_X6_within : GoodIn wsX6_isX (va_wsS RX6 45 yX6_within wsX6_within) := goodIn_app (goodIn_of _ (by decide +kernel)) ggX6_isX_X6_within
theorem dX6_isX_0 : decode cX6_isX 0 = .ok (.iload_n 0, 1) := by decide +kernel
theorem dX6_isX_1 : decode cX6_isX 1 = .ok (.iconst 0, 1) := by decide +kernel
theorem dX6_isX_2 : decode cX6_isX 2 = .ok (.bipush 99, 2) := by decide +kernel
theorem dX6_isX_4 : decode cX6_isX 4 = .ok (.invokestatic 45, 3) := by decide +kernel
theorem dX6_isX_7 : decode cX6_isX 7 = .ok (.ireturn, 1) := by decide +kernel
set_option maxRecDepth 20000 in
theorem ggX6_isPercent_X6_within : GoodIn wsX6_isPercent wsX6_within := goodIn_r _ [4] (by decide +kernel) (by decide +kernel)
set_option maxRecDepth 20000 in
theorem gX6_isPercent_X6_within : GoodIn wsX6_isPercent (va_wsS RX6 45 yX6_within wsX6_within) := goodIn_app (goodIn_of _ (by decide +kernel)) ggX6_isPercent_X6_within
theorem dX6_isPercent_0 : decode cX6_isPercent 0 = .ok (.iload_n 0, 1) := by decide +kernel
theorem dX6_isPercent_1 : decode cX6_isPercent 1 = .ok (.iconst 0, 1) := by decide +kernel
theorem dX6_isPercent_2 : decode cX6_isPercent 2 = .ok (.bipush 100, 2) := by decide +kernel
theorem dX6_isPercent_4 : decode cX6_isPercent 4 = .ok (.invokestatic 45, 3) := by decide +kernel
theorem dX6_isPercent_7 : decode cX6_isPercent 7 = .ok (.ireturn, 1) := by decide +kernel
theorem dX6_addsFeeder_0 : decode cX6_addsFeeder 0 = .ok (.aload_n 0, 1) := by decide +kernel
theorem dX6_addsFeeder_1 : decode cX6_addsFeeder 1 = .ok (.getfield 7, 3) := by decide +kernel
theorem dX6_addsFeeder_4 : decode cX6_addsFeeder 4 = .ok (.iconst 5, 1) := by decide +kernel
theorem dX6_addsFeeder_5 : decode cX6_addsFeeder 5 = .ok (.iaload, 1) := by decide +kernel
theorem dX6_addsFeeder_6 : decode cX6_addsFeeder 6 = .ok (.istore 6, 2) := by decide +kernel
theorem dX6_addsFeeder_8 : decode cX6_addsFeeder 8 = .ok (.bipush 12, 2) := by decide +kernel
theorem dX6_addsFeeder_10 : decode cX6_addsFeeder 10 = .ok (.bipush 8, 2) := by decide +kernel
theorem dX6_addsFeeder_12 : decode cX6_addsFeeder 12 = .ok (.iload 6, 2) := by decide +kernel
theorem dX6_addsFeeder_14 : decode cX6_addsFeeder 14 = .ok (.imul, 1) := by decide +kernel
