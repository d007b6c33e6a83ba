theorem dX6_takes_37 : decode cX6_takes 37 = .ok (.putfield 175, 3) := by decide +kernel
theorem dX6_takes_40 : decode cX6_takes 40 = .ok (.aload_n 0, 1) := by decide +kernel
theorem dX6_takes_41 : decode cX6_takes 41 = .ok (.iconst 0, 1) := by decide +kernel
theorem dX6_takes_42 : decode cX6_takes 42 = .ok (.putfield 172, 3) := by decide +kernel
theorem dX6_takes_45 : decode cX6_takes 45 = .ok (.iconst 1, 1) := by decide +kernel
theorem dX6_takes_46 : decode cX6_takes 46 = .ok (.ireturn, 1) := by decide +kernel
theorem dX6_takes_47 : decode cX6_takes 47 = .ok (.aload_n 0, 1) := by decide +kernel
theorem dX6_takes_48 : decode cX6_takes 48 = .ok (.getfield 172, 3) := by decide +kernel
theorem dX6_takes_51 : decode cX6_takes 51 = .ok (.tableswitch 160 0 5 #[37, 160, 87, 141, 160, 158], 37) := by decide +kernel
theorem dX6_takes_88 : decode cX6_takes 88 = .ok (.aload_n 0, 1) := by decide +kernel
theorem dX6_takes_89 : decode cX6_takes 89 = .ok (.getfield 28, 3) := by decide +kernel
theorem dX6_takes_92 : decode cX6_takes 92 = .ok (.iconst 4, 1) := by decide +kernel
theorem dX6_takes_93 : decode cX6_takes 93 = .ok (.aload_n 0, 1) := by decide +kernel
theorem dX6_takes_94 : decode cX6_takes 94 = .ok (.getfield 175, 3) := by decide +kernel
theorem dX6_takes_97 : decode cX6_takes 97 = .ok (.imul, 1) := by decide +kernel
theorem dX6_takes_98 : decode cX6_takes 98 = .ok (.iload_n 1, 1) := by decide +kernel
theorem dX6_takes_99 : decode cX6_takes 99 = .ok (.bipush 102, 2) := by decide +kernel
theorem dX6_takes_101 : decode cX6_takes 101 = .ok (.if_icmp .ne 7, 3) := by decide +kernel
theorem dX6_takes_104 : decode cX6_takes 104 = .ok (.iconst 1, 1) := by decide +kernel
theorem dX6_takes_105 : decode cX6_takes 105 = .ok (.goto 4, 3) := by decide +kernel
theorem dX6_takes_108 : decode cX6_takes 108 = .ok (.iconst 0, 1) := by decide +kernel
theorem dX6_takes_109 : decode cX6_takes 109 = .ok (.iastore, 1) := by decide +kernel
theorem dX6_takes_110 : decode cX6_takes 110 = .ok (.aload_n 0, 1) := by decide +kernel
theorem dX6_takes_111 : decode cX6_takes 111 = .ok (.iconst (-1), 1) := by decide +kernel
theorem dX6_takes_112 : decode cX6_takes 112 = .ok (.putfield 169, 3) := by decide +kernel
theorem dX6_takes_115 : decode cX6_takes 115 = .ok (.aload_n 0, 1) := by decide +kernel
theorem dX6_takes_116 : decode cX6_takes 116 = .ok (.iconst 1, 1) := by decide +kernel
theorem dX6_takes_117 : decode cX6_takes 117 = .ok (.putfield 172, 3) := by decide +kernel
theorem dX6_takes_120 : decode cX6_takes 120 = .ok (.iload_n 1, 1) := by decide +kernel
theorem dX6_takes_121 : decode cX6_takes 121 = .ok (.bipush 112, 2) := by decide +kernel
theorem dX6_takes_123 : decode cX6_takes 123 = .ok (.if_icmp .eq 9, 3) := by decide +kernel
theorem dX6_takes_126 : decode cX6_takes 126 = .ok (.iload_n 1, 1) := by decide +kernel
theorem dX6_takes_127 : decode cX6_takes 127 = .ok (.bipush 102, 2) := by decide +kernel
theorem dX6_takes_129 : decode cX6_takes 129 = .ok (.if_icmp .ne 7, 3) := by decide +kernel
theorem dX6_takes_132 : decode cX6_takes 132 = .ok (.iconst 1, 1) := by decide +kernel
theorem dX6_takes_133 : decode cX6_takes 133 = .ok (.goto 4, 3) := by decide +kernel
theorem dX6_takes_136 : decode cX6_takes 136 = .ok (.iconst 0, 1) := by decide +kernel
theorem dX6_takes_137 : decode cX6_takes 137 = .ok (.ireturn, 1) := by decide +kernel
theorem dX6_takes_138 : decode cX6_takes 138 = .ok (.aload_n 0, 1) := by decide +kernel
theorem dX6_takes_139 : decode cX6_takes 139 = .ok (.getfield 28, 3) := by decide +kernel
theorem dX6_takes_142 : decode cX6_takes 142 = .ok (.iconst 4, 1) := by decide +kernel
theorem dX6_takes_143 : decode cX6_takes 143 = .ok (.aload_n 0, 1) := by decide +kernel
theorem dX6_takes_144 : decode cX6_takes 144 = .ok (.getfield 175, 3) := by decide +kernel
theorem dX6_takes_147 : decode cX6_takes 147 = .ok (.imul, 1) := by decide +kernel
theorem dX6_takes_148 : decode cX6_takes 148 = .ok (.iconst 2, 1) := by decide +kernel
theorem dX6_takes_149 : decode cX6_takes 149 = .ok (.iadd, 1) := by decide +kernel
theorem dX6_takes_150 : decode cX6_takes 150 = .ok (.iload_n 1, 1) := by decide +kernel
theorem dX6_takes_151 : decode cX6_takes 151 = .ok (.bipush 48, 2) := by decide +kernel
theorem dX6_takes_153 : decode cX6_takes 153 = .ok (.isub, 1) := by decide +kernel
theorem dX6_takes_154 : decode cX6_takes 154 = .ok (.iastore, 1) := by decide +kernel
theorem dX6_takes_155 : decode cX6_takes 155 = .ok (.aload_n 0, 1) := by decide +kernel
theorem dX6_takes_156 : decode cX6_takes 156 = .ok (.iconst (-1), 1) := by decide +kernel
theorem dX6_takes_157 : decode cX6_takes 157 = .ok (.putfield 169, 3) := by decide +kernel
theorem dX6_takes_160 : decode cX6_takes 160 = .ok (.aload_n 0, 1) := by decide +kernel
theorem dX6_takes_161 : decode cX6_takes 161 = .ok (.aload_n 0, 1) := by decide +kernel
theorem dX6_takes_162 : decode cX6_takes 162 = .ok (.getfield 28, 3) := by decide +kernel
theorem dX6_takes_165 : decode cX6_takes 165 = .ok (.iconst 4, 1) := by decide +kernel
theorem dX6_takes_166 : decode cX6_takes 166 = .ok (.aload_n 0, 1) := by decide +kernel
theorem dX6_takes_167 : decode cX6_takes 167 = .ok (.getfield 175, 3) := by decide +kernel
theorem dX6_takes_170 : decode cX6_takes 170 = .ok (.imul, 1) := by decide +kernel
theorem dX6_takes_171 : decode cX6_takes 171 = .ok (.iaload, 1) := by decide +kernel
theorem dX6_takes_172 : decode cX6_takes 172 = .ok (.iconst 1, 1) := by decide +kernel
theorem dX6_takes_173 : decode cX6_takes 173 = .ok (.if_icmp .ne 7, 3) := by decide +kernel
theorem dX6_takes_176 : decode cX6_takes 176 = .ok (.iconst 3, 1) := by decide +kernel
theorem dX6_takes_177 : decode cX6_takes 177 = .ok (.goto 4, 3) := by decide +kernel
theorem dX6_takes_180 : decode cX6_takes 180 = .ok (.iconst 5, 1) := by decide +kernel
theorem dX6_takes_181 : decode cX6_takes 181 = .ok (.putfield 172, 3) := by decide +kernel
theorem dX6_takes_184 : decode cX6_takes 184 = .ok (.iload_n 1, 1) := by decide +kernel
theorem dX6_takes_185 : decode cX6_takes 185 = .ok (.bipush 48, 2) := by decide +kernel
theorem dX6_takes_187 : decode cX6_takes 187 = .ok (.isub, 1) := by decide +kernel
theorem dX6_takes_188 : decode cX6_takes 188 = .ok (.invokestatic 53, 3) := by decide +kernel
theorem dX6_takes_191 : decode cX6_takes 191 = .ok (.ireturn, 1) := by decide +kernel
theorem dX6_takes_192 : decode cX6_takes 192 = .ok (.aload_n 0, 1) := by decide +kernel
theorem dX6_takes_193 : decode cX6_takes 193 = .ok (.iconst 4, 1) := by decide +kernel
theorem dX6_takes_194 : decode cX6_takes 194 = .ok (.putfield 172, 3) := by decide +kernel
theorem dX6_takes_197 : decode cX6_takes 197 = .ok (.iload_n 1, 1) := by decide +kernel
theorem dX6_takes_198 : decode cX6_takes 198 = .ok (.bipush 42, 2) := by decide +kernel
theorem dX6_takes_200 : decode cX6_takes 200 = .ok (.if_icmp .ne 7, 3) := by decide +kernel
theorem dX6_takes_203 : decode cX6_takes 203 = .ok (.iconst 1, 1) := by decide +kernel
theorem dX6_takes_204 : decode cX6_takes 204 = .ok (.goto 4, 3) := by decide +kernel
theorem dX6_takes_207 : decode cX6_takes 207 = .ok (.iconst 0, 1) := by decide +kernel
theorem dX6_takes_208 : decode cX6_takes 208 = .ok (.ireturn, 1) := by decide +kernel
theorem dX6_takes_209 : decode cX6_takes 209 = .ok (.iconst 0, 1) := by decide +kernel
theorem dX6_takes_210 : decode cX6_takes 210 = .ok (.ireturn, 1) := by decide +kernel
theorem dX6_takes_211 : decode cX6_takes 211 = .ok (.aload_n 0, 1) := by decide +kernel
theorem dX6_takes_212 : decode cX6_takes 212 = .ok (.getfield 172, 3) := by decide +kernel
theorem dX6_takes_215 : decode cX6_takes 215 = .ok (.iconst 1, 1) := by decide +kernel
theorem dX6_takes_216 : decode cX6_takes 216 = .ok (.if_icmp .ne 24, 3) := by decide +kernel
theorem dX6_takes_219 : decode cX6_takes 219 = .ok (.iload_n 1, 1) := by decide +kernel
theorem dX6_takes_220 : decode cX6_takes 220 = .ok (.bipush 58, 2) := by decide +kernel
theorem dX6_takes_222 : decode cX6_takes 222 = .ok (.if_icmp .ne 18, 3) := by decide +kernel
theorem dX6_takes_225 : decode cX6_takes 225 = .ok (.aload_n 0, 1) := by decide +kernel
theorem dX6_takes_226 : decode cX6_takes 226 = .ok (.getfield 169, 3) := by decide +kernel
theorem dX6_takes_229 : decode cX6_takes 229 = .ok (.iconst (-1), 1) := by decide +kernel
theorem dX6_takes_230 : decode cX6_takes 230 = .ok (.if_icmp .eq 10, 3) := by decide +kernel
theorem dX6_takes_233 : decode cX6_takes 233 = .ok (.aload_n 0, 1) := by decide +kernel
theorem dX6_takes_234 : decode cX6_takes 234 = .ok (.iconst 2, 1) := by decide +kernel
theorem dX6_takes_235 : decode cX6_takes 235 = .ok (.putfield 172, 3) := by decide +kernel
theorem dX6_takes_238 : decode cX6_takes 238 = .ok (.iconst 1, 1) := by decide +kernel
theorem dX6_takes_239 : decode cX6_takes 239 = .ok (.ireturn, 1) := by decide +kernel
theorem dX6_takes_240 : decode cX6_takes 240 = .ok (.aload_n 0, 1) := by decide +kernel
theorem dX6_takes_241 : decode cX6_takes 241 = .ok (.iload_n 1, 1) := by decide +kernel
theorem dX6_takes_242 : decode cX6_takes 242 = .ok (.bipush 48, 2) := by decide +kernel
theorem dX6_takes_244 : decode cX6_takes 244 = .ok (.isub, 1) := by decide +kernel
theorem dX6_takes_245 : decode cX6_takes 245 = .ok (.invokevirtual 178, 3) := by decide +kernel
theorem dX6_takes_248 : decode cX6_takes 248 = .ok (.ireturn, 1) := by decide +kernel
set_option maxRecDepth 20000 in
theorem ggX6_rightUpTo_X6_takes : GoodIn wsX6_rightUpTo wsX6_takes := goodIn_r _ [9, 2, 10, 1, 11, 12, 13, 8, 14, 15, 16, 17, 18, 19, 20, 21, 22, 23, 24, 25, 26, 27, 28, 29, 30, 31, 32, 33, 34, 35, 36] (by decide +kernel) (by decide +kernel)
set_option maxRecDepth 20000 in
theorem gX6_rightUpTo_X6_takes : GoodIn wsX6_rightUpTo (wsV RX6 181 RX6 yX6_takes wsX6_takes) := goodIn_app (goodIn_of _ (by decide +kernel)) ggX6_rightUpTo_X6_takes
theorem dX6_rightUpTo_0 : decode cX6_rightUpTo 0 = .ok (.aload_n 0, 1) := by decide +kernel
theorem dX6_rightUpTo_1 : decode cX6_rightUpTo 1 = .ok (.iconst 0, 1) := by decide +kernel
theorem dX6_rightUpTo_2 : decode cX6_rightUpTo 2 = .ok (.putfield 175, 3) := by decide +kernel
theorem dX6_rightUpTo_5 : decode cX6_rightUpTo 5 = .ok (.aload_n 0, 1) := by decide +kernel
theorem dX6_rightUpTo_6 : decode cX6_rightUpTo 6 = .ok (.iconst 0, 1) := by decide +kernel
theorem dX6_rightUpTo_7 : decode cX6_rightUpTo 7 = .ok (.putfield 172, 3) := by decide +kernel
theorem dX6_rightUpTo_10 : decode cX6_rightUpTo 10 = .ok (.iconst 0, 1) := by decide +kernel
theorem dX6_rightUpTo_11 : decode cX6_rightUpTo 11 = .ok (.istore_n 1, 1) := by decide +kernel
theorem dX6_rightUpTo_12 : decode cX6_rightUpTo 12 = .ok (.iload_n 1, 1) := by decide +kernel
theorem dX6_rightUpTo_13 : decode cX6_rightUpTo 13 = .ok (.aload_n 0, 1) := by decide +kernel
theorem dX6_rightUpTo_14 : decode cX6_rightUpTo 14 = .ok (.getfield 166, 3) := by decide +kernel
theorem dX6_rightUpTo_17 : decode cX6_rightUpTo 17 = .ok (.if_icmp .ge 22, 3) := by decide +kernel
theorem dX6_rightUpTo_20 : decode cX6_rightUpTo 20 = .ok (.aload_n 0, 1) := by decide +kernel
theorem dX6_rightUpTo_21 : decode cX6_rightUpTo 21 = .ok (.aload_n 0, 1) := by decide +kernel
theorem dX6_rightUpTo_22 : decode cX6_rightUpTo 22 = .ok (.getfield 16, 3) := by decide +kernel
theorem dX6_rightUpTo_25 : decode cX6_rightUpTo 25 = .ok (.iload_n 1, 1) := by decide +kernel
theorem dX6_rightUpTo_26 : decode cX6_rightUpTo 26 = .ok (.iaload, 1) := by decide +kernel
theorem dX6_rightUpTo_27 : decode cX6_rightUpTo 27 = .ok (.invokevirtual 181, 3) := by decide +kernel
theorem dX6_rightUpTo_30 : decode cX6_rightUpTo 30 = .ok (.ifCond .eq 9, 3) := by decide +kernel
theorem dX6_rightUpTo_33 : decode cX6_rightUpTo 33 = .ok (.iinc 1 1, 3) := by decide +kernel
theorem dX6_rightUpTo_36 : decode cX6_rightUpTo 36 = .ok (.goto (-24), 3) := by decide +kernel
theorem dX6_rightUpTo_39 : decode cX6_rightUpTo 39 = .ok (.iload_n 1, 1) := by decide +kernel
theorem dX6_rightUpTo_40 : decode cX6_rightUpTo 40 = .ok (.ireturn, 1) := by decide +kernel
set_option maxRecDepth 20000 in
theorem ggX6_firstError_X6_rightUpTo : GoodIn wsX6_firstError wsX6_rightUpTo := goodIn_r _ [6, 7, 8, 9, 10, 11, 12, 13, 5, 14, 15, 16, 17, 18, 19, 20, 21, 22, 23, 24, 25, 26, 27, 28, 29, 30, 31, 32, 33, 34, 35, 36, 37, 38, 39, 40, 41] (by decide +kernel) (by decide +kernel)
set_option maxRecDepth 20000 in
theorem gX6_firstError_X6_rightUpTo : GoodIn wsX6_firstError (wsV RX6 184 RX6 yX6_rightUpTo wsX6_rightUpTo) := goodIn_app (goodIn_of _ (by decide +kernel)) ggX6_firstError_X6_rightUpTo
theorem dX6_firstError_0 : decode cX6_firstError 0 = .ok (.aload_n 0, 1) := by decide +kernel
theorem dX6_firstError_1 : decode cX6_firstError 1 = .ok (.iconst 0, 1) := by decide +kernel
theorem dX6_firstError_2 : decode cX6_firstError 2 = .ok (.putfield 34, 3) := by decide +kernel
theorem dX6_firstError_5 : decode cX6_firstError 5 = .ok (.aload_n 0, 1) := by decide +kernel
theorem dX6_firstError_6 : decode cX6_firstError 6 = .ok (.invokevirtual 184, 3) := by decide +kernel
theorem dX6_firstError_9 : decode cX6_firstError 9 = .ok (.ireturn, 1) := by decide +kernel
set_option maxRecDepth 20000 in
theorem ggX6_adds_X6_addsFeeder : GoodIn wsX6_adds wsX6_addsFeeder := goodIn_r _ [7, 2, 12, 13, 14, 15, 16, 17, 18, 19, 20, 21, 22, 23, 24, 25, 26] (by decide +kernel) (by decide +kernel)
set_option maxRecDepth 20000 in
theorem gX6_adds_X6_addsFeeder : GoodIn wsX6_adds (wsV RX6 62 RX6 yX6_addsFeeder wsX6_addsFeeder) := goodIn_app (goodIn_of _ (by decide +kernel)) ggX6_adds_X6_addsFeeder
set_option maxRecDepth 20000 in
theorem ggX6_adds_X6_addsPlace : GoodIn wsX6_adds wsX6_addsPlace := goodIn_r _ [11, 2, 12, 13, 14, 15, 16, 17, 18, 19, 20, 21, 22, 23, 24, 25, 26] (by decide +kernel) (by decide +kernel)
set_option maxRecDepth 20000 in
theorem gX6_adds_X6_addsPlace : GoodIn wsX6_adds (wsV RX6 66 RX6 yX6_addsPlace wsX6_addsPlace) := goodIn_app (goodIn_of _ (by decide +kernel)) ggX6_adds_X6_addsPlace
theorem dX6_adds_0 : decode cX6_adds 0 = .ok (.iconst 4, 1) := by decide +kernel
theorem dX6_adds_1 : decode cX6_adds 1 = .ok (.iload_n 1, 1) := by decide +kernel
theorem dX6_adds_2 : decode cX6_adds 2 = .ok (.imul, 1) := by decide +kernel
theorem dX6_adds_3 : decode cX6_adds 3 = .ok (.istore_n 2, 1) := by decide +kernel
theorem dX6_adds_4 : decode cX6_adds 4 = .ok (.aload_n 0, 1) := by decide +kernel
theorem dX6_adds_5 : decode cX6_adds 5 = .ok (.getfield 28, 3) := by decide +kernel
theorem dX6_adds_8 : decode cX6_adds 8 = .ok (.iload_n 2, 1) := by decide +kernel
theorem dX6_adds_9 : decode cX6_adds 9 = .ok (.iaload, 1) := by decide +kernel
theorem dX6_adds_10 : decode cX6_adds 10 = .ok (.iconst 1, 1) := by decide +kernel
theorem dX6_adds_11 : decode cX6_adds 11 = .ok (.if_icmp .ne 7, 3) := by decide +kernel
theorem dX6_adds_14 : decode cX6_adds 14 = .ok (.iconst 1, 1) := by decide +kernel
theorem dX6_adds_15 : decode cX6_adds 15 = .ok (.goto 4, 3) := by decide +kernel
theorem dX6_adds_18 : decode cX6_adds 18 = .ok (.iconst 0, 1) := by decide +kernel
theorem dX6_adds_19 : decode cX6_adds 19 = .ok (.istore_n 3, 1) := by decide +kernel
theorem dX6_adds_20 : decode cX6_adds 20 = .ok (.iload_n 3, 1) := by decide +kernel
theorem dX6_adds_21 : decode cX6_adds 21 = .ok (.ifCond .eq 22, 3) := by decide +kernel
theorem dX6_adds_24 : decode cX6_adds 24 = .ok (.aload_n 0, 1) := by decide +kernel
theorem dX6_adds_25 : decode cX6_adds 25 = .ok (.getfield 7, 3) := by decide +kernel
theorem dX6_adds_28 : decode cX6_adds 28 = .ok (.iconst 5, 1) := by decide +kernel
theorem dX6_adds_29 : decode cX6_adds 29 = .ok (.iaload, 1) := by decide +kernel
theorem dX6_adds_30 : decode cX6_adds 30 = .ok (.bipush 8, 2) := by decide +kernel
theorem dX6_adds_32 : decode cX6_adds 32 = .ok (.if_icmp .ge 7, 3) := by decide +kernel
theorem dX6_adds_35 : decode cX6_adds 35 = .ok (.iconst 1, 1) := by decide +kernel
theorem dX6_adds_36 : decode cX6_adds 36 = .ok (.goto 24, 3) := by decide +kernel
theorem dX6_adds_39 : decode cX6_adds 39 = .ok (.iconst 0, 1) := by decide +kernel
theorem dX6_adds_40 : decode cX6_adds 40 = .ok (.goto 20, 3) := by decide +kernel
theorem dX6_adds_43 : decode cX6_adds 43 = .ok (.aload_n 0, 1) := by decide +kernel
theorem dX6_adds_44 : decode cX6_adds 44 = .ok (.getfield 7, 3) := by decide +kernel
theorem dX6_adds_47 : decode cX6_adds 47 = .ok (.bipush 6, 2) := by decide +kernel
theorem dX6_adds_49 : decode cX6_adds 49 = .ok (.iaload, 1) := by decide +kernel
theorem dX6_adds_50 : decode cX6_adds 50 = .ok (.bipush 24, 2) := by decide +kernel
theorem dX6_adds_52 : decode cX6_adds 52 = .ok (.if_icmp .ge 7, 3) := by decide +kernel
theorem dX6_adds_55 : decode cX6_adds 55 = .ok (.iconst 1, 1) := by decide +kernel
theorem dX6_adds_56 : decode cX6_adds 56 = .ok (.goto 4, 3) := by decide +kernel
theorem dX6_adds_59 : decode cX6_adds 59 = .ok (.iconst 0, 1) := by decide +kernel
theorem dX6_adds_60 : decode cX6_adds 60 = .ok (.istore 4, 2) := by decide +kernel
theorem dX6_adds_62 : decode cX6_adds 62 = .ok (.iload 4, 2) := by decide +kernel
theorem dX6_adds_64 : decode cX6_adds 64 = .ok (.ifCond .ne 7, 3) := by decide +kernel
theorem dX6_adds_67 : decode cX6_adds 67 = .ok (.iconst 0, 1) := by decide +kernel
theorem dX6_adds_68 : decode cX6_adds 68 = .ok (.goto 60, 3) := by decide +kernel
theorem dX6_adds_71 : decode cX6_adds 71 = .ok (.iload_n 3, 1) := by decide +kernel
theorem dX6_adds_72 : decode cX6_adds 72 = .ok (.ifCond .eq 36, 3) := by decide +kernel
theorem dX6_adds_75 : decode cX6_adds 75 = .ok (.aload_n 0, 1) := by decide +kernel
theorem dX6_adds_76 : decode cX6_adds 76 = .ok (.aload_n 0, 1) := by decide +kernel
theorem dX6_adds_77 : decode cX6_adds 77 = .ok (.getfield 28, 3) := by decide +kernel
theorem dX6_adds_80 : decode cX6_adds 80 = .ok (.iload_n 2, 1) := by decide +kernel
theorem dX6_adds_81 : decode cX6_adds 81 = .ok (.iconst 1, 1) := by decide +kernel
theorem dX6_adds_82 : decode cX6_adds 82 = .ok (.iadd, 1) := by decide +kernel
theorem dX6_adds_83 : decode cX6_adds 83 = .ok (.iaload, 1) := by decide +kernel
theorem dX6_adds_84 : decode cX6_adds 84 = .ok (.aload_n 0, 1) := by decide +kernel
theorem dX6_adds_85 : decode cX6_adds 85 = .ok (.getfield 28, 3) := by decide +kernel
theorem dX6_adds_88 : decode cX6_adds 88 = .ok (.iload_n 2, 1) := by decide +kernel
theorem dX6_adds_89 : decode cX6_adds 89 = .ok (.iconst 2, 1) := by decide +kernel
theorem dX6_adds_90 : decode cX6_adds 90 = .ok (.iadd, 1) := by decide +kernel
theorem dX6_adds_91 : decode cX6_adds 91 = .ok (.iaload, 1) := by decide +kernel
theorem dX6_adds_92 : decode cX6_adds 92 = .ok (.aload_n 0, 1) := by decide +kernel
theorem dX6_adds_93 : decode cX6_adds 93 = .ok (.getfield 28, 3) := by decide +kernel
theorem dX6_adds_96 : decode cX6_adds 96 = .ok (.iload_n 2, 1) := by decide +kernel
theorem dX6_adds_97 : decode cX6_adds 97 = .ok (.iconst 3, 1) := by decide +kernel
theorem dX6_adds_98 : decode cX6_adds 98 = .ok (.iadd, 1) := by decide +kernel
theorem dX6_adds_99 : decode cX6_adds 99 = .ok (.iaload, 1) := by decide +kernel
theorem dX6_adds_100 : decode cX6_adds 100 = .ok (.iconst 0, 1) := by decide +kernel
theorem dX6_adds_101 : decode cX6_adds 101 = .ok (.iconst 0, 1) := by decide +kernel
theorem dX6_adds_102 : decode cX6_adds 102 = .ok (.invokevirtual 62, 3) := by decide +kernel
theorem dX6_adds_105 : decode cX6_adds 105 = .ok (.goto 23, 3) := by decide +kernel
theorem dX6_adds_108 : decode cX6_adds 108 = .ok (.aload_n 0, 1) := by decide +kernel
theorem dX6_adds_109 : decode cX6_adds 109 = .ok (.aload_n 0, 1) := by decide +kernel
theorem dX6_adds_110 : decode cX6_adds 110 = .ok (.getfield 28, 3) := by decide +kernel
theorem dX6_adds_113 : decode cX6_adds 113 = .ok (.iload_n 2, 1) := by decide +kernel
theorem dX6_adds_114 : decode cX6_adds 114 = .ok (.iconst 1, 1) := by decide +kernel
theorem dX6_adds_115 : decode cX6_adds 115 = .ok (.iadd, 1) := by decide +kernel
theorem dX6_adds_116 : decode cX6_adds 116 = .ok (.iaload, 1) := by decide +kernel
theorem dX6_adds_117 : decode cX6_adds 117 = .ok (.aload_n 0, 1) := by decide +kernel
theorem dX6_adds_118 : decode cX6_adds 118 = .ok (.getfield 28, 3) := by decide +kernel
theorem dX6_adds_121 : decode cX6_adds 121 = .ok (.iload_n 2, 1) := by decide +kernel
theorem dX6_adds_122 : decode cX6_adds 122 = .ok (.iconst 2, 1) := by decide +kernel
theorem dX6_adds_123 : decode cX6_adds 123 = .ok (.iadd, 1) := by decide +kernel
theorem dX6_adds_124 : decode cX6_adds 124 = .ok (.iaload, 1) := by decide +kernel
theorem dX6_adds_125 : decode cX6_adds 125 = .ok (.invokevirtual 66, 3) := by decide +kernel
theorem dX6_adds_128 : decode cX6_adds 128 = .ok (.istore 5, 2) := by decide +kernel
theorem dX6_adds_130 : decode cX6_adds 130 = .ok (.iload 4, 2) := by decide +kernel
theorem dX6_adds_132 : decode cX6_adds 132 = .ok (.ireturn, 1) := by decide +kernel
set_option maxRecDepth 20000 in
theorem ggX6_read_X6_rightUpTo : GoodIn wsX6_read wsX6_rightUpTo := goodIn_r _ [10, 5, 2, 1, 11, 12, 13, 14, 9, 15, 3, 16, 17, 18, 19, 20, 21, 22, 23, 24, 25, 26, 46, 47, 48, 49, 50, 51, 52, 53, 54, 55, 56, 57, 58, 59, 60] (by decide +kernel) (by decide +kernel)
set_option maxRecDepth 20000 in
theorem gX6_read_X6_rightUpTo : GoodIn wsX6_read (wsV RX6 184 RX6 yX6_rightUpTo wsX6_rightUpTo) := goodIn_app (goodIn_of _ (by decide +kernel)) ggX6_read_X6_rightUpTo
set_option maxRecDepth 20000 in
theorem ggX6_read_X6_save : GoodIn wsX6_read wsX6_save := goodIn_r _ [30, 31, 32, 33, 46, 47, 48, 49, 50, 51, 52, 53, 54, 55, 56, 57, 58, 59, 60] (by decide +kernel) (by decide +kernel)
set_option maxRecDepth 20000 in
theorem gX6_read_X6_save : GoodIn wsX6_read (wsV RX6 59 RX6 yX6_save wsX6_save) := goodIn_app (goodIn_of _ (by decide +kernel)) ggX6_read_X6_save
set_option maxRecDepth 20000 in
theorem ggX6_read_X6_adds : GoodIn wsX6_read wsX6_adds := goodIn_r _ [37, 16, 33, 38, 39, 40, 9, 41, 42, 43, 44, 45, 46, 47, 48, 49, 50, 51, 52, 53, 54, 55, 56, 57, 58, 59, 60] (by decide +kernel) (by decide +kernel)
set_option maxRecDepth 20000 in
theorem gX6_read_X6_adds : GoodIn wsX6_read (wsV RX6 187 RX6 yX6_adds wsX6_adds) := goodIn_app (goodIn_of _ (by decide +kernel)) ggX6_read_X6_adds
theorem dX6_read_0 : decode cX6_read 0 = .ok (.aload_n 0, 1) := by decide +kernel
theorem dX6_read_1 : decode cX6_read 1 = .ok (.invokevirtual 184, 3) := by decide +kernel
theorem dX6_read_4 : decode cX6_read 4 = .ok (.aload_n 0, 1) := by decide +kernel
theorem dX6_read_5 : decode cX6_read 5 = .ok (.getfield 166, 3) := by decide +kernel
theorem dX6_read_8 : decode cX6_read 8 = .ok (.if_icmp .ne 31, 3) := by decide +kernel
theorem dX6_read_11 : decode cX6_read 11 = .ok (.aload_n 0, 1) := by decide +kernel
theorem dX6_read_12 : decode cX6_read 12 = .ok (.getfield 172, 3) := by decide +kernel
theorem dX6_read_15 : decode cX6_read 15 = .ok (.iconst 5, 1) := by decide +kernel
theorem dX6_read_16 : decode cX6_read 16 = .ok (.if_icmp .eq 19, 3) := by decide +kernel
theorem dX6_read_19 : decode cX6_read 19 = .ok (.aload_n 0, 1) := by decide +kernel
theorem dX6_read_20 : decode cX6_read 20 = .ok (.getfield 172, 3) := by decide +kernel
theorem dX6_read_23 : decode cX6_read 23 = .ok (.iconst 4, 1) := by decide +kernel
theorem dX6_read_24 : decode cX6_read 24 = .ok (.if_icmp .ne 15, 3) := by decide +kernel
theorem dX6_read_27 : decode cX6_read 27 = .ok (.aload_n 0, 1) := by decide +kernel
theorem dX6_read_28 : decode cX6_read 28 = .ok (.getfield 169, 3) := by decide +kernel
theorem dX6_read_31 : decode cX6_read 31 = .ok (.iconst (-1), 1) := by decide +kernel
theorem dX6_read_32 : decode cX6_read 32 = .ok (.if_icmp .eq 7, 3) := by decide +kernel
theorem dX6_read_35 : decode cX6_read 35 = .ok (.iconst 1, 1) := by decide +kernel
theorem dX6_read_36 : decode cX6_read 36 = .ok (.goto 4, 3) := by decide +kernel
theorem dX6_read_39 : decode cX6_read 39 = .ok (.iconst 0, 1) := by decide +kernel
theorem dX6_read_40 : decode cX6_read 40 = .ok (.istore_n 1, 1) := by decide +kernel
theorem dX6_read_41 : decode cX6_read 41 = .ok (.aload_n 0, 1) := by decide +kernel
theorem dX6_read_42 : decode cX6_read 42 = .ok (.iload_n 1, 1) := by decide +kernel
theorem dX6_read_43 : decode cX6_read 43 = .ok (.ifCond .eq 7, 3) := by decide +kernel
theorem dX6_read_46 : decode cX6_read 46 = .ok (.iconst 0, 1) := by decide +kernel
theorem dX6_read_47 : decode cX6_read 47 = .ok (.goto 4, 3) := by decide +kernel
theorem dX6_read_50 : decode cX6_read 50 = .ok (.iconst 1, 1) := by decide +kernel
theorem dX6_read_51 : decode cX6_read 51 = .ok (.putfield 34, 3) := by decide +kernel
theorem dX6_read_54 : decode cX6_read 54 = .ok (.aload_n 0, 1) := by decide +kernel
theorem dX6_read_55 : decode cX6_read 55 = .ok (.getfield 34, 3) := by decide +kernel
theorem dX6_read_58 : decode cX6_read 58 = .ok (.ifCond .le 5, 3) := by decide +kernel
theorem dX6_read_61 : decode cX6_read 61 = .ok (.iconst 0, 1) := by decide +kernel
theorem dX6_read_62 : decode cX6_read 62 = .ok (.ireturn, 1) := by decide +kernel
theorem dX6_read_63 : decode cX6_read 63 = .ok (.aload_n 0, 1) := by decide +kernel
theorem dX6_read_64 : decode cX6_read 64 = .ok (.invokevirtual 59, 3) := by decide +kernel
theorem dX6_read_67 : decode cX6_read 67 = .ok (.aload_n 0, 1) := by decide +kernel
theorem dX6_read_68 : decode cX6_read 68 = .ok (.iconst 0, 1) := by decide +kernel
theorem dX6_read_69 : decode cX6_read 69 = .ok (.putfield 166, 3) := by decide +kernel
theorem dX6_read_72 : decode cX6_read 72 = .ok (.iconst 0, 1) := by decide +kernel
theorem dX6_read_73 : decode cX6_read 73 = .ok (.istore_n 2, 1) := by decide +kernel
theorem dX6_read_74 : decode cX6_read 74 = .ok (.iload_n 2, 1) := by decide +kernel
theorem dX6_read_75 : decode cX6_read 75 = .ok (.aload_n 0, 1) := by decide +kernel
theorem dX6_read_76 : decode cX6_read 76 = .ok (.getfield 175, 3) := by decide +kernel
theorem dX6_read_79 : decode cX6_read 79 = .ok (.if_icmp .gt 17, 3) := by decide +kernel
theorem dX6_read_82 : decode cX6_read 82 = .ok (.aload_n 0, 1) := by decide +kernel
theorem dX6_read_83 : decode cX6_read 83 = .ok (.iload_n 2, 1) := by decide +kernel
theorem dX6_read_84 : decode cX6_read 84 = .ok (.invokevirtual 187, 3) := by decide +kernel
theorem dX6_read_87 : decode cX6_read 87 = .ok (.ifCond .eq 9, 3) := by decide +kernel
theorem dX6_read_90 : decode cX6_read 90 = .ok (.iinc 2 1, 3) := by decide +kernel
theorem dX6_read_93 : decode cX6_read 93 = .ok (.goto (-19), 3) := by decide +kernel
theorem dX6_read_96 : decode cX6_read 96 = .ok (.iload_n 2, 1) := by decide +kernel
theorem dX6_read_97 : decode cX6_read 97 = .ok (.ireturn, 1) := by decide +kernel
theorem dX6_undo_0 : decode cX6_undo 0 = .ok (.aload_n 0, 1) := by decide +kernel
theorem dX6_undo_1 : decode cX6_undo 1 = .ok (.aload_n 0, 1) := by decide +kernel
theorem dX6_undo_2 : decode cX6_undo 2 = .ok (.getfield 38, 3) := by decide +kernel
theorem dX6_undo_5 : decode cX6_undo 5 = .ok (.ifCond .le 7, 3) := by decide +kernel
theorem dX6_undo_8 : decode cX6_undo 8 = .ok (.iconst 0, 1) := by decide +kernel
theorem dX6_undo_9 : decode cX6_undo 9 = .ok (.goto 4, 3) := by decide +kernel
theorem dX6_undo_12 : decode cX6_undo 12 = .ok (.iconst 1, 1) := by decide +kernel
theorem dX6_undo_13 : decode cX6_undo 13 = .ok (.putfield 34, 3) := by decide +kernel
theorem dX6_undo_16 : decode cX6_undo 16 = .ok (.aload_n 0, 1) := by decide +kernel
theorem dX6_undo_17 : decode cX6_undo 17 = .ok (.getfield 34, 3) := by decide +kernel
theorem dX6_undo_20 : decode cX6_undo 20 = .ok (.ifCond .le 5, 3) := by decide +kernel
theorem dX6_undo_23 : decode cX6_undo 23 = .ok (.iconst 0, 1) := by decide +kernel
theorem dX6_undo_24 : decode cX6_undo 24 = .ok (.ireturn, 1) := by decide +kernel
theorem dX6_undo_25 : decode cX6_undo 25 = .ok (.aload_n 0, 1) := by decide +kernel
theorem dX6_undo_26 : decode cX6_undo 26 = .ok (.dup, 1) := by decide +kernel
theorem dX6_undo_27 : decode cX6_undo 27 = .ok (.getfield 38, 3) := by decide +kernel
theorem dX6_undo_30 : decode cX6_undo 30 = .ok (.iconst 1, 1) := by decide +kernel
theorem dX6_undo_31 : decode cX6_undo 31 = .ok (.isub, 1) := by decide +kernel
theorem dX6_undo_32 : decode cX6_undo 32 = .ok (.putfield 38, 3) := by decide +kernel
theorem dX6_undo_35 : decode cX6_undo 35 = .ok (.iconst 0, 1) := by decide +kernel
theorem dX6_undo_36 : decode cX6_undo 36 = .ok (.istore_n 1, 1) := by decide +kernel
theorem dX6_undo_37 : decode cX6_undo 37 = .ok (.iload_n 1, 1) := by decide +kernel
theorem dX6_undo_38 : decode cX6_undo 38 = .ok (.sipush 248, 3) := by decide +kernel
theorem dX6_undo_41 : decode cX6_undo 41 = .ok (.if_icmp .ge 30, 3) := by decide +kernel
theorem dX6_undo_44 : decode cX6_undo 44 = .ok (.aload_n 0, 1) := by decide +kernel
theorem dX6_undo_45 : decode cX6_undo 45 = .ok (.getfield 7, 3) := by decide +kernel
theorem dX6_undo_48 : decode cX6_undo 48 = .ok (.iload_n 1, 1) := by decide +kernel
theorem dX6_undo_49 : decode cX6_undo 49 = .ok (.aload_n 0, 1) := by decide +kernel
theorem dX6_undo_50 : decode cX6_undo 50 = .ok (.getfield 13, 3) := by decide +kernel
theorem dX6_undo_53 : decode cX6_undo 53 = .ok (.sipush 248, 3) := by decide +kernel
theorem dX6_undo_56 : decode cX6_undo 56 = .ok (.aload_n 0, 1) := by decide +kernel
theorem dX6_undo_57 : decode cX6_undo 57 = .ok (.getfield 38, 3) := by decide +kernel
theorem dX6_undo_60 : decode cX6_undo 60 = .ok (.imul, 1) := by decide +kernel
theorem dX6_undo_61 : decode cX6_undo 61 = .ok (.iload_n 1, 1) := by decide +kernel
theorem dX6_undo_62 : decode cX6_undo 62 = .ok (.iadd, 1) := by decide +kernel
theorem dX6_undo_63 : decode cX6_undo 63 = .ok (.iaload, 1) := by decide +kernel
theorem dX6_undo_64 : decode cX6_undo 64 = .ok (.iastore, 1) := by decide +kernel
theorem dX6_undo_65 : decode cX6_undo 65 = .ok (.iinc 1 1, 3) := by decide +kernel
theorem dX6_undo_68 : decode cX6_undo 68 = .ok (.goto (-31), 3) := by decide +kernel
theorem dX6_undo_71 : decode cX6_undo 71 = .ok (.aload_n 0, 1) := by decide +kernel
theorem dX6_undo_72 : decode cX6_undo 72 = .ok (.getfield 38, 3) := by decide +kernel
theorem dX6_undo_75 : decode cX6_undo 75 = .ok (.ireturn, 1) := by decide +kernel
set_option maxRecDepth 20000 in
theorem ggX6_feederNow_X6_ofFeeder : GoodIn wsX6_feederNow wsX6_ofFeeder := goodIn_r _ [5, 6, 11, 12, 13, 14, 15, 16, 17, 18, 19, 20, 21, 22, 23, 24, 25] (by decide +kernel) (by decide +kernel)
set_option maxRecDepth 20000 in
theorem gX6_feederNow_X6_ofFeeder : GoodIn wsX6_feederNow (wsV RX6 72 RX6 yX6_ofFeeder wsX6_ofFeeder) := goodIn_app (goodIn_of _ (by decide +kernel)) ggX6_feederNow_X6_ofFeeder
set_option maxRecDepth 20000 in
theorem ggX6_feederNow_X6_trustOf : GoodIn wsX6_feederNow wsX6_trustOf := goodIn_r _ [10, 6, 11, 12, 13, 14, 15, 16, 17, 18, 19, 20, 21, 22, 23, 24, 25] (by decide +kernel) (by decide +kernel)
set_option maxRecDepth 20000 in
theorem gX6_feederNow_X6_trustOf : GoodIn wsX6_feederNow (wsV RX6 41 RX6 yX6_trustOf wsX6_trustOf) := goodIn_app (goodIn_of _ (by decide +kernel)) ggX6_feederNow_X6_trustOf
theorem dX6_feederNow_0 : decode cX6_feederNow 0 = .ok (.iload_n 2, 1) := by decide +kernel
theorem dX6_feederNow_1 : decode cX6_feederNow 1 = .ok (.bipush 8, 2) := by decide +kernel
theorem dX6_feederNow_3 : decode cX6_feederNow 3 = .ok (.if_icmp .ge 10, 3) := by decide +kernel
theorem dX6_feederNow_6 : decode cX6_feederNow 6 = .ok (.aload_n 0, 1) := by decide +kernel
theorem dX6_feederNow_7 : decode cX6_feederNow 7 = .ok (.iload_n 1, 1) := by decide +kernel
theorem dX6_feederNow_8 : decode cX6_feederNow 8 = .ok (.iload_n 2, 1) := by decide +kernel
theorem dX6_feederNow_9 : decode cX6_feederNow 9 = .ok (.invokevirtual 72, 3) := by decide +kernel
theorem dX6_feederNow_12 : decode cX6_feederNow 12 = .ok (.ireturn, 1) := by decide +kernel
theorem dX6_feederNow_13 : decode cX6_feederNow 13 = .ok (.iconst 0, 1) := by decide +kernel
theorem dX6_feederNow_14 : decode cX6_feederNow 14 = .ok (.istore_n 3, 1) := by decide +kernel
theorem dX6_feederNow_15 : decode cX6_feederNow 15 = .ok (.iconst 0, 1) := by decide +kernel
theorem dX6_feederNow_16 : decode cX6_feederNow 16 = .ok (.istore 4, 2) := by decide +kernel
theorem dX6_feederNow_18 : decode cX6_feederNow 18 = .ok (.iload 4, 2) := by decide +kernel
theorem dX6_feederNow_20 : decode cX6_feederNow 20 = .ok (.iconst 4, 1) := by decide +kernel
theorem dX6_feederNow_21 : decode cX6_feederNow 21 = .ok (.if_icmp .ge 19, 3) := by decide +kernel
theorem dX6_feederNow_24 : decode cX6_feederNow 24 = .ok (.iload_n 3, 1) := by decide +kernel
theorem dX6_feederNow_25 : decode cX6_feederNow 25 = .ok (.aload_n 0, 1) := by decide +kernel
theorem dX6_feederNow_26 : decode cX6_feederNow 26 = .ok (.iload 4, 2) := by decide +kernel
theorem dX6_feederNow_28 : decode cX6_feederNow 28 = .ok (.iload_n 1, 1) := by decide +kernel
theorem dX6_feederNow_29 : decode cX6_feederNow 29 = .ok (.invokevirtual 41, 3) := by decide +kernel
theorem dX6_feederNow_32 : decode cX6_feederNow 32 = .ok (.iadd, 1) := by decide +kernel
theorem dX6_feederNow_33 : decode cX6_feederNow 33 = .ok (.istore_n 3, 1) := by decide +kernel
theorem dX6_feederNow_34 : decode cX6_feederNow 34 = .ok (.iinc 4 1, 3) := by decide +kernel
theorem dX6_feederNow_37 : decode cX6_feederNow 37 = .ok (.goto (-19), 3) := by decide +kernel
theorem dX6_feederNow_40 : decode cX6_feederNow 40 = .ok (.iload_n 3, 1) := by decide +kernel
theorem dX6_feederNow_41 : decode cX6_feederNow 41 = .ok (.ireturn, 1) := by decide +kernel
set_option maxRecDepth 20000 in
theorem ggX6_feeder_X6_isFeeder : GoodIn wsX6_feeder wsX6_isFeeder := goodIn_r _ [6, 7, 8, 9, 5, 10, 23, 24, 25, 26, 27, 28, 29, 30, 31, 32, 33, 34, 35, 36, 37] (by decide +kernel) (by decide +kernel)
set_option maxRecDepth 20000 in
theorem gX6_feeder_X6_isFeeder : GoodIn wsX6_feeder (wsV RX6 69 RX6 yX6_isFeeder wsX6_isFeeder) := goodIn_app (goodIn_of _ (by decide +kernel)) ggX6_feeder_X6_isFeeder
set_option maxRecDepth 20000 in
theorem ggX6_feeder_X6_within : GoodIn wsX6_feeder wsX6_within := goodIn_r _ [10] (by decide +kernel) (by decide +kernel)
set_option maxRecDepth 20000 in
theorem gX6_feeder_X6_within : GoodIn wsX6_feeder (va_wsS RX6 45 yX6_within wsX6_within) := goodIn_app (goodIn_of _ (by decide +kernel)) ggX6_feeder_X6_within
set_option maxRecDepth 20000 in
theorem ggX6_feeder_X6_feederNow : GoodIn wsX6_feeder wsX6_feederNow := goodIn_r _ [14, 15, 16, 17, 5, 18, 7, 19, 20, 21, 22, 23, 24, 25, 26, 27, 28, 29, 30, 31, 32, 33, 34, 35, 36, 37] (by decide +kernel) (by decide +kernel)
set_option maxRecDepth 20000 in
theorem gX6_feeder_X6_feederNow : GoodIn wsX6_feeder (wsV RX6 190 RX6 yX6_feederNow wsX6_feederNow) := goodIn_app (goodIn_of _ (by decide +kernel)) ggX6_feeder_X6_feederNow
theorem dX6_feeder_0 : decode cX6_feeder 0 = .ok (.aload_n 0, 1) := by decide +kernel
theorem dX6_feeder_1 : decode cX6_feeder 1 = .ok (.aload_n 0, 1) := by decide +kernel
theorem dX6_feeder_2 : decode cX6_feeder 2 = .ok (.iload_n 1, 1) := by decide +kernel
theorem dX6_feeder_3 : decode cX6_feeder 3 = .ok (.invokevirtual 69, 3) := by decide +kernel
theorem dX6_feeder_6 : decode cX6_feeder 6 = .ok (.ifCond .ne 7, 3) := by decide +kernel
theorem dX6_feeder_9 : decode cX6_feeder 9 = .ok (.iconst 1, 1) := by decide +kernel
theorem dX6_feeder_10 : decode cX6_feeder 10 = .ok (.goto 18, 3) := by decide +kernel
theorem dX6_feeder_13 : decode cX6_feeder 13 = .ok (.iload_n 2, 1) := by decide +kernel
theorem dX6_feeder_14 : decode cX6_feeder 14 = .ok (.iconst 0, 1) := by decide +kernel
theorem dX6_feeder_15 : decode cX6_feeder 15 = .ok (.bipush 8, 2) := by decide +kernel
theorem dX6_feeder_17 : decode cX6_feeder 17 = .ok (.invokestatic 45, 3) := by decide +kernel
theorem dX6_feeder_20 : decode cX6_feeder 20 = .ok (.ifCond .eq 7, 3) := by decide +kernel
theorem dX6_feeder_23 : decode cX6_feeder 23 = .ok (.iconst 0, 1) := by decide +kernel
theorem dX6_feeder_24 : decode cX6_feeder 24 = .ok (.goto 4, 3) := by decide +kernel
theorem dX6_feeder_27 : decode cX6_feeder 27 = .ok (.iconst 2, 1) := by decide +kernel
theorem dX6_feeder_28 : decode cX6_feeder 28 = .ok (.putfield 34, 3) := by decide +kernel
theorem dX6_feeder_31 : decode cX6_feeder 31 = .ok (.aload_n 0, 1) := by decide +kernel
theorem dX6_feeder_32 : decode cX6_feeder 32 = .ok (.getfield 34, 3) := by decide +kernel
theorem dX6_feeder_35 : decode cX6_feeder 35 = .ok (.ifCond .le 7, 3) := by decide +kernel
theorem dX6_feeder_38 : decode cX6_feeder 38 = .ok (.iconst 0, 1) := by decide +kernel
theorem dX6_feeder_39 : decode cX6_feeder 39 = .ok (.goto 9, 3) := by decide +kernel
theorem dX6_feeder_42 : decode cX6_feeder 42 = .ok (.aload_n 0, 1) := by decide +kernel
theorem dX6_feeder_43 : decode cX6_feeder 43 = .ok (.iload_n 1, 1) := by decide +kernel
theorem dX6_feeder_44 : decode cX6_feeder 44 = .ok (.iload_n 2, 1) := by decide +kernel
theorem dX6_feeder_45 : decode cX6_feeder 45 = .ok (.invokevirtual 190, 3) := by decide +kernel
theorem dX6_feeder_48 : decode cX6_feeder 48 = .ok (.ireturn, 1) := by decide +kernel
set_option maxRecDepth 20000 in
theorem ggX6_place_X6_isPlace : GoodIn wsX6_place wsX6_isPlace := goodIn_r _ [6, 7, 8, 9, 5, 10, 15, 16, 17, 18, 19, 20, 21, 22, 23, 24, 25, 26, 27, 28, 29] (by decide +kernel) (by decide +kernel)
set_option maxRecDepth 20000 in
theorem gX6_place_X6_isPlace : GoodIn wsX6_place (wsV RX6 193 RX6 yX6_isPlace wsX6_isPlace) := goodIn_app (goodIn_of _ (by decide +kernel)) ggX6_place_X6_isPlace
set_option maxRecDepth 20000 in
theorem ggX6_place_X6_within : GoodIn wsX6_place wsX6_within := goodIn_r _ [10] (by decide +kernel) (by decide +kernel)
set_option maxRecDepth 20000 in
theorem gX6_place_X6_within : GoodIn wsX6_place (va_wsS RX6 45 yX6_within wsX6_within) := goodIn_app (goodIn_of _ (by decide +kernel)) ggX6_place_X6_within
set_option maxRecDepth 20000 in
theorem ggX6_place_X6_ofPlace : GoodIn wsX6_place wsX6_ofPlace := goodIn_r _ [14, 7, 15, 16, 17, 18, 19, 20, 21, 22, 23, 24, 25, 26, 27, 28, 29] (by decide +kernel) (by decide +kernel)
set_option maxRecDepth 20000 in
theorem gX6_place_X6_ofPlace : GoodIn wsX6_place (wsV RX6 81 RX6 yX6_ofPlace wsX6_ofPlace) := goodIn_app (goodIn_of _ (by decide +kernel)) ggX6_place_X6_ofPlace
theorem dX6_place_0 : decode cX6_place 0 = .ok (.aload_n 0, 1) := by decide +kernel
theorem dX6_place_1 : decode cX6_place 1 = .ok (.aload_n 0, 1) := by decide +kernel
theorem dX6_place_2 : decode cX6_place 2 = .ok (.iload_n 1, 1) := by decide +kernel
theorem dX6_place_3 : decode cX6_place 3 = .ok (.invokevirtual 193, 3) := by decide +kernel
theorem dX6_place_6 : decode cX6_place 6 = .ok (.ifCond .ne 7, 3) := by decide +kernel
theorem dX6_place_9 : decode cX6_place 9 = .ok (.iconst 1, 1) := by decide +kernel
theorem dX6_place_10 : decode cX6_place 10 = .ok (.goto 17, 3) := by decide +kernel
theorem dX6_place_13 : decode cX6_place 13 = .ok (.iload_n 2, 1) := by decide +kernel
theorem dX6_place_14 : decode cX6_place 14 = .ok (.iconst 0, 1) := by decide +kernel
theorem dX6_place_15 : decode cX6_place 15 = .ok (.iconst 4, 1) := by decide +kernel
theorem dX6_place_16 : decode cX6_place 16 = .ok (.invokestatic 45, 3) := by decide +kernel
theorem dX6_place_19 : decode cX6_place 19 = .ok (.ifCond .eq 7, 3) := by decide +kernel
theorem dX6_place_22 : decode cX6_place 22 = .ok (.iconst 0, 1) := by decide +kernel
theorem dX6_place_23 : decode cX6_place 23 = .ok (.goto 4, 3) := by decide +kernel
theorem dX6_place_26 : decode cX6_place 26 = .ok (.iconst 2, 1) := by decide +kernel
theorem dX6_place_27 : decode cX6_place 27 = .ok (.putfield 34, 3) := by decide +kernel
theorem dX6_place_30 : decode cX6_place 30 = .ok (.aload_n 0, 1) := by decide +kernel
theorem dX6_place_31 : decode cX6_place 31 = .ok (.getfield 34, 3) := by decide +kernel
theorem dX6_place_34 : decode cX6_place 34 = .ok (.ifCond .le 7, 3) := by decide +kernel
theorem dX6_place_37 : decode cX6_place 37 = .ok (.iconst 0, 1) := by decide +kernel
theorem dX6_place_38 : decode cX6_place 38 = .ok (.goto 9, 3) := by decide +kernel
theorem dX6_place_41 : decode cX6_place 41 = .ok (.aload_n 0, 1) := by decide +kernel
theorem dX6_place_42 : decode cX6_place 42 = .ok (.iload_n 1, 1) := by decide +kernel
theorem dX6_place_43 : decode cX6_place 43 = .ok (.iload_n 2, 1) := by decide +kernel
theorem dX6_place_44 : decode cX6_place 44 = .ok (.invokevirtual 81, 3) := by decide +kernel
theorem dX6_place_47 : decode cX6_place 47 = .ok (.ireturn, 1) := by decide +kernel
set_option maxRecDepth 20000 in
theorem ggX6_nozzle_X6_isNozzle : GoodIn wsX6_nozzle wsX6_isNozzle := goodIn_r _ [5, 6, 7, 4, 8] (by decide +kernel) (by decide +kernel)
set_option maxRecDepth 20000 in
theorem gX6_nozzle_X6_isNozzle : GoodIn wsX6_nozzle (va_wsS RX6 75 yX6_isNozzle wsX6_isNozzle) := goodIn_app (goodIn_of _ (by decide +kernel)) ggX6_nozzle_X6_isNozzle
set_option maxRecDepth 20000 in
theorem ggX6_nozzle_X6_within : GoodIn wsX6_nozzle wsX6_within := goodIn_r _ [8] (by decide +kernel) (by decide +kernel)
set_option maxRecDepth 20000 in
theorem gX6_nozzle_X6_within : GoodIn wsX6_nozzle (va_wsS RX6 45 yX6_within wsX6_within) := goodIn_app (goodIn_of _ (by decide +kernel)) ggX6_nozzle_X6_within
set_option maxRecDepth 20000 in
theorem ggX6_nozzle_X6_ofNozzle : GoodIn wsX6_nozzle wsX6_ofNozzle := goodIn_r _ [12, 13, 14, 15, 16, 17, 18, 19, 20, 21, 22, 23, 24, 25, 26, 27, 28] (by decide +kernel) (by decide +kernel)
set_option maxRecDepth 20000 in
theorem gX6_nozzle_X6_ofNozzle : GoodIn wsX6_nozzle (wsV RX6 78 RX6 yX6_ofNozzle wsX6_ofNozzle) := goodIn_app (goodIn_of _ (by decide +kernel)) ggX6_nozzle_X6_ofNozzle
theorem dX6_nozzle_0 : decode cX6_nozzle 0 = .ok (.aload_n 0, 1) := by decide +kernel
theorem dX6_nozzle_1 : decode cX6_nozzle 1 = .ok (.iload_n 1, 1) := by decide +kernel
theorem dX6_nozzle_2 : decode cX6_nozzle 2 = .ok (.invokestatic 75, 3) := by decide +kernel
theorem dX6_nozzle_5 : decode cX6_nozzle 5 = .ok (.ifCond .ne 7, 3) := by decide +kernel
theorem dX6_nozzle_8 : decode cX6_nozzle 8 = .ok (.iconst 1, 1) := by decide +kernel
theorem dX6_nozzle_9 : decode cX6_nozzle 9 = .ok (.goto 17, 3) := by decide +kernel
theorem dX6_nozzle_12 : decode cX6_nozzle 12 = .ok (.iload_n 2, 1) := by decide +kernel
theorem dX6_nozzle_13 : decode cX6_nozzle 13 = .ok (.iconst 0, 1) := by decide +kernel
theorem dX6_nozzle_14 : decode cX6_nozzle 14 = .ok (.iconst 4, 1) := by decide +kernel
theorem dX6_nozzle_15 : decode cX6_nozzle 15 = .ok (.invokestatic 45, 3) := by decide +kernel
theorem dX6_nozzle_18 : decode cX6_nozzle 18 = .ok (.ifCond .eq 7, 3) := by decide +kernel
theorem dX6_nozzle_21 : decode cX6_nozzle 21 = .ok (.iconst 0, 1) := by decide +kernel
theorem dX6_nozzle_22 : decode cX6_nozzle 22 = .ok (.goto 4, 3) := by decide +kernel
theorem dX6_nozzle_25 : decode cX6_nozzle 25 = .ok (.iconst 2, 1) := by decide +kernel
theorem dX6_nozzle_26 : decode cX6_nozzle 26 = .ok (.putfield 34, 3) := by decide +kernel
theorem dX6_nozzle_29 : decode cX6_nozzle 29 = .ok (.aload_n 0, 1) := by decide +kernel
theorem dX6_nozzle_30 : decode cX6_nozzle 30 = .ok (.getfield 34, 3) := by decide +kernel
theorem dX6_nozzle_33 : decode cX6_nozzle 33 = .ok (.ifCond .le 7, 3) := by decide +kernel
theorem dX6_nozzle_36 : decode cX6_nozzle 36 = .ok (.iconst 0, 1) := by decide +kernel
theorem dX6_nozzle_37 : decode cX6_nozzle 37 = .ok (.goto 9, 3) := by decide +kernel
theorem dX6_nozzle_40 : decode cX6_nozzle 40 = .ok (.aload_n 0, 1) := by decide +kernel
theorem dX6_nozzle_41 : decode cX6_nozzle 41 = .ok (.iload_n 1, 1) := by decide +kernel
theorem dX6_nozzle_42 : decode cX6_nozzle 42 = .ok (.iload_n 2, 1) := by decide +kernel
theorem dX6_nozzle_43 : decode cX6_nozzle 43 = .ok (.invokevirtual 78, 3) := by decide +kernel
theorem dX6_nozzle_46 : decode cX6_nozzle 46 = .ok (.ireturn, 1) := by decide +kernel
set_option maxRecDepth 20000 in
theorem ggX6_trust_X6_isNozzle : GoodIn wsX6_trust wsX6_isNozzle := goodIn_r _ [5, 6, 7, 4, 8] (by decide +kernel) (by decide +kernel)
set_option maxRecDepth 20000 in
theorem gX6_trust_X6_isNozzle : GoodIn wsX6_trust (va_wsS RX6 75 yX6_isNozzle wsX6_isNozzle) := goodIn_app (goodIn_of _ (by decide +kernel)) ggX6_trust_X6_isNozzle
set_option maxRecDepth 20000 in
theorem ggX6_trust_X6_isFeeder : GoodIn wsX6_trust wsX6_isFeeder := goodIn_r _ [12, 13, 6, 7, 4, 8, 18, 19, 20, 21, 22, 23, 24, 25, 26, 27, 28, 29, 30, 31, 32] (by decide +kernel) (by decide +kernel)
set_option maxRecDepth 20000 in
theorem gX6_trust_X6_isFeeder : GoodIn wsX6_trust (wsV RX6 69 RX6 yX6_isFeeder wsX6_isFeeder) := goodIn_app (goodIn_of _ (by decide +kernel)) ggX6_trust_X6_isFeeder
set_option maxRecDepth 20000 in
theorem ggX6_trust_X6_trustOf : GoodIn wsX6_trust wsX6_trustOf := goodIn_r _ [17, 13, 18, 19, 20, 21, 22, 23, 24, 25, 26, 27, 28, 29, 30, 31, 32] (by decide +kernel) (by decide +kernel)
set_option maxRecDepth 20000 in
theorem gX6_trust_X6_trustOf : GoodIn wsX6_trust (wsV RX6 41 RX6 yX6_trustOf wsX6_trustOf) := goodIn_app (goodIn_of _ (by decide +kernel)) ggX6_trust_X6_trustOf
theorem dX6_trust_0 : decode cX6_trust 0 = .ok (.aload_n 0, 1) := by decide +kernel
theorem dX6_trust_1 : decode cX6_trust 1 = .ok (.iload_n 1, 1) := by decide +kernel
theorem dX6_trust_2 : decode cX6_trust 2 = .ok (.invokestatic 75, 3) := by decide +kernel
theorem dX6_trust_5 : decode cX6_trust 5 = .ok (.ifCond .eq 15, 3) := by decide +kernel
theorem dX6_trust_8 : decode cX6_trust 8 = .ok (.aload_n 0, 1) := by decide +kernel
theorem dX6_trust_9 : decode cX6_trust 9 = .ok (.iload_n 2, 1) := by decide +kernel
theorem dX6_trust_10 : decode cX6_trust 10 = .ok (.invokevirtual 69, 3) := by decide +kernel
theorem dX6_trust_13 : decode cX6_trust 13 = .ok (.ifCond .eq 7, 3) := by decide +kernel
theorem dX6_trust_16 : decode cX6_trust 16 = .ok (.iconst 0, 1) := by decide +kernel
theorem dX6_trust_17 : decode cX6_trust 17 = .ok (.goto 4, 3) := by decide +kernel
theorem dX6_trust_20 : decode cX6_trust 20 = .ok (.iconst 1, 1) := by decide +kernel
theorem dX6_trust_21 : decode cX6_trust 21 = .ok (.putfield 34, 3) := by decide +kernel
theorem dX6_trust_24 : decode cX6_trust 24 = .ok (.aload_n 0, 1) := by decide +kernel
theorem dX6_trust_25 : decode cX6_trust 25 = .ok (.getfield 34, 3) := by decide +kernel
theorem dX6_trust_28 : decode cX6_trust 28 = .ok (.ifCond .le 7, 3) := by decide +kernel
theorem dX6_trust_31 : decode cX6_trust 31 = .ok (.iconst 0, 1) := by decide +kernel
theorem dX6_trust_32 : decode cX6_trust 32 = .ok (.goto 9, 3) := by decide +kernel
theorem dX6_trust_35 : decode cX6_trust 35 = .ok (.aload_n 0, 1) := by decide +kernel
theorem dX6_trust_36 : decode cX6_trust 36 = .ok (.iload_n 1, 1) := by decide +kernel
theorem dX6_trust_37 : decode cX6_trust 37 = .ok (.iload_n 2, 1) := by decide +kernel
theorem dX6_trust_38 : decode cX6_trust 38 = .ok (.invokevirtual 41, 3) := by decide +kernel
theorem dX6_trust_41 : decode cX6_trust 41 = .ok (.ireturn, 1) := by decide +kernel
set_option maxRecDepth 20000 in
theorem ggX6_sumOfNozzles_X6_ofNozzle : GoodIn wsX6_sumOfNozzles wsX6_ofNozzle := goodIn_r _ [5, 6, 7, 8, 9, 10, 11, 12, 13, 14, 15, 16, 17, 18, 19, 20, 21] (by decide +kernel) (by decide +kernel)
set_option maxRecDepth 20000 in
theorem gX6_sumOfNozzles_X6_ofNozzle : GoodIn wsX6_sumOfNozzles (wsV RX6 78 RX6 yX6_ofNozzle wsX6_ofNozzle) := goodIn_app (goodIn_of _ (by decide +kernel)) ggX6_sumOfNozzles_X6_ofNozzle
theorem dX6_sumOfNozzles_0 : decode cX6_sumOfNozzles 0 = .ok (.iconst 0, 1) := by decide +kernel
theorem dX6_sumOfNozzles_1 : decode cX6_sumOfNozzles 1 = .ok (.istore_n 2, 1) := by decide +kernel
theorem dX6_sumOfNozzles_2 : decode cX6_sumOfNozzles 2 = .ok (.iconst 0, 1) := by decide +kernel
theorem dX6_sumOfNozzles_3 : decode cX6_sumOfNozzles 3 = .ok (.istore_n 3, 1) := by decide +kernel
theorem dX6_sumOfNozzles_4 : decode cX6_sumOfNozzles 4 = .ok (.iload_n 3, 1) := by decide +kernel
theorem dX6_sumOfNozzles_5 : decode cX6_sumOfNozzles 5 = .ok (.iconst 4, 1) := by decide +kernel
theorem dX6_sumOfNozzles_6 : decode cX6_sumOfNozzles 6 = .ok (.if_icmp .ge 18, 3) := by decide +kernel
theorem dX6_sumOfNozzles_9 : decode cX6_sumOfNozzles 9 = .ok (.iload_n 2, 1) := by decide +kernel
theorem dX6_sumOfNozzles_10 : decode cX6_sumOfNozzles 10 = .ok (.aload_n 0, 1) := by decide +kernel
theorem dX6_sumOfNozzles_11 : decode cX6_sumOfNozzles 11 = .ok (.iload_n 3, 1) := by decide +kernel
theorem dX6_sumOfNozzles_12 : decode cX6_sumOfNozzles 12 = .ok (.iload_n 1, 1) := by decide +kernel
theorem dX6_sumOfNozzles_13 : decode cX6_sumOfNozzles 13 = .ok (.invokevirtual 78, 3) := by decide +kernel
theorem dX6_sumOfNozzles_16 : decode cX6_sumOfNozzles 16 = .ok (.iadd, 1) := by decide +kernel
theorem dX6_sumOfNozzles_17 : decode cX6_sumOfNozzles 17 = .ok (.istore_n 2, 1) := by decide +kernel
theorem dX6_sumOfNozzles_18 : decode cX6_sumOfNozzles 18 = .ok (.iinc 3 1, 3) := by decide +kernel
theorem dX6_sumOfNozzles_21 : decode cX6_sumOfNozzles 21 = .ok (.goto (-17), 3) := by decide +kernel
theorem dX6_sumOfNozzles_24 : decode cX6_sumOfNozzles 24 = .ok (.iload_n 2, 1) := by decide +kernel
theorem dX6_sumOfNozzles_25 : decode cX6_sumOfNozzles 25 = .ok (.ireturn, 1) := by decide +kernel
set_option maxRecDepth 20000 in
theorem ggX6_allParts_X6_ofFeeder : GoodIn wsX6_allParts wsX6_ofFeeder := goodIn_r _ [6, 1, 7, 8, 9, 10, 11, 12, 13, 14, 15, 16, 17, 18, 19, 20, 21] (by decide +kernel) (by decide +kernel)
set_option maxRecDepth 20000 in
theorem gX6_allParts_X6_ofFeeder : GoodIn wsX6_allParts (wsV RX6 72 RX6 yX6_ofFeeder wsX6_ofFeeder) := goodIn_app (goodIn_of _ (by decide +kernel)) ggX6_allParts_X6_ofFeeder
theorem dX6_allParts_0 : decode cX6_allParts 0 = .ok (.iconst 0, 1) := by decide +kernel
theorem dX6_allParts_1 : decode cX6_allParts 1 = .ok (.istore_n 1, 1) := by decide +kernel
theorem dX6_allParts_2 : decode cX6_allParts 2 = .ok (.iconst 0, 1) := by decide +kernel
theorem dX6_allParts_3 : decode cX6_allParts 3 = .ok (.istore_n 2, 1) := by decide +kernel
theorem dX6_allParts_4 : decode cX6_allParts 4 = .ok (.iload_n 2, 1) := by decide +kernel
theorem dX6_allParts_5 : decode cX6_allParts 5 = .ok (.aload_n 0, 1) := by decide +kernel
theorem dX6_allParts_6 : decode cX6_allParts 6 = .ok (.getfield 7, 3) := by decide +kernel
theorem dX6_allParts_9 : decode cX6_allParts 9 = .ok (.iconst 5, 1) := by decide +kernel
theorem dX6_allParts_10 : decode cX6_allParts 10 = .ok (.iaload, 1) := by decide +kernel
theorem dX6_allParts_11 : decode cX6_allParts 11 = .ok (.if_icmp .ge 18, 3) := by decide +kernel
theorem dX6_allParts_14 : decode cX6_allParts 14 = .ok (.iload_n 1, 1) := by decide +kernel
theorem dX6_allParts_15 : decode cX6_allParts 15 = .ok (.aload_n 0, 1) := by decide +kernel
theorem dX6_allParts_16 : decode cX6_allParts 16 = .ok (.iload_n 2, 1) := by decide +kernel
theorem dX6_allParts_17 : decode cX6_allParts 17 = .ok (.iconst 2, 1) := by decide +kernel
theorem dX6_allParts_18 : decode cX6_allParts 18 = .ok (.invokevirtual 72, 3) := by decide +kernel
theorem dX6_allParts_21 : decode cX6_allParts 21 = .ok (.iadd, 1) := by decide +kernel
theorem dX6_allParts_22 : decode cX6_allParts 22 = .ok (.istore_n 1, 1) := by decide +kernel
theorem dX6_allParts_23 : decode cX6_allParts 23 = .ok (.iinc 2 1, 3) := by decide +kernel
theorem dX6_allParts_26 : decode cX6_allParts 26 = .ok (.goto (-22), 3) := by decide +kernel
theorem dX6_allParts_29 : decode cX6_allParts 29 = .ok (.iload_n 1, 1) := by decide +kernel
theorem dX6_allParts_30 : decode cX6_allParts 30 = .ok (.ireturn, 1) := by decide +kernel
set_option maxRecDepth 20000 in
theorem ggX6_counted_X6_placesThat : GoodIn wsX6_counted wsX6_placesThat := goodIn_r _ [7, 1, 8, 9, 10, 6, 11, 28, 29, 30, 31, 32, 33, 34, 35, 36, 37, 38, 39, 40, 41, 42] (by decide +kernel) (by decide +kernel)
set_option maxRecDepth 20000 in
theorem gX6_counted_X6_placesThat : GoodIn wsX6_counted (wsV RX6 84 RX6 yX6_placesThat wsX6_placesThat) := goodIn_app (goodIn_of _ (by decide +kernel)) ggX6_counted_X6_placesThat
set_option maxRecDepth 20000 in
theorem ggX6_counted_X6_sumOfNozzles : GoodIn wsX6_counted wsX6_sumOfNozzles := goodIn_r _ [15, 16, 17, 18, 6, 19, 1, 28, 29, 30, 31, 32, 33, 34, 35, 36, 37, 38, 39, 40, 41, 42] (by decide +kernel) (by decide +kernel)
set_option maxRecDepth 20000 in
theorem gX6_counted_X6_sumOfNozzles : GoodIn wsX6_counted (wsV RX6 196 RX6 yX6_sumOfNozzles wsX6_sumOfNozzles) := goodIn_app (goodIn_of _ (by decide +kernel)) ggX6_counted_X6_sumOfNozzles
set_option maxRecDepth 20000 in
theorem ggX6_counted_X6_allParts : GoodIn wsX6_counted wsX6_allParts := goodIn_r _ [23, 1, 24, 25, 26, 6, 27, 28, 29, 30, 31, 32, 33, 34, 35, 36, 37, 38, 39, 40, 41, 42] (by decide +kernel) (by decide +kernel)
set_option maxRecDepth 20000 in
theorem gX6_counted_X6_allParts : GoodIn wsX6_counted (wsV RX6 199 RX6 yX6_allParts wsX6_allParts) := goodIn_app (goodIn_of _ (by decide +kernel)) ggX6_counted_X6_allParts
theorem dX6_counted_0 : decode cX6_counted 0 = .ok (.iload_n 1, 1) := by decide +kernel
theorem dX6_counted_1 : decode cX6_counted 1 = .ok (.tableswitch 86 6 13 #[47, 47, 47, 56, 62, 68, 76, 81], 47) := by decide +kernel
theorem dX6_counted_48 : decode cX6_counted 48 = .ok (.aload_n 0, 1) := by decide +kernel
theorem dX6_counted_49 : decode cX6_counted 49 = .ok (.iload_n 1, 1) := by decide +kernel
theorem dX6_counted_50 : decode cX6_counted 50 = .ok (.bipush 6, 2) := by decide +kernel
theorem dX6_counted_52 : decode cX6_counted 52 = .ok (.isub, 1) := by decide +kernel
theorem dX6_counted_53 : decode cX6_counted 53 = .ok (.invokevirtual 84, 3) := by decide +kernel
theorem dX6_counted_56 : decode cX6_counted 56 = .ok (.ireturn, 1) := by decide +kernel
theorem dX6_counted_57 : decode cX6_counted 57 = .ok (.aload_n 0, 1) := by decide +kernel
theorem dX6_counted_58 : decode cX6_counted 58 = .ok (.iconst 2, 1) := by decide +kernel
theorem dX6_counted_59 : decode cX6_counted 59 = .ok (.invokevirtual 196, 3) := by decide +kernel
theorem dX6_counted_62 : decode cX6_counted 62 = .ok (.ireturn, 1) := by decide +kernel
theorem dX6_counted_63 : decode cX6_counted 63 = .ok (.aload_n 0, 1) := by decide +kernel
theorem dX6_counted_64 : decode cX6_counted 64 = .ok (.iconst 4, 1) := by decide +kernel
theorem dX6_counted_65 : decode cX6_counted 65 = .ok (.invokevirtual 196, 3) := by decide +kernel
theorem dX6_counted_68 : decode cX6_counted 68 = .ok (.ireturn, 1) := by decide +kernel
theorem dX6_counted_69 : decode cX6_counted 69 = .ok (.aload_n 0, 1) := by decide +kernel
theorem dX6_counted_70 : decode cX6_counted 70 = .ok (.getfield 7, 3) := by decide +kernel
theorem dX6_counted_73 : decode cX6_counted 73 = .ok (.bipush 11, 2) := by decide +kernel
theorem dX6_counted_75 : decode cX6_counted 75 = .ok (.iaload, 1) := by decide +kernel
theorem dX6_counted_76 : decode cX6_counted 76 = .ok (.ireturn, 1) := by decide +kernel
theorem dX6_counted_77 : decode cX6_counted 77 = .ok (.aload_n 0, 1) := by decide +kernel
theorem dX6_counted_78 : decode cX6_counted 78 = .ok (.invokevirtual 199, 3) := by decide +kernel
theorem dX6_counted_81 : decode cX6_counted 81 = .ok (.ireturn, 1) := by decide +kernel
theorem dX6_counted_82 : decode cX6_counted 82 = .ok (.aload_n 0, 1) := by decide +kernel
theorem dX6_counted_83 : decode cX6_counted 83 = .ok (.getfield 38, 3) := by decide +kernel
theorem dX6_counted_86 : decode cX6_counted 86 = .ok (.ireturn, 1) := by decide +kernel
theorem dX6_counted_87 : decode cX6_counted 87 = .ok (.aload_n 0, 1) := by decide +kernel
theorem dX6_counted_88 : decode cX6_counted 88 = .ok (.getfield 7, 3) := by decide +kernel
theorem dX6_counted_91 : decode cX6_counted 91 = .ok (.iconst 5, 1) := by decide +kernel
theorem dX6_counted_92 : decode cX6_counted 92 = .ok (.iload_n 1, 1) := by decide +kernel
theorem dX6_counted_93 : decode cX6_counted 93 = .ok (.iadd, 1) := by decide +kernel
theorem dX6_counted_94 : decode cX6_counted 94 = .ok (.iaload, 1) := by decide +kernel
theorem dX6_counted_95 : decode cX6_counted 95 = .ok (.ireturn, 1) := by decide +kernel
set_option maxRecDepth 20000 in
theorem ggX6_count_X6_within : GoodIn wsX6_count wsX6_within := goodIn_r _ [5] (by decide +kernel) (by decide +kernel)
set_option maxRecDepth 20000 in
theorem gX6_count_X6_within : GoodIn wsX6_count (va_wsS RX6 45 yX6_within wsX6_within) := goodIn_app (goodIn_of _ (by decide +kernel)) ggX6_count_X6_within
set_option maxRecDepth 20000 in
theorem ggX6_count_X6_counted : GoodIn wsX6_count wsX6_counted := goodIn_r _ [9, 10, 11, 12, 13, 14, 4, 15, 16, 17, 18, 19, 20, 21, 22, 23, 24, 25, 26, 27, 28, 29, 30, 31, 32, 33, 34, 35, 36, 37, 38, 39, 40, 41, 42, 43, 44, 45, 46, 47, 48, 49, 50] (by decide +kernel) (by decide +kernel)
set_option maxRecDepth 20000 in
theorem gX6_count_X6_counted : GoodIn wsX6_count (wsV RX6 202 RX6 yX6_counted wsX6_counted) := goodIn_app (goodIn_of _ (by decide +kernel)) ggX6_count_X6_counted
theorem dX6_count_0 : decode cX6_count 0 = .ok (.aload_n 0, 1) := by decide +kernel
theorem dX6_count_1 : decode cX6_count 1 = .ok (.iload_n 1, 1) := by decide +kernel
theorem dX6_count_2 : decode cX6_count 2 = .ok (.iconst 0, 1) := by decide +kernel
theorem dX6_count_3 : decode cX6_count 3 = .ok (.bipush 13, 2) := by decide +kernel
theorem dX6_count_5 : decode cX6_count 5 = .ok (.invokestatic 45, 3) := by decide +kernel
theorem dX6_count_8 : decode cX6_count 8 = .ok (.ifCond .eq 7, 3) := by decide +kernel
theorem dX6_count_11 : decode cX6_count 11 = .ok (.iconst 0, 1) := by decide +kernel
theorem dX6_count_12 : decode cX6_count 12 = .ok (.goto 4, 3) := by decide +kernel
theorem dX6_count_15 : decode cX6_count 15 = .ok (.iconst 1, 1) := by decide +kernel
theorem dX6_count_16 : decode cX6_count 16 = .ok (.putfield 34, 3) := by decide +kernel
theorem dX6_count_19 : decode cX6_count 19 = .ok (.aload_n 0, 1) := by decide +kernel
theorem dX6_count_20 : decode cX6_count 20 = .ok (.getfield 34, 3) := by decide +kernel
theorem dX6_count_23 : decode cX6_count 23 = .ok (.ifCond .le 7, 3) := by decide +kernel
theorem dX6_count_26 : decode cX6_count 26 = .ok (.iconst 0, 1) := by decide +kernel
theorem dX6_count_27 : decode cX6_count 27 = .ok (.goto 8, 3) := by decide +kernel
theorem dX6_count_30 : decode cX6_count 30 = .ok (.aload_n 0, 1) := by decide +kernel
theorem dX6_count_31 : decode cX6_count 31 = .ok (.iload_n 1, 1) := by decide +kernel
theorem dX6_count_32 : decode cX6_count 32 = .ok (.invokevirtual 202, 3) := by decide +kernel
theorem dX6_count_35 : decode cX6_count 35 = .ok (.ireturn, 1) := by decide +kernel
set_option maxRecDepth 20000 in
theorem ggX6_setting_X6_isSetting : GoodIn wsX6_setting wsX6_isSetting := goodIn_r _ [6, 7, 8, 5, 9] (by decide +kernel) (by decide +kernel)
set_option maxRecDepth 20000 in
theorem gX6_setting_X6_isSetting : GoodIn wsX6_setting (va_wsS RX6 92 yX6_isSetting wsX6_isSetting) := goodIn_app (goodIn_of _ (by decide +kernel)) ggX6_setting_X6_isSetting
theorem dX6_setting_0 : decode cX6_setting 0 = .ok (.aload_n 0, 1) := by decide +kernel
theorem dX6_setting_1 : decode cX6_setting 1 = .ok (.iload_n 1, 1) := by decide +kernel
theorem dX6_setting_2 : decode cX6_setting 2 = .ok (.invokestatic 92, 3) := by decide +kernel
theorem dX6_setting_5 : decode cX6_setting 5 = .ok (.ifCond .eq 7, 3) := by decide +kernel
theorem dX6_setting_8 : decode cX6_setting 8 = .ok (.iconst 0, 1) := by decide +kernel
theorem dX6_setting_9 : decode cX6_setting 9 = .ok (.goto 4, 3) := by decide +kernel
theorem dX6_setting_12 : decode cX6_setting 12 = .ok (.iconst 1, 1) := by decide +kernel
theorem dX6_setting_13 : decode cX6_setting 13 = .ok (.putfield 34, 3) := by decide +kernel
theorem dX6_setting_16 : decode cX6_setting 16 = .ok (.aload_n 0, 1) := by decide +kernel
theorem dX6_setting_17 : decode cX6_setting 17 = .ok (.getfield 34, 3) := by decide +kernel
theorem dX6_setting_20 : decode cX6_setting 20 = .ok (.ifCond .le 7, 3) := by decide +kernel
theorem dX6_setting_23 : decode cX6_setting 23 = .ok (.iconst 0, 1) := by decide +kernel
theorem dX6_setting_24 : decode cX6_setting 24 = .ok (.goto 11, 3) := by decide +kernel
theorem dX6_setting_27 : decode cX6_setting 27 = .ok (.aload_n 0, 1) := by decide +kernel
theorem dX6_setting_28 : decode cX6_setting 28 = .ok (.getfield 7, 3) := by decide +kernel
theorem dX6_setting_31 : decode cX6_setting 31 = .ok (.iconst 0, 1) := by decide +kernel
theorem dX6_setting_32 : decode cX6_setting 32 = .ok (.iload_n 1, 1) := by decide +kernel
theorem dX6_setting_33 : decode cX6_setting 33 = .ok (.iadd, 1) := by decide +kernel
theorem dX6_setting_34 : decode cX6_setting 34 = .ok (.iaload, 1) := by decide +kernel
theorem dX6_setting_35 : decode cX6_setting 35 = .ok (.ireturn, 1) := by decide +kernel
theorem dX6_keep_0 : decode cX6_keep 0 = .ok (.iconst 0, 1) := by decide +kernel
theorem dX6_keep_1 : decode cX6_keep 1 = .ok (.istore_n 1, 1) := by decide +kernel
theorem dX6_keep_2 : decode cX6_keep 2 = .ok (.iload_n 1, 1) := by decide +kernel
theorem dX6_keep_3 : decode cX6_keep 3 = .ok (.sipush 248, 3) := by decide +kernel
theorem dX6_keep_6 : decode cX6_keep 6 = .ok (.if_icmp .ge 21, 3) := by decide +kernel
theorem dX6_keep_9 : decode cX6_keep 9 = .ok (.aload_n 0, 1) := by decide +kernel
theorem dX6_keep_10 : decode cX6_keep 10 = .ok (.getfield 31, 3) := by decide +kernel
theorem dX6_keep_13 : decode cX6_keep 13 = .ok (.iload_n 1, 1) := by decide +kernel
theorem dX6_keep_14 : decode cX6_keep 14 = .ok (.aload_n 0, 1) := by decide +kernel
theorem dX6_keep_15 : decode cX6_keep 15 = .ok (.getfield 7, 3) := by decide +kernel
theorem dX6_keep_18 : decode cX6_keep 18 = .ok (.iload_n 1, 1) := by decide +kernel
theorem dX6_keep_19 : decode cX6_keep 19 = .ok (.iaload, 1) := by decide +kernel
theorem dX6_keep_20 : decode cX6_keep 20 = .ok (.iastore, 1) := by decide +kernel
theorem dX6_keep_21 : decode cX6_keep 21 = .ok (.iinc 1 1, 3) := by decide +kernel
theorem dX6_keep_24 : decode cX6_keep 24 = .ok (.goto (-22), 3) := by decide +kernel
theorem dX6_keep_27 : decode cX6_keep 27 = .ok (.return_, 1) := by decide +kernel
theorem dX6_layBack_0 : decode cX6_layBack 0 = .ok (.iconst 0, 1) := by decide +kernel
theorem dX6_layBack_1 : decode cX6_layBack 1 = .ok (.istore_n 1, 1) := by decide +kernel
theorem dX6_layBack_2 : decode cX6_layBack 2 = .ok (.iload_n 1, 1) := by decide +kernel
theorem dX6_layBack_3 : decode cX6_layBack 3 = .ok (.sipush 248, 3) := by decide +kernel
theorem dX6_layBack_6 : decode cX6_layBack 6 = .ok (.if_icmp .ge 21, 3) := by decide +kernel
theorem dX6_layBack_9 : decode cX6_layBack 9 = .ok (.aload_n 0, 1) := by decide +kernel
theorem dX6_layBack_10 : decode cX6_layBack 10 = .ok (.getfield 7, 3) := by decide +kernel
theorem dX6_layBack_13 : decode cX6_layBack 13 = .ok (.iload_n 1, 1) := by decide +kernel
theorem dX6_layBack_14 : decode cX6_layBack 14 = .ok (.aload_n 0, 1) := by decide +kernel
theorem dX6_layBack_15 : decode cX6_layBack 15 = .ok (.getfield 31, 3) := by decide +kernel
theorem dX6_layBack_18 : decode cX6_layBack 18 = .ok (.iload_n 1, 1) := by decide +kernel
theorem dX6_layBack_19 : decode cX6_layBack 19 = .ok (.iaload, 1) := by decide +kernel
theorem dX6_layBack_20 : decode cX6_layBack 20 = .ok (.iastore, 1) := by decide +kernel
theorem dX6_layBack_21 : decode cX6_layBack 21 = .ok (.iinc 1 1, 3) := by decide +kernel
theorem dX6_layBack_24 : decode cX6_layBack 24 = .ok (.goto (-22), 3) := by decide +kernel
theorem dX6_layBack_27 : decode cX6_layBack 27 = .ok (.return_, 1) := by decide +kernel
set_option maxRecDepth 20000 in
theorem ggX6_touredThen_X6_keep : GoodIn wsX6_touredThen wsX6_keep := goodIn_r _ [6, 7, 1, 110, 111, 112, 113, 114, 115, 116, 117, 118, 119, 120, 121, 122, 123, 124] (by decide +kernel) (by decide +kernel)
set_option maxRecDepth 20000 in
theorem gX6_touredThen_X6_keep : GoodIn wsX6_touredThen (wsV RX6 205 RX6 yX6_keep wsX6_keep) := goodIn_app (goodIn_of _ (by decide +kernel)) ggX6_touredThen_X6_keep
set_option maxRecDepth 20000 in
theorem ggX6_touredThen_X6_sumOfNozzles : GoodIn wsX6_touredThen wsX6_sumOfNozzles := goodIn_r _ [11, 12, 13, 14, 5, 15, 1, 110, 111, 112, 113, 114, 115, 116, 117, 118, 119, 120, 121, 122, 123, 124] (by decide +kernel) (by decide +kernel)
set_option maxRecDepth 20000 in
theorem gX6_touredThen_X6_sumOfNozzles : GoodIn wsX6_touredThen (wsV RX6 196 RX6 yX6_sumOfNozzles wsX6_sumOfNozzles) := goodIn_app (goodIn_of _ (by decide +kernel)) ggX6_touredThen_X6_sumOfNozzles
set_option maxRecDepth 20000 in
theorem ggX6_touredThen_X6_tours : GoodIn wsX6_touredThen wsX6_tours := goodIn_r _ [19, 20, 21, 22, 5, 23, 1, 24, 25, 26, 27, 28, 29, 30, 31, 32, 33, 34, 35, 36, 12, 13, 14, 15, 37, 38, 39, 40, 41, 42, 43, 44, 45, 46, 47, 48, 49, 50, 51, 52, 53, 54, 55, 56, 57, 58, 59, 60, 61, 62, 63, 64, 65, 66, 67, 68, 69, 70, 71, 72, 73, 74, 75, 76, 77, 78, 79, 80, 81, 82, 83, 84, 85, 86, 87, 88, 89, 90, 91, 92, 93, 94, 95, 96, 97, 98, 99, 100, 101, 110, 111, 112, 113, 114, 115, 116, 117, 118, 119, 120, 121, 122, 123, 124] (by decide +kernel) (by decide +kernel)
set_option maxRecDepth 20000 in
theorem gX6_touredThen_X6_tours : GoodIn wsX6_touredThen (wsV RX6 160 RX6 yX6_tours wsX6_tours) := goodIn_app (goodIn_of _ (by decide +kernel)) ggX6_touredThen_X6_tours
set_option maxRecDepth 20000 in
theorem ggX6_touredThen_X6_placesThat : GoodIn wsX6_touredThen wsX6_placesThat := goodIn_r _ [105, 1, 33, 34, 35, 5, 36, 110, 111, 112, 113, 114, 115, 116, 117, 118, 119, 120, 121, 122, 123, 124] (by decide +kernel) (by decide +kernel)
set_option maxRecDepth 20000 in
theorem gX6_touredThen_X6_placesThat : GoodIn wsX6_touredThen (wsV RX6 84 RX6 yX6_placesThat wsX6_placesThat) := goodIn_app (goodIn_of _ (by decide +kernel)) ggX6_touredThen_X6_placesThat
set_option maxRecDepth 20000 in
theorem ggX6_touredThen_X6_layBack : GoodIn wsX6_touredThen wsX6_layBack := goodIn_r _ [109, 1, 7, 110, 111, 112, 113, 114, 115, 116, 117, 118, 119, 120, 121, 122, 123, 124] (by decide +kernel) (by decide +kernel)
set_option maxRecDepth 20000 in
theorem gX6_touredThen_X6_layBack : GoodIn wsX6_touredThen (wsV RX6 208 RX6 yX6_layBack wsX6_layBack) := goodIn_app (goodIn_of _ (by decide +kernel)) ggX6_touredThen_X6_layBack
theorem dX6_touredThen_0 : decode cX6_touredThen 0 = .ok (.aload_n 0, 1) := by decide +kernel
theorem dX6_touredThen_1 : decode cX6_touredThen 1 = .ok (.invokevirtual 205, 3) := by decide +kernel
theorem dX6_touredThen_4 : decode cX6_touredThen 4 = .ok (.aload_n 0, 1) := by decide +kernel
theorem dX6_touredThen_5 : decode cX6_touredThen 5 = .ok (.iconst 2, 1) := by decide +kernel
theorem dX6_touredThen_6 : decode cX6_touredThen 6 = .ok (.invokevirtual 196, 3) := by decide +kernel
theorem dX6_touredThen_9 : decode cX6_touredThen 9 = .ok (.istore_n 3, 1) := by decide +kernel
theorem dX6_touredThen_10 : decode cX6_touredThen 10 = .ok (.aload_n 0, 1) := by decide +kernel
theorem dX6_touredThen_11 : decode cX6_touredThen 11 = .ok (.getfield 7, 3) := by decide +kernel
theorem dX6_touredThen_14 : decode cX6_touredThen 14 = .ok (.bipush 7, 2) := by decide +kernel
theorem dX6_touredThen_16 : decode cX6_touredThen 16 = .ok (.iaload, 1) := by decide +kernel
theorem dX6_touredThen_17 : decode cX6_touredThen 17 = .ok (.istore 4, 2) := by decide +kernel
theorem dX6_touredThen_19 : decode cX6_touredThen 19 = .ok (.aload_n 0, 1) := by decide +kernel
theorem dX6_touredThen_20 : decode cX6_touredThen 20 = .ok (.iload_n 1, 1) := by decide +kernel
theorem dX6_touredThen_21 : decode cX6_touredThen 21 = .ok (.invokevirtual 160, 3) := by decide +kernel
theorem dX6_touredThen_24 : decode cX6_touredThen 24 = .ok (.istore 5, 2) := by decide +kernel
theorem dX6_touredThen_26 : decode cX6_touredThen 26 = .ok (.iload_n 2, 1) := by decide +kernel
theorem dX6_touredThen_27 : decode cX6_touredThen 27 = .ok (.ifCond .ne 8, 3) := by decide +kernel
theorem dX6_touredThen_30 : decode cX6_touredThen 30 = .ok (.iload 5, 2) := by decide +kernel
theorem dX6_touredThen_32 : decode cX6_touredThen 32 = .ok (.goto 41, 3) := by decide +kernel
theorem dX6_touredThen_35 : decode cX6_touredThen 35 = .ok (.iload_n 2, 1) := by decide +kernel
theorem dX6_touredThen_36 : decode cX6_touredThen 36 = .ok (.iconst 1, 1) := by decide +kernel
theorem dX6_touredThen_37 : decode cX6_touredThen 37 = .ok (.if_icmp .ne 13, 3) := by decide +kernel
theorem dX6_touredThen_40 : decode cX6_touredThen 40 = .ok (.aload_n 0, 1) := by decide +kernel
theorem dX6_touredThen_41 : decode cX6_touredThen 41 = .ok (.iconst 2, 1) := by decide +kernel
theorem dX6_touredThen_42 : decode cX6_touredThen 42 = .ok (.invokevirtual 196, 3) := by decide +kernel
theorem dX6_touredThen_45 : decode cX6_touredThen 45 = .ok (.iload_n 3, 1) := by decide +kernel
theorem dX6_touredThen_46 : decode cX6_touredThen 46 = .ok (.isub, 1) := by decide +kernel
theorem dX6_touredThen_47 : decode cX6_touredThen 47 = .ok (.goto 26, 3) := by decide +kernel
theorem dX6_touredThen_50 : decode cX6_touredThen 50 = .ok (.iload_n 2, 1) := by decide +kernel
theorem dX6_touredThen_51 : decode cX6_touredThen 51 = .ok (.iconst 2, 1) := by decide +kernel
theorem dX6_touredThen_52 : decode cX6_touredThen 52 = .ok (.if_icmp .ne 16, 3) := by decide +kernel
theorem dX6_touredThen_55 : decode cX6_touredThen 55 = .ok (.aload_n 0, 1) := by decide +kernel
theorem dX6_touredThen_56 : decode cX6_touredThen 56 = .ok (.getfield 7, 3) := by decide +kernel
theorem dX6_touredThen_59 : decode cX6_touredThen 59 = .ok (.bipush 7, 2) := by decide +kernel
theorem dX6_touredThen_61 : decode cX6_touredThen 61 = .ok (.iaload, 1) := by decide +kernel
theorem dX6_touredThen_62 : decode cX6_touredThen 62 = .ok (.iload 4, 2) := by decide +kernel
theorem dX6_touredThen_64 : decode cX6_touredThen 64 = .ok (.isub, 1) := by decide +kernel
theorem dX6_touredThen_65 : decode cX6_touredThen 65 = .ok (.goto 8, 3) := by decide +kernel
theorem dX6_touredThen_68 : decode cX6_touredThen 68 = .ok (.aload_n 0, 1) := by decide +kernel
theorem dX6_touredThen_69 : decode cX6_touredThen 69 = .ok (.iconst 1, 1) := by decide +kernel
theorem dX6_touredThen_70 : decode cX6_touredThen 70 = .ok (.invokevirtual 84, 3) := by decide +kernel
theorem dX6_touredThen_73 : decode cX6_touredThen 73 = .ok (.istore 6, 2) := by decide +kernel
theorem dX6_touredThen_75 : decode cX6_touredThen 75 = .ok (.aload_n 0, 1) := by decide +kernel
theorem dX6_touredThen_76 : decode cX6_touredThen 76 = .ok (.invokevirtual 208, 3) := by decide +kernel
theorem dX6_touredThen_79 : decode cX6_touredThen 79 = .ok (.iload 6, 2) := by decide +kernel
theorem dX6_touredThen_81 : decode cX6_touredThen 81 = .ok (.ireturn, 1) := by decide +kernel
set_option maxRecDepth 20000 in
theorem ggX6_ifToured_X6_areTimes : GoodIn wsX6_ifToured wsX6_areTimes := goodIn_r _ [5, 6, 7, 4, 8] (by decide +kernel) (by decide +kernel)
set_option maxRecDepth 20000 in
theorem gX6_ifToured_X6_areTimes : GoodIn wsX6_ifToured (va_wsS RX6 157 yX6_areTimes wsX6_areTimes) := goodIn_app (goodIn_of _ (by decide +kernel)) ggX6_ifToured_X6_areTimes
set_option maxRecDepth 20000 in
theorem ggX6_ifToured_X6_within : GoodIn wsX6_ifToured wsX6_within := goodIn_r _ [8] (by decide +kernel) (by decide +kernel)
set_option maxRecDepth 20000 in
theorem gX6_ifToured_X6_within : GoodIn wsX6_ifToured (va_wsS RX6 45 yX6_within wsX6_within) := goodIn_app (goodIn_of _ (by decide +kernel)) ggX6_ifToured_X6_within
set_option maxRecDepth 20000 in
theorem ggX6_ifToured_X6_touredThen : GoodIn wsX6_ifToured wsX6_touredThen := goodIn_r _ [12, 13, 14, 15, 16, 4, 17, 18, 19, 20, 21, 22, 23, 24, 25, 26, 27, 28, 29, 30, 31, 32, 33, 34, 35, 36, 37, 38, 39, 40, 41, 42, 43, 44, 45, 46, 47, 48, 49, 50, 51, 52, 53, 54, 55, 56, 57, 58, 59, 60, 61, 62, 63, 64, 65, 66, 67, 68, 69, 70, 71, 72, 73, 74, 75, 76, 77, 78, 79, 80, 81, 82, 83, 84, 85, 86, 87, 88, 89, 90, 91, 92, 93, 94, 95, 96, 97, 98, 99, 100, 101, 102, 103, 104, 105, 106, 107, 108, 109, 110, 111, 112, 113, 114, 115, 116, 117, 118, 119, 120, 121, 122, 123, 124, 125, 126, 127, 128, 129, 130, 131, 132, 133, 134, 135] (by decide +kernel) (by decide +kernel)
set_option maxRecDepth 20000 in
theorem gX6_ifToured_X6_touredThen : GoodIn wsX6_ifToured (wsV RX6 211 RX6 yX6_touredThen wsX6_touredThen) := goodIn_app (goodIn_of _ (by decide +kernel)) ggX6_ifToured_X6_touredThen
theorem dX6_ifToured_0 : decode cX6_ifToured 0 = .ok (.aload_n 0, 1) := by decide +kernel
theorem dX6_ifToured_1 : decode cX6_ifToured 1 = .ok (.iload_n 1, 1) := by decide +kernel
theorem dX6_ifToured_2 : decode cX6_ifToured 2 = .ok (.invokestatic 157, 3) := by decide +kernel
theorem dX6_ifToured_5 : decode cX6_ifToured 5 = .ok (.ifCond .eq 16, 3) := by decide +kernel
theorem dX6_ifToured_8 : decode cX6_ifToured 8 = .ok (.iload_n 2, 1) := by decide +kernel
theorem dX6_ifToured_9 : decode cX6_ifToured 9 = .ok (.iconst 0, 1) := by decide +kernel
theorem dX6_ifToured_10 : decode cX6_ifToured 10 = .ok (.iconst 3, 1) := by decide +kernel
theorem dX6_ifToured_11 : decode cX6_ifToured 11 = .ok (.invokestatic 45, 3) := by decide +kernel
theorem dX6_ifToured_14 : decode cX6_ifToured 14 = .ok (.ifCond .eq 7, 3) := by decide +kernel
theorem dX6_ifToured_17 : decode cX6_ifToured 17 = .ok (.iconst 0, 1) := by decide +kernel
theorem dX6_ifToured_18 : decode cX6_ifToured 18 = .ok (.goto 4, 3) := by decide +kernel
theorem dX6_ifToured_21 : decode cX6_ifToured 21 = .ok (.iconst 1, 1) := by decide +kernel
theorem dX6_ifToured_22 : decode cX6_ifToured 22 = .ok (.putfield 34, 3) := by decide +kernel
theorem dX6_ifToured_25 : decode cX6_ifToured 25 = .ok (.aload_n 0, 1) := by decide +kernel
theorem dX6_ifToured_26 : decode cX6_ifToured 26 = .ok (.getfield 34, 3) := by decide +kernel
theorem dX6_ifToured_29 : decode cX6_ifToured 29 = .ok (.ifCond .le 7, 3) := by decide +kernel
theorem dX6_ifToured_32 : decode cX6_ifToured 32 = .ok (.iconst 0, 1) := by decide +kernel
theorem dX6_ifToured_33 : decode cX6_ifToured 33 = .ok (.goto 9, 3) := by decide +kernel
theorem dX6_ifToured_36 : decode cX6_ifToured 36 = .ok (.aload_n 0, 1) := by decide +kernel
theorem dX6_ifToured_37 : decode cX6_ifToured 37 = .ok (.iload_n 1, 1) := by decide +kernel
theorem dX6_ifToured_38 : decode cX6_ifToured 38 = .ok (.iload_n 2, 1) := by decide +kernel
theorem dX6_ifToured_39 : decode cX6_ifToured 39 = .ok (.invokevirtual 211, 3) := by decide +kernel
theorem dX6_ifToured_42 : decode cX6_ifToured 42 = .ok (.ireturn, 1) := by decide +kernel
set_option maxRecDepth 20000 in
theorem ggX6_choice_X6_isNozzle : GoodIn wsX6_choice wsX6_isNozzle := goodIn_r _ [5, 6, 7, 4, 8] (by decide +kernel) (by decide +kernel)
set_option maxRecDepth 20000 in
theorem gX6_choice_X6_isNozzle : GoodIn wsX6_choice (va_wsS RX6 75 yX6_isNozzle wsX6_isNozzle) := goodIn_app (goodIn_of _ (by decide +kernel)) ggX6_choice_X6_isNozzle
set_option maxRecDepth 20000 in
theorem ggX6_choice_X6_isKind : GoodIn wsX6_choice wsX6_isKind := goodIn_r _ [11, 6, 7, 4, 8] (by decide +kernel) (by decide +kernel)
set_option maxRecDepth 20000 in
theorem gX6_choice_X6_isKind : GoodIn wsX6_choice (va_wsS RX6 53 yX6_isKind wsX6_isKind) := goodIn_app (goodIn_of _ (by decide +kernel)) ggX6_choice_X6_isKind
set_option maxRecDepth 20000 in
theorem ggX6_choice_X6_choiceOf : GoodIn wsX6_choice wsX6_choiceOf := goodIn_r _ [15, 16, 17, 18, 19, 4, 20, 21, 22, 23, 24, 25, 26, 27, 28, 29, 30, 31, 32, 33, 34, 35, 36, 37, 38, 39, 40, 41, 42, 43, 44, 45, 46, 47, 48, 49, 50] (by decide +kernel) (by decide +kernel)
set_option maxRecDepth 20000 in
theorem gX6_choice_X6_choiceOf : GoodIn wsX6_choice (wsV RX6 115 RX6 yX6_choiceOf wsX6_choiceOf) := goodIn_app (goodIn_of _ (by decide +kernel)) ggX6_choice_X6_choiceOf
theorem dX6_choice_0 : decode cX6_choice 0 = .ok (.aload_n 0, 1) := by decide +kernel
theorem dX6_choice_1 : decode cX6_choice 1 = .ok (.iload_n 1, 1) := by decide +kernel
theorem dX6_choice_2 : decode cX6_choice 2 = .ok (.invokestatic 75, 3) := by decide +kernel
theorem dX6_choice_5 : decode cX6_choice 5 = .ok (.ifCond .ne 7, 3) := by decide +kernel
theorem dX6_choice_8 : decode cX6_choice 8 = .ok (.iconst 1, 1) := by decide +kernel
theorem dX6_choice_9 : decode cX6_choice 9 = .ok (.goto 15, 3) := by decide +kernel
theorem dX6_choice_12 : decode cX6_choice 12 = .ok (.iload_n 2, 1) := by decide +kernel
theorem dX6_choice_13 : decode cX6_choice 13 = .ok (.invokestatic 53, 3) := by decide +kernel
theorem dX6_choice_16 : decode cX6_choice 16 = .ok (.ifCond .eq 7, 3) := by decide +kernel
theorem dX6_choice_19 : decode cX6_choice 19 = .ok (.iconst 0, 1) := by decide +kernel
theorem dX6_choice_20 : decode cX6_choice 20 = .ok (.goto 4, 3) := by decide +kernel
theorem dX6_choice_23 : decode cX6_choice 23 = .ok (.iconst 2, 1) := by decide +kernel
theorem dX6_choice_24 : decode cX6_choice 24 = .ok (.putfield 34, 3) := by decide +kernel
theorem dX6_choice_27 : decode cX6_choice 27 = .ok (.aload_n 0, 1) := by decide +kernel
theorem dX6_choice_28 : decode cX6_choice 28 = .ok (.getfield 34, 3) := by decide +kernel
theorem dX6_choice_31 : decode cX6_choice 31 = .ok (.ifCond .le 7, 3) := by decide +kernel
theorem dX6_choice_34 : decode cX6_choice 34 = .ok (.iconst 0, 1) := by decide +kernel
theorem dX6_choice_35 : decode cX6_choice 35 = .ok (.goto 9, 3) := by decide +kernel
theorem dX6_choice_38 : decode cX6_choice 38 = .ok (.aload_n 0, 1) := by decide +kernel
theorem dX6_choice_39 : decode cX6_choice 39 = .ok (.iload_n 1, 1) := by decide +kernel
theorem dX6_choice_40 : decode cX6_choice 40 = .ok (.iload_n 2, 1) := by decide +kernel
theorem dX6_choice_41 : decode cX6_choice 41 = .ok (.invokevirtual 115, 3) := by decide +kernel
theorem dX6_choice_44 : decode cX6_choice 44 = .ok (.ireturn, 1) := by decide +kernel
set_option maxRecDepth 20000 in
theorem ggX6_aimNow_X6_layAims : GoodIn wsX6_aimNow wsX6_layAims := goodIn_r _ [6, 1, 7, 8, 9, 5, 10, 11, 12, 13, 14, 15, 16, 17, 18, 19, 20, 21, 22, 23, 24, 25, 26, 27, 28, 29, 30, 31, 32, 33, 34, 35, 36, 37, 38, 39, 40, 41, 42, 43, 44, 45, 46, 47, 48, 49, 50, 51, 52, 53, 54, 55, 56, 57, 58, 59, 60, 61] (by decide +kernel) (by decide +kernel)
set_option maxRecDepth 20000 in
theorem gX6_aimNow_X6_layAims : GoodIn wsX6_aimNow (wsV RX6 138 RX6 yX6_layAims wsX6_layAims) := goodIn_app (goodIn_of _ (by decide +kernel)) ggX6_aimNow_X6_layAims
theorem dX6_aimNow_0 : decode cX6_aimNow 0 = .ok (.aload_n 0, 1) := by decide +kernel
theorem dX6_aimNow_1 : decode cX6_aimNow 1 = .ok (.invokevirtual 138, 3) := by decide +kernel
theorem dX6_aimNow_4 : decode cX6_aimNow 4 = .ok (.aload_n 0, 1) := by decide +kernel
theorem dX6_aimNow_5 : decode cX6_aimNow 5 = .ok (.getfield 19, 3) := by decide +kernel
theorem dX6_aimNow_8 : decode cX6_aimNow 8 = .ok (.iload_n 1, 1) := by decide +kernel
theorem dX6_aimNow_9 : decode cX6_aimNow 9 = .ok (.iaload, 1) := by decide +kernel
theorem dX6_aimNow_10 : decode cX6_aimNow 10 = .ok (.ireturn, 1) := by decide +kernel
set_option maxRecDepth 20000 in
theorem ggX6_aim_X6_isNozzle : GoodIn wsX6_aim wsX6_isNozzle := goodIn_r _ [5, 6, 7, 4, 8] (by decide +kernel) (by decide +kernel)
set_option maxRecDepth 20000 in
theorem gX6_aim_X6_isNozzle : GoodIn wsX6_aim (va_wsS RX6 75 yX6_isNozzle wsX6_isNozzle) := goodIn_app (goodIn_of _ (by decide +kernel)) ggX6_aim_X6_isNozzle
set_option maxRecDepth 20000 in
theorem ggX6_aim_X6_aimNow : GoodIn wsX6_aim wsX6_aimNow := goodIn_r _ [12, 13, 14, 15, 16, 4, 17, 18, 19, 20, 21, 22, 23, 24, 25, 26, 27, 28, 29, 30, 31, 32, 33, 34, 35, 36, 37, 38, 39, 40, 41, 42, 43, 44, 45, 46, 47, 48, 49, 50, 51, 52, 53, 54, 55, 56, 57, 58, 59, 60, 61, 62, 63, 64, 65, 66, 67, 68, 69, 70, 71, 72] (by decide +kernel) (by decide +kernel)
set_option maxRecDepth 20000 in
theorem gX6_aim_X6_aimNow : GoodIn wsX6_aim (wsV RX6 214 RX6 yX6_aimNow wsX6_aimNow) := goodIn_app (goodIn_of _ (by decide +kernel)) ggX6_aim_X6_aimNow
theorem dX6_aim_0 : decode cX6_aim 0 = .ok (.aload_n 0, 1) := by decide +kernel
theorem dX6_aim_1 : decode cX6_aim 1 = .ok (.iload_n 1, 1) := by decide +kernel
theorem dX6_aim_2 : decode cX6_aim 2 = .ok (.invokestatic 75, 3) := by decide +kernel
theorem dX6_aim_5 : decode cX6_aim 5 = .ok (.ifCond .eq 7, 3) := by decide +kernel
theorem dX6_aim_8 : decode cX6_aim 8 = .ok (.iconst 0, 1) := by decide +kernel
theorem dX6_aim_9 : decode cX6_aim 9 = .ok (.goto 4, 3) := by decide +kernel
theorem dX6_aim_12 : decode cX6_aim 12 = .ok (.iconst 1, 1) := by decide +kernel
theorem dX6_aim_13 : decode cX6_aim 13 = .ok (.putfield 34, 3) := by decide +kernel
theorem dX6_aim_16 : decode cX6_aim 16 = .ok (.aload_n 0, 1) := by decide +kernel
theorem dX6_aim_17 : decode cX6_aim 17 = .ok (.getfield 34, 3) := by decide +kernel
theorem dX6_aim_20 : decode cX6_aim 20 = .ok (.ifCond .le 7, 3) := by decide +kernel
theorem dX6_aim_23 : decode cX6_aim 23 = .ok (.iconst 0, 1) := by decide +kernel
theorem dX6_aim_24 : decode cX6_aim 24 = .ok (.goto 8, 3) := by decide +kernel
theorem dX6_aim_27 : decode cX6_aim 27 = .ok (.aload_n 0, 1) := by decide +kernel
theorem dX6_aim_28 : decode cX6_aim 28 = .ok (.iload_n 1, 1) := by decide +kernel
theorem dX6_aim_29 : decode cX6_aim 29 = .ok (.invokevirtual 214, 3) := by decide +kernel
theorem dX6_aim_32 : decode cX6_aim 32 = .ok (.ireturn, 1) := by decide +kernel
set_option maxRecDepth 20000 in
theorem ggX6_neededNow_X6_keep : GoodIn wsX6_neededNow wsX6_keep := goodIn_r _ [6, 7, 1, 110, 111, 112, 113, 114, 115, 116, 117, 118, 119, 120, 121, 122, 123, 124] (by decide +kernel) (by decide +kernel)
set_option maxRecDepth 20000 in
theorem gX6_neededNow_X6_keep : GoodIn wsX6_neededNow (wsV RX6 205 RX6 yX6_keep wsX6_keep) := goodIn_app (goodIn_of _ (by decide +kernel)) ggX6_neededNow_X6_keep
set_option maxRecDepth 20000 in
theorem ggX6_neededNow_X6_placesThat : GoodIn wsX6_neededNow wsX6_placesThat := goodIn_r _ [11, 1, 12, 13, 14, 5, 15, 110, 111, 112, 113, 114, 115, 116, 117, 118, 119, 120, 121, 122, 123, 124] (by decide +kernel) (by decide +kernel)
set_option maxRecDepth 20000 in
theorem gX6_neededNow_X6_placesThat : GoodIn wsX6_neededNow (wsV RX6 84 RX6 yX6_placesThat wsX6_placesThat) := goodIn_app (goodIn_of _ (by decide +kernel)) ggX6_neededNow_X6_placesThat
set_option maxRecDepth 20000 in
theorem ggX6_neededNow_X6_tourOnce : GoodIn wsX6_neededNow wsX6_tourOnce := goodIn_r _ [19, 1, 20, 21, 22, 5, 23, 24, 25, 26, 27, 28, 12, 13, 14, 15, 29, 30, 31, 32, 33, 34, 35, 36, 37, 38, 39, 40, 41, 42, 43, 44, 45, 46, 47, 48, 49, 50, 51, 52, 53, 54, 55, 56, 57, 58, 59, 60, 61, 62, 63, 64, 65, 66, 67, 68, 69, 70, 71, 72, 73, 74, 75, 76, 77, 78, 79, 80, 81, 82, 83, 84, 85, 86, 87, 88, 89, 90, 91, 92, 93, 94, 95, 96, 97, 110, 111, 112, 113, 114, 115, 116, 117, 118, 119, 120, 121, 122, 123, 124] (by decide +kernel) (by decide +kernel)
set_option maxRecDepth 20000 in
theorem gX6_neededNow_X6_tourOnce : GoodIn wsX6_neededNow (wsV RX6 153 RX6 yX6_tourOnce wsX6_tourOnce) := goodIn_app (goodIn_of _ (by decide +kernel)) ggX6_neededNow_X6_tourOnce
set_option maxRecDepth 20000 in
theorem ggX6_neededNow_X6_inspects : GoodIn wsX6_neededNow wsX6_inspects := goodIn_r _ [101, 1, 12, 13, 14, 5, 15, 82, 83, 84, 85, 49, 50, 51, 52, 102, 103, 104, 105, 110, 111, 112, 113, 114, 115, 116, 117, 118, 119, 120, 121, 122, 123, 124] (by decide +kernel) (by decide +kernel)
set_option maxRecDepth 20000 in
theorem gX6_neededNow_X6_inspects : GoodIn wsX6_neededNow (wsV RX6 163 RX6 yX6_inspects wsX6_inspects) := goodIn_app (goodIn_of _ (by decide +kernel)) ggX6_neededNow_X6_inspects
set_option maxRecDepth 20000 in
theorem ggX6_neededNow_X6_layBack : GoodIn wsX6_neededNow wsX6_layBack := goodIn_r _ [109, 1, 7, 110, 111, 112, 113, 114, 115, 116, 117, 118, 119, 120, 121, 122, 123, 124] (by decide +kernel) (by decide +kernel)
set_option maxRecDepth 20000 in
theorem gX6_neededNow_X6_layBack : GoodIn wsX6_neededNow (wsV RX6 208 RX6 yX6_layBack wsX6_layBack) := goodIn_app (goodIn_of _ (by decide +kernel)) ggX6_neededNow_X6_layBack
theorem dX6_neededNow_0 : decode cX6_neededNow 0 = .ok (.aload_n 0, 1) := by decide +kernel
theorem dX6_neededNow_1 : decode cX6_neededNow 1 = .ok (.invokevirtual 205, 3) := by decide +kernel
theorem dX6_neededNow_4 : decode cX6_neededNow 4 = .ok (.aload_n 0, 1) := by decide +kernel
theorem dX6_neededNow_5 : decode cX6_neededNow 5 = .ok (.iconst 1, 1) := by decide +kernel
theorem dX6_neededNow_6 : decode cX6_neededNow 6 = .ok (.invokevirtual 84, 3) := by decide +kernel
theorem dX6_neededNow_9 : decode cX6_neededNow 9 = .ok (.aload_n 0, 1) := by decide +kernel
theorem dX6_neededNow_10 : decode cX6_neededNow 10 = .ok (.getfield 7, 3) := by decide +kernel
theorem dX6_neededNow_13 : decode cX6_neededNow 13 = .ok (.bipush 6, 2) := by decide +kernel
theorem dX6_neededNow_15 : decode cX6_neededNow 15 = .ok (.iaload, 1) := by decide +kernel
theorem dX6_neededNow_16 : decode cX6_neededNow 16 = .ok (.if_icmp .ne 7, 3) := by decide +kernel
theorem dX6_neededNow_19 : decode cX6_neededNow 19 = .ok (.iconst 0, 1) := by decide +kernel
theorem dX6_neededNow_20 : decode cX6_neededNow 20 = .ok (.goto 4, 3) := by decide +kernel
theorem dX6_neededNow_23 : decode cX6_neededNow 23 = .ok (.iconst (-1), 1) := by decide +kernel
theorem dX6_neededNow_24 : decode cX6_neededNow 24 = .ok (.istore_n 1, 1) := by decide +kernel
theorem dX6_neededNow_25 : decode cX6_neededNow 25 = .ok (.iconst 1, 1) := by decide +kernel
theorem dX6_neededNow_26 : decode cX6_neededNow 26 = .ok (.istore_n 2, 1) := by decide +kernel
theorem dX6_neededNow_27 : decode cX6_neededNow 27 = .ok (.iload_n 2, 1) := by decide +kernel
theorem dX6_neededNow_28 : decode cX6_neededNow 28 = .ok (.bipush 40, 2) := by decide +kernel
theorem dX6_neededNow_30 : decode cX6_neededNow 30 = .ok (.if_icmp .gt 46, 3) := by decide +kernel
theorem dX6_neededNow_33 : decode cX6_neededNow 33 = .ok (.iload_n 1, 1) := by decide +kernel
theorem dX6_neededNow_34 : decode cX6_neededNow 34 = .ok (.iconst (-1), 1) := by decide +kernel
theorem dX6_neededNow_35 : decode cX6_neededNow 35 = .ok (.if_icmp .ne 41, 3) := by decide +kernel
theorem dX6_neededNow_38 : decode cX6_neededNow 38 = .ok (.aload_n 0, 1) := by decide +kernel
theorem dX6_neededNow_39 : decode cX6_neededNow 39 = .ok (.invokevirtual 153, 3) := by decide +kernel
theorem dX6_neededNow_42 : decode cX6_neededNow 42 = .ok (.istore_n 3, 1) := by decide +kernel
theorem dX6_neededNow_43 : decode cX6_neededNow 43 = .ok (.aload_n 0, 1) := by decide +kernel
theorem dX6_neededNow_44 : decode cX6_neededNow 44 = .ok (.invokevirtual 163, 3) := by decide +kernel
theorem dX6_neededNow_47 : decode cX6_neededNow 47 = .ok (.istore 4, 2) := by decide +kernel
theorem dX6_neededNow_49 : decode cX6_neededNow 49 = .ok (.aload_n 0, 1) := by decide +kernel
theorem dX6_neededNow_50 : decode cX6_neededNow 50 = .ok (.iconst 1, 1) := by decide +kernel
theorem dX6_neededNow_51 : decode cX6_neededNow 51 = .ok (.invokevirtual 84, 3) := by decide +kernel
theorem dX6_neededNow_54 : decode cX6_neededNow 54 = .ok (.aload_n 0, 1) := by decide +kernel
theorem dX6_neededNow_55 : decode cX6_neededNow 55 = .ok (.getfield 7, 3) := by decide +kernel
theorem dX6_neededNow_58 : decode cX6_neededNow 58 = .ok (.bipush 6, 2) := by decide +kernel
theorem dX6_neededNow_60 : decode cX6_neededNow 60 = .ok (.iaload, 1) := by decide +kernel
theorem dX6_neededNow_61 : decode cX6_neededNow 61 = .ok (.if_icmp .ne 7, 3) := by decide +kernel
theorem dX6_neededNow_64 : decode cX6_neededNow 64 = .ok (.iload_n 2, 1) := by decide +kernel
theorem dX6_neededNow_65 : decode cX6_neededNow 65 = .ok (.goto 4, 3) := by decide +kernel
theorem dX6_neededNow_68 : decode cX6_neededNow 68 = .ok (.iconst (-1), 1) := by decide +kernel
theorem dX6_neededNow_69 : decode cX6_neededNow 69 = .ok (.istore_n 1, 1) := by decide +kernel
theorem dX6_neededNow_70 : decode cX6_neededNow 70 = .ok (.iinc 2 1, 3) := by decide +kernel
theorem dX6_neededNow_73 : decode cX6_neededNow 73 = .ok (.goto (-46), 3) := by decide +kernel
theorem dX6_neededNow_76 : decode cX6_neededNow 76 = .ok (.aload_n 0, 1) := by decide +kernel
theorem dX6_neededNow_77 : decode cX6_neededNow 77 = .ok (.invokevirtual 208, 3) := by decide +kernel
theorem dX6_neededNow_80 : decode cX6_neededNow 80 = .ok (.iload_n 1, 1) := by decide +kernel
theorem dX6_neededNow_81 : decode cX6_neededNow 81 = .ok (.ireturn, 1) := by decide +kernel
set_option maxRecDepth 20000 in
theorem ggX6_needed_X6_neededNow : GoodIn wsX6_needed wsX6_neededNow := goodIn_r _ [6, 7, 8, 9, 10, 5, 11, 12, 13, 14, 15, 16, 17, 18, 19, 20, 21, 22, 23, 24, 25, 26, 27, 28, 29, 30, 31, 32, 33, 34, 35, 36, 37, 38, 39, 40, 41, 42, 43, 44, 45, 46, 47, 48, 49, 50, 51, 52, 53, 54, 55, 56, 57, 58, 59, 60, 61, 62, 63, 64, 65, 66, 67, 68, 69, 70, 71, 72, 73, 74, 75, 76, 77, 78, 79, 80, 81, 82, 83, 84, 85, 86, 87, 88, 89, 90, 91, 92, 93, 94, 95, 96, 97, 98, 99, 100, 101, 102, 103, 104, 105, 106, 107, 108, 109, 110, 111, 112, 113, 114, 115, 116, 117, 118, 119, 120, 121, 122, 123, 124, 125, 126, 127, 128, 129] (by decide +kernel) (by decide +kernel)
set_option maxRecDepth 20000 in
theorem gX6_needed_X6_neededNow : GoodIn wsX6_needed (wsV RX6 217 RX6 yX6_neededNow wsX6_neededNow) := goodIn_app (goodIn_of _ (by decide +kernel)) ggX6_needed_X6_neededNow
theorem dX6_needed_0 : decode cX6_needed 0 = .ok (.aload_n 0, 1) := by decide +kernel
theorem dX6_needed_1 : decode cX6_needed 1 = .ok (.iconst 0, 1) := by decide +kernel
theorem dX6_needed_2 : decode cX6_needed 2 = .ok (.putfield 34, 3) := by decide +kernel
theorem dX6_needed_5 : decode cX6_needed 5 = .ok (.aload_n 0, 1) := by decide +kernel
theorem dX6_needed_6 : decode cX6_needed 6 = .ok (.invokevirtual 217, 3) := by decide +kernel
theorem dX6_needed_9 : decode cX6_needed 9 = .ok (.ireturn, 1) := by decide +kernel
set_option maxRecDepth 20000 in
theorem ggX6_discord_X6_trustOf : GoodIn wsX6_discord wsX6_trustOf := goodIn_r _ [5, 6, 7, 8, 9, 10, 11, 12, 13, 14, 15, 16, 17, 18, 19, 20, 21] (by decide +kernel) (by decide +kernel)
set_option maxRecDepth 20000 in
theorem gX6_discord_X6_trustOf : GoodIn wsX6_discord (wsV RX6 41 RX6 yX6_trustOf wsX6_trustOf) := goodIn_app (goodIn_of _ (by decide +kernel)) ggX6_discord_X6_trustOf
theorem dX6_discord_0 : decode cX6_discord 0 = .ok (.aload_n 0, 1) := by decide +kernel
theorem dX6_discord_1 : decode cX6_discord 1 = .ok (.iconst 0, 1) := by decide +kernel
theorem dX6_discord_2 : decode cX6_discord 2 = .ok (.iload_n 1, 1) := by decide +kernel
theorem dX6_discord_3 : decode cX6_discord 3 = .ok (.invokevirtual 41, 3) := by decide +kernel
theorem dX6_discord_6 : decode cX6_discord 6 = .ok (.istore_n 2, 1) := by decide +kernel
theorem dX6_discord_7 : decode cX6_discord 7 = .ok (.iload_n 2, 1) := by decide +kernel
theorem dX6_discord_8 : decode cX6_discord 8 = .ok (.istore_n 3, 1) := by decide +kernel
theorem dX6_discord_9 : decode cX6_discord 9 = .ok (.iconst 1, 1) := by decide +kernel
theorem dX6_discord_10 : decode cX6_discord 10 = .ok (.istore 4, 2) := by decide +kernel
theorem dX6_discord_12 : decode cX6_discord 12 = .ok (.iload 4, 2) := by decide +kernel
theorem dX6_discord_14 : decode cX6_discord 14 = .ok (.iconst 4, 1) := by decide +kernel
theorem dX6_discord_15 : decode cX6_discord 15 = .ok (.if_icmp .ge 44, 3) := by decide +kernel
theorem dX6_discord_18 : decode cX6_discord 18 = .ok (.aload_n 0, 1) := by decide +kernel
theorem dX6_discord_19 : decode cX6_discord 19 = .ok (.iload 4, 2) := by decide +kernel
theorem dX6_discord_21 : decode cX6_discord 21 = .ok (.iload_n 1, 1) := by decide +kernel
theorem dX6_discord_22 : decode cX6_discord 22 = .ok (.invokevirtual 41, 3) := by decide +kernel
theorem dX6_discord_25 : decode cX6_discord 25 = .ok (.istore 5, 2) := by decide +kernel
theorem dX6_discord_27 : decode cX6_discord 27 = .ok (.iload 5, 2) := by decide +kernel
theorem dX6_discord_29 : decode cX6_discord 29 = .ok (.iload_n 2, 1) := by decide +kernel
theorem dX6_discord_30 : decode cX6_discord 30 = .ok (.if_icmp .le 8, 3) := by decide +kernel
theorem dX6_discord_33 : decode cX6_discord 33 = .ok (.iload 5, 2) := by decide +kernel
theorem dX6_discord_35 : decode cX6_discord 35 = .ok (.goto 4, 3) := by decide +kernel
theorem dX6_discord_38 : decode cX6_discord 38 = .ok (.iload_n 2, 1) := by decide +kernel
theorem dX6_discord_39 : decode cX6_discord 39 = .ok (.istore_n 2, 1) := by decide +kernel
theorem dX6_discord_40 : decode cX6_discord 40 = .ok (.iload 5, 2) := by decide +kernel
theorem dX6_discord_42 : decode cX6_discord 42 = .ok (.iload_n 3, 1) := by decide +kernel
theorem dX6_discord_43 : decode cX6_discord 43 = .ok (.if_icmp .ge 8, 3) := by decide +kernel
theorem dX6_discord_46 : decode cX6_discord 46 = .ok (.iload 5, 2) := by decide +kernel
theorem dX6_discord_48 : decode cX6_discord 48 = .ok (.goto 4, 3) := by decide +kernel
theorem dX6_discord_51 : decode cX6_discord 51 = .ok (.iload_n 3, 1) := by decide +kernel
theorem dX6_discord_52 : decode cX6_discord 52 = .ok (.istore_n 3, 1) := by decide +kernel
theorem dX6_discord_53 : decode cX6_discord 53 = .ok (.iinc 4 1, 3) := by decide +kernel
theorem dX6_discord_56 : decode cX6_discord 56 = .ok (.goto (-44), 3) := by decide +kernel
theorem dX6_discord_59 : decode cX6_discord 59 = .ok (.iload_n 2, 1) := by decide +kernel
theorem dX6_discord_60 : decode cX6_discord 60 = .ok (.iload_n 3, 1) := by decide +kernel
theorem dX6_discord_61 : decode cX6_discord 61 = .ok (.isub, 1) := by decide +kernel
theorem dX6_discord_62 : decode cX6_discord 62 = .ok (.ireturn, 1) := by decide +kernel
set_option maxRecDepth 20000 in
theorem ggX6_rumoredNow_X6_discord : GoodIn wsX6_rumoredNow wsX6_discord := goodIn_r _ [6, 7, 8, 9, 5, 10, 1, 11, 12, 13, 14, 15, 16, 17, 18, 19, 20, 21, 22, 23, 24, 25] (by decide +kernel) (by decide +kernel)
set_option maxRecDepth 20000 in
theorem gX6_rumoredNow_X6_discord : GoodIn wsX6_rumoredNow (wsV RX6 220 RX6 yX6_discord wsX6_discord) := goodIn_app (goodIn_of _ (by decide +kernel)) ggX6_rumoredNow_X6_discord
theorem dX6_rumoredNow_0 : decode cX6_rumoredNow 0 = .ok (.iconst (-1), 1) := by decide +kernel
theorem dX6_rumoredNow_1 : decode cX6_rumoredNow 1 = .ok (.istore_n 1, 1) := by decide +kernel
theorem dX6_rumoredNow_2 : decode cX6_rumoredNow 2 = .ok (.iconst 0, 1) := by decide +kernel
theorem dX6_rumoredNow_3 : decode cX6_rumoredNow 3 = .ok (.istore_n 2, 1) := by decide +kernel
theorem dX6_rumoredNow_4 : decode cX6_rumoredNow 4 = .ok (.iload_n 2, 1) := by decide +kernel
theorem dX6_rumoredNow_5 : decode cX6_rumoredNow 5 = .ok (.aload_n 0, 1) := by decide +kernel
theorem dX6_rumoredNow_6 : decode cX6_rumoredNow 6 = .ok (.getfield 7, 3) := by decide +kernel
theorem dX6_rumoredNow_9 : decode cX6_rumoredNow 9 = .ok (.iconst 5, 1) := by decide +kernel
theorem dX6_rumoredNow_10 : decode cX6_rumoredNow 10 = .ok (.iaload, 1) := by decide +kernel
theorem dX6_rumoredNow_11 : decode cX6_rumoredNow 11 = .ok (.if_icmp .ge 33, 3) := by decide +kernel
theorem dX6_rumoredNow_14 : decode cX6_rumoredNow 14 = .ok (.iload_n 1, 1) := by decide +kernel
theorem dX6_rumoredNow_15 : decode cX6_rumoredNow 15 = .ok (.iconst (-1), 1) := by decide +kernel
theorem dX6_rumoredNow_16 : decode cX6_rumoredNow 16 = .ok (.if_icmp .eq 16, 3) := by decide +kernel
theorem dX6_rumoredNow_19 : decode cX6_rumoredNow 19 = .ok (.aload_n 0, 1) := by decide +kernel
theorem dX6_rumoredNow_20 : decode cX6_rumoredNow 20 = .ok (.iload_n 2, 1) := by decide +kernel
theorem dX6_rumoredNow_21 : decode cX6_rumoredNow 21 = .ok (.invokevirtual 220, 3) := by decide +kernel
theorem dX6_rumoredNow_24 : decode cX6_rumoredNow 24 = .ok (.aload_n 0, 1) := by decide +kernel
theorem dX6_rumoredNow_25 : decode cX6_rumoredNow 25 = .ok (.iload_n 1, 1) := by decide +kernel
theorem dX6_rumoredNow_26 : decode cX6_rumoredNow 26 = .ok (.invokevirtual 220, 3) := by decide +kernel
theorem dX6_rumoredNow_29 : decode cX6_rumoredNow 29 = .ok (.if_icmp .le 7, 3) := by decide +kernel
theorem dX6_rumoredNow_32 : decode cX6_rumoredNow 32 = .ok (.iload_n 2, 1) := by decide +kernel
