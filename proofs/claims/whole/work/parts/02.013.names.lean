set_option maxRecDepth 20000 in
theorem ggX8_unsay_X8_isEye : GoodIn wsX8_unsay wsX8_isEye := goodIn_r _ [6, 7, 19, 20, 21, 22, 23, 24, 25, 26, 27, 28, 29, 30, 31, 32, 33, 34, 35, 36, 37, 38, 39, 40, 41] (by decide +kernel) (by decide +kernel)
set_option maxRecDepth 20000 in
theorem gX8_unsay_X8_isEye : GoodIn wsX8_unsay (wsV RX8 110 RX8 yX8_isEye wsX8_isEye) := goodIn_app (goodIn_of _ (by decide +kernel)) ggX8_unsay_X8_isEye
set_option maxRecDepth 20000 in
theorem ggX8_unsay_X8_isDay : GoodIn wsX8_unsay wsX8_isDay := goodIn_r _ [10] (by decide +kernel) (by decide +kernel)
set_option maxRecDepth 20000 in
theorem gX8_unsay_X8_isDay : GoodIn wsX8_unsay (va_wsS RX8 113 yX8_isDay wsX8_isDay) := goodIn_app (goodIn_of _ (by decide +kernel)) ggX8_unsay_X8_isDay
set_option maxRecDepth 20000 in
theorem ggX8_unsay_X8_is : GoodIn wsX8_unsay wsX8_is := goodIn_r _ [14, 15, 19, 20, 21, 22, 23, 24, 25, 26, 27, 28, 29, 30, 31, 32, 33, 34, 35, 36, 37, 38, 39, 40, 41] (by decide +kernel) (by decide +kernel)
set_option maxRecDepth 20000 in
theorem gX8_unsay_X8_is : GoodIn wsX8_unsay (wsV RX8 83 RX8 yX8_is wsX8_is) := goodIn_app (goodIn_of _ (by decide +kernel)) ggX8_unsay_X8_is
set_option maxRecDepth 20000 in
theorem ggX8_unsay_X8_at : GoodIn wsX8_unsay wsX8_at := goodIn_r _ [18] (by decide +kernel) (by decide +kernel)
set_option maxRecDepth 20000 in
theorem gX8_unsay_X8_at : GoodIn wsX8_unsay (va_wsS RX8 103 yX8_at wsX8_at) := goodIn_app (goodIn_of _ (by decide +kernel)) ggX8_unsay_X8_at
theorem dX8_unsay_0 : decode cX8_unsay 0 = .ok (.aload_n 0, 1) := by decide +kernel
theorem dX8_unsay_1 : decode cX8_unsay 1 = .ok (.iload_n 1, 1) := by decide +kernel
theorem dX8_unsay_2 : decode cX8_unsay 2 = .ok (.invokevirtual 110, 3) := by decide +kernel
theorem dX8_unsay_5 : decode cX8_unsay 5 = .ok (.ifCond .eq 10, 3) := by decide +kernel
theorem dX8_unsay_8 : decode cX8_unsay 8 = .ok (.iload_n 2, 1) := by decide +kernel
theorem dX8_unsay_9 : decode cX8_unsay 9 = .ok (.invokestatic 113, 3) := by decide +kernel
theorem dX8_unsay_12 : decode cX8_unsay 12 = .ok (.ifCond .ne 9, 3) := by decide +kernel
theorem dX8_unsay_15 : decode cX8_unsay 15 = .ok (.aload_n 0, 1) := by decide +kernel
theorem dX8_unsay_16 : decode cX8_unsay 16 = .ok (.iconst 1, 1) := by decide +kernel
theorem dX8_unsay_17 : decode cX8_unsay 17 = .ok (.invokevirtual 83, 3) := by decide +kernel
theorem dX8_unsay_20 : decode cX8_unsay 20 = .ok (.ireturn, 1) := by decide +kernel
theorem dX8_unsay_21 : decode cX8_unsay 21 = .ok (.aload_n 0, 1) := by decide +kernel
theorem dX8_unsay_22 : decode cX8_unsay 22 = .ok (.getfield 31, 3) := by decide +kernel
theorem dX8_unsay_25 : decode cX8_unsay 25 = .ok (.iload_n 1, 1) := by decide +kernel
theorem dX8_unsay_26 : decode cX8_unsay 26 = .ok (.iload_n 2, 1) := by decide +kernel
theorem dX8_unsay_27 : decode cX8_unsay 27 = .ok (.invokestatic 103, 3) := by decide +kernel
theorem dX8_unsay_30 : decode cX8_unsay 30 = .ok (.iaload, 1) := by decide +kernel
theorem dX8_unsay_31 : decode cX8_unsay 31 = .ok (.iconst (-1), 1) := by decide +kernel
theorem dX8_unsay_32 : decode cX8_unsay 32 = .ok (.if_icmp .ne 9, 3) := by decide +kernel
theorem dX8_unsay_35 : decode cX8_unsay 35 = .ok (.aload_n 0, 1) := by decide +kernel
theorem dX8_unsay_36 : decode cX8_unsay 36 = .ok (.iconst 5, 1) := by decide +kernel
theorem dX8_unsay_37 : decode cX8_unsay 37 = .ok (.invokevirtual 83, 3) := by decide +kernel
theorem dX8_unsay_40 : decode cX8_unsay 40 = .ok (.ireturn, 1) := by decide +kernel
theorem dX8_unsay_41 : decode cX8_unsay 41 = .ok (.aload_n 0, 1) := by decide +kernel
theorem dX8_unsay_42 : decode cX8_unsay 42 = .ok (.getfield 31, 3) := by decide +kernel
theorem dX8_unsay_45 : decode cX8_unsay 45 = .ok (.iload_n 1, 1) := by decide +kernel
theorem dX8_unsay_46 : decode cX8_unsay 46 = .ok (.iload_n 2, 1) := by decide +kernel
theorem dX8_unsay_47 : decode cX8_unsay 47 = .ok (.invokestatic 103, 3) := by decide +kernel
theorem dX8_unsay_50 : decode cX8_unsay 50 = .ok (.iconst (-1), 1) := by decide +kernel
theorem dX8_unsay_51 : decode cX8_unsay 51 = .ok (.iastore, 1) := by decide +kernel
theorem dX8_unsay_52 : decode cX8_unsay 52 = .ok (.aload_n 0, 1) := by decide +kernel
theorem dX8_unsay_53 : decode cX8_unsay 53 = .ok (.iconst 0, 1) := by decide +kernel
theorem dX8_unsay_54 : decode cX8_unsay 54 = .ok (.invokevirtual 83, 3) := by decide +kernel
theorem dX8_unsay_57 : decode cX8_unsay 57 = .ok (.ireturn, 1) := by decide +kernel
set_option maxRecDepth 20000 in
theorem ggX8_book_X8_isEye : GoodIn wsX8_book wsX8_isEye := goodIn_r _ [11, 12, 32, 33, 34, 35, 36, 37, 38, 39, 40, 41, 42, 43, 44, 45, 46, 47, 48, 49, 50, 51, 52, 53, 54] (by decide +kernel) (by decide +kernel)
set_option maxRecDepth 20000 in
theorem gX8_book_X8_isEye : GoodIn wsX8_book (wsV RX8 110 RX8 yX8_isEye wsX8_isEye) := goodIn_app (goodIn_of _ (by decide +kernel)) ggX8_book_X8_isEye
set_option maxRecDepth 20000 in
theorem ggX8_book_X8_isDay : GoodIn wsX8_book wsX8_isDay := goodIn_r _ [15] (by decide +kernel) (by decide +kernel)
set_option maxRecDepth 20000 in
theorem gX8_book_X8_isDay : GoodIn wsX8_book (va_wsS RX8 113 yX8_isDay wsX8_isDay) := goodIn_app (goodIn_of _ (by decide +kernel)) ggX8_book_X8_isDay
set_option maxRecDepth 20000 in
theorem ggX8_book_X8_isTray : GoodIn wsX8_book wsX8_isTray := goodIn_r _ [18] (by decide +kernel) (by decide +kernel)
set_option maxRecDepth 20000 in
theorem gX8_book_X8_isTray : GoodIn wsX8_book (va_wsS RX8 79 yX8_isTray wsX8_isTray) := goodIn_app (goodIn_of _ (by decide +kernel)) ggX8_book_X8_isTray
set_option maxRecDepth 20000 in
theorem ggX8_book_X8_is : GoodIn wsX8_book wsX8_is := goodIn_r _ [22, 23, 32, 33, 34, 35, 36, 37, 38, 39, 40, 41, 42, 43, 44, 45, 46, 47, 48, 49, 50, 51, 52, 53, 54] (by decide +kernel) (by decide +kernel)
set_option maxRecDepth 20000 in
theorem gX8_book_X8_is : GoodIn wsX8_book (wsV RX8 83 RX8 yX8_is wsX8_is) := goodIn_app (goodIn_of _ (by decide +kernel)) ggX8_book_X8_is
set_option maxRecDepth 20000 in
theorem ggX8_book_X8_areTold : GoodIn wsX8_book wsX8_areTold := goodIn_r _ [26, 27, 28] (by decide +kernel) (by decide +kernel)
set_option maxRecDepth 20000 in
theorem gX8_book_X8_areTold : GoodIn wsX8_book (va_wsS RX8 116 yX8_areTold wsX8_areTold) := goodIn_app (goodIn_of _ (by decide +kernel)) ggX8_book_X8_areTold
set_option maxRecDepth 20000 in
theorem ggX8_book_X8_at : GoodIn wsX8_book wsX8_at := goodIn_r _ [31] (by decide +kernel) (by decide +kernel)
set_option maxRecDepth 20000 in
theorem gX8_book_X8_at : GoodIn wsX8_book (va_wsS RX8 103 yX8_at wsX8_at) := goodIn_app (goodIn_of _ (by decide +kernel)) ggX8_book_X8_at
theorem dX8_book_0 : decode cX8_book 0 = .ok (.aload_n 0, 1) := by decide +kernel
theorem dX8_book_1 : decode cX8_book 1 = .ok (.iload_n 1, 1) := by decide +kernel
theorem dX8_book_2 : decode cX8_book 2 = .ok (.invokevirtual 110, 3) := by decide +kernel
theorem dX8_book_5 : decode cX8_book 5 = .ok (.ifCond .eq 40, 3) := by decide +kernel
theorem dX8_book_8 : decode cX8_book 8 = .ok (.iload_n 2, 1) := by decide +kernel
theorem dX8_book_9 : decode cX8_book 9 = .ok (.invokestatic 113, 3) := by decide +kernel
theorem dX8_book_12 : decode cX8_book 12 = .ok (.ifCond .eq 33, 3) := by decide +kernel
theorem dX8_book_15 : decode cX8_book 15 = .ok (.iload_n 3, 1) := by decide +kernel
theorem dX8_book_16 : decode cX8_book 16 = .ok (.invokestatic 79, 3) := by decide +kernel
theorem dX8_book_19 : decode cX8_book 19 = .ok (.ifCond .eq 26, 3) := by decide +kernel
theorem dX8_book_22 : decode cX8_book 22 = .ok (.iload 4, 2) := by decide +kernel
theorem dX8_book_24 : decode cX8_book 24 = .ok (.iconst 1, 1) := by decide +kernel
theorem dX8_book_25 : decode cX8_book 25 = .ok (.if_icmp .lt 20, 3) := by decide +kernel
theorem dX8_book_28 : decode cX8_book 28 = .ok (.iload 4, 2) := by decide +kernel
theorem dX8_book_30 : decode cX8_book 30 = .ok (.bipush 60, 2) := by decide +kernel
theorem dX8_book_32 : decode cX8_book 32 = .ok (.if_icmp .gt 13, 3) := by decide +kernel
theorem dX8_book_35 : decode cX8_book 35 = .ok (.iload 4, 2) := by decide +kernel
theorem dX8_book_37 : decode cX8_book 37 = .ok (.sipush 240, 3) := by decide +kernel
theorem dX8_book_40 : decode cX8_book 40 = .ok (.iload_n 2, 1) := by decide +kernel
theorem dX8_book_41 : decode cX8_book 41 = .ok (.isub, 1) := by decide +kernel
theorem dX8_book_42 : decode cX8_book 42 = .ok (.if_icmp .le 9, 3) := by decide +kernel
theorem dX8_book_45 : decode cX8_book 45 = .ok (.aload_n 0, 1) := by decide +kernel
theorem dX8_book_46 : decode cX8_book 46 = .ok (.iconst 1, 1) := by decide +kernel
theorem dX8_book_47 : decode cX8_book 47 = .ok (.invokevirtual 83, 3) := by decide +kernel
theorem dX8_book_50 : decode cX8_book 50 = .ok (.ireturn, 1) := by decide +kernel
theorem dX8_book_51 : decode cX8_book 51 = .ok (.aload_n 0, 1) := by decide +kernel
theorem dX8_book_52 : decode cX8_book 52 = .ok (.getfield 17, 3) := by decide +kernel
theorem dX8_book_55 : decode cX8_book 55 = .ok (.iload_n 3, 1) := by decide +kernel
theorem dX8_book_56 : decode cX8_book 56 = .ok (.iaload, 1) := by decide +kernel
theorem dX8_book_57 : decode cX8_book 57 = .ok (.iconst (-1), 1) := by decide +kernel
theorem dX8_book_58 : decode cX8_book 58 = .ok (.if_icmp .ne 9, 3) := by decide +kernel
theorem dX8_book_61 : decode cX8_book 61 = .ok (.aload_n 0, 1) := by decide +kernel
theorem dX8_book_62 : decode cX8_book 62 = .ok (.iconst 2, 1) := by decide +kernel
theorem dX8_book_63 : decode cX8_book 63 = .ok (.invokevirtual 83, 3) := by decide +kernel
theorem dX8_book_66 : decode cX8_book 66 = .ok (.ireturn, 1) := by decide +kernel
theorem dX8_book_67 : decode cX8_book 67 = .ok (.iload 4, 2) := by decide +kernel
theorem dX8_book_69 : decode cX8_book 69 = .ok (.aload_n 0, 1) := by decide +kernel
theorem dX8_book_70 : decode cX8_book 70 = .ok (.getfield 17, 3) := by decide +kernel
theorem dX8_book_73 : decode cX8_book 73 = .ok (.iload_n 3, 1) := by decide +kernel
theorem dX8_book_74 : decode cX8_book 74 = .ok (.iaload, 1) := by decide +kernel
theorem dX8_book_75 : decode cX8_book 75 = .ok (.if_icmp .le 9, 3) := by decide +kernel
theorem dX8_book_78 : decode cX8_book 78 = .ok (.aload_n 0, 1) := by decide +kernel
theorem dX8_book_79 : decode cX8_book 79 = .ok (.iconst 3, 1) := by decide +kernel
theorem dX8_book_80 : decode cX8_book 80 = .ok (.invokevirtual 83, 3) := by decide +kernel
theorem dX8_book_83 : decode cX8_book 83 = .ok (.ireturn, 1) := by decide +kernel
theorem dX8_book_84 : decode cX8_book 84 = .ok (.iconst 0, 1) := by decide +kernel
theorem dX8_book_85 : decode cX8_book 85 = .ok (.istore 5, 2) := by decide +kernel
theorem dX8_book_87 : decode cX8_book 87 = .ok (.iload 5, 2) := by decide +kernel
theorem dX8_book_89 : decode cX8_book 89 = .ok (.iload 4, 2) := by decide +kernel
theorem dX8_book_91 : decode cX8_book 91 = .ok (.if_icmp .ge 63, 3) := by decide +kernel
theorem dX8_book_94 : decode cX8_book 94 = .ok (.aload_n 0, 1) := by decide +kernel
theorem dX8_book_95 : decode cX8_book 95 = .ok (.getfield 20, 3) := by decide +kernel
theorem dX8_book_98 : decode cX8_book 98 = .ok (.bipush 60, 2) := by decide +kernel
theorem dX8_book_100 : decode cX8_book 100 = .ok (.iload_n 3, 1) := by decide +kernel
theorem dX8_book_101 : decode cX8_book 101 = .ok (.imul, 1) := by decide +kernel
theorem dX8_book_102 : decode cX8_book 102 = .ok (.iload 5, 2) := by decide +kernel
theorem dX8_book_104 : decode cX8_book 104 = .ok (.iadd, 1) := by decide +kernel
theorem dX8_book_105 : decode cX8_book 105 = .ok (.laload, 1) := by decide +kernel
theorem dX8_book_106 : decode cX8_book 106 = .ok (.lstore 6, 2) := by decide +kernel
theorem dX8_book_108 : decode cX8_book 108 = .ok (.lload 6, 2) := by decide +kernel
theorem dX8_book_110 : decode cX8_book 110 = .ok (.ldc2_w 94, 3) := by decide +kernel
theorem dX8_book_113 : decode cX8_book 113 = .ok (.lcmp, 1) := by decide +kernel
theorem dX8_book_114 : decode cX8_book 114 = .ok (.ifCond .eq 34, 3) := by decide +kernel
theorem dX8_book_117 : decode cX8_book 117 = .ok (.lload 6, 2) := by decide +kernel
theorem dX8_book_119 : decode cX8_book 119 = .ok (.lconst 0, 1) := by decide +kernel
theorem dX8_book_120 : decode cX8_book 120 = .ok (.lcmp, 1) := by decide +kernel
theorem dX8_book_121 : decode cX8_book 121 = .ok (.ifCond .lt 21, 3) := by decide +kernel
theorem dX8_book_124 : decode cX8_book 124 = .ok (.lload 6, 2) := by decide +kernel
theorem dX8_book_126 : decode cX8_book 126 = .ok (.ldc2_w 120, 3) := by decide +kernel
theorem dX8_book_129 : decode cX8_book 129 = .ok (.ldiv, 1) := by decide +kernel
theorem dX8_book_130 : decode cX8_book 130 = .ok (.lload 6, 2) := by decide +kernel
theorem dX8_book_132 : decode cX8_book 132 = .ok (.ldc2_w 120, 3) := by decide +kernel
theorem dX8_book_135 : decode cX8_book 135 = .ok (.lrem, 1) := by decide +kernel
theorem dX8_book_136 : decode cX8_book 136 = .ok (.invokestatic 116, 3) := by decide +kernel
theorem dX8_book_139 : decode cX8_book 139 = .ok (.ifCond .ne 9, 3) := by decide +kernel
theorem dX8_book_142 : decode cX8_book 142 = .ok (.aload_n 0, 1) := by decide +kernel
theorem dX8_book_143 : decode cX8_book 143 = .ok (.iconst 1, 1) := by decide +kernel
theorem dX8_book_144 : decode cX8_book 144 = .ok (.invokevirtual 83, 3) := by decide +kernel
theorem dX8_book_147 : decode cX8_book 147 = .ok (.ireturn, 1) := by decide +kernel
theorem dX8_book_148 : decode cX8_book 148 = .ok (.iinc 5 1, 3) := by decide +kernel
theorem dX8_book_151 : decode cX8_book 151 = .ok (.goto (-64), 3) := by decide +kernel
theorem dX8_book_154 : decode cX8_book 154 = .ok (.iconst 0, 1) := by decide +kernel
theorem dX8_book_155 : decode cX8_book 155 = .ok (.istore 5, 2) := by decide +kernel
theorem dX8_book_157 : decode cX8_book 157 = .ok (.iload 5, 2) := by decide +kernel
theorem dX8_book_159 : decode cX8_book 159 = .ok (.iload 4, 2) := by decide +kernel
theorem dX8_book_161 : decode cX8_book 161 = .ok (.if_icmp .ge 85, 3) := by decide +kernel
theorem dX8_book_164 : decode cX8_book 164 = .ok (.aload_n 0, 1) := by decide +kernel
theorem dX8_book_165 : decode cX8_book 165 = .ok (.getfield 20, 3) := by decide +kernel
theorem dX8_book_168 : decode cX8_book 168 = .ok (.bipush 60, 2) := by decide +kernel
theorem dX8_book_170 : decode cX8_book 170 = .ok (.iload_n 3, 1) := by decide +kernel
theorem dX8_book_171 : decode cX8_book 171 = .ok (.imul, 1) := by decide +kernel
theorem dX8_book_172 : decode cX8_book 172 = .ok (.iload 5, 2) := by decide +kernel
theorem dX8_book_174 : decode cX8_book 174 = .ok (.iadd, 1) := by decide +kernel
theorem dX8_book_175 : decode cX8_book 175 = .ok (.laload, 1) := by decide +kernel
theorem dX8_book_176 : decode cX8_book 176 = .ok (.lstore 6, 2) := by decide +kernel
theorem dX8_book_178 : decode cX8_book 178 = .ok (.aload_n 0, 1) := by decide +kernel
theorem dX8_book_179 : decode cX8_book 179 = .ok (.getfield 31, 3) := by decide +kernel
theorem dX8_book_182 : decode cX8_book 182 = .ok (.iload_n 1, 1) := by decide +kernel
theorem dX8_book_183 : decode cX8_book 183 = .ok (.iload_n 2, 1) := by decide +kernel
theorem dX8_book_184 : decode cX8_book 184 = .ok (.iload 5, 2) := by decide +kernel
theorem dX8_book_186 : decode cX8_book 186 = .ok (.iadd, 1) := by decide +kernel
theorem dX8_book_187 : decode cX8_book 187 = .ok (.invokestatic 103, 3) := by decide +kernel
theorem dX8_book_190 : decode cX8_book 190 = .ok (.lload 6, 2) := by decide +kernel
theorem dX8_book_192 : decode cX8_book 192 = .ok (.ldc2_w 94, 3) := by decide +kernel
theorem dX8_book_195 : decode cX8_book 195 = .ok (.lcmp, 1) := by decide +kernel
theorem dX8_book_196 : decode cX8_book 196 = .ok (.ifCond .ne 7, 3) := by decide +kernel
theorem dX8_book_199 : decode cX8_book 199 = .ok (.iconst (-1), 1) := by decide +kernel
theorem dX8_book_200 : decode cX8_book 200 = .ok (.goto 10, 3) := by decide +kernel
theorem dX8_book_203 : decode cX8_book 203 = .ok (.lload 6, 2) := by decide +kernel
theorem dX8_book_205 : decode cX8_book 205 = .ok (.ldc2_w 120, 3) := by decide +kernel
theorem dX8_book_208 : decode cX8_book 208 = .ok (.ldiv, 1) := by decide +kernel
theorem dX8_book_209 : decode cX8_book 209 = .ok (.l2i, 1) := by decide +kernel
theorem dX8_book_210 : decode cX8_book 210 = .ok (.iastore, 1) := by decide +kernel
theorem dX8_book_211 : decode cX8_book 211 = .ok (.lload 6, 2) := by decide +kernel
theorem dX8_book_213 : decode cX8_book 213 = .ok (.ldc2_w 94, 3) := by decide +kernel
theorem dX8_book_216 : decode cX8_book 216 = .ok (.lcmp, 1) := by decide +kernel
theorem dX8_book_217 : decode cX8_book 217 = .ok (.ifCond .eq 23, 3) := by decide +kernel
theorem dX8_book_220 : decode cX8_book 220 = .ok (.aload_n 0, 1) := by decide +kernel
theorem dX8_book_221 : decode cX8_book 221 = .ok (.getfield 34, 3) := by decide +kernel
theorem dX8_book_224 : decode cX8_book 224 = .ok (.iload_n 1, 1) := by decide +kernel
theorem dX8_book_225 : decode cX8_book 225 = .ok (.iload_n 2, 1) := by decide +kernel
theorem dX8_book_226 : decode cX8_book 226 = .ok (.iload 5, 2) := by decide +kernel
theorem dX8_book_228 : decode cX8_book 228 = .ok (.iadd, 1) := by decide +kernel
theorem dX8_book_229 : decode cX8_book 229 = .ok (.invokestatic 103, 3) := by decide +kernel
theorem dX8_book_232 : decode cX8_book 232 = .ok (.lload 6, 2) := by decide +kernel
theorem dX8_book_234 : decode cX8_book 234 = .ok (.ldc2_w 120, 3) := by decide +kernel
theorem dX8_book_237 : decode cX8_book 237 = .ok (.lrem, 1) := by decide +kernel
theorem dX8_book_238 : decode cX8_book 238 = .ok (.l2i, 1) := by decide +kernel
theorem dX8_book_239 : decode cX8_book 239 = .ok (.iastore, 1) := by decide +kernel
theorem dX8_book_240 : decode cX8_book 240 = .ok (.iinc 5 1, 3) := by decide +kernel
theorem dX8_book_243 : decode cX8_book 243 = .ok (.goto (-86), 3) := by decide +kernel
theorem dX8_book_246 : decode cX8_book 246 = .ok (.aload_n 0, 1) := by decide +kernel
theorem dX8_book_247 : decode cX8_book 247 = .ok (.iconst 0, 1) := by decide +kernel
theorem dX8_book_248 : decode cX8_book 248 = .ok (.invokevirtual 83, 3) := by decide +kernel
theorem dX8_book_251 : decode cX8_book 251 = .ok (.ireturn, 1) := by decide +kernel
set_option maxRecDepth 20000 in
theorem ggX8_number_X8_at : GoodIn wsX8_number wsX8_at := goodIn_r _ [6] (by decide +kernel) (by decide +kernel)
set_option maxRecDepth 20000 in
theorem gX8_number_X8_at : GoodIn wsX8_number (va_wsS RX8 103 yX8_at wsX8_at) := goodIn_app (goodIn_of _ (by decide +kernel)) ggX8_number_X8_at
theorem dX8_number_0 : decode cX8_number 0 = .ok (.bipush 10, 2) := by decide +kernel
theorem dX8_number_2 : decode cX8_number 2 = .ok (.aload_n 0, 1) := by decide +kernel
theorem dX8_number_3 : decode cX8_number 3 = .ok (.getfield 31, 3) := by decide +kernel
theorem dX8_number_6 : decode cX8_number 6 = .ok (.iload_n 1, 1) := by decide +kernel
theorem dX8_number_7 : decode cX8_number 7 = .ok (.iload_n 2, 1) := by decide +kernel
theorem dX8_number_8 : decode cX8_number 8 = .ok (.invokestatic 103, 3) := by decide +kernel
theorem dX8_number_11 : decode cX8_number 11 = .ok (.iaload, 1) := by decide +kernel
theorem dX8_number_12 : decode cX8_number 12 = .ok (.imul, 1) := by decide +kernel
theorem dX8_number_13 : decode cX8_number 13 = .ok (.aload_n 0, 1) := by decide +kernel
theorem dX8_number_14 : decode cX8_number 14 = .ok (.getfield 34, 3) := by decide +kernel
theorem dX8_number_17 : decode cX8_number 17 = .ok (.iload_n 1, 1) := by decide +kernel
theorem dX8_number_18 : decode cX8_number 18 = .ok (.iload_n 2, 1) := by decide +kernel
theorem dX8_number_19 : decode cX8_number 19 = .ok (.invokestatic 103, 3) := by decide +kernel
theorem dX8_number_22 : decode cX8_number 22 = .ok (.iaload, 1) := by decide +kernel
theorem dX8_number_23 : decode cX8_number 23 = .ok (.iadd, 1) := by decide +kernel
theorem dX8_number_24 : decode cX8_number 24 = .ok (.ireturn, 1) := by decide +kernel
set_option maxRecDepth 20000 in
theorem ggX8_told_X8_isEye : GoodIn wsX8_told wsX8_isEye := goodIn_r _ [8, 9, 24, 25, 26, 27, 28, 29, 30, 31, 32, 33, 34, 35, 36, 37, 38, 39, 40, 41, 42, 43, 44, 45, 46] (by decide +kernel) (by decide +kernel)
set_option maxRecDepth 20000 in
theorem gX8_told_X8_isEye : GoodIn wsX8_told (wsV RX8 110 RX8 yX8_isEye wsX8_isEye) := goodIn_app (goodIn_of _ (by decide +kernel)) ggX8_told_X8_isEye
set_option maxRecDepth 20000 in
theorem ggX8_told_X8_isDay : GoodIn wsX8_told wsX8_isDay := goodIn_r _ [12] (by decide +kernel) (by decide +kernel)
set_option maxRecDepth 20000 in
theorem gX8_told_X8_isDay : GoodIn wsX8_told (va_wsS RX8 113 yX8_isDay wsX8_isDay) := goodIn_app (goodIn_of _ (by decide +kernel)) ggX8_told_X8_isDay
set_option maxRecDepth 20000 in
theorem ggX8_told_X8_refuse : GoodIn wsX8_told wsX8_refuse := goodIn_r _ [16, 2, 24, 25, 26, 27, 28, 29, 30, 31, 32, 33, 34, 35, 36, 37, 38, 39, 40, 41, 42, 43, 44, 45, 46] (by decide +kernel) (by decide +kernel)
set_option maxRecDepth 20000 in
theorem gX8_told_X8_refuse : GoodIn wsX8_told (wsV RX8 99 RX8 yX8_refuse wsX8_refuse) := goodIn_app (goodIn_of _ (by decide +kernel)) ggX8_told_X8_refuse
set_option maxRecDepth 20000 in
theorem ggX8_told_X8_at : GoodIn wsX8_told wsX8_at := goodIn_r _ [19] (by decide +kernel) (by decide +kernel)
set_option maxRecDepth 20000 in
theorem gX8_told_X8_at : GoodIn wsX8_told (va_wsS RX8 103 yX8_at wsX8_at) := goodIn_app (goodIn_of _ (by decide +kernel)) ggX8_told_X8_at
set_option maxRecDepth 20000 in
theorem ggX8_told_X8_number : GoodIn wsX8_told wsX8_number := goodIn_r _ [23, 1, 3, 17, 18, 7, 19, 24, 25, 26, 27, 28, 29, 30, 31, 32, 33, 34, 35, 36, 37, 38, 39, 40, 41, 42, 43, 44, 45, 46] (by decide +kernel) (by decide +kernel)
set_option maxRecDepth 20000 in
theorem gX8_told_X8_number : GoodIn wsX8_told (wsV RX8 122 RX8 yX8_number wsX8_number) := goodIn_app (goodIn_of _ (by decide +kernel)) ggX8_told_X8_number
theorem dX8_told_0 : decode cX8_told 0 = .ok (.aload_n 0, 1) := by decide +kernel
theorem dX8_told_1 : decode cX8_told 1 = .ok (.iload_n 1, 1) := by decide +kernel
theorem dX8_told_2 : decode cX8_told 2 = .ok (.invokevirtual 110, 3) := by decide +kernel
theorem dX8_told_5 : decode cX8_told 5 = .ok (.ifCond .eq 19, 3) := by decide +kernel
theorem dX8_told_8 : decode cX8_told 8 = .ok (.iload_n 2, 1) := by decide +kernel
theorem dX8_told_9 : decode cX8_told 9 = .ok (.invokestatic 113, 3) := by decide +kernel
theorem dX8_told_12 : decode cX8_told 12 = .ok (.ifCond .eq 12, 3) := by decide +kernel
theorem dX8_told_15 : decode cX8_told 15 = .ok (.iload_n 3, 1) := by decide +kernel
theorem dX8_told_16 : decode cX8_told 16 = .ok (.ifCond .lt 8, 3) := by decide +kernel
theorem dX8_told_19 : decode cX8_told 19 = .ok (.iload_n 3, 1) := by decide +kernel
theorem dX8_told_20 : decode cX8_told 20 = .ok (.iconst 2, 1) := by decide +kernel
theorem dX8_told_21 : decode cX8_told 21 = .ok (.if_icmp .le 9, 3) := by decide +kernel
theorem dX8_told_24 : decode cX8_told 24 = .ok (.aload_n 0, 1) := by decide +kernel
theorem dX8_told_25 : decode cX8_told 25 = .ok (.iconst 1, 1) := by decide +kernel
theorem dX8_told_26 : decode cX8_told 26 = .ok (.invokevirtual 99, 3) := by decide +kernel
theorem dX8_told_29 : decode cX8_told 29 = .ok (.ireturn, 1) := by decide +kernel
theorem dX8_told_30 : decode cX8_told 30 = .ok (.aload_n 0, 1) := by decide +kernel
theorem dX8_told_31 : decode cX8_told 31 = .ok (.getfield 31, 3) := by decide +kernel
theorem dX8_told_34 : decode cX8_told 34 = .ok (.iload_n 1, 1) := by decide +kernel
theorem dX8_told_35 : decode cX8_told 35 = .ok (.iload_n 2, 1) := by decide +kernel
theorem dX8_told_36 : decode cX8_told 36 = .ok (.invokestatic 103, 3) := by decide +kernel
theorem dX8_told_39 : decode cX8_told 39 = .ok (.iaload, 1) := by decide +kernel
theorem dX8_told_40 : decode cX8_told 40 = .ok (.iconst (-1), 1) := by decide +kernel
theorem dX8_told_41 : decode cX8_told 41 = .ok (.if_icmp .ne 9, 3) := by decide +kernel
theorem dX8_told_44 : decode cX8_told 44 = .ok (.aload_n 0, 1) := by decide +kernel
theorem dX8_told_45 : decode cX8_told 45 = .ok (.iconst 5, 1) := by decide +kernel
theorem dX8_told_46 : decode cX8_told 46 = .ok (.invokevirtual 99, 3) := by decide +kernel
theorem dX8_told_49 : decode cX8_told 49 = .ok (.ireturn, 1) := by decide +kernel
theorem dX8_told_50 : decode cX8_told 50 = .ok (.aload_n 0, 1) := by decide +kernel
theorem dX8_told_51 : decode cX8_told 51 = .ok (.iconst 0, 1) := by decide +kernel
theorem dX8_told_52 : decode cX8_told 52 = .ok (.putfield 73, 3) := by decide +kernel
theorem dX8_told_55 : decode cX8_told 55 = .ok (.iload_n 3, 1) := by decide +kernel
theorem dX8_told_56 : decode cX8_told 56 = .ok (.ifCond .ne 16, 3) := by decide +kernel
theorem dX8_told_59 : decode cX8_told 59 = .ok (.aload_n 0, 1) := by decide +kernel
theorem dX8_told_60 : decode cX8_told 60 = .ok (.getfield 31, 3) := by decide +kernel
theorem dX8_told_63 : decode cX8_told 63 = .ok (.iload_n 1, 1) := by decide +kernel
theorem dX8_told_64 : decode cX8_told 64 = .ok (.iload_n 2, 1) := by decide +kernel
theorem dX8_told_65 : decode cX8_told 65 = .ok (.invokestatic 103, 3) := by decide +kernel
theorem dX8_told_68 : decode cX8_told 68 = .ok (.iaload, 1) := by decide +kernel
theorem dX8_told_69 : decode cX8_told 69 = .ok (.goto 27, 3) := by decide +kernel
theorem dX8_told_72 : decode cX8_told 72 = .ok (.iload_n 3, 1) := by decide +kernel
theorem dX8_told_73 : decode cX8_told 73 = .ok (.iconst 1, 1) := by decide +kernel
theorem dX8_told_74 : decode cX8_told 74 = .ok (.if_icmp .ne 16, 3) := by decide +kernel
theorem dX8_told_77 : decode cX8_told 77 = .ok (.aload_n 0, 1) := by decide +kernel
theorem dX8_told_78 : decode cX8_told 78 = .ok (.getfield 34, 3) := by decide +kernel
theorem dX8_told_81 : decode cX8_told 81 = .ok (.iload_n 1, 1) := by decide +kernel
theorem dX8_told_82 : decode cX8_told 82 = .ok (.iload_n 2, 1) := by decide +kernel
theorem dX8_told_83 : decode cX8_told 83 = .ok (.invokestatic 103, 3) := by decide +kernel
theorem dX8_told_86 : decode cX8_told 86 = .ok (.iaload, 1) := by decide +kernel
theorem dX8_told_87 : decode cX8_told 87 = .ok (.goto 9, 3) := by decide +kernel
theorem dX8_told_90 : decode cX8_told 90 = .ok (.aload_n 0, 1) := by decide +kernel
theorem dX8_told_91 : decode cX8_told 91 = .ok (.iload_n 1, 1) := by decide +kernel
theorem dX8_told_92 : decode cX8_told 92 = .ok (.iload_n 2, 1) := by decide +kernel
theorem dX8_told_93 : decode cX8_told 93 = .ok (.invokevirtual 122, 3) := by decide +kernel
theorem dX8_told_96 : decode cX8_told 96 = .ok (.ireturn, 1) := by decide +kernel
set_option maxRecDepth 20000 in
theorem ggX8_days_X8_isEye : GoodIn wsX8_days wsX8_isEye := goodIn_r _ [7, 8, 16, 17, 18, 19, 20, 21, 22, 23, 24, 25, 26, 27, 28, 29, 30, 31, 32, 33, 34, 35, 36, 37, 38] (by decide +kernel) (by decide +kernel)
set_option maxRecDepth 20000 in
theorem gX8_days_X8_isEye : GoodIn wsX8_days (wsV RX8 110 RX8 yX8_isEye wsX8_isEye) := goodIn_app (goodIn_of _ (by decide +kernel)) ggX8_days_X8_isEye
set_option maxRecDepth 20000 in
theorem ggX8_days_X8_refuse : GoodIn wsX8_days wsX8_refuse := goodIn_r _ [12, 1, 16, 17, 18, 19, 20, 21, 22, 23, 24, 25, 26, 27, 28, 29, 30, 31, 32, 33, 34, 35, 36, 37, 38] (by decide +kernel) (by decide +kernel)
set_option maxRecDepth 20000 in
theorem gX8_days_X8_refuse : GoodIn wsX8_days (wsV RX8 99 RX8 yX8_refuse wsX8_refuse) := goodIn_app (goodIn_of _ (by decide +kernel)) ggX8_days_X8_refuse
set_option maxRecDepth 20000 in
theorem ggX8_days_X8_at : GoodIn wsX8_days wsX8_at := goodIn_r _ [15] (by decide +kernel) (by decide +kernel)
set_option maxRecDepth 20000 in
theorem gX8_days_X8_at : GoodIn wsX8_days (va_wsS RX8 103 yX8_at wsX8_at) := goodIn_app (goodIn_of _ (by decide +kernel)) ggX8_days_X8_at
theorem dX8_days_0 : decode cX8_days 0 = .ok (.aload_n 0, 1) := by decide +kernel
theorem dX8_days_1 : decode cX8_days 1 = .ok (.iload_n 1, 1) := by decide +kernel
theorem dX8_days_2 : decode cX8_days 2 = .ok (.invokevirtual 110, 3) := by decide +kernel
theorem dX8_days_5 : decode cX8_days 5 = .ok (.ifCond .ne 9, 3) := by decide +kernel
theorem dX8_days_8 : decode cX8_days 8 = .ok (.aload_n 0, 1) := by decide +kernel
theorem dX8_days_9 : decode cX8_days 9 = .ok (.iconst 1, 1) := by decide +kernel
theorem dX8_days_10 : decode cX8_days 10 = .ok (.invokevirtual 99, 3) := by decide +kernel
theorem dX8_days_13 : decode cX8_days 13 = .ok (.ireturn, 1) := by decide +kernel
theorem dX8_days_14 : decode cX8_days 14 = .ok (.aload_n 0, 1) := by decide +kernel
theorem dX8_days_15 : decode cX8_days 15 = .ok (.iconst 0, 1) := by decide +kernel
theorem dX8_days_16 : decode cX8_days 16 = .ok (.putfield 73, 3) := by decide +kernel
theorem dX8_days_19 : decode cX8_days 19 = .ok (.iconst 0, 1) := by decide +kernel
theorem dX8_days_20 : decode cX8_days 20 = .ok (.istore_n 2, 1) := by decide +kernel
theorem dX8_days_21 : decode cX8_days 21 = .ok (.iconst 0, 1) := by decide +kernel
theorem dX8_days_22 : decode cX8_days 22 = .ok (.istore_n 3, 1) := by decide +kernel
theorem dX8_days_23 : decode cX8_days 23 = .ok (.iload_n 3, 1) := by decide +kernel
theorem dX8_days_24 : decode cX8_days 24 = .ok (.sipush 240, 3) := by decide +kernel
theorem dX8_days_27 : decode cX8_days 27 = .ok (.if_icmp .ge 31, 3) := by decide +kernel
