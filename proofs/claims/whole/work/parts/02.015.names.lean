theorem dX8_middle_20 : decode cX8_middle 20 = .ok (.iload 4, 2) := by decide +kernel
theorem dX8_middle_22 : decode cX8_middle 22 = .ok (.sipush 240, 3) := by decide +kernel
theorem dX8_middle_25 : decode cX8_middle 25 = .ok (.if_icmp .ge 38, 3) := by decide +kernel
theorem dX8_middle_28 : decode cX8_middle 28 = .ok (.iload_n 3, 1) := by decide +kernel
theorem dX8_middle_29 : decode cX8_middle 29 = .ok (.aload_n 0, 1) := by decide +kernel
theorem dX8_middle_30 : decode cX8_middle 30 = .ok (.iload_n 1, 1) := by decide +kernel
theorem dX8_middle_31 : decode cX8_middle 31 = .ok (.iload_n 2, 1) := by decide +kernel
theorem dX8_middle_32 : decode cX8_middle 32 = .ok (.iload 4, 2) := by decide +kernel
theorem dX8_middle_34 : decode cX8_middle 34 = .ok (.invokevirtual 129, 3) := by decide +kernel
theorem dX8_middle_37 : decode cX8_middle 37 = .ok (.ifCond .eq 17, 3) := by decide +kernel
theorem dX8_middle_40 : decode cX8_middle 40 = .ok (.aload_n 0, 1) := by decide +kernel
theorem dX8_middle_41 : decode cX8_middle 41 = .ok (.iload_n 1, 1) := by decide +kernel
theorem dX8_middle_42 : decode cX8_middle 42 = .ok (.iload 4, 2) := by decide +kernel
theorem dX8_middle_44 : decode cX8_middle 44 = .ok (.invokevirtual 122, 3) := by decide +kernel
theorem dX8_middle_47 : decode cX8_middle 47 = .ok (.ifCond .le 7, 3) := by decide +kernel
theorem dX8_middle_50 : decode cX8_middle 50 = .ok (.iconst 1, 1) := by decide +kernel
theorem dX8_middle_51 : decode cX8_middle 51 = .ok (.goto 4, 3) := by decide +kernel
theorem dX8_middle_54 : decode cX8_middle 54 = .ok (.iconst 0, 1) := by decide +kernel
theorem dX8_middle_55 : decode cX8_middle 55 = .ok (.iadd, 1) := by decide +kernel
theorem dX8_middle_56 : decode cX8_middle 56 = .ok (.istore_n 3, 1) := by decide +kernel
theorem dX8_middle_57 : decode cX8_middle 57 = .ok (.iinc 4 1, 3) := by decide +kernel
theorem dX8_middle_60 : decode cX8_middle 60 = .ok (.goto (-40), 3) := by decide +kernel
theorem dX8_middle_63 : decode cX8_middle 63 = .ok (.iload_n 3, 1) := by decide +kernel
theorem dX8_middle_64 : decode cX8_middle 64 = .ok (.ifCond .ne 10, 3) := by decide +kernel
theorem dX8_middle_67 : decode cX8_middle 67 = .ok (.aload_n 0, 1) := by decide +kernel
theorem dX8_middle_68 : decode cX8_middle 68 = .ok (.bipush 6, 2) := by decide +kernel
theorem dX8_middle_70 : decode cX8_middle 70 = .ok (.invokevirtual 99, 3) := by decide +kernel
theorem dX8_middle_73 : decode cX8_middle 73 = .ok (.ireturn, 1) := by decide +kernel
theorem dX8_middle_74 : decode cX8_middle 74 = .ok (.iconst (-1), 1) := by decide +kernel
theorem dX8_middle_75 : decode cX8_middle 75 = .ok (.istore 4, 2) := by decide +kernel
theorem dX8_middle_77 : decode cX8_middle 77 = .ok (.iconst 0, 1) := by decide +kernel
theorem dX8_middle_78 : decode cX8_middle 78 = .ok (.istore 5, 2) := by decide +kernel
theorem dX8_middle_80 : decode cX8_middle 80 = .ok (.iload 5, 2) := by decide +kernel
theorem dX8_middle_82 : decode cX8_middle 82 = .ok (.sipush 240, 3) := by decide +kernel
theorem dX8_middle_85 : decode cX8_middle 85 = .ok (.if_icmp .ge 166, 3) := by decide +kernel
theorem dX8_middle_88 : decode cX8_middle 88 = .ok (.aload_n 0, 1) := by decide +kernel
theorem dX8_middle_89 : decode cX8_middle 89 = .ok (.iload_n 1, 1) := by decide +kernel
theorem dX8_middle_90 : decode cX8_middle 90 = .ok (.iload_n 2, 1) := by decide +kernel
theorem dX8_middle_91 : decode cX8_middle 91 = .ok (.iload 5, 2) := by decide +kernel
theorem dX8_middle_93 : decode cX8_middle 93 = .ok (.invokevirtual 129, 3) := by decide +kernel
theorem dX8_middle_96 : decode cX8_middle 96 = .ok (.ifCond .eq 149, 3) := by decide +kernel
theorem dX8_middle_99 : decode cX8_middle 99 = .ok (.aload_n 0, 1) := by decide +kernel
theorem dX8_middle_100 : decode cX8_middle 100 = .ok (.iload_n 1, 1) := by decide +kernel
theorem dX8_middle_101 : decode cX8_middle 101 = .ok (.iload 5, 2) := by decide +kernel
theorem dX8_middle_103 : decode cX8_middle 103 = .ok (.invokevirtual 122, 3) := by decide +kernel
theorem dX8_middle_106 : decode cX8_middle 106 = .ok (.ifCond .ne 6, 3) := by decide +kernel
theorem dX8_middle_109 : decode cX8_middle 109 = .ok (.goto 136, 3) := by decide +kernel
theorem dX8_middle_112 : decode cX8_middle 112 = .ok (.iconst 0, 1) := by decide +kernel
theorem dX8_middle_113 : decode cX8_middle 113 = .ok (.istore 6, 2) := by decide +kernel
theorem dX8_middle_115 : decode cX8_middle 115 = .ok (.iconst 0, 1) := by decide +kernel
theorem dX8_middle_116 : decode cX8_middle 116 = .ok (.istore 7, 2) := by decide +kernel
theorem dX8_middle_118 : decode cX8_middle 118 = .ok (.iload 7, 2) := by decide +kernel
theorem dX8_middle_120 : decode cX8_middle 120 = .ok (.sipush 240, 3) := by decide +kernel
theorem dX8_middle_123 : decode cX8_middle 123 = .ok (.if_icmp .ge 66, 3) := by decide +kernel
theorem dX8_middle_126 : decode cX8_middle 126 = .ok (.aload_n 0, 1) := by decide +kernel
theorem dX8_middle_127 : decode cX8_middle 127 = .ok (.iload_n 1, 1) := by decide +kernel
theorem dX8_middle_128 : decode cX8_middle 128 = .ok (.iload_n 2, 1) := by decide +kernel
theorem dX8_middle_129 : decode cX8_middle 129 = .ok (.iload 7, 2) := by decide +kernel
theorem dX8_middle_131 : decode cX8_middle 131 = .ok (.invokevirtual 129, 3) := by decide +kernel
theorem dX8_middle_134 : decode cX8_middle 134 = .ok (.ifCond .eq 49, 3) := by decide +kernel
theorem dX8_middle_137 : decode cX8_middle 137 = .ok (.aload_n 0, 1) := by decide +kernel
theorem dX8_middle_138 : decode cX8_middle 138 = .ok (.iload_n 1, 1) := by decide +kernel
theorem dX8_middle_139 : decode cX8_middle 139 = .ok (.iload 7, 2) := by decide +kernel
theorem dX8_middle_141 : decode cX8_middle 141 = .ok (.invokevirtual 122, 3) := by decide +kernel
theorem dX8_middle_144 : decode cX8_middle 144 = .ok (.ifCond .le 39, 3) := by decide +kernel
theorem dX8_middle_147 : decode cX8_middle 147 = .ok (.aload_n 0, 1) := by decide +kernel
theorem dX8_middle_148 : decode cX8_middle 148 = .ok (.iload_n 2, 1) := by decide +kernel
theorem dX8_middle_149 : decode cX8_middle 149 = .ok (.iload 7, 2) := by decide +kernel
theorem dX8_middle_151 : decode cX8_middle 151 = .ok (.invokevirtual 122, 3) := by decide +kernel
theorem dX8_middle_154 : decode cX8_middle 154 = .ok (.aload_n 0, 1) := by decide +kernel
theorem dX8_middle_155 : decode cX8_middle 155 = .ok (.iload_n 1, 1) := by decide +kernel
theorem dX8_middle_156 : decode cX8_middle 156 = .ok (.iload 5, 2) := by decide +kernel
theorem dX8_middle_158 : decode cX8_middle 158 = .ok (.invokevirtual 122, 3) := by decide +kernel
theorem dX8_middle_161 : decode cX8_middle 161 = .ok (.imul, 1) := by decide +kernel
theorem dX8_middle_162 : decode cX8_middle 162 = .ok (.aload_n 0, 1) := by decide +kernel
theorem dX8_middle_163 : decode cX8_middle 163 = .ok (.iload_n 2, 1) := by decide +kernel
theorem dX8_middle_164 : decode cX8_middle 164 = .ok (.iload 5, 2) := by decide +kernel
theorem dX8_middle_166 : decode cX8_middle 166 = .ok (.invokevirtual 122, 3) := by decide +kernel
theorem dX8_middle_169 : decode cX8_middle 169 = .ok (.aload_n 0, 1) := by decide +kernel
theorem dX8_middle_170 : decode cX8_middle 170 = .ok (.iload_n 1, 1) := by decide +kernel
theorem dX8_middle_171 : decode cX8_middle 171 = .ok (.iload 7, 2) := by decide +kernel
theorem dX8_middle_173 : decode cX8_middle 173 = .ok (.invokevirtual 122, 3) := by decide +kernel
theorem dX8_middle_176 : decode cX8_middle 176 = .ok (.imul, 1) := by decide +kernel
theorem dX8_middle_177 : decode cX8_middle 177 = .ok (.if_icmp .gt 6, 3) := by decide +kernel
theorem dX8_middle_180 : decode cX8_middle 180 = .ok (.iinc 6 1, 3) := by decide +kernel
theorem dX8_middle_183 : decode cX8_middle 183 = .ok (.iinc 7 1, 3) := by decide +kernel
theorem dX8_middle_186 : decode cX8_middle 186 = .ok (.goto (-68), 3) := by decide +kernel
theorem dX8_middle_189 : decode cX8_middle 189 = .ok (.iload 6, 2) := by decide +kernel
theorem dX8_middle_191 : decode cX8_middle 191 = .ok (.iload_n 3, 1) := by decide +kernel
theorem dX8_middle_192 : decode cX8_middle 192 = .ok (.iconst 1, 1) := by decide +kernel
theorem dX8_middle_193 : decode cX8_middle 193 = .ok (.iadd, 1) := by decide +kernel
theorem dX8_middle_194 : decode cX8_middle 194 = .ok (.iconst 2, 1) := by decide +kernel
theorem dX8_middle_195 : decode cX8_middle 195 = .ok (.idiv, 1) := by decide +kernel
theorem dX8_middle_196 : decode cX8_middle 196 = .ok (.if_icmp .ge 6, 3) := by decide +kernel
theorem dX8_middle_199 : decode cX8_middle 199 = .ok (.goto 46, 3) := by decide +kernel
theorem dX8_middle_202 : decode cX8_middle 202 = .ok (.iload 4, 2) := by decide +kernel
theorem dX8_middle_204 : decode cX8_middle 204 = .ok (.iconst (-1), 1) := by decide +kernel
theorem dX8_middle_205 : decode cX8_middle 205 = .ok (.if_icmp .eq 36, 3) := by decide +kernel
theorem dX8_middle_208 : decode cX8_middle 208 = .ok (.aload_n 0, 1) := by decide +kernel
theorem dX8_middle_209 : decode cX8_middle 209 = .ok (.iload_n 2, 1) := by decide +kernel
theorem dX8_middle_210 : decode cX8_middle 210 = .ok (.iload 5, 2) := by decide +kernel
theorem dX8_middle_212 : decode cX8_middle 212 = .ok (.invokevirtual 122, 3) := by decide +kernel
theorem dX8_middle_215 : decode cX8_middle 215 = .ok (.aload_n 0, 1) := by decide +kernel
theorem dX8_middle_216 : decode cX8_middle 216 = .ok (.iload_n 1, 1) := by decide +kernel
theorem dX8_middle_217 : decode cX8_middle 217 = .ok (.iload 4, 2) := by decide +kernel
theorem dX8_middle_219 : decode cX8_middle 219 = .ok (.invokevirtual 122, 3) := by decide +kernel
theorem dX8_middle_222 : decode cX8_middle 222 = .ok (.imul, 1) := by decide +kernel
theorem dX8_middle_223 : decode cX8_middle 223 = .ok (.aload_n 0, 1) := by decide +kernel
theorem dX8_middle_224 : decode cX8_middle 224 = .ok (.iload_n 2, 1) := by decide +kernel
theorem dX8_middle_225 : decode cX8_middle 225 = .ok (.iload 4, 2) := by decide +kernel
theorem dX8_middle_227 : decode cX8_middle 227 = .ok (.invokevirtual 122, 3) := by decide +kernel
theorem dX8_middle_230 : decode cX8_middle 230 = .ok (.aload_n 0, 1) := by decide +kernel
theorem dX8_middle_231 : decode cX8_middle 231 = .ok (.iload_n 1, 1) := by decide +kernel
theorem dX8_middle_232 : decode cX8_middle 232 = .ok (.iload 5, 2) := by decide +kernel
theorem dX8_middle_234 : decode cX8_middle 234 = .ok (.invokevirtual 122, 3) := by decide +kernel
theorem dX8_middle_237 : decode cX8_middle 237 = .ok (.imul, 1) := by decide +kernel
theorem dX8_middle_238 : decode cX8_middle 238 = .ok (.if_icmp .ge 7, 3) := by decide +kernel
theorem dX8_middle_241 : decode cX8_middle 241 = .ok (.iload 5, 2) := by decide +kernel
theorem dX8_middle_243 : decode cX8_middle 243 = .ok (.istore 4, 2) := by decide +kernel
theorem dX8_middle_245 : decode cX8_middle 245 = .ok (.iinc 5 1, 3) := by decide +kernel
theorem dX8_middle_248 : decode cX8_middle 248 = .ok (.goto (-168), 3) := by decide +kernel
theorem dX8_middle_251 : decode cX8_middle 251 = .ok (.aload_n 0, 1) := by decide +kernel
theorem dX8_middle_252 : decode cX8_middle 252 = .ok (.aload_n 0, 1) := by decide +kernel
theorem dX8_middle_253 : decode cX8_middle 253 = .ok (.iload_n 2, 1) := by decide +kernel
theorem dX8_middle_254 : decode cX8_middle 254 = .ok (.iload 4, 2) := by decide +kernel
theorem dX8_middle_256 : decode cX8_middle 256 = .ok (.invokevirtual 122, 3) := by decide +kernel
theorem dX8_middle_259 : decode cX8_middle 259 = .ok (.i2l, 1) := by decide +kernel
theorem dX8_middle_260 : decode cX8_middle 260 = .ok (.aload_n 0, 1) := by decide +kernel
theorem dX8_middle_261 : decode cX8_middle 261 = .ok (.iload_n 1, 1) := by decide +kernel
theorem dX8_middle_262 : decode cX8_middle 262 = .ok (.iload 4, 2) := by decide +kernel
theorem dX8_middle_264 : decode cX8_middle 264 = .ok (.invokevirtual 122, 3) := by decide +kernel
theorem dX8_middle_267 : decode cX8_middle 267 = .ok (.i2l, 1) := by decide +kernel
theorem dX8_middle_268 : decode cX8_middle 268 = .ok (.invokevirtual 146, 3) := by decide +kernel
theorem dX8_middle_271 : decode cX8_middle 271 = .ok (.ireturn, 1) := by decide +kernel
set_option maxRecDepth 20000 in
theorem ggX8_step_X8_areTwo : GoodIn wsX8_step wsX8_areTwo := goodIn_r _ [9, 10, 11, 12, 8, 13, 14, 38, 39, 40, 41, 42, 43, 44, 45, 46, 47, 48, 49, 50, 51, 52, 53, 54, 55, 56, 57, 58, 59, 60] (by decide +kernel) (by decide +kernel)
set_option maxRecDepth 20000 in
theorem gX8_step_X8_areTwo : GoodIn wsX8_step (wsV RX8 133 RX8 yX8_areTwo wsX8_areTwo) := goodIn_app (goodIn_of _ (by decide +kernel)) ggX8_step_X8_areTwo
set_option maxRecDepth 20000 in
theorem ggX8_step_X8_refuse : GoodIn wsX8_step wsX8_refuse := goodIn_r _ [18, 19, 38, 39, 40, 41, 42, 43, 44, 45, 46, 47, 48, 49, 50, 51, 52, 53, 54, 55, 56, 57, 58, 59, 60] (by decide +kernel) (by decide +kernel)
set_option maxRecDepth 20000 in
theorem gX8_step_X8_refuse : GoodIn wsX8_step (wsV RX8 99 RX8 yX8_refuse wsX8_refuse) := goodIn_app (goodIn_of _ (by decide +kernel)) ggX8_step_X8_refuse
set_option maxRecDepth 20000 in
theorem ggX8_step_X8_areBoth : GoodIn wsX8_step wsX8_areBoth := goodIn_r _ [23, 24, 25, 26, 8, 27, 28, 3, 29, 30, 31, 38, 39, 40, 41, 42, 43, 44, 45, 46, 47, 48, 49, 50, 51, 52, 53, 54, 55, 56, 57, 58, 59, 60] (by decide +kernel) (by decide +kernel)
set_option maxRecDepth 20000 in
theorem gX8_step_X8_areBoth : GoodIn wsX8_step (wsV RX8 129 RX8 yX8_areBoth wsX8_areBoth) := goodIn_app (goodIn_of _ (by decide +kernel)) ggX8_step_X8_areBoth
set_option maxRecDepth 20000 in
theorem ggX8_step_X8_at : GoodIn wsX8_step wsX8_at := goodIn_r _ [31] (by decide +kernel) (by decide +kernel)
set_option maxRecDepth 20000 in
theorem gX8_step_X8_at : GoodIn wsX8_step (va_wsS RX8 103 yX8_at wsX8_at) := goodIn_app (goodIn_of _ (by decide +kernel)) ggX8_step_X8_at
set_option maxRecDepth 20000 in
theorem ggX8_step_X8_fraction : GoodIn wsX8_step wsX8_fraction := goodIn_r _ [35, 36, 37, 19, 38, 39, 40, 41, 42, 43, 44, 45, 46, 47, 48, 49, 50, 51, 52, 53, 54, 55, 56, 57, 58, 59, 60] (by decide +kernel) (by decide +kernel)
set_option maxRecDepth 20000 in
theorem gX8_step_X8_fraction : GoodIn wsX8_step (wsV RX8 146 RX8 yX8_fraction wsX8_fraction) := goodIn_app (goodIn_of _ (by decide +kernel)) ggX8_step_X8_fraction
theorem dX8_step_0 : decode cX8_step 0 = .ok (.aload_n 0, 1) := by decide +kernel
theorem dX8_step_1 : decode cX8_step 1 = .ok (.iload_n 1, 1) := by decide +kernel
theorem dX8_step_2 : decode cX8_step 2 = .ok (.iload_n 2, 1) := by decide +kernel
theorem dX8_step_3 : decode cX8_step 3 = .ok (.invokevirtual 133, 3) := by decide +kernel
theorem dX8_step_6 : decode cX8_step 6 = .ok (.ifCond .eq 13, 3) := by decide +kernel
theorem dX8_step_9 : decode cX8_step 9 = .ok (.iload_n 3, 1) := by decide +kernel
theorem dX8_step_10 : decode cX8_step 10 = .ok (.ifCond .lt 9, 3) := by decide +kernel
theorem dX8_step_13 : decode cX8_step 13 = .ok (.iload_n 3, 1) := by decide +kernel
theorem dX8_step_14 : decode cX8_step 14 = .ok (.bipush 20, 2) := by decide +kernel
theorem dX8_step_16 : decode cX8_step 16 = .ok (.if_icmp .le 9, 3) := by decide +kernel
theorem dX8_step_19 : decode cX8_step 19 = .ok (.aload_n 0, 1) := by decide +kernel
theorem dX8_step_20 : decode cX8_step 20 = .ok (.iconst 1, 1) := by decide +kernel
theorem dX8_step_21 : decode cX8_step 21 = .ok (.invokevirtual 99, 3) := by decide +kernel
theorem dX8_step_24 : decode cX8_step 24 = .ok (.ireturn, 1) := by decide +kernel
theorem dX8_step_25 : decode cX8_step 25 = .ok (.iconst 0, 1) := by decide +kernel
theorem dX8_step_26 : decode cX8_step 26 = .ok (.istore 4, 2) := by decide +kernel
theorem dX8_step_28 : decode cX8_step 28 = .ok (.iload 4, 2) := by decide +kernel
theorem dX8_step_30 : decode cX8_step 30 = .ok (.bipush 20, 2) := by decide +kernel
theorem dX8_step_32 : decode cX8_step 32 = .ok (.if_icmp .gt 25, 3) := by decide +kernel
theorem dX8_step_35 : decode cX8_step 35 = .ok (.aload_n 0, 1) := by decide +kernel
theorem dX8_step_36 : decode cX8_step 36 = .ok (.getfield 40, 3) := by decide +kernel
theorem dX8_step_39 : decode cX8_step 39 = .ok (.iload 4, 2) := by decide +kernel
theorem dX8_step_41 : decode cX8_step 41 = .ok (.iconst 0, 1) := by decide +kernel
theorem dX8_step_42 : decode cX8_step 42 = .ok (.iastore, 1) := by decide +kernel
theorem dX8_step_43 : decode cX8_step 43 = .ok (.aload_n 0, 1) := by decide +kernel
theorem dX8_step_44 : decode cX8_step 44 = .ok (.getfield 43, 3) := by decide +kernel
theorem dX8_step_47 : decode cX8_step 47 = .ok (.iload 4, 2) := by decide +kernel
theorem dX8_step_49 : decode cX8_step 49 = .ok (.iconst 0, 1) := by decide +kernel
theorem dX8_step_50 : decode cX8_step 50 = .ok (.iastore, 1) := by decide +kernel
theorem dX8_step_51 : decode cX8_step 51 = .ok (.iinc 4 1, 3) := by decide +kernel
theorem dX8_step_54 : decode cX8_step 54 = .ok (.goto (-26), 3) := by decide +kernel
theorem dX8_step_57 : decode cX8_step 57 = .ok (.iconst 0, 1) := by decide +kernel
theorem dX8_step_58 : decode cX8_step 58 = .ok (.istore 4, 2) := by decide +kernel
theorem dX8_step_60 : decode cX8_step 60 = .ok (.iload 4, 2) := by decide +kernel
theorem dX8_step_62 : decode cX8_step 62 = .ok (.sipush 240, 3) := by decide +kernel
theorem dX8_step_65 : decode cX8_step 65 = .ok (.if_icmp .ge 73, 3) := by decide +kernel
theorem dX8_step_68 : decode cX8_step 68 = .ok (.aload_n 0, 1) := by decide +kernel
theorem dX8_step_69 : decode cX8_step 69 = .ok (.iload_n 1, 1) := by decide +kernel
theorem dX8_step_70 : decode cX8_step 70 = .ok (.iload_n 2, 1) := by decide +kernel
theorem dX8_step_71 : decode cX8_step 71 = .ok (.iload 4, 2) := by decide +kernel
theorem dX8_step_73 : decode cX8_step 73 = .ok (.invokevirtual 129, 3) := by decide +kernel
theorem dX8_step_76 : decode cX8_step 76 = .ok (.ifCond .ne 6, 3) := by decide +kernel
theorem dX8_step_79 : decode cX8_step 79 = .ok (.goto 53, 3) := by decide +kernel
theorem dX8_step_82 : decode cX8_step 82 = .ok (.aload_n 0, 1) := by decide +kernel
theorem dX8_step_83 : decode cX8_step 83 = .ok (.getfield 40, 3) := by decide +kernel
theorem dX8_step_86 : decode cX8_step 86 = .ok (.aload_n 0, 1) := by decide +kernel
theorem dX8_step_87 : decode cX8_step 87 = .ok (.getfield 31, 3) := by decide +kernel
theorem dX8_step_90 : decode cX8_step 90 = .ok (.iload_n 1, 1) := by decide +kernel
theorem dX8_step_91 : decode cX8_step 91 = .ok (.iload 4, 2) := by decide +kernel
theorem dX8_step_93 : decode cX8_step 93 = .ok (.invokestatic 103, 3) := by decide +kernel
theorem dX8_step_96 : decode cX8_step 96 = .ok (.iaload, 1) := by decide +kernel
theorem dX8_step_97 : decode cX8_step 97 = .ok (.dup2, 1) := by decide +kernel
theorem dX8_step_98 : decode cX8_step 98 = .ok (.iaload, 1) := by decide +kernel
theorem dX8_step_99 : decode cX8_step 99 = .ok (.iconst 1, 1) := by decide +kernel
theorem dX8_step_100 : decode cX8_step 100 = .ok (.iadd, 1) := by decide +kernel
theorem dX8_step_101 : decode cX8_step 101 = .ok (.iastore, 1) := by decide +kernel
theorem dX8_step_102 : decode cX8_step 102 = .ok (.aload_n 0, 1) := by decide +kernel
theorem dX8_step_103 : decode cX8_step 103 = .ok (.getfield 43, 3) := by decide +kernel
theorem dX8_step_106 : decode cX8_step 106 = .ok (.aload_n 0, 1) := by decide +kernel
theorem dX8_step_107 : decode cX8_step 107 = .ok (.getfield 31, 3) := by decide +kernel
theorem dX8_step_110 : decode cX8_step 110 = .ok (.iload_n 1, 1) := by decide +kernel
theorem dX8_step_111 : decode cX8_step 111 = .ok (.iload 4, 2) := by decide +kernel
theorem dX8_step_113 : decode cX8_step 113 = .ok (.invokestatic 103, 3) := by decide +kernel
theorem dX8_step_116 : decode cX8_step 116 = .ok (.iaload, 1) := by decide +kernel
theorem dX8_step_117 : decode cX8_step 117 = .ok (.dup2, 1) := by decide +kernel
theorem dX8_step_118 : decode cX8_step 118 = .ok (.iaload, 1) := by decide +kernel
theorem dX8_step_119 : decode cX8_step 119 = .ok (.aload_n 0, 1) := by decide +kernel
theorem dX8_step_120 : decode cX8_step 120 = .ok (.getfield 31, 3) := by decide +kernel
theorem dX8_step_123 : decode cX8_step 123 = .ok (.iload_n 2, 1) := by decide +kernel
theorem dX8_step_124 : decode cX8_step 124 = .ok (.iload 4, 2) := by decide +kernel
theorem dX8_step_126 : decode cX8_step 126 = .ok (.invokestatic 103, 3) := by decide +kernel
theorem dX8_step_129 : decode cX8_step 129 = .ok (.iaload, 1) := by decide +kernel
theorem dX8_step_130 : decode cX8_step 130 = .ok (.iadd, 1) := by decide +kernel
theorem dX8_step_131 : decode cX8_step 131 = .ok (.iastore, 1) := by decide +kernel
theorem dX8_step_132 : decode cX8_step 132 = .ok (.iinc 4 1, 3) := by decide +kernel
theorem dX8_step_135 : decode cX8_step 135 = .ok (.goto (-75), 3) := by decide +kernel
theorem dX8_step_138 : decode cX8_step 138 = .ok (.iload_n 3, 1) := by decide +kernel
theorem dX8_step_139 : decode cX8_step 139 = .ok (.istore 4, 2) := by decide +kernel
theorem dX8_step_141 : decode cX8_step 141 = .ok (.iload 4, 2) := by decide +kernel
theorem dX8_step_143 : decode cX8_step 143 = .ok (.ifCond .lt 19, 3) := by decide +kernel
theorem dX8_step_146 : decode cX8_step 146 = .ok (.aload_n 0, 1) := by decide +kernel
theorem dX8_step_147 : decode cX8_step 147 = .ok (.getfield 40, 3) := by decide +kernel
theorem dX8_step_150 : decode cX8_step 150 = .ok (.iload 4, 2) := by decide +kernel
theorem dX8_step_152 : decode cX8_step 152 = .ok (.iaload, 1) := by decide +kernel
theorem dX8_step_153 : decode cX8_step 153 = .ok (.ifCond .ne 9, 3) := by decide +kernel
theorem dX8_step_156 : decode cX8_step 156 = .ok (.iinc 4 (-1), 3) := by decide +kernel
theorem dX8_step_159 : decode cX8_step 159 = .ok (.goto (-18), 3) := by decide +kernel
theorem dX8_step_162 : decode cX8_step 162 = .ok (.iload 4, 2) := by decide +kernel
theorem dX8_step_164 : decode cX8_step 164 = .ok (.ifCond .ge 10, 3) := by decide +kernel
theorem dX8_step_167 : decode cX8_step 167 = .ok (.aload_n 0, 1) := by decide +kernel
theorem dX8_step_168 : decode cX8_step 168 = .ok (.bipush 6, 2) := by decide +kernel
theorem dX8_step_170 : decode cX8_step 170 = .ok (.invokevirtual 99, 3) := by decide +kernel
theorem dX8_step_173 : decode cX8_step 173 = .ok (.ireturn, 1) := by decide +kernel
theorem dX8_step_174 : decode cX8_step 174 = .ok (.ldc2_w 94, 3) := by decide +kernel
theorem dX8_step_177 : decode cX8_step 177 = .ok (.lstore 5, 2) := by decide +kernel
theorem dX8_step_179 : decode cX8_step 179 = .ok (.lconst 1, 1) := by decide +kernel
theorem dX8_step_180 : decode cX8_step 180 = .ok (.lstore 7, 2) := by decide +kernel
theorem dX8_step_182 : decode cX8_step 182 = .ok (.iconst 0, 1) := by decide +kernel
theorem dX8_step_183 : decode cX8_step 183 = .ok (.istore 9, 2) := by decide +kernel
theorem dX8_step_185 : decode cX8_step 185 = .ok (.iload 9, 2) := by decide +kernel
theorem dX8_step_187 : decode cX8_step 187 = .ok (.iload 4, 2) := by decide +kernel
theorem dX8_step_189 : decode cX8_step 189 = .ok (.if_icmp .gt 157, 3) := by decide +kernel
theorem dX8_step_192 : decode cX8_step 192 = .ok (.aload_n 0, 1) := by decide +kernel
theorem dX8_step_193 : decode cX8_step 193 = .ok (.getfield 40, 3) := by decide +kernel
theorem dX8_step_196 : decode cX8_step 196 = .ok (.iload 9, 2) := by decide +kernel
theorem dX8_step_198 : decode cX8_step 198 = .ok (.iaload, 1) := by decide +kernel
theorem dX8_step_199 : decode cX8_step 199 = .ok (.ifCond .ne 6, 3) := by decide +kernel
theorem dX8_step_202 : decode cX8_step 202 = .ok (.goto 138, 3) := by decide +kernel
theorem dX8_step_205 : decode cX8_step 205 = .ok (.ldc2_w 94, 3) := by decide +kernel
theorem dX8_step_208 : decode cX8_step 208 = .ok (.lstore 10, 2) := by decide +kernel
theorem dX8_step_210 : decode cX8_step 210 = .ok (.lconst 1, 1) := by decide +kernel
theorem dX8_step_211 : decode cX8_step 211 = .ok (.lstore 12, 2) := by decide +kernel
theorem dX8_step_213 : decode cX8_step 213 = .ok (.lconst 0, 1) := by decide +kernel
theorem dX8_step_214 : decode cX8_step 214 = .ok (.lstore 14, 2) := by decide +kernel
theorem dX8_step_216 : decode cX8_step 216 = .ok (.lconst 0, 1) := by decide +kernel
theorem dX8_step_217 : decode cX8_step 217 = .ok (.lstore 16, 2) := by decide +kernel
theorem dX8_step_219 : decode cX8_step 219 = .ok (.iload 9, 2) := by decide +kernel
theorem dX8_step_221 : decode cX8_step 221 = .ok (.istore 18, 2) := by decide +kernel
theorem dX8_step_223 : decode cX8_step 223 = .ok (.iload 18, 2) := by decide +kernel
theorem dX8_step_225 : decode cX8_step 225 = .ok (.bipush 20, 2) := by decide +kernel
theorem dX8_step_227 : decode cX8_step 227 = .ok (.if_icmp .gt 84, 3) := by decide +kernel
theorem dX8_step_230 : decode cX8_step 230 = .ok (.lload 14, 2) := by decide +kernel
theorem dX8_step_232 : decode cX8_step 232 = .ok (.aload_n 0, 1) := by decide +kernel
theorem dX8_step_233 : decode cX8_step 233 = .ok (.getfield 43, 3) := by decide +kernel
theorem dX8_step_236 : decode cX8_step 236 = .ok (.iload 18, 2) := by decide +kernel
theorem dX8_step_238 : decode cX8_step 238 = .ok (.iaload, 1) := by decide +kernel
theorem dX8_step_239 : decode cX8_step 239 = .ok (.i2l, 1) := by decide +kernel
theorem dX8_step_240 : decode cX8_step 240 = .ok (.ladd, 1) := by decide +kernel
theorem dX8_step_241 : decode cX8_step 241 = .ok (.lstore 14, 2) := by decide +kernel
theorem dX8_step_243 : decode cX8_step 243 = .ok (.lload 16, 2) := by decide +kernel
theorem dX8_step_245 : decode cX8_step 245 = .ok (.aload_n 0, 1) := by decide +kernel
theorem dX8_step_246 : decode cX8_step 246 = .ok (.getfield 40, 3) := by decide +kernel
theorem dX8_step_249 : decode cX8_step 249 = .ok (.iload 18, 2) := by decide +kernel
theorem dX8_step_251 : decode cX8_step 251 = .ok (.iaload, 1) := by decide +kernel
theorem dX8_step_252 : decode cX8_step 252 = .ok (.i2l, 1) := by decide +kernel
theorem dX8_step_253 : decode cX8_step 253 = .ok (.ladd, 1) := by decide +kernel
theorem dX8_step_254 : decode cX8_step 254 = .ok (.lstore 16, 2) := by decide +kernel
theorem dX8_step_256 : decode cX8_step 256 = .ok (.iload 18, 2) := by decide +kernel
theorem dX8_step_258 : decode cX8_step 258 = .ok (.iload 4, 2) := by decide +kernel
theorem dX8_step_260 : decode cX8_step 260 = .ok (.if_icmp .lt 45, 3) := by decide +kernel
theorem dX8_step_263 : decode cX8_step 263 = .ok (.aload_n 0, 1) := by decide +kernel
theorem dX8_step_264 : decode cX8_step 264 = .ok (.getfield 40, 3) := by decide +kernel
theorem dX8_step_267 : decode cX8_step 267 = .ok (.iload 18, 2) := by decide +kernel
theorem dX8_step_269 : decode cX8_step 269 = .ok (.iaload, 1) := by decide +kernel
theorem dX8_step_270 : decode cX8_step 270 = .ok (.ifCond .ne 6, 3) := by decide +kernel
theorem dX8_step_273 : decode cX8_step 273 = .ok (.goto 32, 3) := by decide +kernel
theorem dX8_step_276 : decode cX8_step 276 = .ok (.lload 10, 2) := by decide +kernel
theorem dX8_step_278 : decode cX8_step 278 = .ok (.lconst 0, 1) := by decide +kernel
theorem dX8_step_279 : decode cX8_step 279 = .ok (.lcmp, 1) := by decide +kernel
theorem dX8_step_280 : decode cX8_step 280 = .ok (.ifCond .lt 17, 3) := by decide +kernel
theorem dX8_step_283 : decode cX8_step 283 = .ok (.lload 14, 2) := by decide +kernel
theorem dX8_step_285 : decode cX8_step 285 = .ok (.lload 12, 2) := by decide +kernel
theorem dX8_step_287 : decode cX8_step 287 = .ok (.lmul, 1) := by decide +kernel
theorem dX8_step_288 : decode cX8_step 288 = .ok (.lload 10, 2) := by decide +kernel
theorem dX8_step_290 : decode cX8_step 290 = .ok (.lload 16, 2) := by decide +kernel
theorem dX8_step_292 : decode cX8_step 292 = .ok (.lmul, 1) := by decide +kernel
theorem dX8_step_293 : decode cX8_step 293 = .ok (.lcmp, 1) := by decide +kernel
theorem dX8_step_294 : decode cX8_step 294 = .ok (.ifCond .ge 11, 3) := by decide +kernel
theorem dX8_step_297 : decode cX8_step 297 = .ok (.lload 14, 2) := by decide +kernel
theorem dX8_step_299 : decode cX8_step 299 = .ok (.lstore 10, 2) := by decide +kernel
theorem dX8_step_301 : decode cX8_step 301 = .ok (.lload 16, 2) := by decide +kernel
theorem dX8_step_303 : decode cX8_step 303 = .ok (.lstore 12, 2) := by decide +kernel
theorem dX8_step_305 : decode cX8_step 305 = .ok (.iinc 18 1, 3) := by decide +kernel
theorem dX8_step_308 : decode cX8_step 308 = .ok (.goto (-85), 3) := by decide +kernel
theorem dX8_step_311 : decode cX8_step 311 = .ok (.lload 5, 2) := by decide +kernel
theorem dX8_step_313 : decode cX8_step 313 = .ok (.lconst 0, 1) := by decide +kernel
theorem dX8_step_314 : decode cX8_step 314 = .ok (.lcmp, 1) := by decide +kernel
theorem dX8_step_315 : decode cX8_step 315 = .ok (.ifCond .lt 17, 3) := by decide +kernel
theorem dX8_step_318 : decode cX8_step 318 = .ok (.lload 10, 2) := by decide +kernel
theorem dX8_step_320 : decode cX8_step 320 = .ok (.lload 7, 2) := by decide +kernel
theorem dX8_step_322 : decode cX8_step 322 = .ok (.lmul, 1) := by decide +kernel
theorem dX8_step_323 : decode cX8_step 323 = .ok (.lload 5, 2) := by decide +kernel
theorem dX8_step_325 : decode cX8_step 325 = .ok (.lload 12, 2) := by decide +kernel
theorem dX8_step_327 : decode cX8_step 327 = .ok (.lmul, 1) := by decide +kernel
theorem dX8_step_328 : decode cX8_step 328 = .ok (.lcmp, 1) := by decide +kernel
theorem dX8_step_329 : decode cX8_step 329 = .ok (.ifCond .le 11, 3) := by decide +kernel
theorem dX8_step_332 : decode cX8_step 332 = .ok (.lload 10, 2) := by decide +kernel
theorem dX8_step_334 : decode cX8_step 334 = .ok (.lstore 5, 2) := by decide +kernel
theorem dX8_step_336 : decode cX8_step 336 = .ok (.lload 12, 2) := by decide +kernel
theorem dX8_step_338 : decode cX8_step 338 = .ok (.lstore 7, 2) := by decide +kernel
theorem dX8_step_340 : decode cX8_step 340 = .ok (.iinc 9 1, 3) := by decide +kernel
theorem dX8_step_343 : decode cX8_step 343 = .ok (.goto (-158), 3) := by decide +kernel
theorem dX8_step_346 : decode cX8_step 346 = .ok (.aload_n 0, 1) := by decide +kernel
theorem dX8_step_347 : decode cX8_step 347 = .ok (.lload 5, 2) := by decide +kernel
theorem dX8_step_349 : decode cX8_step 349 = .ok (.lload 7, 2) := by decide +kernel
theorem dX8_step_351 : decode cX8_step 351 = .ok (.invokevirtual 146, 3) := by decide +kernel
theorem dX8_step_354 : decode cX8_step 354 = .ok (.ireturn, 1) := by decide +kernel
set_option maxRecDepth 20000 in
theorem ggX8_blind_X8_areTwo : GoodIn wsX8_blind wsX8_areTwo := goodIn_r _ [7, 8, 9, 10, 6, 11, 12, 33, 34, 35, 36, 37, 38, 39, 40, 41, 42, 43, 44, 45, 46, 47, 48, 49, 50, 51, 52, 53, 54, 55] (by decide +kernel) (by decide +kernel)
set_option maxRecDepth 20000 in
theorem gX8_blind_X8_areTwo : GoodIn wsX8_blind (wsV RX8 133 RX8 yX8_areTwo wsX8_areTwo) := goodIn_app (goodIn_of _ (by decide +kernel)) ggX8_blind_X8_areTwo
set_option maxRecDepth 20000 in
theorem ggX8_blind_X8_refuse : GoodIn wsX8_blind wsX8_refuse := goodIn_r _ [16, 1, 33, 34, 35, 36, 37, 38, 39, 40, 41, 42, 43, 44, 45, 46, 47, 48, 49, 50, 51, 52, 53, 54, 55] (by decide +kernel) (by decide +kernel)
set_option maxRecDepth 20000 in
theorem gX8_blind_X8_refuse : GoodIn wsX8_blind (wsV RX8 99 RX8 yX8_refuse wsX8_refuse) := goodIn_app (goodIn_of _ (by decide +kernel)) ggX8_blind_X8_refuse
set_option maxRecDepth 20000 in
theorem ggX8_blind_X8_bothOf : GoodIn wsX8_blind wsX8_bothOf := goodIn_r _ [20, 21, 22, 23, 6, 24, 25, 26, 27, 28, 29, 2, 30, 31, 32, 33, 34, 35, 36, 37, 38, 39, 40, 41, 42, 43, 44, 45, 46, 47, 48, 49, 50, 51, 52, 53, 54, 55] (by decide +kernel) (by decide +kernel)
set_option maxRecDepth 20000 in
theorem gX8_blind_X8_bothOf : GoodIn wsX8_blind (wsV RX8 136 RX8 yX8_bothOf wsX8_bothOf) := goodIn_app (goodIn_of _ (by decide +kernel)) ggX8_blind_X8_bothOf
set_option maxRecDepth 20000 in
theorem ggX8_blind_X8_areBoth : GoodIn wsX8_blind wsX8_areBoth := goodIn_r _ [24, 25, 26, 27, 6, 28, 29, 2, 30, 31, 32, 33, 34, 35, 36, 37, 38, 39, 40, 41, 42, 43, 44, 45, 46, 47, 48, 49, 50, 51, 52, 53, 54, 55] (by decide +kernel) (by decide +kernel)
set_option maxRecDepth 20000 in
theorem gX8_blind_X8_areBoth : GoodIn wsX8_blind (wsV RX8 129 RX8 yX8_areBoth wsX8_areBoth) := goodIn_app (goodIn_of _ (by decide +kernel)) ggX8_blind_X8_areBoth
set_option maxRecDepth 20000 in
theorem ggX8_blind_X8_at : GoodIn wsX8_blind wsX8_at := goodIn_r _ [32] (by decide +kernel) (by decide +kernel)
set_option maxRecDepth 20000 in
theorem gX8_blind_X8_at : GoodIn wsX8_blind (va_wsS RX8 103 yX8_at wsX8_at) := goodIn_app (goodIn_of _ (by decide +kernel)) ggX8_blind_X8_at
theorem dX8_blind_0 : decode cX8_blind 0 = .ok (.aload_n 0, 1) := by decide +kernel
theorem dX8_blind_1 : decode cX8_blind 1 = .ok (.iload_n 1, 1) := by decide +kernel
theorem dX8_blind_2 : decode cX8_blind 2 = .ok (.iload_n 2, 1) := by decide +kernel
theorem dX8_blind_3 : decode cX8_blind 3 = .ok (.invokevirtual 133, 3) := by decide +kernel
theorem dX8_blind_6 : decode cX8_blind 6 = .ok (.ifCond .ne 9, 3) := by decide +kernel
theorem dX8_blind_9 : decode cX8_blind 9 = .ok (.aload_n 0, 1) := by decide +kernel
theorem dX8_blind_10 : decode cX8_blind 10 = .ok (.iconst 1, 1) := by decide +kernel
theorem dX8_blind_11 : decode cX8_blind 11 = .ok (.invokevirtual 99, 3) := by decide +kernel
theorem dX8_blind_14 : decode cX8_blind 14 = .ok (.ireturn, 1) := by decide +kernel
theorem dX8_blind_15 : decode cX8_blind 15 = .ok (.aload_n 0, 1) := by decide +kernel
theorem dX8_blind_16 : decode cX8_blind 16 = .ok (.iload_n 1, 1) := by decide +kernel
theorem dX8_blind_17 : decode cX8_blind 17 = .ok (.iload_n 2, 1) := by decide +kernel
theorem dX8_blind_18 : decode cX8_blind 18 = .ok (.invokevirtual 136, 3) := by decide +kernel
theorem dX8_blind_21 : decode cX8_blind 21 = .ok (.ifCond .ne 10, 3) := by decide +kernel
theorem dX8_blind_24 : decode cX8_blind 24 = .ok (.aload_n 0, 1) := by decide +kernel
theorem dX8_blind_25 : decode cX8_blind 25 = .ok (.bipush 6, 2) := by decide +kernel
theorem dX8_blind_27 : decode cX8_blind 27 = .ok (.invokevirtual 99, 3) := by decide +kernel
theorem dX8_blind_30 : decode cX8_blind 30 = .ok (.ireturn, 1) := by decide +kernel
theorem dX8_blind_31 : decode cX8_blind 31 = .ok (.aload_n 0, 1) := by decide +kernel
theorem dX8_blind_32 : decode cX8_blind 32 = .ok (.iconst 0, 1) := by decide +kernel
theorem dX8_blind_33 : decode cX8_blind 33 = .ok (.putfield 73, 3) := by decide +kernel
theorem dX8_blind_36 : decode cX8_blind 36 = .ok (.iconst 0, 1) := by decide +kernel
theorem dX8_blind_37 : decode cX8_blind 37 = .ok (.istore_n 3, 1) := by decide +kernel
theorem dX8_blind_38 : decode cX8_blind 38 = .ok (.iconst 0, 1) := by decide +kernel
theorem dX8_blind_39 : decode cX8_blind 39 = .ok (.istore 4, 2) := by decide +kernel
theorem dX8_blind_41 : decode cX8_blind 41 = .ok (.iload 4, 2) := by decide +kernel
theorem dX8_blind_43 : decode cX8_blind 43 = .ok (.sipush 240, 3) := by decide +kernel
theorem dX8_blind_46 : decode cX8_blind 46 = .ok (.if_icmp .ge 42, 3) := by decide +kernel
theorem dX8_blind_49 : decode cX8_blind 49 = .ok (.iload_n 3, 1) := by decide +kernel
theorem dX8_blind_50 : decode cX8_blind 50 = .ok (.aload_n 0, 1) := by decide +kernel
theorem dX8_blind_51 : decode cX8_blind 51 = .ok (.iload_n 1, 1) := by decide +kernel
theorem dX8_blind_52 : decode cX8_blind 52 = .ok (.iload_n 2, 1) := by decide +kernel
theorem dX8_blind_53 : decode cX8_blind 53 = .ok (.iload 4, 2) := by decide +kernel
theorem dX8_blind_55 : decode cX8_blind 55 = .ok (.invokevirtual 129, 3) := by decide +kernel
theorem dX8_blind_58 : decode cX8_blind 58 = .ok (.ifCond .eq 21, 3) := by decide +kernel
theorem dX8_blind_61 : decode cX8_blind 61 = .ok (.aload_n 0, 1) := by decide +kernel
theorem dX8_blind_62 : decode cX8_blind 62 = .ok (.getfield 31, 3) := by decide +kernel
theorem dX8_blind_65 : decode cX8_blind 65 = .ok (.iload_n 1, 1) := by decide +kernel
theorem dX8_blind_66 : decode cX8_blind 66 = .ok (.iload 4, 2) := by decide +kernel
theorem dX8_blind_68 : decode cX8_blind 68 = .ok (.invokestatic 103, 3) := by decide +kernel
theorem dX8_blind_71 : decode cX8_blind 71 = .ok (.iaload, 1) := by decide +kernel
theorem dX8_blind_72 : decode cX8_blind 72 = .ok (.ifCond .le 7, 3) := by decide +kernel
theorem dX8_blind_75 : decode cX8_blind 75 = .ok (.iconst 1, 1) := by decide +kernel
theorem dX8_blind_76 : decode cX8_blind 76 = .ok (.goto 4, 3) := by decide +kernel
theorem dX8_blind_79 : decode cX8_blind 79 = .ok (.iconst 0, 1) := by decide +kernel
theorem dX8_blind_80 : decode cX8_blind 80 = .ok (.iadd, 1) := by decide +kernel
theorem dX8_blind_81 : decode cX8_blind 81 = .ok (.istore_n 3, 1) := by decide +kernel
theorem dX8_blind_82 : decode cX8_blind 82 = .ok (.iinc 4 1, 3) := by decide +kernel
theorem dX8_blind_85 : decode cX8_blind 85 = .ok (.goto (-44), 3) := by decide +kernel
theorem dX8_blind_88 : decode cX8_blind 88 = .ok (.iconst 0, 1) := by decide +kernel
theorem dX8_blind_89 : decode cX8_blind 89 = .ok (.istore 4, 2) := by decide +kernel
theorem dX8_blind_91 : decode cX8_blind 91 = .ok (.iconst 1, 1) := by decide +kernel
theorem dX8_blind_92 : decode cX8_blind 92 = .ok (.istore 5, 2) := by decide +kernel
theorem dX8_blind_94 : decode cX8_blind 94 = .ok (.iload 5, 2) := by decide +kernel
theorem dX8_blind_96 : decode cX8_blind 96 = .ok (.ifCond .eq 84, 3) := by decide +kernel
theorem dX8_blind_99 : decode cX8_blind 99 = .ok (.iconst 0, 1) := by decide +kernel
theorem dX8_blind_100 : decode cX8_blind 100 = .ok (.istore 6, 2) := by decide +kernel
theorem dX8_blind_102 : decode cX8_blind 102 = .ok (.iconst 0, 1) := by decide +kernel
theorem dX8_blind_103 : decode cX8_blind 103 = .ok (.istore 7, 2) := by decide +kernel
theorem dX8_blind_105 : decode cX8_blind 105 = .ok (.iload 7, 2) := by decide +kernel
theorem dX8_blind_107 : decode cX8_blind 107 = .ok (.sipush 240, 3) := by decide +kernel
theorem dX8_blind_110 : decode cX8_blind 110 = .ok (.if_icmp .ge 46, 3) := by decide +kernel
theorem dX8_blind_113 : decode cX8_blind 113 = .ok (.iload 6, 2) := by decide +kernel
theorem dX8_blind_115 : decode cX8_blind 115 = .ok (.aload_n 0, 1) := by decide +kernel
theorem dX8_blind_116 : decode cX8_blind 116 = .ok (.iload_n 1, 1) := by decide +kernel
theorem dX8_blind_117 : decode cX8_blind 117 = .ok (.iload_n 2, 1) := by decide +kernel
theorem dX8_blind_118 : decode cX8_blind 118 = .ok (.iload 7, 2) := by decide +kernel
theorem dX8_blind_120 : decode cX8_blind 120 = .ok (.invokevirtual 129, 3) := by decide +kernel
theorem dX8_blind_123 : decode cX8_blind 123 = .ok (.ifCond .eq 23, 3) := by decide +kernel
theorem dX8_blind_126 : decode cX8_blind 126 = .ok (.aload_n 0, 1) := by decide +kernel
theorem dX8_blind_127 : decode cX8_blind 127 = .ok (.getfield 31, 3) := by decide +kernel
theorem dX8_blind_130 : decode cX8_blind 130 = .ok (.iload_n 2, 1) := by decide +kernel
theorem dX8_blind_131 : decode cX8_blind 131 = .ok (.iload 7, 2) := by decide +kernel
theorem dX8_blind_133 : decode cX8_blind 133 = .ok (.invokestatic 103, 3) := by decide +kernel
theorem dX8_blind_136 : decode cX8_blind 136 = .ok (.iaload, 1) := by decide +kernel
theorem dX8_blind_137 : decode cX8_blind 137 = .ok (.iload 4, 2) := by decide +kernel
theorem dX8_blind_139 : decode cX8_blind 139 = .ok (.if_icmp .le 7, 3) := by decide +kernel
theorem dX8_blind_142 : decode cX8_blind 142 = .ok (.iconst 1, 1) := by decide +kernel
theorem dX8_blind_143 : decode cX8_blind 143 = .ok (.goto 4, 3) := by decide +kernel
theorem dX8_blind_146 : decode cX8_blind 146 = .ok (.iconst 0, 1) := by decide +kernel
theorem dX8_blind_147 : decode cX8_blind 147 = .ok (.iadd, 1) := by decide +kernel
theorem dX8_blind_148 : decode cX8_blind 148 = .ok (.istore 6, 2) := by decide +kernel
theorem dX8_blind_150 : decode cX8_blind 150 = .ok (.iinc 7 1, 3) := by decide +kernel
theorem dX8_blind_153 : decode cX8_blind 153 = .ok (.goto (-48), 3) := by decide +kernel
theorem dX8_blind_156 : decode cX8_blind 156 = .ok (.iload 6, 2) := by decide +kernel
theorem dX8_blind_158 : decode cX8_blind 158 = .ok (.iload_n 3, 1) := by decide +kernel
theorem dX8_blind_159 : decode cX8_blind 159 = .ok (.if_icmp .le 7, 3) := by decide +kernel
theorem dX8_blind_162 : decode cX8_blind 162 = .ok (.iconst 1, 1) := by decide +kernel
theorem dX8_blind_163 : decode cX8_blind 163 = .ok (.goto 4, 3) := by decide +kernel
theorem dX8_blind_166 : decode cX8_blind 166 = .ok (.iconst 0, 1) := by decide +kernel
theorem dX8_blind_167 : decode cX8_blind 167 = .ok (.istore 5, 2) := by decide +kernel
theorem dX8_blind_169 : decode cX8_blind 169 = .ok (.iload 5, 2) := by decide +kernel
theorem dX8_blind_171 : decode cX8_blind 171 = .ok (.ifCond .eq 6, 3) := by decide +kernel
theorem dX8_blind_174 : decode cX8_blind 174 = .ok (.iinc 4 1, 3) := by decide +kernel
theorem dX8_blind_177 : decode cX8_blind 177 = .ok (.goto (-83), 3) := by decide +kernel
theorem dX8_blind_180 : decode cX8_blind 180 = .ok (.iload 4, 2) := by decide +kernel
theorem dX8_blind_182 : decode cX8_blind 182 = .ok (.ireturn, 1) := by decide +kernel
