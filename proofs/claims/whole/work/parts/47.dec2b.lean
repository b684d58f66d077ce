/-! the reference: rows that decode, as printed, 2 -/
set_option maxRecDepth 20000 in
theorem ggX9_look_X9_gather : GoodIn wsX9_look wsX9_gather := goodIn_r _ [20, 1, 21, 22, 23, 24, 25, 26, 27, 28, 29, 30, 31, 19, 32, 2, 33, 34, 35, 36, 37, 38, 39, 3, 9, 40, 41, 42, 43, 44, 45, 5, 6, 7, 8, 11, 12, 13, 46, 47, 48, 49, 50, 51, 52, 53, 54, 55, 56, 57, 58, 59, 60, 61, 62, 63, 64, 65, 66, 67, 68, 69, 70, 71, 72, 73, 74, 75, 4, 10, 88, 89, 90, 91, 92, 93, 94, 95, 96, 97, 98, 99, 100, 101, 102, 103, 104, 105, 106, 107, 108, 109, 110, 111, 112, 113, 114, 115, 116, 117, 118] (by decide +kernel) (by decide +kernel)
set_option maxRecDepth 20000 in
theorem gX9_look_X9_gather : GoodIn wsX9_look (wsV RX9 174 RX9 yX9_gather wsX9_gather) := goodIn_app (goodIn_of _ (by decide +kernel)) ggX9_look_X9_gather
set_option maxRecDepth 20000 in
theorem ggX9_look_X9_below : GoodIn wsX9_look wsX9_below := goodIn_r _ [79, 80, 81, 82, 11, 12, 7, 13, 83, 88, 89, 90, 91, 92, 93, 94, 95, 96, 97, 98, 99, 100, 101, 102, 103, 104, 105, 106, 107, 108, 109, 110, 111, 112, 113, 114, 115, 116, 117, 118] (by decide +kernel) (by decide +kernel)
set_option maxRecDepth 20000 in
theorem gX9_look_X9_below : GoodIn wsX9_look (wsV RX9 177 RX9 yX9_below wsX9_below) := goodIn_app (goodIn_of _ (by decide +kernel)) ggX9_look_X9_below
set_option maxRecDepth 20000 in
theorem ggX9_look_X9_above : GoodIn wsX9_look wsX9_above := goodIn_r _ [87, 83, 81, 82, 5, 6, 7, 8, 80, 88, 89, 90, 91, 92, 93, 94, 95, 96, 97, 98, 99, 100, 101, 102, 103, 104, 105, 106, 107, 108, 109, 110, 111, 112, 113, 114, 115, 116, 117, 118] (by decide +kernel) (by decide +kernel)
set_option maxRecDepth 20000 in
theorem gX9_look_X9_above : GoodIn wsX9_look (wsV RX9 180 RX9 yX9_above wsX9_above) := goodIn_app (goodIn_of _ (by decide +kernel)) ggX9_look_X9_above
theorem dX9_look_0 : decode cX9_look 0 = .ok (.aload_n 0, 1) := by decide +kernel
theorem dX9_look_1 : decode cX9_look 1 = .ok (.iload_n 1, 1) := by decide +kernel
theorem dX9_look_2 : decode cX9_look 2 = .ok (.invokevirtual 174, 3) := by decide +kernel
theorem dX9_look_5 : decode cX9_look 5 = .ok (.aload_n 0, 1) := by decide +kernel
theorem dX9_look_6 : decode cX9_look 6 = .ok (.getfield 165, 3) := by decide +kernel
theorem dX9_look_9 : decode cX9_look 9 = .ok (.ifCond .ne 5, 3) := by decide +kernel
theorem dX9_look_12 : decode cX9_look 12 = .ok (.iconst 0, 1) := by decide +kernel
theorem dX9_look_13 : decode cX9_look 13 = .ok (.ireturn, 1) := by decide +kernel
theorem dX9_look_14 : decode cX9_look 14 = .ok (.aload_n 0, 1) := by decide +kernel
theorem dX9_look_15 : decode cX9_look 15 = .ok (.getfield 53, 3) := by decide +kernel
theorem dX9_look_18 : decode cX9_look 18 = .ok (.iload_n 1, 1) := by decide +kernel
theorem dX9_look_19 : decode cX9_look 19 = .ok (.baload, 1) := by decide +kernel
theorem dX9_look_20 : decode cX9_look 20 = .ok (.ifCond .ne 7, 3) := by decide +kernel
theorem dX9_look_23 : decode cX9_look 23 = .ok (.iconst 1, 1) := by decide +kernel
theorem dX9_look_24 : decode cX9_look 24 = .ok (.goto 4, 3) := by decide +kernel
theorem dX9_look_27 : decode cX9_look 27 = .ok (.iconst 0, 1) := by decide +kernel
theorem dX9_look_28 : decode cX9_look 28 = .ok (.istore_n 2, 1) := by decide +kernel
theorem dX9_look_29 : decode cX9_look 29 = .ok (.iconst 0, 1) := by decide +kernel
theorem dX9_look_30 : decode cX9_look 30 = .ok (.istore_n 3, 1) := by decide +kernel
theorem dX9_look_31 : decode cX9_look 31 = .ok (.iload_n 3, 1) := by decide +kernel
theorem dX9_look_32 : decode cX9_look 32 = .ok (.bipush 6, 2) := by decide +kernel
theorem dX9_look_34 : decode cX9_look 34 = .ok (.if_icmp .ge 220, 3) := by decide +kernel
theorem dX9_look_37 : decode cX9_look 37 = .ok (.bipush 6, 2) := by decide +kernel
theorem dX9_look_39 : decode cX9_look 39 = .ok (.iload_n 1, 1) := by decide +kernel
theorem dX9_look_40 : decode cX9_look 40 = .ok (.imul, 1) := by decide +kernel
theorem dX9_look_41 : decode cX9_look 41 = .ok (.iload_n 3, 1) := by decide +kernel
theorem dX9_look_42 : decode cX9_look 42 = .ok (.iadd, 1) := by decide +kernel
theorem dX9_look_43 : decode cX9_look 43 = .ok (.istore 4, 2) := by decide +kernel
theorem dX9_look_45 : decode cX9_look 45 = .ok (.aload_n 0, 1) := by decide +kernel
theorem dX9_look_46 : decode cX9_look 46 = .ok (.getfield 53, 3) := by decide +kernel
theorem dX9_look_49 : decode cX9_look 49 = .ok (.iload_n 1, 1) := by decide +kernel
theorem dX9_look_50 : decode cX9_look 50 = .ok (.baload, 1) := by decide +kernel
theorem dX9_look_51 : decode cX9_look 51 = .ok (.ifCond .eq 22, 3) := by decide +kernel
theorem dX9_look_54 : decode cX9_look 54 = .ok (.aload_n 0, 1) := by decide +kernel
theorem dX9_look_55 : decode cX9_look 55 = .ok (.getfield 57, 3) := by decide +kernel
theorem dX9_look_58 : decode cX9_look 58 = .ok (.iload 4, 2) := by decide +kernel
theorem dX9_look_60 : decode cX9_look 60 = .ok (.iaload, 1) := by decide +kernel
theorem dX9_look_61 : decode cX9_look 61 = .ok (.aload_n 0, 1) := by decide +kernel
theorem dX9_look_62 : decode cX9_look 62 = .ok (.getfield 72, 3) := by decide +kernel
theorem dX9_look_65 : decode cX9_look 65 = .ok (.iload_n 3, 1) := by decide +kernel
theorem dX9_look_66 : decode cX9_look 66 = .ok (.iaload, 1) := by decide +kernel
theorem dX9_look_67 : decode cX9_look 67 = .ok (.invokestatic 147, 3) := by decide +kernel
theorem dX9_look_70 : decode cX9_look 70 = .ok (.goto 9, 3) := by decide +kernel
theorem dX9_look_73 : decode cX9_look 73 = .ok (.aload_n 0, 1) := by decide +kernel
theorem dX9_look_74 : decode cX9_look 74 = .ok (.getfield 72, 3) := by decide +kernel
theorem dX9_look_77 : decode cX9_look 77 = .ok (.iload_n 3, 1) := by decide +kernel
theorem dX9_look_78 : decode cX9_look 78 = .ok (.iaload, 1) := by decide +kernel
theorem dX9_look_79 : decode cX9_look 79 = .ok (.istore 5, 2) := by decide +kernel
theorem dX9_look_81 : decode cX9_look 81 = .ok (.aload_n 0, 1) := by decide +kernel
theorem dX9_look_82 : decode cX9_look 82 = .ok (.getfield 53, 3) := by decide +kernel
theorem dX9_look_85 : decode cX9_look 85 = .ok (.iload_n 1, 1) := by decide +kernel
theorem dX9_look_86 : decode cX9_look 86 = .ok (.baload, 1) := by decide +kernel
theorem dX9_look_87 : decode cX9_look 87 = .ok (.ifCond .eq 22, 3) := by decide +kernel
theorem dX9_look_90 : decode cX9_look 90 = .ok (.aload_n 0, 1) := by decide +kernel
theorem dX9_look_91 : decode cX9_look 91 = .ok (.getfield 60, 3) := by decide +kernel
theorem dX9_look_94 : decode cX9_look 94 = .ok (.iload 4, 2) := by decide +kernel
theorem dX9_look_96 : decode cX9_look 96 = .ok (.iaload, 1) := by decide +kernel
theorem dX9_look_97 : decode cX9_look 97 = .ok (.aload_n 0, 1) := by decide +kernel
theorem dX9_look_98 : decode cX9_look 98 = .ok (.getfield 75, 3) := by decide +kernel
theorem dX9_look_101 : decode cX9_look 101 = .ok (.iload_n 3, 1) := by decide +kernel
theorem dX9_look_102 : decode cX9_look 102 = .ok (.iaload, 1) := by decide +kernel
theorem dX9_look_103 : decode cX9_look 103 = .ok (.invokestatic 150, 3) := by decide +kernel
theorem dX9_look_106 : decode cX9_look 106 = .ok (.goto 9, 3) := by decide +kernel
theorem dX9_look_109 : decode cX9_look 109 = .ok (.aload_n 0, 1) := by decide +kernel
theorem dX9_look_110 : decode cX9_look 110 = .ok (.getfield 75, 3) := by decide +kernel
theorem dX9_look_113 : decode cX9_look 113 = .ok (.iload_n 3, 1) := by decide +kernel
theorem dX9_look_114 : decode cX9_look 114 = .ok (.iaload, 1) := by decide +kernel
theorem dX9_look_115 : decode cX9_look 115 = .ok (.istore 6, 2) := by decide +kernel
theorem dX9_look_117 : decode cX9_look 117 = .ok (.aload_n 0, 1) := by decide +kernel
theorem dX9_look_118 : decode cX9_look 118 = .ok (.getfield 53, 3) := by decide +kernel
theorem dX9_look_121 : decode cX9_look 121 = .ok (.iload_n 1, 1) := by decide +kernel
theorem dX9_look_122 : decode cX9_look 122 = .ok (.baload, 1) := by decide +kernel
theorem dX9_look_123 : decode cX9_look 123 = .ok (.ifCond .eq 20, 3) := by decide +kernel
theorem dX9_look_126 : decode cX9_look 126 = .ok (.aload_n 0, 1) := by decide +kernel
theorem dX9_look_127 : decode cX9_look 127 = .ok (.getfield 63, 3) := by decide +kernel
theorem dX9_look_130 : decode cX9_look 130 = .ok (.iload_n 1, 1) := by decide +kernel
theorem dX9_look_131 : decode cX9_look 131 = .ok (.iaload, 1) := by decide +kernel
theorem dX9_look_132 : decode cX9_look 132 = .ok (.aload_n 0, 1) := by decide +kernel
theorem dX9_look_133 : decode cX9_look 133 = .ok (.getfield 44, 3) := by decide +kernel
theorem dX9_look_136 : decode cX9_look 136 = .ok (.if_icmp .lt 7, 3) := by decide +kernel
theorem dX9_look_139 : decode cX9_look 139 = .ok (.iconst 1, 1) := by decide +kernel
theorem dX9_look_140 : decode cX9_look 140 = .ok (.goto 4, 3) := by decide +kernel
theorem dX9_look_143 : decode cX9_look 143 = .ok (.iconst 0, 1) := by decide +kernel
theorem dX9_look_144 : decode cX9_look 144 = .ok (.istore 7, 2) := by decide +kernel
theorem dX9_look_146 : decode cX9_look 146 = .ok (.iload 7, 2) := by decide +kernel
theorem dX9_look_148 : decode cX9_look 148 = .ok (.ifCond .eq 23, 3) := by decide +kernel
theorem dX9_look_151 : decode cX9_look 151 = .ok (.iload 5, 2) := by decide +kernel
theorem dX9_look_153 : decode cX9_look 153 = .ok (.aload_n 0, 1) := by decide +kernel
theorem dX9_look_154 : decode cX9_look 154 = .ok (.getfield 57, 3) := by decide +kernel
theorem dX9_look_157 : decode cX9_look 157 = .ok (.iload 4, 2) := by decide +kernel
theorem dX9_look_159 : decode cX9_look 159 = .ok (.iaload, 1) := by decide +kernel
theorem dX9_look_160 : decode cX9_look 160 = .ok (.if_icmp .ge 11, 3) := by decide +kernel
theorem dX9_look_163 : decode cX9_look 163 = .ok (.aload_n 0, 1) := by decide +kernel
theorem dX9_look_164 : decode cX9_look 164 = .ok (.iload 5, 2) := by decide +kernel
theorem dX9_look_166 : decode cX9_look 166 = .ok (.invokevirtual 177, 3) := by decide +kernel
theorem dX9_look_169 : decode cX9_look 169 = .ok (.istore 5, 2) := by decide +kernel
theorem dX9_look_171 : decode cX9_look 171 = .ok (.iload 7, 2) := by decide +kernel
theorem dX9_look_173 : decode cX9_look 173 = .ok (.ifCond .eq 23, 3) := by decide +kernel
theorem dX9_look_176 : decode cX9_look 176 = .ok (.iload 6, 2) := by decide +kernel
theorem dX9_look_178 : decode cX9_look 178 = .ok (.aload_n 0, 1) := by decide +kernel
theorem dX9_look_179 : decode cX9_look 179 = .ok (.getfield 60, 3) := by decide +kernel
theorem dX9_look_182 : decode cX9_look 182 = .ok (.iload 4, 2) := by decide +kernel
theorem dX9_look_184 : decode cX9_look 184 = .ok (.iaload, 1) := by decide +kernel
theorem dX9_look_185 : decode cX9_look 185 = .ok (.if_icmp .le 11, 3) := by decide +kernel
theorem dX9_look_188 : decode cX9_look 188 = .ok (.aload_n 0, 1) := by decide +kernel
theorem dX9_look_189 : decode cX9_look 189 = .ok (.iload 6, 2) := by decide +kernel
theorem dX9_look_191 : decode cX9_look 191 = .ok (.invokevirtual 180, 3) := by decide +kernel
theorem dX9_look_194 : decode cX9_look 194 = .ok (.istore 6, 2) := by decide +kernel
theorem dX9_look_196 : decode cX9_look 196 = .ok (.iload_n 2, 1) := by decide +kernel
theorem dX9_look_197 : decode cX9_look 197 = .ok (.ifCond .ne 27, 3) := by decide +kernel
theorem dX9_look_200 : decode cX9_look 200 = .ok (.iload 5, 2) := by decide +kernel
theorem dX9_look_202 : decode cX9_look 202 = .ok (.aload_n 0, 1) := by decide +kernel
theorem dX9_look_203 : decode cX9_look 203 = .ok (.getfield 57, 3) := by decide +kernel
theorem dX9_look_206 : decode cX9_look 206 = .ok (.iload 4, 2) := by decide +kernel
theorem dX9_look_208 : decode cX9_look 208 = .ok (.iaload, 1) := by decide +kernel
theorem dX9_look_209 : decode cX9_look 209 = .ok (.if_icmp .ne 15, 3) := by decide +kernel
theorem dX9_look_212 : decode cX9_look 212 = .ok (.iload 6, 2) := by decide +kernel
theorem dX9_look_214 : decode cX9_look 214 = .ok (.aload_n 0, 1) := by decide +kernel
theorem dX9_look_215 : decode cX9_look 215 = .ok (.getfield 60, 3) := by decide +kernel
theorem dX9_look_218 : decode cX9_look 218 = .ok (.iload 4, 2) := by decide +kernel
theorem dX9_look_220 : decode cX9_look 220 = .ok (.iaload, 1) := by decide +kernel
theorem dX9_look_221 : decode cX9_look 221 = .ok (.if_icmp .eq 7, 3) := by decide +kernel
theorem dX9_look_224 : decode cX9_look 224 = .ok (.iconst 1, 1) := by decide +kernel
theorem dX9_look_225 : decode cX9_look 225 = .ok (.goto 4, 3) := by decide +kernel
theorem dX9_look_228 : decode cX9_look 228 = .ok (.iconst 0, 1) := by decide +kernel
theorem dX9_look_229 : decode cX9_look 229 = .ok (.istore_n 2, 1) := by decide +kernel
theorem dX9_look_230 : decode cX9_look 230 = .ok (.aload_n 0, 1) := by decide +kernel
theorem dX9_look_231 : decode cX9_look 231 = .ok (.getfield 57, 3) := by decide +kernel
theorem dX9_look_234 : decode cX9_look 234 = .ok (.iload 4, 2) := by decide +kernel
theorem dX9_look_236 : decode cX9_look 236 = .ok (.iload 5, 2) := by decide +kernel
theorem dX9_look_238 : decode cX9_look 238 = .ok (.iastore, 1) := by decide +kernel
theorem dX9_look_239 : decode cX9_look 239 = .ok (.aload_n 0, 1) := by decide +kernel
theorem dX9_look_240 : decode cX9_look 240 = .ok (.getfield 60, 3) := by decide +kernel
theorem dX9_look_243 : decode cX9_look 243 = .ok (.iload 4, 2) := by decide +kernel
theorem dX9_look_245 : decode cX9_look 245 = .ok (.iload 6, 2) := by decide +kernel
theorem dX9_look_247 : decode cX9_look 247 = .ok (.iastore, 1) := by decide +kernel
theorem dX9_look_248 : decode cX9_look 248 = .ok (.iinc 3 1, 3) := by decide +kernel
theorem dX9_look_251 : decode cX9_look 251 = .ok (.goto (-220), 3) := by decide +kernel
theorem dX9_look_254 : decode cX9_look 254 = .ok (.aload_n 0, 1) := by decide +kernel
theorem dX9_look_255 : decode cX9_look 255 = .ok (.getfield 53, 3) := by decide +kernel
theorem dX9_look_258 : decode cX9_look 258 = .ok (.iload_n 1, 1) := by decide +kernel
theorem dX9_look_259 : decode cX9_look 259 = .ok (.iconst 1, 1) := by decide +kernel
theorem dX9_look_260 : decode cX9_look 260 = .ok (.bastore, 1) := by decide +kernel
theorem dX9_look_261 : decode cX9_look 261 = .ok (.aload_n 0, 1) := by decide +kernel
theorem dX9_look_262 : decode cX9_look 262 = .ok (.getfield 63, 3) := by decide +kernel
theorem dX9_look_265 : decode cX9_look 265 = .ok (.iload_n 1, 1) := by decide +kernel
theorem dX9_look_266 : decode cX9_look 266 = .ok (.dup2, 1) := by decide +kernel
theorem dX9_look_267 : decode cX9_look 267 = .ok (.iaload, 1) := by decide +kernel
theorem dX9_look_268 : decode cX9_look 268 = .ok (.iload_n 2, 1) := by decide +kernel
theorem dX9_look_269 : decode cX9_look 269 = .ok (.ifCond .eq 7, 3) := by decide +kernel
theorem dX9_look_272 : decode cX9_look 272 = .ok (.iconst 1, 1) := by decide +kernel
theorem dX9_look_273 : decode cX9_look 273 = .ok (.goto 4, 3) := by decide +kernel
theorem dX9_look_276 : decode cX9_look 276 = .ok (.iconst 0, 1) := by decide +kernel
theorem dX9_look_277 : decode cX9_look 277 = .ok (.iadd, 1) := by decide +kernel
theorem dX9_look_278 : decode cX9_look 278 = .ok (.iastore, 1) := by decide +kernel
theorem dX9_look_279 : decode cX9_look 279 = .ok (.iload_n 2, 1) := by decide +kernel
theorem dX9_look_280 : decode cX9_look 280 = .ok (.ireturn, 1) := by decide +kernel
set_option maxRecDepth 20000 in
theorem ggX9_narrow_X9_gather : GoodIn wsX9_narrow wsX9_gather := goodIn_r _ [18, 2, 19, 20, 21, 22, 23, 24, 25, 26, 27, 28, 29, 17, 30, 1, 31, 32, 33, 34, 35, 36, 37, 3, 9, 38, 39, 40, 41, 42, 43, 11, 12, 7, 13, 5, 6, 8, 44, 45, 46, 47, 48, 49, 50, 51, 52, 53, 54, 55, 56, 57, 58, 59, 60, 61, 62, 63, 64, 65, 66, 67, 68, 69, 70, 71, 72, 73, 4, 10, 74, 75, 76, 77, 78, 79, 80, 81, 82, 83, 84, 85, 86, 87, 88, 89, 90, 91, 92, 93, 94, 95, 96, 97, 98, 99, 100, 101, 102, 103, 104] (by decide +kernel) (by decide +kernel)
set_option maxRecDepth 20000 in
theorem gX9_narrow_X9_gather : GoodIn wsX9_narrow (wsV RX9 174 RX9 yX9_gather wsX9_gather) := goodIn_app (goodIn_of _ (by decide +kernel)) ggX9_narrow_X9_gather
theorem dX9_narrow_0 : decode cX9_narrow 0 = .ok (.aload_n 0, 1) := by decide +kernel
theorem dX9_narrow_1 : decode cX9_narrow 1 = .ok (.getfield 53, 3) := by decide +kernel
theorem dX9_narrow_4 : decode cX9_narrow 4 = .ok (.iload_n 1, 1) := by decide +kernel
theorem dX9_narrow_5 : decode cX9_narrow 5 = .ok (.baload, 1) := by decide +kernel
theorem dX9_narrow_6 : decode cX9_narrow 6 = .ok (.ifCond .ne 4, 3) := by decide +kernel
theorem dX9_narrow_9 : decode cX9_narrow 9 = .ok (.return_, 1) := by decide +kernel
theorem dX9_narrow_10 : decode cX9_narrow 10 = .ok (.aload_n 0, 1) := by decide +kernel
theorem dX9_narrow_11 : decode cX9_narrow 11 = .ok (.iload_n 1, 1) := by decide +kernel
theorem dX9_narrow_12 : decode cX9_narrow 12 = .ok (.invokevirtual 174, 3) := by decide +kernel
theorem dX9_narrow_15 : decode cX9_narrow 15 = .ok (.aload_n 0, 1) := by decide +kernel
theorem dX9_narrow_16 : decode cX9_narrow 16 = .ok (.getfield 53, 3) := by decide +kernel
theorem dX9_narrow_19 : decode cX9_narrow 19 = .ok (.iload_n 1, 1) := by decide +kernel
theorem dX9_narrow_20 : decode cX9_narrow 20 = .ok (.aload_n 0, 1) := by decide +kernel
theorem dX9_narrow_21 : decode cX9_narrow 21 = .ok (.getfield 165, 3) := by decide +kernel
theorem dX9_narrow_24 : decode cX9_narrow 24 = .ok (.bastore, 1) := by decide +kernel
theorem dX9_narrow_25 : decode cX9_narrow 25 = .ok (.iconst 0, 1) := by decide +kernel
theorem dX9_narrow_26 : decode cX9_narrow 26 = .ok (.istore_n 2, 1) := by decide +kernel
theorem dX9_narrow_27 : decode cX9_narrow 27 = .ok (.iload_n 2, 1) := by decide +kernel
theorem dX9_narrow_28 : decode cX9_narrow 28 = .ok (.bipush 6, 2) := by decide +kernel
theorem dX9_narrow_30 : decode cX9_narrow 30 = .ok (.if_icmp .ge 65, 3) := by decide +kernel
theorem dX9_narrow_33 : decode cX9_narrow 33 = .ok (.aload_n 0, 1) := by decide +kernel
theorem dX9_narrow_34 : decode cX9_narrow 34 = .ok (.getfield 165, 3) := by decide +kernel
theorem dX9_narrow_37 : decode cX9_narrow 37 = .ok (.ifCond .eq 58, 3) := by decide +kernel
theorem dX9_narrow_40 : decode cX9_narrow 40 = .ok (.bipush 6, 2) := by decide +kernel
theorem dX9_narrow_42 : decode cX9_narrow 42 = .ok (.iload_n 1, 1) := by decide +kernel
theorem dX9_narrow_43 : decode cX9_narrow 43 = .ok (.imul, 1) := by decide +kernel
theorem dX9_narrow_44 : decode cX9_narrow 44 = .ok (.iload_n 2, 1) := by decide +kernel
theorem dX9_narrow_45 : decode cX9_narrow 45 = .ok (.iadd, 1) := by decide +kernel
theorem dX9_narrow_46 : decode cX9_narrow 46 = .ok (.istore_n 3, 1) := by decide +kernel
theorem dX9_narrow_47 : decode cX9_narrow 47 = .ok (.aload_n 0, 1) := by decide +kernel
theorem dX9_narrow_48 : decode cX9_narrow 48 = .ok (.getfield 57, 3) := by decide +kernel
theorem dX9_narrow_51 : decode cX9_narrow 51 = .ok (.iload_n 3, 1) := by decide +kernel
theorem dX9_narrow_52 : decode cX9_narrow 52 = .ok (.aload_n 0, 1) := by decide +kernel
theorem dX9_narrow_53 : decode cX9_narrow 53 = .ok (.getfield 57, 3) := by decide +kernel
theorem dX9_narrow_56 : decode cX9_narrow 56 = .ok (.iload_n 3, 1) := by decide +kernel
theorem dX9_narrow_57 : decode cX9_narrow 57 = .ok (.iaload, 1) := by decide +kernel
theorem dX9_narrow_58 : decode cX9_narrow 58 = .ok (.aload_n 0, 1) := by decide +kernel
theorem dX9_narrow_59 : decode cX9_narrow 59 = .ok (.getfield 72, 3) := by decide +kernel
theorem dX9_narrow_62 : decode cX9_narrow 62 = .ok (.iload_n 2, 1) := by decide +kernel
theorem dX9_narrow_63 : decode cX9_narrow 63 = .ok (.iaload, 1) := by decide +kernel
theorem dX9_narrow_64 : decode cX9_narrow 64 = .ok (.invokestatic 150, 3) := by decide +kernel
theorem dX9_narrow_67 : decode cX9_narrow 67 = .ok (.iastore, 1) := by decide +kernel
theorem dX9_narrow_68 : decode cX9_narrow 68 = .ok (.aload_n 0, 1) := by decide +kernel
theorem dX9_narrow_69 : decode cX9_narrow 69 = .ok (.getfield 60, 3) := by decide +kernel
theorem dX9_narrow_72 : decode cX9_narrow 72 = .ok (.iload_n 3, 1) := by decide +kernel
theorem dX9_narrow_73 : decode cX9_narrow 73 = .ok (.aload_n 0, 1) := by decide +kernel
theorem dX9_narrow_74 : decode cX9_narrow 74 = .ok (.getfield 60, 3) := by decide +kernel
theorem dX9_narrow_77 : decode cX9_narrow 77 = .ok (.iload_n 3, 1) := by decide +kernel
theorem dX9_narrow_78 : decode cX9_narrow 78 = .ok (.iaload, 1) := by decide +kernel
theorem dX9_narrow_79 : decode cX9_narrow 79 = .ok (.aload_n 0, 1) := by decide +kernel
theorem dX9_narrow_80 : decode cX9_narrow 80 = .ok (.getfield 75, 3) := by decide +kernel
theorem dX9_narrow_83 : decode cX9_narrow 83 = .ok (.iload_n 2, 1) := by decide +kernel
theorem dX9_narrow_84 : decode cX9_narrow 84 = .ok (.iaload, 1) := by decide +kernel
theorem dX9_narrow_85 : decode cX9_narrow 85 = .ok (.invokestatic 147, 3) := by decide +kernel
theorem dX9_narrow_88 : decode cX9_narrow 88 = .ok (.iastore, 1) := by decide +kernel
theorem dX9_narrow_89 : decode cX9_narrow 89 = .ok (.iinc 2 1, 3) := by decide +kernel
theorem dX9_narrow_92 : decode cX9_narrow 92 = .ok (.goto (-65), 3) := by decide +kernel
theorem dX9_narrow_95 : decode cX9_narrow 95 = .ok (.return_, 1) := by decide +kernel
set_option maxRecDepth 20000 in
theorem ggX9_analyze_X9_look : GoodIn wsX9_analyze wsX9_look := goodIn_r _ [11, 12, 3, 13, 14, 15, 16, 17, 18, 19, 20, 21, 22, 23, 4, 24, 25, 26, 27, 10, 28, 5, 29, 30, 31, 32, 33, 34, 35, 36, 37, 38, 39, 40, 41, 42, 43, 44, 45, 46, 47, 48, 49, 50, 51, 52, 53, 54, 55, 56, 57, 58, 59, 60, 61, 62, 63, 64, 65, 66, 67, 68, 69, 70, 71, 72, 73, 74, 75, 76, 77, 78, 79, 80, 81, 82, 83, 84, 85, 86, 87, 88, 89, 90, 91, 92, 93, 94, 99, 100, 101, 102, 103, 104, 105, 106, 107, 108, 109, 110, 111, 112, 113, 114, 115, 116, 117, 118, 119, 120, 121, 122, 123, 124, 125, 126, 127, 128, 129] (by decide +kernel) (by decide +kernel)
set_option maxRecDepth 20000 in
theorem gX9_analyze_X9_look : GoodIn wsX9_analyze (wsV RX9 183 RX9 yX9_look wsX9_look) := goodIn_app (goodIn_of _ (by decide +kernel)) ggX9_analyze_X9_look
set_option maxRecDepth 20000 in
theorem ggX9_analyze_X9_narrow : GoodIn wsX9_analyze wsX9_narrow := goodIn_r _ [98, 3, 12, 13, 14, 21, 22, 17, 23, 19, 20, 15, 16, 18, 25, 26, 27, 10, 28, 5, 29, 30, 31, 32, 33, 34, 35, 36, 37, 38, 39, 40, 41, 42, 43, 44, 45, 46, 47, 48, 49, 50, 51, 52, 53, 54, 55, 56, 57, 58, 59, 60, 61, 62, 63, 64, 65, 66, 67, 68, 69, 70, 71, 72, 73, 74, 75, 76, 77, 78, 79, 80, 81, 82, 99, 100, 101, 102, 103, 104, 105, 106, 107, 108, 109, 110, 111, 112, 113, 114, 115, 116, 117, 118, 119, 120, 121, 122, 123, 124, 125, 126, 127, 128, 129] (by decide +kernel) (by decide +kernel)
set_option maxRecDepth 20000 in
theorem gX9_analyze_X9_narrow : GoodIn wsX9_analyze (wsV RX9 186 RX9 yX9_narrow wsX9_narrow) := goodIn_app (goodIn_of _ (by decide +kernel)) ggX9_analyze_X9_narrow
theorem dX9_analyze_0 : decode cX9_analyze 0 = .ok (.aload_n 0, 1) := by decide +kernel
theorem dX9_analyze_1 : decode cX9_analyze 1 = .ok (.iconst 0, 1) := by decide +kernel
theorem dX9_analyze_2 : decode cX9_analyze 2 = .ok (.putfield 87, 3) := by decide +kernel
theorem dX9_analyze_5 : decode cX9_analyze 5 = .ok (.aload_n 0, 1) := by decide +kernel
theorem dX9_analyze_6 : decode cX9_analyze 6 = .ok (.iconst 1, 1) := by decide +kernel
theorem dX9_analyze_7 : decode cX9_analyze 7 = .ok (.putfield 96, 3) := by decide +kernel
theorem dX9_analyze_10 : decode cX9_analyze 10 = .ok (.iconst 0, 1) := by decide +kernel
theorem dX9_analyze_11 : decode cX9_analyze 11 = .ok (.istore_n 1, 1) := by decide +kernel
theorem dX9_analyze_12 : decode cX9_analyze 12 = .ok (.iload_n 1, 1) := by decide +kernel
theorem dX9_analyze_13 : decode cX9_analyze 13 = .ok (.bipush 16, 2) := by decide +kernel
theorem dX9_analyze_15 : decode cX9_analyze 15 = .ok (.if_icmp .ge 23, 3) := by decide +kernel
theorem dX9_analyze_18 : decode cX9_analyze 18 = .ok (.aload_n 0, 1) := by decide +kernel
theorem dX9_analyze_19 : decode cX9_analyze 19 = .ok (.getfield 53, 3) := by decide +kernel
theorem dX9_analyze_22 : decode cX9_analyze 22 = .ok (.iload_n 1, 1) := by decide +kernel
theorem dX9_analyze_23 : decode cX9_analyze 23 = .ok (.iconst 0, 1) := by decide +kernel
theorem dX9_analyze_24 : decode cX9_analyze 24 = .ok (.bastore, 1) := by decide +kernel
theorem dX9_analyze_25 : decode cX9_analyze 25 = .ok (.aload_n 0, 1) := by decide +kernel
theorem dX9_analyze_26 : decode cX9_analyze 26 = .ok (.getfield 63, 3) := by decide +kernel
theorem dX9_analyze_29 : decode cX9_analyze 29 = .ok (.iload_n 1, 1) := by decide +kernel
theorem dX9_analyze_30 : decode cX9_analyze 30 = .ok (.iconst 0, 1) := by decide +kernel
theorem dX9_analyze_31 : decode cX9_analyze 31 = .ok (.iastore, 1) := by decide +kernel
theorem dX9_analyze_32 : decode cX9_analyze 32 = .ok (.iinc 1 1, 3) := by decide +kernel
theorem dX9_analyze_35 : decode cX9_analyze 35 = .ok (.goto (-23), 3) := by decide +kernel
theorem dX9_analyze_38 : decode cX9_analyze 38 = .ok (.iconst 0, 1) := by decide +kernel
theorem dX9_analyze_39 : decode cX9_analyze 39 = .ok (.istore_n 1, 1) := by decide +kernel
theorem dX9_analyze_40 : decode cX9_analyze 40 = .ok (.iconst 1, 1) := by decide +kernel
theorem dX9_analyze_41 : decode cX9_analyze 41 = .ok (.istore_n 2, 1) := by decide +kernel
theorem dX9_analyze_42 : decode cX9_analyze 42 = .ok (.iload_n 2, 1) := by decide +kernel
theorem dX9_analyze_43 : decode cX9_analyze 43 = .ok (.ifCond .eq 45, 3) := by decide +kernel
theorem dX9_analyze_46 : decode cX9_analyze 46 = .ok (.iconst 0, 1) := by decide +kernel
theorem dX9_analyze_47 : decode cX9_analyze 47 = .ok (.istore_n 2, 1) := by decide +kernel
theorem dX9_analyze_48 : decode cX9_analyze 48 = .ok (.iinc 1 1, 3) := by decide +kernel
theorem dX9_analyze_51 : decode cX9_analyze 51 = .ok (.iconst 0, 1) := by decide +kernel
theorem dX9_analyze_52 : decode cX9_analyze 52 = .ok (.istore_n 3, 1) := by decide +kernel
theorem dX9_analyze_53 : decode cX9_analyze 53 = .ok (.iload_n 3, 1) := by decide +kernel
theorem dX9_analyze_54 : decode cX9_analyze 54 = .ok (.aload_n 0, 1) := by decide +kernel
theorem dX9_analyze_55 : decode cX9_analyze 55 = .ok (.getfield 7, 3) := by decide +kernel
theorem dX9_analyze_58 : decode cX9_analyze 58 = .ok (.if_icmp .ge 27, 3) := by decide +kernel
theorem dX9_analyze_61 : decode cX9_analyze 61 = .ok (.aload_n 0, 1) := by decide +kernel
theorem dX9_analyze_62 : decode cX9_analyze 62 = .ok (.iload_n 3, 1) := by decide +kernel
theorem dX9_analyze_63 : decode cX9_analyze 63 = .ok (.invokevirtual 183, 3) := by decide +kernel
theorem dX9_analyze_66 : decode cX9_analyze 66 = .ok (.ifCond .ne 7, 3) := by decide +kernel
theorem dX9_analyze_69 : decode cX9_analyze 69 = .ok (.iload_n 2, 1) := by decide +kernel
theorem dX9_analyze_70 : decode cX9_analyze 70 = .ok (.ifCond .eq 7, 3) := by decide +kernel
theorem dX9_analyze_73 : decode cX9_analyze 73 = .ok (.iconst 1, 1) := by decide +kernel
theorem dX9_analyze_74 : decode cX9_analyze 74 = .ok (.goto 4, 3) := by decide +kernel
theorem dX9_analyze_77 : decode cX9_analyze 77 = .ok (.iconst 0, 1) := by decide +kernel
theorem dX9_analyze_78 : decode cX9_analyze 78 = .ok (.istore_n 2, 1) := by decide +kernel
theorem dX9_analyze_79 : decode cX9_analyze 79 = .ok (.iinc 3 1, 3) := by decide +kernel
theorem dX9_analyze_82 : decode cX9_analyze 82 = .ok (.goto (-29), 3) := by decide +kernel
theorem dX9_analyze_85 : decode cX9_analyze 85 = .ok (.goto (-43), 3) := by decide +kernel
theorem dX9_analyze_88 : decode cX9_analyze 88 = .ok (.iconst 0, 1) := by decide +kernel
theorem dX9_analyze_89 : decode cX9_analyze 89 = .ok (.istore_n 3, 1) := by decide +kernel
theorem dX9_analyze_90 : decode cX9_analyze 90 = .ok (.iload_n 3, 1) := by decide +kernel
theorem dX9_analyze_91 : decode cX9_analyze 91 = .ok (.aload_n 0, 1) := by decide +kernel
theorem dX9_analyze_92 : decode cX9_analyze 92 = .ok (.getfield 47, 3) := by decide +kernel
theorem dX9_analyze_95 : decode cX9_analyze 95 = .ok (.if_icmp .ge 33, 3) := by decide +kernel
theorem dX9_analyze_98 : decode cX9_analyze 98 = .ok (.iconst 0, 1) := by decide +kernel
theorem dX9_analyze_99 : decode cX9_analyze 99 = .ok (.istore 4, 2) := by decide +kernel
theorem dX9_analyze_101 : decode cX9_analyze 101 = .ok (.iload 4, 2) := by decide +kernel
theorem dX9_analyze_103 : decode cX9_analyze 103 = .ok (.aload_n 0, 1) := by decide +kernel
theorem dX9_analyze_104 : decode cX9_analyze 104 = .ok (.getfield 7, 3) := by decide +kernel
theorem dX9_analyze_107 : decode cX9_analyze 107 = .ok (.if_icmp .ge 15, 3) := by decide +kernel
theorem dX9_analyze_110 : decode cX9_analyze 110 = .ok (.aload_n 0, 1) := by decide +kernel
theorem dX9_analyze_111 : decode cX9_analyze 111 = .ok (.iload 4, 2) := by decide +kernel
theorem dX9_analyze_113 : decode cX9_analyze 113 = .ok (.invokevirtual 186, 3) := by decide +kernel
theorem dX9_analyze_116 : decode cX9_analyze 116 = .ok (.iinc 4 1, 3) := by decide +kernel
theorem dX9_analyze_119 : decode cX9_analyze 119 = .ok (.goto (-18), 3) := by decide +kernel
theorem dX9_analyze_122 : decode cX9_analyze 122 = .ok (.iinc 3 1, 3) := by decide +kernel
theorem dX9_analyze_125 : decode cX9_analyze 125 = .ok (.goto (-35), 3) := by decide +kernel
theorem dX9_analyze_128 : decode cX9_analyze 128 = .ok (.iload_n 1, 1) := by decide +kernel
theorem dX9_analyze_129 : decode cX9_analyze 129 = .ok (.ireturn, 1) := by decide +kernel
theorem dX9_isAnalyzed_0 : decode cX9_isAnalyzed 0 = .ok (.aload_n 0, 1) := by decide +kernel
theorem dX9_isAnalyzed_1 : decode cX9_isAnalyzed 1 = .ok (.iconst 0, 1) := by decide +kernel
theorem dX9_isAnalyzed_2 : decode cX9_isAnalyzed 2 = .ok (.putfield 87, 3) := by decide +kernel
theorem dX9_isAnalyzed_5 : decode cX9_isAnalyzed 5 = .ok (.aload_n 0, 1) := by decide +kernel
theorem dX9_isAnalyzed_6 : decode cX9_isAnalyzed 6 = .ok (.getfield 96, 3) := by decide +kernel
theorem dX9_isAnalyzed_9 : decode cX9_isAnalyzed 9 = .ok (.ireturn, 1) := by decide +kernel
set_option maxRecDepth 20000 in
theorem ggX9_isReachable_X9_isBlock : GoodIn wsX9_isReachable wsX9_isBlock := goodIn_r _ [8, 9, 10, 11, 12, 13, 14, 15, 16, 17, 18, 19, 20, 21, 22, 23, 24, 25, 26, 27, 28, 29, 30, 31, 32, 33, 34, 35, 36, 37, 38, 39, 40] (by decide +kernel) (by decide +kernel)
set_option maxRecDepth 20000 in
theorem gX9_isReachable_X9_isBlock : GoodIn wsX9_isReachable (wsV RX9 108 RX9 yX9_isBlock wsX9_isBlock) := goodIn_app (goodIn_of _ (by decide +kernel)) ggX9_isReachable_X9_isBlock
theorem dX9_isReachable_0 : decode cX9_isReachable 0 = .ok (.aload_n 0, 1) := by decide +kernel
theorem dX9_isReachable_1 : decode cX9_isReachable 1 = .ok (.aload_n 0, 1) := by decide +kernel
theorem dX9_isReachable_2 : decode cX9_isReachable 2 = .ok (.getfield 96, 3) := by decide +kernel
theorem dX9_isReachable_5 : decode cX9_isReachable 5 = .ok (.ifCond .ne 7, 3) := by decide +kernel
theorem dX9_isReachable_8 : decode cX9_isReachable 8 = .ok (.iconst 1, 1) := by decide +kernel
theorem dX9_isReachable_9 : decode cX9_isReachable 9 = .ok (.goto 16, 3) := by decide +kernel
theorem dX9_isReachable_12 : decode cX9_isReachable 12 = .ok (.aload_n 0, 1) := by decide +kernel
theorem dX9_isReachable_13 : decode cX9_isReachable 13 = .ok (.iload_n 1, 1) := by decide +kernel
theorem dX9_isReachable_14 : decode cX9_isReachable 14 = .ok (.invokevirtual 108, 3) := by decide +kernel
theorem dX9_isReachable_17 : decode cX9_isReachable 17 = .ok (.ifCond .ne 7, 3) := by decide +kernel
theorem dX9_isReachable_20 : decode cX9_isReachable 20 = .ok (.iconst 2, 1) := by decide +kernel
theorem dX9_isReachable_21 : decode cX9_isReachable 21 = .ok (.goto 4, 3) := by decide +kernel
theorem dX9_isReachable_24 : decode cX9_isReachable 24 = .ok (.iconst 0, 1) := by decide +kernel
theorem dX9_isReachable_25 : decode cX9_isReachable 25 = .ok (.putfield 87, 3) := by decide +kernel
theorem dX9_isReachable_28 : decode cX9_isReachable 28 = .ok (.aload_n 0, 1) := by decide +kernel
theorem dX9_isReachable_29 : decode cX9_isReachable 29 = .ok (.getfield 87, 3) := by decide +kernel
theorem dX9_isReachable_32 : decode cX9_isReachable 32 = .ok (.ifCond .ne 16, 3) := by decide +kernel
theorem dX9_isReachable_35 : decode cX9_isReachable 35 = .ok (.aload_n 0, 1) := by decide +kernel
theorem dX9_isReachable_36 : decode cX9_isReachable 36 = .ok (.getfield 53, 3) := by decide +kernel
theorem dX9_isReachable_39 : decode cX9_isReachable 39 = .ok (.iload_n 1, 1) := by decide +kernel
theorem dX9_isReachable_40 : decode cX9_isReachable 40 = .ok (.baload, 1) := by decide +kernel
theorem dX9_isReachable_41 : decode cX9_isReachable 41 = .ok (.ifCond .eq 7, 3) := by decide +kernel
theorem dX9_isReachable_44 : decode cX9_isReachable 44 = .ok (.iconst 1, 1) := by decide +kernel
theorem dX9_isReachable_45 : decode cX9_isReachable 45 = .ok (.goto 4, 3) := by decide +kernel
theorem dX9_isReachable_48 : decode cX9_isReachable 48 = .ok (.iconst 0, 1) := by decide +kernel
theorem dX9_isReachable_49 : decode cX9_isReachable 49 = .ok (.ireturn, 1) := by decide +kernel
set_option maxRecDepth 20000 in
theorem ggX9_asks_X9_isBlock : GoodIn wsX9_asks wsX9_isBlock := goodIn_r _ [8, 9, 13, 14, 15, 16, 17, 18, 19, 20, 21, 22, 23, 24, 25, 26, 27, 28, 29, 30, 31, 32, 33, 34, 35, 36, 37, 38, 39, 40, 41, 42, 43] (by decide +kernel) (by decide +kernel)
set_option maxRecDepth 20000 in
theorem gX9_asks_X9_isBlock : GoodIn wsX9_asks (wsV RX9 108 RX9 yX9_isBlock wsX9_isBlock) := goodIn_app (goodIn_of _ (by decide +kernel)) ggX9_asks_X9_isBlock
set_option maxRecDepth 20000 in
theorem ggX9_asks_X9_isVariable : GoodIn wsX9_asks wsX9_isVariable := goodIn_r _ [12] (by decide +kernel) (by decide +kernel)
set_option maxRecDepth 20000 in
theorem gX9_asks_X9_isVariable : GoodIn wsX9_asks (va_wsS RX9 100 yX9_isVariable wsX9_isVariable) := goodIn_app (goodIn_of _ (by decide +kernel)) ggX9_asks_X9_isVariable
theorem dX9_asks_0 : decode cX9_asks 0 = .ok (.aload_n 0, 1) := by decide +kernel
theorem dX9_asks_1 : decode cX9_asks 1 = .ok (.aload_n 0, 1) := by decide +kernel
theorem dX9_asks_2 : decode cX9_asks 2 = .ok (.getfield 96, 3) := by decide +kernel
theorem dX9_asks_5 : decode cX9_asks 5 = .ok (.ifCond .ne 7, 3) := by decide +kernel
theorem dX9_asks_8 : decode cX9_asks 8 = .ok (.iconst 1, 1) := by decide +kernel
theorem dX9_asks_9 : decode cX9_asks 9 = .ok (.goto 36, 3) := by decide +kernel
theorem dX9_asks_12 : decode cX9_asks 12 = .ok (.aload_n 0, 1) := by decide +kernel
theorem dX9_asks_13 : decode cX9_asks 13 = .ok (.iload_n 1, 1) := by decide +kernel
theorem dX9_asks_14 : decode cX9_asks 14 = .ok (.invokevirtual 108, 3) := by decide +kernel
theorem dX9_asks_17 : decode cX9_asks 17 = .ok (.ifCond .eq 10, 3) := by decide +kernel
theorem dX9_asks_20 : decode cX9_asks 20 = .ok (.iload_n 2, 1) := by decide +kernel
theorem dX9_asks_21 : decode cX9_asks 21 = .ok (.invokestatic 100, 3) := by decide +kernel
theorem dX9_asks_24 : decode cX9_asks 24 = .ok (.ifCond .ne 7, 3) := by decide +kernel
theorem dX9_asks_27 : decode cX9_asks 27 = .ok (.iconst 2, 1) := by decide +kernel
theorem dX9_asks_28 : decode cX9_asks 28 = .ok (.goto 17, 3) := by decide +kernel
theorem dX9_asks_31 : decode cX9_asks 31 = .ok (.aload_n 0, 1) := by decide +kernel
theorem dX9_asks_32 : decode cX9_asks 32 = .ok (.getfield 53, 3) := by decide +kernel
theorem dX9_asks_35 : decode cX9_asks 35 = .ok (.iload_n 1, 1) := by decide +kernel
theorem dX9_asks_36 : decode cX9_asks 36 = .ok (.baload, 1) := by decide +kernel
theorem dX9_asks_37 : decode cX9_asks 37 = .ok (.ifCond .ne 7, 3) := by decide +kernel
theorem dX9_asks_40 : decode cX9_asks 40 = .ok (.iconst 3, 1) := by decide +kernel
theorem dX9_asks_41 : decode cX9_asks 41 = .ok (.goto 4, 3) := by decide +kernel
theorem dX9_asks_44 : decode cX9_asks 44 = .ok (.iconst 0, 1) := by decide +kernel
theorem dX9_asks_45 : decode cX9_asks 45 = .ok (.putfield 87, 3) := by decide +kernel
theorem dX9_asks_48 : decode cX9_asks 48 = .ok (.aload_n 0, 1) := by decide +kernel
theorem dX9_asks_49 : decode cX9_asks 49 = .ok (.getfield 87, 3) := by decide +kernel
theorem dX9_asks_52 : decode cX9_asks 52 = .ok (.ifCond .ne 7, 3) := by decide +kernel
theorem dX9_asks_55 : decode cX9_asks 55 = .ok (.iconst 1, 1) := by decide +kernel
theorem dX9_asks_56 : decode cX9_asks 56 = .ok (.goto 4, 3) := by decide +kernel
theorem dX9_asks_59 : decode cX9_asks 59 = .ok (.iconst 0, 1) := by decide +kernel
theorem dX9_asks_60 : decode cX9_asks 60 = .ok (.ireturn, 1) := by decide +kernel
set_option maxRecDepth 20000 in
theorem ggX9_entry_X9_asks : GoodIn wsX9_entry wsX9_asks := goodIn_r _ [7, 8, 9, 10, 11, 12, 13, 6, 14, 15, 16, 17, 18, 19, 20, 21, 22, 23, 24, 25, 26, 27, 28, 29, 30, 31, 32, 33, 34, 35, 36, 37, 38, 39, 40, 41, 42, 43, 44, 45, 46, 47, 48, 49] (by decide +kernel) (by decide +kernel)
set_option maxRecDepth 20000 in
theorem gX9_entry_X9_asks : GoodIn wsX9_entry (wsV RX9 189 RX9 yX9_asks wsX9_asks) := goodIn_app (goodIn_of _ (by decide +kernel)) ggX9_entry_X9_asks
theorem dX9_entry_0 : decode cX9_entry 0 = .ok (.aload_n 0, 1) := by decide +kernel
theorem dX9_entry_1 : decode cX9_entry 1 = .ok (.iload_n 1, 1) := by decide +kernel
theorem dX9_entry_2 : decode cX9_entry 2 = .ok (.iload_n 2, 1) := by decide +kernel
theorem dX9_entry_3 : decode cX9_entry 3 = .ok (.invokevirtual 189, 3) := by decide +kernel
theorem dX9_entry_6 : decode cX9_entry 6 = .ok (.ifCond .ne 5, 3) := by decide +kernel
theorem dX9_entry_9 : decode cX9_entry 9 = .ok (.iconst 0, 1) := by decide +kernel
theorem dX9_entry_10 : decode cX9_entry 10 = .ok (.ireturn, 1) := by decide +kernel
theorem dX9_entry_11 : decode cX9_entry 11 = .ok (.iload_n 3, 1) := by decide +kernel
theorem dX9_entry_12 : decode cX9_entry 12 = .ok (.ifCond .eq 17, 3) := by decide +kernel
theorem dX9_entry_15 : decode cX9_entry 15 = .ok (.aload_n 0, 1) := by decide +kernel
theorem dX9_entry_16 : decode cX9_entry 16 = .ok (.getfield 60, 3) := by decide +kernel
theorem dX9_entry_19 : decode cX9_entry 19 = .ok (.bipush 6, 2) := by decide +kernel
theorem dX9_entry_21 : decode cX9_entry 21 = .ok (.iload_n 1, 1) := by decide +kernel
theorem dX9_entry_22 : decode cX9_entry 22 = .ok (.imul, 1) := by decide +kernel
theorem dX9_entry_23 : decode cX9_entry 23 = .ok (.iload_n 2, 1) := by decide +kernel
theorem dX9_entry_24 : decode cX9_entry 24 = .ok (.iadd, 1) := by decide +kernel
theorem dX9_entry_25 : decode cX9_entry 25 = .ok (.iaload, 1) := by decide +kernel
theorem dX9_entry_26 : decode cX9_entry 26 = .ok (.goto 14, 3) := by decide +kernel
theorem dX9_entry_29 : decode cX9_entry 29 = .ok (.aload_n 0, 1) := by decide +kernel
theorem dX9_entry_30 : decode cX9_entry 30 = .ok (.getfield 57, 3) := by decide +kernel
theorem dX9_entry_33 : decode cX9_entry 33 = .ok (.bipush 6, 2) := by decide +kernel
theorem dX9_entry_35 : decode cX9_entry 35 = .ok (.iload_n 1, 1) := by decide +kernel
theorem dX9_entry_36 : decode cX9_entry 36 = .ok (.imul, 1) := by decide +kernel
theorem dX9_entry_37 : decode cX9_entry 37 = .ok (.iload_n 2, 1) := by decide +kernel
theorem dX9_entry_38 : decode cX9_entry 38 = .ok (.iadd, 1) := by decide +kernel
theorem dX9_entry_39 : decode cX9_entry 39 = .ok (.iaload, 1) := by decide +kernel
theorem dX9_entry_40 : decode cX9_entry 40 = .ok (.ireturn, 1) := by decide +kernel
set_option maxRecDepth 20000 in
theorem ggX9_exit_X9_asks : GoodIn wsX9_exit wsX9_asks := goodIn_r _ [7, 8, 9, 10, 11, 12, 13, 6, 14, 15, 16, 17, 18, 57, 58, 59, 60, 61, 62, 63, 64, 65, 66, 67, 68, 69, 70, 71, 72, 73, 74, 75, 76, 77, 78, 79, 80, 81, 82, 83, 84, 85, 86, 87] (by decide +kernel) (by decide +kernel)
set_option maxRecDepth 20000 in
theorem gX9_exit_X9_asks : GoodIn wsX9_exit (wsV RX9 189 RX9 yX9_asks wsX9_asks) := goodIn_app (goodIn_of _ (by decide +kernel)) ggX9_exit_X9_asks
set_option maxRecDepth 20000 in
theorem ggX9_exit_X9_leave : GoodIn wsX9_exit wsX9_leave := goodIn_r _ [22, 2, 23, 1, 24, 25, 26, 27, 28, 6, 29, 30, 31, 32, 33, 34, 35, 36, 37, 38, 39, 40, 41, 42, 43, 44, 45, 46, 47, 48, 49, 50, 51, 52, 53, 54, 55, 56, 57, 58, 59, 60, 61, 62, 63, 64, 65, 66, 67, 68, 69, 70, 71, 72, 73, 74, 75, 76, 77, 78, 79, 80, 81, 82, 83, 84, 85, 86, 87] (by decide +kernel) (by decide +kernel)
set_option maxRecDepth 20000 in
theorem gX9_exit_X9_leave : GoodIn wsX9_exit (wsV RX9 156 RX9 yX9_leave wsX9_leave) := goodIn_app (goodIn_of _ (by decide +kernel)) ggX9_exit_X9_leave
theorem dX9_exit_0 : decode cX9_exit 0 = .ok (.aload_n 0, 1) := by decide +kernel
theorem dX9_exit_1 : decode cX9_exit 1 = .ok (.iload_n 1, 1) := by decide +kernel
theorem dX9_exit_2 : decode cX9_exit 2 = .ok (.iload_n 2, 1) := by decide +kernel
theorem dX9_exit_3 : decode cX9_exit 3 = .ok (.invokevirtual 189, 3) := by decide +kernel
theorem dX9_exit_6 : decode cX9_exit 6 = .ok (.ifCond .ne 5, 3) := by decide +kernel
theorem dX9_exit_9 : decode cX9_exit 9 = .ok (.iconst 0, 1) := by decide +kernel
theorem dX9_exit_10 : decode cX9_exit 10 = .ok (.ireturn, 1) := by decide +kernel
theorem dX9_exit_11 : decode cX9_exit 11 = .ok (.aload_n 0, 1) := by decide +kernel
theorem dX9_exit_12 : decode cX9_exit 12 = .ok (.iload_n 1, 1) := by decide +kernel
theorem dX9_exit_13 : decode cX9_exit 13 = .ok (.invokevirtual 156, 3) := by decide +kernel
theorem dX9_exit_16 : decode cX9_exit 16 = .ok (.iload_n 3, 1) := by decide +kernel
theorem dX9_exit_17 : decode cX9_exit 17 = .ok (.ifCond .eq 12, 3) := by decide +kernel
theorem dX9_exit_20 : decode cX9_exit 20 = .ok (.aload_n 0, 1) := by decide +kernel
theorem dX9_exit_21 : decode cX9_exit 21 = .ok (.getfield 69, 3) := by decide +kernel
theorem dX9_exit_24 : decode cX9_exit 24 = .ok (.iload_n 2, 1) := by decide +kernel
theorem dX9_exit_25 : decode cX9_exit 25 = .ok (.iaload, 1) := by decide +kernel
theorem dX9_exit_26 : decode cX9_exit 26 = .ok (.goto 9, 3) := by decide +kernel
theorem dX9_exit_29 : decode cX9_exit 29 = .ok (.aload_n 0, 1) := by decide +kernel
theorem dX9_exit_30 : decode cX9_exit 30 = .ok (.getfield 66, 3) := by decide +kernel
theorem dX9_exit_33 : decode cX9_exit 33 = .ok (.iload_n 2, 1) := by decide +kernel
theorem dX9_exit_34 : decode cX9_exit 34 = .ok (.iaload, 1) := by decide +kernel
theorem dX9_exit_35 : decode cX9_exit 35 = .ok (.ireturn, 1) := by decide +kernel
set_option maxRecDepth 20000 in
theorem ggX9_isDead_X9_isBlock : GoodIn wsX9_isDead wsX9_isBlock := goodIn_r _ [8, 9, 65, 66, 67, 68, 69, 70, 71, 72, 73, 74, 75, 76, 77, 78, 79, 80, 81, 82, 83, 84, 85, 86, 87, 88, 89, 90, 91, 92, 93, 94, 95] (by decide +kernel) (by decide +kernel)
set_option maxRecDepth 20000 in
theorem gX9_isDead_X9_isBlock : GoodIn wsX9_isDead (wsV RX9 108 RX9 yX9_isBlock wsX9_isBlock) := goodIn_app (goodIn_of _ (by decide +kernel)) ggX9_isDead_X9_isBlock
set_option maxRecDepth 20000 in
theorem ggX9_isDead_X9_reach : GoodIn wsX9_isDead wsX9_reach := goodIn_r _ [13, 14, 2, 15, 16, 17, 18, 19, 20, 21, 22, 7, 23, 24, 25, 26, 27, 28, 29, 30, 31, 32, 33, 34, 35, 36, 37, 38, 39, 40, 41, 42, 43, 44, 45, 46, 47, 48, 49, 50, 51, 52, 53, 54, 55, 56, 57, 58, 59, 60, 61, 62, 63, 64, 65, 66, 67, 68, 69, 70, 71, 72, 73, 74, 75, 76, 77, 78, 79, 80, 81, 82, 83, 84, 85, 86, 87, 88, 89, 90, 91, 92, 93, 94, 95] (by decide +kernel) (by decide +kernel)
set_option maxRecDepth 20000 in
theorem gX9_isDead_X9_reach : GoodIn wsX9_isDead (wsV RX9 168 RX9 yX9_reach wsX9_reach) := goodIn_app (goodIn_of _ (by decide +kernel)) ggX9_isDead_X9_reach
theorem dX9_isDead_0 : decode cX9_isDead 0 = .ok (.aload_n 0, 1) := by decide +kernel
theorem dX9_isDead_1 : decode cX9_isDead 1 = .ok (.aload_n 0, 1) := by decide +kernel
theorem dX9_isDead_2 : decode cX9_isDead 2 = .ok (.getfield 96, 3) := by decide +kernel
theorem dX9_isDead_5 : decode cX9_isDead 5 = .ok (.ifCond .ne 7, 3) := by decide +kernel
theorem dX9_isDead_8 : decode cX9_isDead 8 = .ok (.iconst 1, 1) := by decide +kernel
theorem dX9_isDead_9 : decode cX9_isDead 9 = .ok (.goto 30, 3) := by decide +kernel
theorem dX9_isDead_12 : decode cX9_isDead 12 = .ok (.aload_n 0, 1) := by decide +kernel
theorem dX9_isDead_13 : decode cX9_isDead 13 = .ok (.iload_n 1, 1) := by decide +kernel
theorem dX9_isDead_14 : decode cX9_isDead 14 = .ok (.invokevirtual 108, 3) := by decide +kernel
theorem dX9_isDead_17 : decode cX9_isDead 17 = .ok (.ifCond .eq 17, 3) := by decide +kernel
theorem dX9_isDead_20 : decode cX9_isDead 20 = .ok (.iload_n 2, 1) := by decide +kernel
theorem dX9_isDead_21 : decode cX9_isDead 21 = .ok (.ifCond .lt 13, 3) := by decide +kernel
theorem dX9_isDead_24 : decode cX9_isDead 24 = .ok (.iload_n 2, 1) := by decide +kernel
theorem dX9_isDead_25 : decode cX9_isDead 25 = .ok (.aload_n 0, 1) := by decide +kernel
theorem dX9_isDead_26 : decode cX9_isDead 26 = .ok (.getfield 20, 3) := by decide +kernel
theorem dX9_isDead_29 : decode cX9_isDead 29 = .ok (.iload_n 1, 1) := by decide +kernel
theorem dX9_isDead_30 : decode cX9_isDead 30 = .ok (.iaload, 1) := by decide +kernel
theorem dX9_isDead_31 : decode cX9_isDead 31 = .ok (.if_icmp .lt 7, 3) := by decide +kernel
theorem dX9_isDead_34 : decode cX9_isDead 34 = .ok (.iconst 2, 1) := by decide +kernel
theorem dX9_isDead_35 : decode cX9_isDead 35 = .ok (.goto 4, 3) := by decide +kernel
theorem dX9_isDead_38 : decode cX9_isDead 38 = .ok (.iconst 0, 1) := by decide +kernel
theorem dX9_isDead_39 : decode cX9_isDead 39 = .ok (.putfield 87, 3) := by decide +kernel
theorem dX9_isDead_42 : decode cX9_isDead 42 = .ok (.aload_n 0, 1) := by decide +kernel
theorem dX9_isDead_43 : decode cX9_isDead 43 = .ok (.getfield 87, 3) := by decide +kernel
theorem dX9_isDead_46 : decode cX9_isDead 46 = .ok (.ifCond .ne 16, 3) := by decide +kernel
theorem dX9_isDead_49 : decode cX9_isDead 49 = .ok (.aload_n 0, 1) := by decide +kernel
theorem dX9_isDead_50 : decode cX9_isDead 50 = .ok (.iload_n 1, 1) := by decide +kernel
theorem dX9_isDead_51 : decode cX9_isDead 51 = .ok (.iload_n 2, 1) := by decide +kernel
theorem dX9_isDead_52 : decode cX9_isDead 52 = .ok (.invokevirtual 168, 3) := by decide +kernel
theorem dX9_isDead_55 : decode cX9_isDead 55 = .ok (.ifCond .ne 7, 3) := by decide +kernel
theorem dX9_isDead_58 : decode cX9_isDead 58 = .ok (.iconst 1, 1) := by decide +kernel
theorem dX9_isDead_59 : decode cX9_isDead 59 = .ok (.goto 4, 3) := by decide +kernel
theorem dX9_isDead_62 : decode cX9_isDead 62 = .ok (.iconst 0, 1) := by decide +kernel
theorem dX9_isDead_63 : decode cX9_isDead 63 = .ok (.ireturn, 1) := by decide +kernel
set_option maxRecDepth 20000 in
theorem ggX9_deadEdges_X9_reach : GoodIn wsX9_deadEdges wsX9_reach := goodIn_r _ [10, 5, 4, 11, 12, 13, 14, 15, 16, 17, 18, 9, 19, 20, 21, 22, 23, 24, 25, 26, 27, 28, 29, 30, 31, 32, 33, 34, 35, 36, 37, 38, 39, 40, 41, 42, 43, 44, 45, 46, 47, 48, 49, 50, 51, 52, 53, 54, 55, 56, 57, 58, 59, 60, 61, 62, 63, 64, 65, 66, 67, 68, 69, 70, 71, 72, 73, 74, 75, 76, 77, 78, 79, 80, 81, 82, 83, 84, 85, 86, 87, 88, 89, 90, 91] (by decide +kernel) (by decide +kernel)
set_option maxRecDepth 20000 in
theorem gX9_deadEdges_X9_reach : GoodIn wsX9_deadEdges (wsV RX9 168 RX9 yX9_reach wsX9_reach) := goodIn_app (goodIn_of _ (by decide +kernel)) ggX9_deadEdges_X9_reach
theorem dX9_deadEdges_0 : decode cX9_deadEdges 0 = .ok (.aload_n 0, 1) := by decide +kernel
theorem dX9_deadEdges_1 : decode cX9_deadEdges 1 = .ok (.aload_n 0, 1) := by decide +kernel
theorem dX9_deadEdges_2 : decode cX9_deadEdges 2 = .ok (.getfield 96, 3) := by decide +kernel
theorem dX9_deadEdges_5 : decode cX9_deadEdges 5 = .ok (.ifCond .eq 7, 3) := by decide +kernel
theorem dX9_deadEdges_8 : decode cX9_deadEdges 8 = .ok (.iconst 0, 1) := by decide +kernel
theorem dX9_deadEdges_9 : decode cX9_deadEdges 9 = .ok (.goto 4, 3) := by decide +kernel
theorem dX9_deadEdges_12 : decode cX9_deadEdges 12 = .ok (.iconst 1, 1) := by decide +kernel
theorem dX9_deadEdges_13 : decode cX9_deadEdges 13 = .ok (.putfield 87, 3) := by decide +kernel
theorem dX9_deadEdges_16 : decode cX9_deadEdges 16 = .ok (.iconst 0, 1) := by decide +kernel
theorem dX9_deadEdges_17 : decode cX9_deadEdges 17 = .ok (.istore_n 1, 1) := by decide +kernel
theorem dX9_deadEdges_18 : decode cX9_deadEdges 18 = .ok (.iconst 0, 1) := by decide +kernel
theorem dX9_deadEdges_19 : decode cX9_deadEdges 19 = .ok (.istore_n 2, 1) := by decide +kernel
theorem dX9_deadEdges_20 : decode cX9_deadEdges 20 = .ok (.iload_n 2, 1) := by decide +kernel
theorem dX9_deadEdges_21 : decode cX9_deadEdges 21 = .ok (.aload_n 0, 1) := by decide +kernel
theorem dX9_deadEdges_22 : decode cX9_deadEdges 22 = .ok (.getfield 7, 3) := by decide +kernel
theorem dX9_deadEdges_25 : decode cX9_deadEdges 25 = .ok (.if_icmp .ge 60, 3) := by decide +kernel
theorem dX9_deadEdges_28 : decode cX9_deadEdges 28 = .ok (.aload_n 0, 1) := by decide +kernel
theorem dX9_deadEdges_29 : decode cX9_deadEdges 29 = .ok (.getfield 87, 3) := by decide +kernel
theorem dX9_deadEdges_32 : decode cX9_deadEdges 32 = .ok (.ifCond .ne 53, 3) := by decide +kernel
theorem dX9_deadEdges_35 : decode cX9_deadEdges 35 = .ok (.iconst 0, 1) := by decide +kernel
theorem dX9_deadEdges_36 : decode cX9_deadEdges 36 = .ok (.istore_n 3, 1) := by decide +kernel
theorem dX9_deadEdges_37 : decode cX9_deadEdges 37 = .ok (.iload_n 3, 1) := by decide +kernel
theorem dX9_deadEdges_38 : decode cX9_deadEdges 38 = .ok (.aload_n 0, 1) := by decide +kernel
theorem dX9_deadEdges_39 : decode cX9_deadEdges 39 = .ok (.getfield 20, 3) := by decide +kernel
theorem dX9_deadEdges_42 : decode cX9_deadEdges 42 = .ok (.iload_n 2, 1) := by decide +kernel
theorem dX9_deadEdges_43 : decode cX9_deadEdges 43 = .ok (.iaload, 1) := by decide +kernel
theorem dX9_deadEdges_44 : decode cX9_deadEdges 44 = .ok (.if_icmp .ge 35, 3) := by decide +kernel
theorem dX9_deadEdges_47 : decode cX9_deadEdges 47 = .ok (.aload_n 0, 1) := by decide +kernel
theorem dX9_deadEdges_48 : decode cX9_deadEdges 48 = .ok (.getfield 53, 3) := by decide +kernel
theorem dX9_deadEdges_51 : decode cX9_deadEdges 51 = .ok (.iload_n 2, 1) := by decide +kernel
theorem dX9_deadEdges_52 : decode cX9_deadEdges 52 = .ok (.baload, 1) := by decide +kernel
theorem dX9_deadEdges_53 : decode cX9_deadEdges 53 = .ok (.ifCond .eq 26, 3) := by decide +kernel
theorem dX9_deadEdges_56 : decode cX9_deadEdges 56 = .ok (.iload_n 1, 1) := by decide +kernel
theorem dX9_deadEdges_57 : decode cX9_deadEdges 57 = .ok (.aload_n 0, 1) := by decide +kernel
theorem dX9_deadEdges_58 : decode cX9_deadEdges 58 = .ok (.iload_n 2, 1) := by decide +kernel
theorem dX9_deadEdges_59 : decode cX9_deadEdges 59 = .ok (.iload_n 3, 1) := by decide +kernel
theorem dX9_deadEdges_60 : decode cX9_deadEdges 60 = .ok (.invokevirtual 168, 3) := by decide +kernel
theorem dX9_deadEdges_63 : decode cX9_deadEdges 63 = .ok (.ifCond .eq 7, 3) := by decide +kernel
theorem dX9_deadEdges_66 : decode cX9_deadEdges 66 = .ok (.iconst 0, 1) := by decide +kernel
theorem dX9_deadEdges_67 : decode cX9_deadEdges 67 = .ok (.goto 4, 3) := by decide +kernel
theorem dX9_deadEdges_70 : decode cX9_deadEdges 70 = .ok (.iconst 1, 1) := by decide +kernel
theorem dX9_deadEdges_71 : decode cX9_deadEdges 71 = .ok (.iadd, 1) := by decide +kernel
theorem dX9_deadEdges_72 : decode cX9_deadEdges 72 = .ok (.istore_n 1, 1) := by decide +kernel
theorem dX9_deadEdges_73 : decode cX9_deadEdges 73 = .ok (.iinc 3 1, 3) := by decide +kernel
theorem dX9_deadEdges_76 : decode cX9_deadEdges 76 = .ok (.goto (-39), 3) := by decide +kernel
theorem dX9_deadEdges_79 : decode cX9_deadEdges 79 = .ok (.iinc 2 1, 3) := by decide +kernel
theorem dX9_deadEdges_82 : decode cX9_deadEdges 82 = .ok (.goto (-62), 3) := by decide +kernel
theorem dX9_deadEdges_85 : decode cX9_deadEdges 85 = .ok (.iload_n 1, 1) := by decide +kernel
theorem dX9_deadEdges_86 : decode cX9_deadEdges 86 = .ok (.ireturn, 1) := by decide +kernel
set_option maxRecDepth 20000 in
theorem ggX9_constants_X9_isBlock : GoodIn wsX9_constants wsX9_isBlock := goodIn_r _ [10, 11, 50, 51, 52, 53, 54, 55, 56, 57, 58, 59, 60, 61, 62, 63, 64, 65, 66, 67, 68, 69, 70, 71, 72, 73, 74, 75, 76, 77, 78, 79, 80] (by decide +kernel) (by decide +kernel)
set_option maxRecDepth 20000 in
theorem gX9_constants_X9_isBlock : GoodIn wsX9_constants (wsV RX9 108 RX9 yX9_isBlock wsX9_isBlock) := goodIn_app (goodIn_of _ (by decide +kernel)) ggX9_constants_X9_isBlock
set_option maxRecDepth 20000 in
theorem ggX9_constants_X9_leave : GoodIn wsX9_constants wsX9_leave := goodIn_r _ [15, 4, 16, 5, 17, 18, 19, 20, 21, 9, 22, 23, 24, 25, 26, 27, 28, 29, 30, 31, 32, 33, 34, 35, 36, 37, 38, 39, 40, 41, 42, 43, 44, 45, 46, 47, 48, 49, 50, 51, 52, 53, 54, 55, 56, 57, 58, 59, 60, 61, 62, 63, 64, 65, 66, 67, 68, 69, 70, 71, 72, 73, 74, 75, 76, 77, 78, 79, 80] (by decide +kernel) (by decide +kernel)
set_option maxRecDepth 20000 in
theorem gX9_constants_X9_leave : GoodIn wsX9_constants (wsV RX9 156 RX9 yX9_leave wsX9_leave) := goodIn_app (goodIn_of _ (by decide +kernel)) ggX9_constants_X9_leave
theorem dX9_constants_0 : decode cX9_constants 0 = .ok (.aload_n 0, 1) := by decide +kernel
theorem dX9_constants_1 : decode cX9_constants 1 = .ok (.aload_n 0, 1) := by decide +kernel
theorem dX9_constants_2 : decode cX9_constants 2 = .ok (.getfield 96, 3) := by decide +kernel
theorem dX9_constants_5 : decode cX9_constants 5 = .ok (.ifCond .ne 7, 3) := by decide +kernel
theorem dX9_constants_8 : decode cX9_constants 8 = .ok (.iconst 1, 1) := by decide +kernel
theorem dX9_constants_9 : decode cX9_constants 9 = .ok (.goto 16, 3) := by decide +kernel
theorem dX9_constants_12 : decode cX9_constants 12 = .ok (.aload_n 0, 1) := by decide +kernel
theorem dX9_constants_13 : decode cX9_constants 13 = .ok (.iload_n 1, 1) := by decide +kernel
theorem dX9_constants_14 : decode cX9_constants 14 = .ok (.invokevirtual 108, 3) := by decide +kernel
theorem dX9_constants_17 : decode cX9_constants 17 = .ok (.ifCond .ne 7, 3) := by decide +kernel
theorem dX9_constants_20 : decode cX9_constants 20 = .ok (.iconst 2, 1) := by decide +kernel
theorem dX9_constants_21 : decode cX9_constants 21 = .ok (.goto 4, 3) := by decide +kernel
theorem dX9_constants_24 : decode cX9_constants 24 = .ok (.iconst 0, 1) := by decide +kernel
theorem dX9_constants_25 : decode cX9_constants 25 = .ok (.putfield 87, 3) := by decide +kernel
theorem dX9_constants_28 : decode cX9_constants 28 = .ok (.aload_n 0, 1) := by decide +kernel
theorem dX9_constants_29 : decode cX9_constants 29 = .ok (.getfield 87, 3) := by decide +kernel
theorem dX9_constants_32 : decode cX9_constants 32 = .ok (.ifCond .ne 12, 3) := by decide +kernel
theorem dX9_constants_35 : decode cX9_constants 35 = .ok (.aload_n 0, 1) := by decide +kernel
theorem dX9_constants_36 : decode cX9_constants 36 = .ok (.getfield 53, 3) := by decide +kernel
theorem dX9_constants_39 : decode cX9_constants 39 = .ok (.iload_n 1, 1) := by decide +kernel
theorem dX9_constants_40 : decode cX9_constants 40 = .ok (.baload, 1) := by decide +kernel
theorem dX9_constants_41 : decode cX9_constants 41 = .ok (.ifCond .ne 5, 3) := by decide +kernel
theorem dX9_constants_44 : decode cX9_constants 44 = .ok (.iconst 0, 1) := by decide +kernel
theorem dX9_constants_45 : decode cX9_constants 45 = .ok (.ireturn, 1) := by decide +kernel
theorem dX9_constants_46 : decode cX9_constants 46 = .ok (.aload_n 0, 1) := by decide +kernel
theorem dX9_constants_47 : decode cX9_constants 47 = .ok (.iload_n 1, 1) := by decide +kernel
theorem dX9_constants_48 : decode cX9_constants 48 = .ok (.invokevirtual 156, 3) := by decide +kernel
theorem dX9_constants_51 : decode cX9_constants 51 = .ok (.iconst 0, 1) := by decide +kernel
theorem dX9_constants_52 : decode cX9_constants 52 = .ok (.istore_n 2, 1) := by decide +kernel
theorem dX9_constants_53 : decode cX9_constants 53 = .ok (.iconst 0, 1) := by decide +kernel
theorem dX9_constants_54 : decode cX9_constants 54 = .ok (.istore_n 3, 1) := by decide +kernel
theorem dX9_constants_55 : decode cX9_constants 55 = .ok (.iload_n 3, 1) := by decide +kernel
theorem dX9_constants_56 : decode cX9_constants 56 = .ok (.bipush 6, 2) := by decide +kernel
theorem dX9_constants_58 : decode cX9_constants 58 = .ok (.if_icmp .ge 32, 3) := by decide +kernel
theorem dX9_constants_61 : decode cX9_constants 61 = .ok (.iload_n 2, 1) := by decide +kernel
theorem dX9_constants_62 : decode cX9_constants 62 = .ok (.aload_n 0, 1) := by decide +kernel
theorem dX9_constants_63 : decode cX9_constants 63 = .ok (.getfield 66, 3) := by decide +kernel
theorem dX9_constants_66 : decode cX9_constants 66 = .ok (.iload_n 3, 1) := by decide +kernel
theorem dX9_constants_67 : decode cX9_constants 67 = .ok (.iaload, 1) := by decide +kernel
theorem dX9_constants_68 : decode cX9_constants 68 = .ok (.aload_n 0, 1) := by decide +kernel
theorem dX9_constants_69 : decode cX9_constants 69 = .ok (.getfield 69, 3) := by decide +kernel
theorem dX9_constants_72 : decode cX9_constants 72 = .ok (.iload_n 3, 1) := by decide +kernel
theorem dX9_constants_73 : decode cX9_constants 73 = .ok (.iaload, 1) := by decide +kernel
theorem dX9_constants_74 : decode cX9_constants 74 = .ok (.if_icmp .ne 7, 3) := by decide +kernel
theorem dX9_constants_77 : decode cX9_constants 77 = .ok (.iconst 1, 1) := by decide +kernel
theorem dX9_constants_78 : decode cX9_constants 78 = .ok (.goto 4, 3) := by decide +kernel
theorem dX9_constants_81 : decode cX9_constants 81 = .ok (.iconst 0, 1) := by decide +kernel
theorem dX9_constants_82 : decode cX9_constants 82 = .ok (.iadd, 1) := by decide +kernel
theorem dX9_constants_83 : decode cX9_constants 83 = .ok (.istore_n 2, 1) := by decide +kernel
theorem dX9_constants_84 : decode cX9_constants 84 = .ok (.iinc 3 1, 3) := by decide +kernel
theorem dX9_constants_87 : decode cX9_constants 87 = .ok (.goto (-32), 3) := by decide +kernel
theorem dX9_constants_90 : decode cX9_constants 90 = .ok (.iload_n 2, 1) := by decide +kernel
theorem dX9_constants_91 : decode cX9_constants 91 = .ok (.ireturn, 1) := by decide +kernel
set_option maxRecDepth 20000 in
theorem ggX9_visits_X9_isBlock : GoodIn wsX9_visits wsX9_isBlock := goodIn_r _ [8, 9, 10, 11, 12, 13, 14, 15, 16, 17, 18, 19, 20, 21, 22, 23, 24, 25, 26, 27, 28, 29, 30, 31, 32, 33, 34, 35, 36, 37, 38, 39, 40] (by decide +kernel) (by decide +kernel)
set_option maxRecDepth 20000 in
theorem gX9_visits_X9_isBlock : GoodIn wsX9_visits (wsV RX9 108 RX9 yX9_isBlock wsX9_isBlock) := goodIn_app (goodIn_of _ (by decide +kernel)) ggX9_visits_X9_isBlock
theorem dX9_visits_0 : decode cX9_visits 0 = .ok (.aload_n 0, 1) := by decide +kernel
theorem dX9_visits_1 : decode cX9_visits 1 = .ok (.aload_n 0, 1) := by decide +kernel
theorem dX9_visits_2 : decode cX9_visits 2 = .ok (.getfield 96, 3) := by decide +kernel
theorem dX9_visits_5 : decode cX9_visits 5 = .ok (.ifCond .ne 7, 3) := by decide +kernel
theorem dX9_visits_8 : decode cX9_visits 8 = .ok (.iconst 1, 1) := by decide +kernel
theorem dX9_visits_9 : decode cX9_visits 9 = .ok (.goto 16, 3) := by decide +kernel
theorem dX9_visits_12 : decode cX9_visits 12 = .ok (.aload_n 0, 1) := by decide +kernel
theorem dX9_visits_13 : decode cX9_visits 13 = .ok (.iload_n 1, 1) := by decide +kernel
theorem dX9_visits_14 : decode cX9_visits 14 = .ok (.invokevirtual 108, 3) := by decide +kernel
theorem dX9_visits_17 : decode cX9_visits 17 = .ok (.ifCond .ne 7, 3) := by decide +kernel
theorem dX9_visits_20 : decode cX9_visits 20 = .ok (.iconst 2, 1) := by decide +kernel
theorem dX9_visits_21 : decode cX9_visits 21 = .ok (.goto 4, 3) := by decide +kernel
theorem dX9_visits_24 : decode cX9_visits 24 = .ok (.iconst 0, 1) := by decide +kernel
theorem dX9_visits_25 : decode cX9_visits 25 = .ok (.putfield 87, 3) := by decide +kernel
theorem dX9_visits_28 : decode cX9_visits 28 = .ok (.aload_n 0, 1) := by decide +kernel
theorem dX9_visits_29 : decode cX9_visits 29 = .ok (.getfield 87, 3) := by decide +kernel
theorem dX9_visits_32 : decode cX9_visits 32 = .ok (.ifCond .ne 12, 3) := by decide +kernel
theorem dX9_visits_35 : decode cX9_visits 35 = .ok (.aload_n 0, 1) := by decide +kernel
theorem dX9_visits_36 : decode cX9_visits 36 = .ok (.getfield 63, 3) := by decide +kernel
theorem dX9_visits_39 : decode cX9_visits 39 = .ok (.iload_n 1, 1) := by decide +kernel
theorem dX9_visits_40 : decode cX9_visits 40 = .ok (.iaload, 1) := by decide +kernel
theorem dX9_visits_41 : decode cX9_visits 41 = .ok (.goto 4, 3) := by decide +kernel
theorem dX9_visits_44 : decode cX9_visits 44 = .ok (.iconst 0, 1) := by decide +kernel
theorem dX9_visits_45 : decode cX9_visits 45 = .ok (.ireturn, 1) := by decide +kernel
theorem dX9_draw_0 : decode cX9_draw 0 = .ok (.iload_n 2, 1) := by decide +kernel
theorem dX9_draw_1 : decode cX9_draw 1 = .ok (.i2l, 1) := by decide +kernel
theorem dX9_draw_2 : decode cX9_draw 2 = .ok (.iload_n 1, 1) := by decide +kernel
theorem dX9_draw_3 : decode cX9_draw 3 = .ok (.i2l, 1) := by decide +kernel
theorem dX9_draw_4 : decode cX9_draw 4 = .ok (.lsub, 1) := by decide +kernel
theorem dX9_draw_5 : decode cX9_draw 5 = .ok (.lconst 1, 1) := by decide +kernel
theorem dX9_draw_6 : decode cX9_draw 6 = .ok (.ladd, 1) := by decide +kernel
theorem dX9_draw_7 : decode cX9_draw 7 = .ok (.lstore_n 3, 1) := by decide +kernel
theorem dX9_draw_8 : decode cX9_draw 8 = .ok (.aload_n 0, 1) := by decide +kernel
theorem dX9_draw_9 : decode cX9_draw 9 = .ok (.getfield 192, 3) := by decide +kernel
theorem dX9_draw_12 : decode cX9_draw 12 = .ok (.lload_n 3, 1) := by decide +kernel
theorem dX9_draw_13 : decode cX9_draw 13 = .ok (.lrem, 1) := by decide +kernel
theorem dX9_draw_14 : decode cX9_draw 14 = .ok (.lstore 5, 2) := by decide +kernel
theorem dX9_draw_16 : decode cX9_draw 16 = .ok (.lload 5, 2) := by decide +kernel
theorem dX9_draw_18 : decode cX9_draw 18 = .ok (.lconst 0, 1) := by decide +kernel
theorem dX9_draw_19 : decode cX9_draw 19 = .ok (.lcmp, 1) := by decide +kernel
theorem dX9_draw_20 : decode cX9_draw 20 = .ok (.ifCond .ge 9, 3) := by decide +kernel
theorem dX9_draw_23 : decode cX9_draw 23 = .ok (.lload 5, 2) := by decide +kernel
theorem dX9_draw_25 : decode cX9_draw 25 = .ok (.lload_n 3, 1) := by decide +kernel
theorem dX9_draw_26 : decode cX9_draw 26 = .ok (.ladd, 1) := by decide +kernel
theorem dX9_draw_27 : decode cX9_draw 27 = .ok (.lstore 5, 2) := by decide +kernel
theorem dX9_draw_29 : decode cX9_draw 29 = .ok (.aload_n 0, 1) := by decide +kernel
theorem dX9_draw_30 : decode cX9_draw 30 = .ok (.aload_n 0, 1) := by decide +kernel
theorem dX9_draw_31 : decode cX9_draw 31 = .ok (.getfield 192, 3) := by decide +kernel
theorem dX9_draw_34 : decode cX9_draw 34 = .ok (.ldc2_w 196, 3) := by decide +kernel
theorem dX9_draw_37 : decode cX9_draw 37 = .ok (.lmul, 1) := by decide +kernel
theorem dX9_draw_38 : decode cX9_draw 38 = .ok (.ldc2_w 198, 3) := by decide +kernel
theorem dX9_draw_41 : decode cX9_draw 41 = .ok (.ladd, 1) := by decide +kernel
theorem dX9_draw_42 : decode cX9_draw 42 = .ok (.putfield 192, 3) := by decide +kernel
theorem dX9_draw_45 : decode cX9_draw 45 = .ok (.iload_n 1, 1) := by decide +kernel
theorem dX9_draw_46 : decode cX9_draw 46 = .ok (.i2l, 1) := by decide +kernel
theorem dX9_draw_47 : decode cX9_draw 47 = .ok (.lload 5, 2) := by decide +kernel
theorem dX9_draw_49 : decode cX9_draw 49 = .ok (.ladd, 1) := by decide +kernel
theorem dX9_draw_50 : decode cX9_draw 50 = .ok (.l2i, 1) := by decide +kernel
theorem dX9_draw_51 : decode cX9_draw 51 = .ok (.ireturn, 1) := by decide +kernel
set_option maxRecDepth 20000 in
theorem ggX9_valueOf_X9_limited : GoodIn wsX9_valueOf wsX9_limited := goodIn_r _ [13, 14, 15, 16, 17, 5, 18, 19, 20, 21] (by decide +kernel) (by decide +kernel)
set_option maxRecDepth 20000 in
theorem gX9_valueOf_X9_limited : GoodIn wsX9_valueOf (va_wsS RX9 135 yX9_limited wsX9_limited) := goodIn_app (goodIn_of _ (by decide +kernel)) ggX9_valueOf_X9_limited
set_option maxRecDepth 20000 in
theorem ggX9_valueOf_X9_draw : GoodIn wsX9_valueOf wsX9_draw := goodIn_r _ [25, 26, 27, 28, 29, 30, 31, 32, 33, 34, 35, 36, 37, 38, 39, 40, 41, 42, 43, 44, 45, 46, 47, 48, 49, 50, 51, 52, 53, 54, 55, 56, 57, 58, 59] (by decide +kernel) (by decide +kernel)
set_option maxRecDepth 20000 in
theorem gX9_valueOf_X9_draw : GoodIn wsX9_valueOf (wsV RX9 200 RX9 yX9_draw wsX9_draw) := goodIn_app (goodIn_of _ (by decide +kernel)) ggX9_valueOf_X9_draw
theorem dX9_valueOf_0 : decode cX9_valueOf 0 = .ok (.aload_n 0, 1) := by decide +kernel
theorem dX9_valueOf_1 : decode cX9_valueOf 1 = .ok (.getfield 17, 3) := by decide +kernel
theorem dX9_valueOf_4 : decode cX9_valueOf 4 = .ok (.iload_n 1, 1) := by decide +kernel
theorem dX9_valueOf_5 : decode cX9_valueOf 5 = .ok (.iconst 2, 1) := by decide +kernel
theorem dX9_valueOf_6 : decode cX9_valueOf 6 = .ok (.iadd, 1) := by decide +kernel
theorem dX9_valueOf_7 : decode cX9_valueOf 7 = .ok (.iaload, 1) := by decide +kernel
theorem dX9_valueOf_8 : decode cX9_valueOf 8 = .ok (.istore_n 2, 1) := by decide +kernel
theorem dX9_valueOf_9 : decode cX9_valueOf 9 = .ok (.aload_n 0, 1) := by decide +kernel
theorem dX9_valueOf_10 : decode cX9_valueOf 10 = .ok (.getfield 17, 3) := by decide +kernel
theorem dX9_valueOf_13 : decode cX9_valueOf 13 = .ok (.iload_n 1, 1) := by decide +kernel
theorem dX9_valueOf_14 : decode cX9_valueOf 14 = .ok (.iconst 3, 1) := by decide +kernel
theorem dX9_valueOf_15 : decode cX9_valueOf 15 = .ok (.iadd, 1) := by decide +kernel
theorem dX9_valueOf_16 : decode cX9_valueOf 16 = .ok (.iaload, 1) := by decide +kernel
theorem dX9_valueOf_17 : decode cX9_valueOf 17 = .ok (.istore_n 3, 1) := by decide +kernel
theorem dX9_valueOf_18 : decode cX9_valueOf 18 = .ok (.aload_n 0, 1) := by decide +kernel
theorem dX9_valueOf_19 : decode cX9_valueOf 19 = .ok (.getfield 17, 3) := by decide +kernel
theorem dX9_valueOf_22 : decode cX9_valueOf 22 = .ok (.iload_n 1, 1) := by decide +kernel
theorem dX9_valueOf_23 : decode cX9_valueOf 23 = .ok (.iaload, 1) := by decide +kernel
theorem dX9_valueOf_24 : decode cX9_valueOf 24 = .ok (.tableswitch 142 0 6 #[44, 51, 70, 89, 108, 124, 140], 44) := by decide +kernel
theorem dX9_valueOf_68 : decode cX9_valueOf 68 = .ok (.aload_n 0, 1) := by decide +kernel
theorem dX9_valueOf_69 : decode cX9_valueOf 69 = .ok (.getfield 84, 3) := by decide +kernel
theorem dX9_valueOf_72 : decode cX9_valueOf 72 = .ok (.iload_n 2, 1) := by decide +kernel
theorem dX9_valueOf_73 : decode cX9_valueOf 73 = .ok (.iaload, 1) := by decide +kernel
theorem dX9_valueOf_74 : decode cX9_valueOf 74 = .ok (.ireturn, 1) := by decide +kernel
theorem dX9_valueOf_75 : decode cX9_valueOf 75 = .ok (.aload_n 0, 1) := by decide +kernel
theorem dX9_valueOf_76 : decode cX9_valueOf 76 = .ok (.getfield 84, 3) := by decide +kernel
theorem dX9_valueOf_79 : decode cX9_valueOf 79 = .ok (.iload_n 2, 1) := by decide +kernel
theorem dX9_valueOf_80 : decode cX9_valueOf 80 = .ok (.iaload, 1) := by decide +kernel
theorem dX9_valueOf_81 : decode cX9_valueOf 81 = .ok (.i2l, 1) := by decide +kernel
theorem dX9_valueOf_82 : decode cX9_valueOf 82 = .ok (.aload_n 0, 1) := by decide +kernel
theorem dX9_valueOf_83 : decode cX9_valueOf 83 = .ok (.getfield 84, 3) := by decide +kernel
theorem dX9_valueOf_86 : decode cX9_valueOf 86 = .ok (.iload_n 3, 1) := by decide +kernel
theorem dX9_valueOf_87 : decode cX9_valueOf 87 = .ok (.iaload, 1) := by decide +kernel
theorem dX9_valueOf_88 : decode cX9_valueOf 88 = .ok (.i2l, 1) := by decide +kernel
theorem dX9_valueOf_89 : decode cX9_valueOf 89 = .ok (.ladd, 1) := by decide +kernel
theorem dX9_valueOf_90 : decode cX9_valueOf 90 = .ok (.invokestatic 135, 3) := by decide +kernel
theorem dX9_valueOf_93 : decode cX9_valueOf 93 = .ok (.ireturn, 1) := by decide +kernel
theorem dX9_valueOf_94 : decode cX9_valueOf 94 = .ok (.aload_n 0, 1) := by decide +kernel
theorem dX9_valueOf_95 : decode cX9_valueOf 95 = .ok (.getfield 84, 3) := by decide +kernel
theorem dX9_valueOf_98 : decode cX9_valueOf 98 = .ok (.iload_n 2, 1) := by decide +kernel
theorem dX9_valueOf_99 : decode cX9_valueOf 99 = .ok (.iaload, 1) := by decide +kernel
theorem dX9_valueOf_100 : decode cX9_valueOf 100 = .ok (.i2l, 1) := by decide +kernel
theorem dX9_valueOf_101 : decode cX9_valueOf 101 = .ok (.aload_n 0, 1) := by decide +kernel
theorem dX9_valueOf_102 : decode cX9_valueOf 102 = .ok (.getfield 84, 3) := by decide +kernel
theorem dX9_valueOf_105 : decode cX9_valueOf 105 = .ok (.iload_n 3, 1) := by decide +kernel
theorem dX9_valueOf_106 : decode cX9_valueOf 106 = .ok (.iaload, 1) := by decide +kernel
theorem dX9_valueOf_107 : decode cX9_valueOf 107 = .ok (.i2l, 1) := by decide +kernel
theorem dX9_valueOf_108 : decode cX9_valueOf 108 = .ok (.lsub, 1) := by decide +kernel
theorem dX9_valueOf_109 : decode cX9_valueOf 109 = .ok (.invokestatic 135, 3) := by decide +kernel
theorem dX9_valueOf_112 : decode cX9_valueOf 112 = .ok (.ireturn, 1) := by decide +kernel
theorem dX9_valueOf_113 : decode cX9_valueOf 113 = .ok (.aload_n 0, 1) := by decide +kernel
theorem dX9_valueOf_114 : decode cX9_valueOf 114 = .ok (.getfield 84, 3) := by decide +kernel
theorem dX9_valueOf_117 : decode cX9_valueOf 117 = .ok (.iload_n 2, 1) := by decide +kernel
theorem dX9_valueOf_118 : decode cX9_valueOf 118 = .ok (.iaload, 1) := by decide +kernel
theorem dX9_valueOf_119 : decode cX9_valueOf 119 = .ok (.i2l, 1) := by decide +kernel
theorem dX9_valueOf_120 : decode cX9_valueOf 120 = .ok (.aload_n 0, 1) := by decide +kernel
theorem dX9_valueOf_121 : decode cX9_valueOf 121 = .ok (.getfield 84, 3) := by decide +kernel
theorem dX9_valueOf_124 : decode cX9_valueOf 124 = .ok (.iload_n 3, 1) := by decide +kernel
theorem dX9_valueOf_125 : decode cX9_valueOf 125 = .ok (.iaload, 1) := by decide +kernel
theorem dX9_valueOf_126 : decode cX9_valueOf 126 = .ok (.i2l, 1) := by decide +kernel
theorem dX9_valueOf_127 : decode cX9_valueOf 127 = .ok (.lmul, 1) := by decide +kernel
theorem dX9_valueOf_128 : decode cX9_valueOf 128 = .ok (.invokestatic 135, 3) := by decide +kernel
theorem dX9_valueOf_131 : decode cX9_valueOf 131 = .ok (.ireturn, 1) := by decide +kernel
theorem dX9_valueOf_132 : decode cX9_valueOf 132 = .ok (.aload_n 0, 1) := by decide +kernel
theorem dX9_valueOf_133 : decode cX9_valueOf 133 = .ok (.getfield 84, 3) := by decide +kernel
theorem dX9_valueOf_136 : decode cX9_valueOf 136 = .ok (.iload_n 2, 1) := by decide +kernel
theorem dX9_valueOf_137 : decode cX9_valueOf 137 = .ok (.iaload, 1) := by decide +kernel
theorem dX9_valueOf_138 : decode cX9_valueOf 138 = .ok (.aload_n 0, 1) := by decide +kernel
theorem dX9_valueOf_139 : decode cX9_valueOf 139 = .ok (.getfield 84, 3) := by decide +kernel
theorem dX9_valueOf_142 : decode cX9_valueOf 142 = .ok (.iload_n 3, 1) := by decide +kernel
theorem dX9_valueOf_143 : decode cX9_valueOf 143 = .ok (.iaload, 1) := by decide +kernel
theorem dX9_valueOf_144 : decode cX9_valueOf 144 = .ok (.invokestatic 147, 3) := by decide +kernel
theorem dX9_valueOf_147 : decode cX9_valueOf 147 = .ok (.ireturn, 1) := by decide +kernel
theorem dX9_valueOf_148 : decode cX9_valueOf 148 = .ok (.aload_n 0, 1) := by decide +kernel
theorem dX9_valueOf_149 : decode cX9_valueOf 149 = .ok (.getfield 84, 3) := by decide +kernel
theorem dX9_valueOf_152 : decode cX9_valueOf 152 = .ok (.iload_n 2, 1) := by decide +kernel
theorem dX9_valueOf_153 : decode cX9_valueOf 153 = .ok (.iaload, 1) := by decide +kernel
theorem dX9_valueOf_154 : decode cX9_valueOf 154 = .ok (.aload_n 0, 1) := by decide +kernel
theorem dX9_valueOf_155 : decode cX9_valueOf 155 = .ok (.getfield 84, 3) := by decide +kernel
theorem dX9_valueOf_158 : decode cX9_valueOf 158 = .ok (.iload_n 3, 1) := by decide +kernel
theorem dX9_valueOf_159 : decode cX9_valueOf 159 = .ok (.iaload, 1) := by decide +kernel
theorem dX9_valueOf_160 : decode cX9_valueOf 160 = .ok (.invokestatic 150, 3) := by decide +kernel
theorem dX9_valueOf_163 : decode cX9_valueOf 163 = .ok (.ireturn, 1) := by decide +kernel
theorem dX9_valueOf_164 : decode cX9_valueOf 164 = .ok (.iload_n 2, 1) := by decide +kernel
theorem dX9_valueOf_165 : decode cX9_valueOf 165 = .ok (.ireturn, 1) := by decide +kernel
theorem dX9_valueOf_166 : decode cX9_valueOf 166 = .ok (.aload_n 0, 1) := by decide +kernel
theorem dX9_valueOf_167 : decode cX9_valueOf 167 = .ok (.iload_n 2, 1) := by decide +kernel
theorem dX9_valueOf_168 : decode cX9_valueOf 168 = .ok (.iload_n 3, 1) := by decide +kernel
theorem dX9_valueOf_169 : decode cX9_valueOf 169 = .ok (.invokevirtual 200, 3) := by decide +kernel
theorem dX9_valueOf_172 : decode cX9_valueOf 172 = .ok (.ireturn, 1) := by decide +kernel
theorem dX9_isTrue_0 : decode cX9_isTrue 0 = .ok (.aload_n 0, 1) := by decide +kernel
theorem dX9_isTrue_1 : decode cX9_isTrue 1 = .ok (.getfield 84, 3) := by decide +kernel
theorem dX9_isTrue_4 : decode cX9_isTrue 4 = .ok (.aload_n 0, 1) := by decide +kernel
theorem dX9_isTrue_5 : decode cX9_isTrue 5 = .ok (.getfield 29, 3) := by decide +kernel
theorem dX9_isTrue_8 : decode cX9_isTrue 8 = .ok (.iload_n 1, 1) := by decide +kernel
theorem dX9_isTrue_9 : decode cX9_isTrue 9 = .ok (.iaload, 1) := by decide +kernel
theorem dX9_isTrue_10 : decode cX9_isTrue 10 = .ok (.iaload, 1) := by decide +kernel
theorem dX9_isTrue_11 : decode cX9_isTrue 11 = .ok (.istore_n 2, 1) := by decide +kernel
theorem dX9_isTrue_12 : decode cX9_isTrue 12 = .ok (.aload_n 0, 1) := by decide +kernel
theorem dX9_isTrue_13 : decode cX9_isTrue 13 = .ok (.getfield 84, 3) := by decide +kernel
theorem dX9_isTrue_16 : decode cX9_isTrue 16 = .ok (.aload_n 0, 1) := by decide +kernel
theorem dX9_isTrue_17 : decode cX9_isTrue 17 = .ok (.getfield 32, 3) := by decide +kernel
theorem dX9_isTrue_20 : decode cX9_isTrue 20 = .ok (.iload_n 1, 1) := by decide +kernel
theorem dX9_isTrue_21 : decode cX9_isTrue 21 = .ok (.iaload, 1) := by decide +kernel
theorem dX9_isTrue_22 : decode cX9_isTrue 22 = .ok (.iaload, 1) := by decide +kernel
theorem dX9_isTrue_23 : decode cX9_isTrue 23 = .ok (.istore_n 3, 1) := by decide +kernel
theorem dX9_isTrue_24 : decode cX9_isTrue 24 = .ok (.aload_n 0, 1) := by decide +kernel
theorem dX9_isTrue_25 : decode cX9_isTrue 25 = .ok (.getfield 35, 3) := by decide +kernel
theorem dX9_isTrue_28 : decode cX9_isTrue 28 = .ok (.iload_n 1, 1) := by decide +kernel
theorem dX9_isTrue_29 : decode cX9_isTrue 29 = .ok (.iaload, 1) := by decide +kernel
theorem dX9_isTrue_30 : decode cX9_isTrue 30 = .ok (.ifCond .ne 16, 3) := by decide +kernel
theorem dX9_isTrue_33 : decode cX9_isTrue 33 = .ok (.iload_n 2, 1) := by decide +kernel
theorem dX9_isTrue_34 : decode cX9_isTrue 34 = .ok (.iload_n 3, 1) := by decide +kernel
theorem dX9_isTrue_35 : decode cX9_isTrue 35 = .ok (.if_icmp .ge 7, 3) := by decide +kernel
theorem dX9_isTrue_38 : decode cX9_isTrue 38 = .ok (.iconst 1, 1) := by decide +kernel
theorem dX9_isTrue_39 : decode cX9_isTrue 39 = .ok (.goto 63, 3) := by decide +kernel
theorem dX9_isTrue_42 : decode cX9_isTrue 42 = .ok (.iconst 0, 1) := by decide +kernel
theorem dX9_isTrue_43 : decode cX9_isTrue 43 = .ok (.goto 59, 3) := by decide +kernel
theorem dX9_isTrue_46 : decode cX9_isTrue 46 = .ok (.aload_n 0, 1) := by decide +kernel
theorem dX9_isTrue_47 : decode cX9_isTrue 47 = .ok (.getfield 35, 3) := by decide +kernel
theorem dX9_isTrue_50 : decode cX9_isTrue 50 = .ok (.iload_n 1, 1) := by decide +kernel
theorem dX9_isTrue_51 : decode cX9_isTrue 51 = .ok (.iaload, 1) := by decide +kernel
theorem dX9_isTrue_52 : decode cX9_isTrue 52 = .ok (.iconst 1, 1) := by decide +kernel
theorem dX9_isTrue_53 : decode cX9_isTrue 53 = .ok (.if_icmp .ne 16, 3) := by decide +kernel
theorem dX9_isTrue_56 : decode cX9_isTrue 56 = .ok (.iload_n 2, 1) := by decide +kernel
theorem dX9_isTrue_57 : decode cX9_isTrue 57 = .ok (.iload_n 3, 1) := by decide +kernel
theorem dX9_isTrue_58 : decode cX9_isTrue 58 = .ok (.if_icmp .gt 7, 3) := by decide +kernel
theorem dX9_isTrue_61 : decode cX9_isTrue 61 = .ok (.iconst 1, 1) := by decide +kernel
theorem dX9_isTrue_62 : decode cX9_isTrue 62 = .ok (.goto 40, 3) := by decide +kernel
theorem dX9_isTrue_65 : decode cX9_isTrue 65 = .ok (.iconst 0, 1) := by decide +kernel
theorem dX9_isTrue_66 : decode cX9_isTrue 66 = .ok (.goto 36, 3) := by decide +kernel
theorem dX9_isTrue_69 : decode cX9_isTrue 69 = .ok (.aload_n 0, 1) := by decide +kernel
theorem dX9_isTrue_70 : decode cX9_isTrue 70 = .ok (.getfield 35, 3) := by decide +kernel
theorem dX9_isTrue_73 : decode cX9_isTrue 73 = .ok (.iload_n 1, 1) := by decide +kernel
theorem dX9_isTrue_74 : decode cX9_isTrue 74 = .ok (.iaload, 1) := by decide +kernel
theorem dX9_isTrue_75 : decode cX9_isTrue 75 = .ok (.iconst 2, 1) := by decide +kernel
theorem dX9_isTrue_76 : decode cX9_isTrue 76 = .ok (.if_icmp .ne 16, 3) := by decide +kernel
theorem dX9_isTrue_79 : decode cX9_isTrue 79 = .ok (.iload_n 2, 1) := by decide +kernel
theorem dX9_isTrue_80 : decode cX9_isTrue 80 = .ok (.iload_n 3, 1) := by decide +kernel
theorem dX9_isTrue_81 : decode cX9_isTrue 81 = .ok (.if_icmp .ne 7, 3) := by decide +kernel
theorem dX9_isTrue_84 : decode cX9_isTrue 84 = .ok (.iconst 1, 1) := by decide +kernel
theorem dX9_isTrue_85 : decode cX9_isTrue 85 = .ok (.goto 17, 3) := by decide +kernel
theorem dX9_isTrue_88 : decode cX9_isTrue 88 = .ok (.iconst 0, 1) := by decide +kernel
theorem dX9_isTrue_89 : decode cX9_isTrue 89 = .ok (.goto 13, 3) := by decide +kernel
theorem dX9_isTrue_92 : decode cX9_isTrue 92 = .ok (.iload_n 2, 1) := by decide +kernel
theorem dX9_isTrue_93 : decode cX9_isTrue 93 = .ok (.iload_n 3, 1) := by decide +kernel
theorem dX9_isTrue_94 : decode cX9_isTrue 94 = .ok (.if_icmp .eq 7, 3) := by decide +kernel
theorem dX9_isTrue_97 : decode cX9_isTrue 97 = .ok (.iconst 1, 1) := by decide +kernel
theorem dX9_isTrue_98 : decode cX9_isTrue 98 = .ok (.goto 4, 3) := by decide +kernel
theorem dX9_isTrue_101 : decode cX9_isTrue 101 = .ok (.iconst 0, 1) := by decide +kernel
theorem dX9_isTrue_102 : decode cX9_isTrue 102 = .ok (.ireturn, 1) := by decide +kernel
set_option maxRecDepth 20000 in
theorem ggX9_run_X9_fail : GoodIn wsX9_run wsX9_fail := goodIn_r _ [18, 1, 54, 55, 56, 57, 58, 59, 60, 61, 62, 63, 64, 65, 66, 67, 68, 69, 70, 71, 72, 73, 74, 75, 76, 77, 78, 79, 80, 81, 82, 83, 84] (by decide +kernel) (by decide +kernel)
set_option maxRecDepth 20000 in
theorem gX9_run_X9_fail : GoodIn wsX9_run (wsV RX9 92 RX9 yX9_fail wsX9_fail) := goodIn_app (goodIn_of _ (by decide +kernel)) ggX9_run_X9_fail
set_option maxRecDepth 20000 in
theorem ggX9_run_X9_draw : GoodIn wsX9_run wsX9_draw := goodIn_r _ [22, 2, 23, 24, 54, 55, 56, 57, 58, 59, 60, 61, 62, 63, 64, 65, 66, 67, 68, 69, 70, 71, 72, 73, 74, 75, 76, 77, 78, 79, 80, 81, 82, 83, 84] (by decide +kernel) (by decide +kernel)
set_option maxRecDepth 20000 in
theorem gX9_run_X9_draw : GoodIn wsX9_run (wsV RX9 200 RX9 yX9_draw wsX9_draw) := goodIn_app (goodIn_of _ (by decide +kernel)) ggX9_run_X9_draw
set_option maxRecDepth 20000 in
theorem ggX9_run_X9_valueOf : GoodIn wsX9_run wsX9_valueOf := goodIn_r _ [28, 10, 3, 29, 30, 31, 32, 33, 34, 35, 36, 37, 17, 38, 39, 40, 41, 42, 43, 44, 45, 46, 19, 20, 21, 22, 2, 23, 24, 54, 55, 56, 57, 58, 59, 60, 61, 62, 63, 64, 65, 66, 67, 68, 69, 70, 71, 72, 73, 74, 75, 76, 77, 78, 79, 80, 81, 82, 83, 84] (by decide +kernel) (by decide +kernel)
set_option maxRecDepth 20000 in
theorem gX9_run_X9_valueOf : GoodIn wsX9_run (wsV RX9 206 RX9 yX9_valueOf wsX9_valueOf) := goodIn_app (goodIn_of _ (by decide +kernel)) ggX9_run_X9_valueOf
set_option maxRecDepth 20000 in
theorem ggX9_run_X9_isTrue : GoodIn wsX9_run wsX9_isTrue := goodIn_r _ [50, 3, 51, 52, 53, 54, 55, 56, 57, 58, 59, 60, 61, 62, 63, 64, 65, 66, 67, 68, 69, 70, 71, 72, 73, 74, 75, 76, 77, 78, 79, 80, 81, 82, 83, 84] (by decide +kernel) (by decide +kernel)
set_option maxRecDepth 20000 in
theorem gX9_run_X9_isTrue : GoodIn wsX9_run (wsV RX9 209 RX9 yX9_isTrue wsX9_isTrue) := goodIn_app (goodIn_of _ (by decide +kernel)) ggX9_run_X9_isTrue
theorem dX9_run_0 : decode cX9_run 0 = .ok (.aload_n 0, 1) := by decide +kernel
theorem dX9_run_1 : decode cX9_run 1 = .ok (.iconst 0, 1) := by decide +kernel
theorem dX9_run_2 : decode cX9_run 2 = .ok (.putfield 87, 3) := by decide +kernel
theorem dX9_run_5 : decode cX9_run 5 = .ok (.iload_n 3, 1) := by decide +kernel
theorem dX9_run_6 : decode cX9_run 6 = .ok (.iconst 1, 1) := by decide +kernel
theorem dX9_run_7 : decode cX9_run 7 = .ok (.if_icmp .lt 10, 3) := by decide +kernel
theorem dX9_run_10 : decode cX9_run 10 = .ok (.iload_n 3, 1) := by decide +kernel
theorem dX9_run_11 : decode cX9_run 11 = .ok (.sipush 300, 3) := by decide +kernel
theorem dX9_run_14 : decode cX9_run 14 = .ok (.if_icmp .le 9, 3) := by decide +kernel
theorem dX9_run_17 : decode cX9_run 17 = .ok (.aload_n 0, 1) := by decide +kernel
theorem dX9_run_18 : decode cX9_run 18 = .ok (.iconst 1, 1) := by decide +kernel
theorem dX9_run_19 : decode cX9_run 19 = .ok (.invokevirtual 92, 3) := by decide +kernel
theorem dX9_run_22 : decode cX9_run 22 = .ok (.ireturn, 1) := by decide +kernel
theorem dX9_run_23 : decode cX9_run 23 = .ok (.aload_n 0, 1) := by decide +kernel
theorem dX9_run_24 : decode cX9_run 24 = .ok (.lload_n 1, 1) := by decide +kernel
theorem dX9_run_25 : decode cX9_run 25 = .ok (.putfield 192, 3) := by decide +kernel
theorem dX9_run_28 : decode cX9_run 28 = .ok (.iconst 0, 1) := by decide +kernel
theorem dX9_run_29 : decode cX9_run 29 = .ok (.istore 4, 2) := by decide +kernel
theorem dX9_run_31 : decode cX9_run 31 = .ok (.iload 4, 2) := by decide +kernel
theorem dX9_run_33 : decode cX9_run 33 = .ok (.bipush 6, 2) := by decide +kernel
theorem dX9_run_35 : decode cX9_run 35 = .ok (.if_icmp .ge 34, 3) := by decide +kernel
theorem dX9_run_38 : decode cX9_run 38 = .ok (.aload_n 0, 1) := by decide +kernel
theorem dX9_run_39 : decode cX9_run 39 = .ok (.getfield 84, 3) := by decide +kernel
theorem dX9_run_42 : decode cX9_run 42 = .ok (.iload 4, 2) := by decide +kernel
theorem dX9_run_44 : decode cX9_run 44 = .ok (.aload_n 0, 1) := by decide +kernel
theorem dX9_run_45 : decode cX9_run 45 = .ok (.aload_n 0, 1) := by decide +kernel
theorem dX9_run_46 : decode cX9_run 46 = .ok (.getfield 38, 3) := by decide +kernel
theorem dX9_run_49 : decode cX9_run 49 = .ok (.iload 4, 2) := by decide +kernel
theorem dX9_run_51 : decode cX9_run 51 = .ok (.iaload, 1) := by decide +kernel
theorem dX9_run_52 : decode cX9_run 52 = .ok (.aload_n 0, 1) := by decide +kernel
theorem dX9_run_53 : decode cX9_run 53 = .ok (.getfield 41, 3) := by decide +kernel
theorem dX9_run_56 : decode cX9_run 56 = .ok (.iload 4, 2) := by decide +kernel
theorem dX9_run_58 : decode cX9_run 58 = .ok (.iaload, 1) := by decide +kernel
theorem dX9_run_59 : decode cX9_run 59 = .ok (.invokevirtual 200, 3) := by decide +kernel
theorem dX9_run_62 : decode cX9_run 62 = .ok (.iastore, 1) := by decide +kernel
theorem dX9_run_63 : decode cX9_run 63 = .ok (.iinc 4 1, 3) := by decide +kernel
theorem dX9_run_66 : decode cX9_run 66 = .ok (.goto (-35), 3) := by decide +kernel
theorem dX9_run_69 : decode cX9_run 69 = .ok (.aload_n 0, 1) := by decide +kernel
theorem dX9_run_70 : decode cX9_run 70 = .ok (.iconst 0, 1) := by decide +kernel
theorem dX9_run_71 : decode cX9_run 71 = .ok (.putfield 203, 3) := by decide +kernel
theorem dX9_run_74 : decode cX9_run 74 = .ok (.iconst 0, 1) := by decide +kernel
theorem dX9_run_75 : decode cX9_run 75 = .ok (.istore 4, 2) := by decide +kernel
theorem dX9_run_77 : decode cX9_run 77 = .ok (.iload 4, 2) := by decide +kernel
theorem dX9_run_79 : decode cX9_run 79 = .ok (.iconst (-1), 1) := by decide +kernel
theorem dX9_run_80 : decode cX9_run 80 = .ok (.if_icmp .eq 179, 3) := by decide +kernel
theorem dX9_run_83 : decode cX9_run 83 = .ok (.aload_n 0, 1) := by decide +kernel
theorem dX9_run_84 : decode cX9_run 84 = .ok (.getfield 203, 3) := by decide +kernel
theorem dX9_run_87 : decode cX9_run 87 = .ok (.iload_n 3, 1) := by decide +kernel
theorem dX9_run_88 : decode cX9_run 88 = .ok (.if_icmp .ge 171, 3) := by decide +kernel
theorem dX9_run_91 : decode cX9_run 91 = .ok (.aload_n 0, 1) := by decide +kernel
theorem dX9_run_92 : decode cX9_run 92 = .ok (.getfield 78, 3) := by decide +kernel
theorem dX9_run_95 : decode cX9_run 95 = .ok (.aload_n 0, 1) := by decide +kernel
theorem dX9_run_96 : decode cX9_run 96 = .ok (.getfield 203, 3) := by decide +kernel
theorem dX9_run_99 : decode cX9_run 99 = .ok (.iload 4, 2) := by decide +kernel
theorem dX9_run_101 : decode cX9_run 101 = .ok (.iastore, 1) := by decide +kernel
theorem dX9_run_102 : decode cX9_run 102 = .ok (.iconst 0, 1) := by decide +kernel
theorem dX9_run_103 : decode cX9_run 103 = .ok (.istore 5, 2) := by decide +kernel
theorem dX9_run_105 : decode cX9_run 105 = .ok (.iload 5, 2) := by decide +kernel
theorem dX9_run_107 : decode cX9_run 107 = .ok (.bipush 6, 2) := by decide +kernel
theorem dX9_run_109 : decode cX9_run 109 = .ok (.if_icmp .ge 31, 3) := by decide +kernel
theorem dX9_run_112 : decode cX9_run 112 = .ok (.aload_n 0, 1) := by decide +kernel
theorem dX9_run_113 : decode cX9_run 113 = .ok (.getfield 81, 3) := by decide +kernel
theorem dX9_run_116 : decode cX9_run 116 = .ok (.bipush 6, 2) := by decide +kernel
theorem dX9_run_118 : decode cX9_run 118 = .ok (.aload_n 0, 1) := by decide +kernel
theorem dX9_run_119 : decode cX9_run 119 = .ok (.getfield 203, 3) := by decide +kernel
theorem dX9_run_122 : decode cX9_run 122 = .ok (.imul, 1) := by decide +kernel
theorem dX9_run_123 : decode cX9_run 123 = .ok (.iload 5, 2) := by decide +kernel
theorem dX9_run_125 : decode cX9_run 125 = .ok (.iadd, 1) := by decide +kernel
theorem dX9_run_126 : decode cX9_run 126 = .ok (.aload_n 0, 1) := by decide +kernel
theorem dX9_run_127 : decode cX9_run 127 = .ok (.getfield 84, 3) := by decide +kernel
theorem dX9_run_130 : decode cX9_run 130 = .ok (.iload 5, 2) := by decide +kernel
theorem dX9_run_132 : decode cX9_run 132 = .ok (.iaload, 1) := by decide +kernel
theorem dX9_run_133 : decode cX9_run 133 = .ok (.iastore, 1) := by decide +kernel
theorem dX9_run_134 : decode cX9_run 134 = .ok (.iinc 5 1, 3) := by decide +kernel
theorem dX9_run_137 : decode cX9_run 137 = .ok (.goto (-32), 3) := by decide +kernel
theorem dX9_run_140 : decode cX9_run 140 = .ok (.aload_n 0, 1) := by decide +kernel
theorem dX9_run_141 : decode cX9_run 141 = .ok (.dup, 1) := by decide +kernel
theorem dX9_run_142 : decode cX9_run 142 = .ok (.getfield 203, 3) := by decide +kernel
theorem dX9_run_145 : decode cX9_run 145 = .ok (.iconst 1, 1) := by decide +kernel
theorem dX9_run_146 : decode cX9_run 146 = .ok (.iadd, 1) := by decide +kernel
theorem dX9_run_147 : decode cX9_run 147 = .ok (.putfield 203, 3) := by decide +kernel
theorem dX9_run_150 : decode cX9_run 150 = .ok (.iconst 0, 1) := by decide +kernel
theorem dX9_run_151 : decode cX9_run 151 = .ok (.istore 5, 2) := by decide +kernel
theorem dX9_run_153 : decode cX9_run 153 = .ok (.iload 5, 2) := by decide +kernel
theorem dX9_run_155 : decode cX9_run 155 = .ok (.aload_n 0, 1) := by decide +kernel
theorem dX9_run_156 : decode cX9_run 156 = .ok (.getfield 13, 3) := by decide +kernel
theorem dX9_run_159 : decode cX9_run 159 = .ok (.iload 4, 2) := by decide +kernel
theorem dX9_run_161 : decode cX9_run 161 = .ok (.iaload, 1) := by decide +kernel
theorem dX9_run_162 : decode cX9_run 162 = .ok (.if_icmp .ge 41, 3) := by decide +kernel
theorem dX9_run_165 : decode cX9_run 165 = .ok (.iconst 4, 1) := by decide +kernel
theorem dX9_run_166 : decode cX9_run 166 = .ok (.bipush 8, 2) := by decide +kernel
theorem dX9_run_168 : decode cX9_run 168 = .ok (.iload 4, 2) := by decide +kernel
theorem dX9_run_170 : decode cX9_run 170 = .ok (.imul, 1) := by decide +kernel
theorem dX9_run_171 : decode cX9_run 171 = .ok (.iload 5, 2) := by decide +kernel
theorem dX9_run_173 : decode cX9_run 173 = .ok (.iadd, 1) := by decide +kernel
theorem dX9_run_174 : decode cX9_run 174 = .ok (.imul, 1) := by decide +kernel
theorem dX9_run_175 : decode cX9_run 175 = .ok (.istore 6, 2) := by decide +kernel
theorem dX9_run_177 : decode cX9_run 177 = .ok (.aload_n 0, 1) := by decide +kernel
theorem dX9_run_178 : decode cX9_run 178 = .ok (.getfield 84, 3) := by decide +kernel
theorem dX9_run_181 : decode cX9_run 181 = .ok (.aload_n 0, 1) := by decide +kernel
theorem dX9_run_182 : decode cX9_run 182 = .ok (.getfield 17, 3) := by decide +kernel
theorem dX9_run_185 : decode cX9_run 185 = .ok (.iload 6, 2) := by decide +kernel
theorem dX9_run_187 : decode cX9_run 187 = .ok (.iconst 1, 1) := by decide +kernel
theorem dX9_run_188 : decode cX9_run 188 = .ok (.iadd, 1) := by decide +kernel
theorem dX9_run_189 : decode cX9_run 189 = .ok (.iaload, 1) := by decide +kernel
theorem dX9_run_190 : decode cX9_run 190 = .ok (.aload_n 0, 1) := by decide +kernel
theorem dX9_run_191 : decode cX9_run 191 = .ok (.iload 6, 2) := by decide +kernel
theorem dX9_run_193 : decode cX9_run 193 = .ok (.invokevirtual 206, 3) := by decide +kernel
theorem dX9_run_196 : decode cX9_run 196 = .ok (.iastore, 1) := by decide +kernel
theorem dX9_run_197 : decode cX9_run 197 = .ok (.iinc 5 1, 3) := by decide +kernel
theorem dX9_run_200 : decode cX9_run 200 = .ok (.goto (-47), 3) := by decide +kernel
theorem dX9_run_203 : decode cX9_run 203 = .ok (.aload_n 0, 1) := by decide +kernel
theorem dX9_run_204 : decode cX9_run 204 = .ok (.getfield 20, 3) := by decide +kernel
theorem dX9_run_207 : decode cX9_run 207 = .ok (.iload 4, 2) := by decide +kernel
theorem dX9_run_209 : decode cX9_run 209 = .ok (.iaload, 1) := by decide +kernel
theorem dX9_run_210 : decode cX9_run 210 = .ok (.ifCond .ne 7, 3) := by decide +kernel
theorem dX9_run_213 : decode cX9_run 213 = .ok (.iconst (-1), 1) := by decide +kernel
theorem dX9_run_214 : decode cX9_run 214 = .ok (.goto 40, 3) := by decide +kernel
theorem dX9_run_217 : decode cX9_run 217 = .ok (.aload_n 0, 1) := by decide +kernel
theorem dX9_run_218 : decode cX9_run 218 = .ok (.getfield 20, 3) := by decide +kernel
theorem dX9_run_221 : decode cX9_run 221 = .ok (.iload 4, 2) := by decide +kernel
theorem dX9_run_223 : decode cX9_run 223 = .ok (.iaload, 1) := by decide +kernel
theorem dX9_run_224 : decode cX9_run 224 = .ok (.iconst 1, 1) := by decide +kernel
theorem dX9_run_225 : decode cX9_run 225 = .ok (.if_icmp .eq 12, 3) := by decide +kernel
theorem dX9_run_228 : decode cX9_run 228 = .ok (.aload_n 0, 1) := by decide +kernel
theorem dX9_run_229 : decode cX9_run 229 = .ok (.iload 4, 2) := by decide +kernel
theorem dX9_run_231 : decode cX9_run 231 = .ok (.invokevirtual 209, 3) := by decide +kernel
theorem dX9_run_234 : decode cX9_run 234 = .ok (.ifCond .eq 13, 3) := by decide +kernel
theorem dX9_run_237 : decode cX9_run 237 = .ok (.aload_n 0, 1) := by decide +kernel
theorem dX9_run_238 : decode cX9_run 238 = .ok (.getfield 23, 3) := by decide +kernel
theorem dX9_run_241 : decode cX9_run 241 = .ok (.iload 4, 2) := by decide +kernel
theorem dX9_run_243 : decode cX9_run 243 = .ok (.iaload, 1) := by decide +kernel
theorem dX9_run_244 : decode cX9_run 244 = .ok (.goto 10, 3) := by decide +kernel
theorem dX9_run_247 : decode cX9_run 247 = .ok (.aload_n 0, 1) := by decide +kernel
theorem dX9_run_248 : decode cX9_run 248 = .ok (.getfield 26, 3) := by decide +kernel
theorem dX9_run_251 : decode cX9_run 251 = .ok (.iload 4, 2) := by decide +kernel
theorem dX9_run_253 : decode cX9_run 253 = .ok (.iaload, 1) := by decide +kernel
theorem dX9_run_254 : decode cX9_run 254 = .ok (.istore 4, 2) := by decide +kernel
theorem dX9_run_256 : decode cX9_run 256 = .ok (.goto (-179), 3) := by decide +kernel
theorem dX9_run_259 : decode cX9_run 259 = .ok (.aload_n 0, 1) := by decide +kernel
theorem dX9_run_260 : decode cX9_run 260 = .ok (.getfield 203, 3) := by decide +kernel
theorem dX9_run_263 : decode cX9_run 263 = .ok (.ireturn, 1) := by decide +kernel
set_option maxRecDepth 20000 in
theorem ggX9_enteredBlock_X9_fail : GoodIn wsX9_enteredBlock wsX9_fail := goodIn_r _ [8, 1, 9, 10, 11, 12, 13, 14, 15, 16, 17, 18, 19, 20, 21, 22, 23, 24, 25, 26, 27, 28, 29, 30, 31, 32, 33, 34, 35, 36, 37, 38, 39] (by decide +kernel) (by decide +kernel)
set_option maxRecDepth 20000 in
theorem gX9_enteredBlock_X9_fail : GoodIn wsX9_enteredBlock (wsV RX9 92 RX9 yX9_fail wsX9_fail) := goodIn_app (goodIn_of _ (by decide +kernel)) ggX9_enteredBlock_X9_fail
theorem dX9_enteredBlock_0 : decode cX9_enteredBlock 0 = .ok (.aload_n 0, 1) := by decide +kernel
theorem dX9_enteredBlock_1 : decode cX9_enteredBlock 1 = .ok (.iconst 0, 1) := by decide +kernel
theorem dX9_enteredBlock_2 : decode cX9_enteredBlock 2 = .ok (.putfield 87, 3) := by decide +kernel
theorem dX9_enteredBlock_5 : decode cX9_enteredBlock 5 = .ok (.iload_n 1, 1) := by decide +kernel
theorem dX9_enteredBlock_6 : decode cX9_enteredBlock 6 = .ok (.ifCond .lt 20, 3) := by decide +kernel
theorem dX9_enteredBlock_9 : decode cX9_enteredBlock 9 = .ok (.iload_n 1, 1) := by decide +kernel
theorem dX9_enteredBlock_10 : decode cX9_enteredBlock 10 = .ok (.aload_n 0, 1) := by decide +kernel
theorem dX9_enteredBlock_11 : decode cX9_enteredBlock 11 = .ok (.getfield 203, 3) := by decide +kernel
theorem dX9_enteredBlock_14 : decode cX9_enteredBlock 14 = .ok (.if_icmp .ge 12, 3) := by decide +kernel
theorem dX9_enteredBlock_17 : decode cX9_enteredBlock 17 = .ok (.aload_n 0, 1) := by decide +kernel
theorem dX9_enteredBlock_18 : decode cX9_enteredBlock 18 = .ok (.getfield 78, 3) := by decide +kernel
theorem dX9_enteredBlock_21 : decode cX9_enteredBlock 21 = .ok (.iload_n 1, 1) := by decide +kernel
theorem dX9_enteredBlock_22 : decode cX9_enteredBlock 22 = .ok (.iaload, 1) := by decide +kernel
theorem dX9_enteredBlock_23 : decode cX9_enteredBlock 23 = .ok (.goto 8, 3) := by decide +kernel
theorem dX9_enteredBlock_26 : decode cX9_enteredBlock 26 = .ok (.aload_n 0, 1) := by decide +kernel
theorem dX9_enteredBlock_27 : decode cX9_enteredBlock 27 = .ok (.iconst 1, 1) := by decide +kernel
theorem dX9_enteredBlock_28 : decode cX9_enteredBlock 28 = .ok (.invokevirtual 92, 3) := by decide +kernel
theorem dX9_enteredBlock_31 : decode cX9_enteredBlock 31 = .ok (.ireturn, 1) := by decide +kernel
set_option maxRecDepth 20000 in
theorem ggX9_enteredWith_X9_isVariable : GoodIn wsX9_enteredWith wsX9_isVariable := goodIn_r _ [7] (by decide +kernel) (by decide +kernel)
set_option maxRecDepth 20000 in
theorem gX9_enteredWith_X9_isVariable : GoodIn wsX9_enteredWith (va_wsS RX9 100 yX9_isVariable wsX9_isVariable) := goodIn_app (goodIn_of _ (by decide +kernel)) ggX9_enteredWith_X9_isVariable
set_option maxRecDepth 20000 in
theorem ggX9_enteredWith_X9_fail : GoodIn wsX9_enteredWith wsX9_fail := goodIn_r _ [11, 1, 12, 13, 14, 15, 16, 17, 18, 19, 20, 21, 22, 23, 24, 25, 26, 27, 28, 29, 30, 31, 32, 33, 34, 35, 36, 37, 38, 39, 40, 41, 42] (by decide +kernel) (by decide +kernel)
set_option maxRecDepth 20000 in
theorem gX9_enteredWith_X9_fail : GoodIn wsX9_enteredWith (wsV RX9 92 RX9 yX9_fail wsX9_fail) := goodIn_app (goodIn_of _ (by decide +kernel)) ggX9_enteredWith_X9_fail
theorem dX9_enteredWith_0 : decode cX9_enteredWith 0 = .ok (.aload_n 0, 1) := by decide +kernel
theorem dX9_enteredWith_1 : decode cX9_enteredWith 1 = .ok (.iconst 0, 1) := by decide +kernel
theorem dX9_enteredWith_2 : decode cX9_enteredWith 2 = .ok (.putfield 87, 3) := by decide +kernel
theorem dX9_enteredWith_5 : decode cX9_enteredWith 5 = .ok (.iload_n 1, 1) := by decide +kernel
theorem dX9_enteredWith_6 : decode cX9_enteredWith 6 = .ok (.ifCond .lt 32, 3) := by decide +kernel
theorem dX9_enteredWith_9 : decode cX9_enteredWith 9 = .ok (.iload_n 1, 1) := by decide +kernel
theorem dX9_enteredWith_10 : decode cX9_enteredWith 10 = .ok (.aload_n 0, 1) := by decide +kernel
theorem dX9_enteredWith_11 : decode cX9_enteredWith 11 = .ok (.getfield 203, 3) := by decide +kernel
theorem dX9_enteredWith_14 : decode cX9_enteredWith 14 = .ok (.if_icmp .ge 24, 3) := by decide +kernel
theorem dX9_enteredWith_17 : decode cX9_enteredWith 17 = .ok (.iload_n 2, 1) := by decide +kernel
theorem dX9_enteredWith_18 : decode cX9_enteredWith 18 = .ok (.invokestatic 100, 3) := by decide +kernel
theorem dX9_enteredWith_21 : decode cX9_enteredWith 21 = .ok (.ifCond .eq 17, 3) := by decide +kernel
theorem dX9_enteredWith_24 : decode cX9_enteredWith 24 = .ok (.aload_n 0, 1) := by decide +kernel
theorem dX9_enteredWith_25 : decode cX9_enteredWith 25 = .ok (.getfield 81, 3) := by decide +kernel
theorem dX9_enteredWith_28 : decode cX9_enteredWith 28 = .ok (.bipush 6, 2) := by decide +kernel
theorem dX9_enteredWith_30 : decode cX9_enteredWith 30 = .ok (.iload_n 1, 1) := by decide +kernel
theorem dX9_enteredWith_31 : decode cX9_enteredWith 31 = .ok (.imul, 1) := by decide +kernel
theorem dX9_enteredWith_32 : decode cX9_enteredWith 32 = .ok (.iload_n 2, 1) := by decide +kernel
theorem dX9_enteredWith_33 : decode cX9_enteredWith 33 = .ok (.iadd, 1) := by decide +kernel
theorem dX9_enteredWith_34 : decode cX9_enteredWith 34 = .ok (.iaload, 1) := by decide +kernel
theorem dX9_enteredWith_35 : decode cX9_enteredWith 35 = .ok (.goto 8, 3) := by decide +kernel
theorem dX9_enteredWith_38 : decode cX9_enteredWith 38 = .ok (.aload_n 0, 1) := by decide +kernel
theorem dX9_enteredWith_39 : decode cX9_enteredWith 39 = .ok (.iconst 1, 1) := by decide +kernel
theorem dX9_enteredWith_40 : decode cX9_enteredWith 40 = .ok (.invokevirtual 92, 3) := by decide +kernel
theorem dX9_enteredWith_43 : decode cX9_enteredWith 43 = .ok (.ireturn, 1) := by decide +kernel
set_option maxRecDepth 20000 in
theorem ggX9_result_X9_isVariable : GoodIn wsX9_result wsX9_isVariable := goodIn_r _ [6] (by decide +kernel) (by decide +kernel)
set_option maxRecDepth 20000 in
theorem gX9_result_X9_isVariable : GoodIn wsX9_result (va_wsS RX9 100 yX9_isVariable wsX9_isVariable) := goodIn_app (goodIn_of _ (by decide +kernel)) ggX9_result_X9_isVariable
set_option maxRecDepth 20000 in
theorem ggX9_result_X9_fail : GoodIn wsX9_result wsX9_fail := goodIn_r _ [10, 1, 11, 12, 13, 14, 15, 16, 17, 18, 19, 20, 21, 22, 23, 24, 25, 26, 27, 28, 29, 30, 31, 32, 33, 34, 35, 36, 37, 38, 39, 40, 41] (by decide +kernel) (by decide +kernel)
set_option maxRecDepth 20000 in
theorem gX9_result_X9_fail : GoodIn wsX9_result (wsV RX9 92 RX9 yX9_fail wsX9_fail) := goodIn_app (goodIn_of _ (by decide +kernel)) ggX9_result_X9_fail
theorem dX9_result_0 : decode cX9_result 0 = .ok (.aload_n 0, 1) := by decide +kernel
theorem dX9_result_1 : decode cX9_result 1 = .ok (.iconst 0, 1) := by decide +kernel
theorem dX9_result_2 : decode cX9_result 2 = .ok (.putfield 87, 3) := by decide +kernel
theorem dX9_result_5 : decode cX9_result 5 = .ok (.iload_n 1, 1) := by decide +kernel
theorem dX9_result_6 : decode cX9_result 6 = .ok (.invokestatic 100, 3) := by decide +kernel
theorem dX9_result_9 : decode cX9_result 9 = .ok (.ifCond .eq 12, 3) := by decide +kernel
theorem dX9_result_12 : decode cX9_result 12 = .ok (.aload_n 0, 1) := by decide +kernel
theorem dX9_result_13 : decode cX9_result 13 = .ok (.getfield 84, 3) := by decide +kernel
theorem dX9_result_16 : decode cX9_result 16 = .ok (.iload_n 1, 1) := by decide +kernel
theorem dX9_result_17 : decode cX9_result 17 = .ok (.iaload, 1) := by decide +kernel
theorem dX9_result_18 : decode cX9_result 18 = .ok (.goto 8, 3) := by decide +kernel
theorem dX9_result_21 : decode cX9_result 21 = .ok (.aload_n 0, 1) := by decide +kernel
theorem dX9_result_22 : decode cX9_result 22 = .ok (.iconst 1, 1) := by decide +kernel
theorem dX9_result_23 : decode cX9_result 23 = .ok (.invokevirtual 92, 3) := by decide +kernel
theorem dX9_result_26 : decode cX9_result 26 = .ok (.ireturn, 1) := by decide +kernel
theorem dX9_digest_0 : decode cX9_digest 0 = .ok (.aload_n 0, 1) := by decide +kernel
theorem dX9_digest_1 : decode cX9_digest 1 = .ok (.iconst 0, 1) := by decide +kernel
theorem dX9_digest_2 : decode cX9_digest 2 = .ok (.putfield 87, 3) := by decide +kernel
theorem dX9_digest_5 : decode cX9_digest 5 = .ok (.ldc2_w 212, 3) := by decide +kernel
theorem dX9_digest_8 : decode cX9_digest 8 = .ok (.aload_n 0, 1) := by decide +kernel
theorem dX9_digest_9 : decode cX9_digest 9 = .ok (.getfield 7, 3) := by decide +kernel
theorem dX9_digest_12 : decode cX9_digest 12 = .ok (.i2l, 1) := by decide +kernel
theorem dX9_digest_13 : decode cX9_digest 13 = .ok (.ladd, 1) := by decide +kernel
theorem dX9_digest_14 : decode cX9_digest 14 = .ok (.lstore_n 1, 1) := by decide +kernel
theorem dX9_digest_15 : decode cX9_digest 15 = .ok (.iconst 0, 1) := by decide +kernel
theorem dX9_digest_16 : decode cX9_digest 16 = .ok (.istore_n 3, 1) := by decide +kernel
theorem dX9_digest_17 : decode cX9_digest 17 = .ok (.iload_n 3, 1) := by decide +kernel
theorem dX9_digest_18 : decode cX9_digest 18 = .ok (.aload_n 0, 1) := by decide +kernel
theorem dX9_digest_19 : decode cX9_digest 19 = .ok (.getfield 7, 3) := by decide +kernel
theorem dX9_digest_22 : decode cX9_digest 22 = .ok (.if_icmp .ge 35, 3) := by decide +kernel
theorem dX9_digest_25 : decode cX9_digest 25 = .ok (.lload_n 1, 1) := by decide +kernel
theorem dX9_digest_26 : decode cX9_digest 26 = .ok (.ldc2_w 214, 3) := by decide +kernel
theorem dX9_digest_29 : decode cX9_digest 29 = .ok (.lmul, 1) := by decide +kernel
theorem dX9_digest_30 : decode cX9_digest 30 = .ok (.aload_n 0, 1) := by decide +kernel
theorem dX9_digest_31 : decode cX9_digest 31 = .ok (.getfield 13, 3) := by decide +kernel
theorem dX9_digest_34 : decode cX9_digest 34 = .ok (.iload_n 3, 1) := by decide +kernel
theorem dX9_digest_35 : decode cX9_digest 35 = .ok (.iaload, 1) := by decide +kernel
theorem dX9_digest_36 : decode cX9_digest 36 = .ok (.i2l, 1) := by decide +kernel
theorem dX9_digest_37 : decode cX9_digest 37 = .ok (.ladd, 1) := by decide +kernel
theorem dX9_digest_38 : decode cX9_digest 38 = .ok (.ldc2_w 214, 3) := by decide +kernel
theorem dX9_digest_41 : decode cX9_digest 41 = .ok (.lmul, 1) := by decide +kernel
theorem dX9_digest_42 : decode cX9_digest 42 = .ok (.aload_n 0, 1) := by decide +kernel
theorem dX9_digest_43 : decode cX9_digest 43 = .ok (.getfield 20, 3) := by decide +kernel
theorem dX9_digest_46 : decode cX9_digest 46 = .ok (.iload_n 3, 1) := by decide +kernel
theorem dX9_digest_47 : decode cX9_digest 47 = .ok (.iaload, 1) := by decide +kernel
theorem dX9_digest_48 : decode cX9_digest 48 = .ok (.i2l, 1) := by decide +kernel
theorem dX9_digest_49 : decode cX9_digest 49 = .ok (.ladd, 1) := by decide +kernel
theorem dX9_digest_50 : decode cX9_digest 50 = .ok (.lstore_n 1, 1) := by decide +kernel
theorem dX9_digest_51 : decode cX9_digest 51 = .ok (.iinc 3 1, 3) := by decide +kernel
theorem dX9_digest_54 : decode cX9_digest 54 = .ok (.goto (-37), 3) := by decide +kernel
theorem dX9_digest_57 : decode cX9_digest 57 = .ok (.lload_n 1, 1) := by decide +kernel
theorem dX9_digest_58 : decode cX9_digest 58 = .ok (.ldc2_w 214, 3) := by decide +kernel
theorem dX9_digest_61 : decode cX9_digest 61 = .ok (.lmul, 1) := by decide +kernel
theorem dX9_digest_62 : decode cX9_digest 62 = .ok (.aload_n 0, 1) := by decide +kernel
theorem dX9_digest_63 : decode cX9_digest 63 = .ok (.getfield 44, 3) := by decide +kernel
theorem dX9_digest_66 : decode cX9_digest 66 = .ok (.i2l, 1) := by decide +kernel
theorem dX9_digest_67 : decode cX9_digest 67 = .ok (.ladd, 1) := by decide +kernel
theorem dX9_digest_68 : decode cX9_digest 68 = .ok (.ldc2_w 214, 3) := by decide +kernel
theorem dX9_digest_71 : decode cX9_digest 71 = .ok (.lmul, 1) := by decide +kernel
theorem dX9_digest_72 : decode cX9_digest 72 = .ok (.aload_n 0, 1) := by decide +kernel
theorem dX9_digest_73 : decode cX9_digest 73 = .ok (.getfield 47, 3) := by decide +kernel
theorem dX9_digest_76 : decode cX9_digest 76 = .ok (.i2l, 1) := by decide +kernel
theorem dX9_digest_77 : decode cX9_digest 77 = .ok (.ladd, 1) := by decide +kernel
theorem dX9_digest_78 : decode cX9_digest 78 = .ok (.ldc2_w 214, 3) := by decide +kernel
theorem dX9_digest_81 : decode cX9_digest 81 = .ok (.lmul, 1) := by decide +kernel
theorem dX9_digest_82 : decode cX9_digest 82 = .ok (.aload_n 0, 1) := by decide +kernel
theorem dX9_digest_83 : decode cX9_digest 83 = .ok (.getfield 119, 3) := by decide +kernel
theorem dX9_digest_86 : decode cX9_digest 86 = .ok (.i2l, 1) := by decide +kernel
theorem dX9_digest_87 : decode cX9_digest 87 = .ok (.ladd, 1) := by decide +kernel
theorem dX9_digest_88 : decode cX9_digest 88 = .ok (.lstore_n 1, 1) := by decide +kernel
theorem dX9_digest_89 : decode cX9_digest 89 = .ok (.iconst 0, 1) := by decide +kernel
theorem dX9_digest_90 : decode cX9_digest 90 = .ok (.istore_n 3, 1) := by decide +kernel
theorem dX9_digest_91 : decode cX9_digest 91 = .ok (.iload_n 3, 1) := by decide +kernel
theorem dX9_digest_92 : decode cX9_digest 92 = .ok (.aload_n 0, 1) := by decide +kernel
theorem dX9_digest_93 : decode cX9_digest 93 = .ok (.getfield 7, 3) := by decide +kernel
theorem dX9_digest_96 : decode cX9_digest 96 = .ok (.if_icmp .ge 93, 3) := by decide +kernel
theorem dX9_digest_99 : decode cX9_digest 99 = .ok (.aload_n 0, 1) := by decide +kernel
theorem dX9_digest_100 : decode cX9_digest 100 = .ok (.getfield 96, 3) := by decide +kernel
theorem dX9_digest_103 : decode cX9_digest 103 = .ok (.ifCond .eq 86, 3) := by decide +kernel
theorem dX9_digest_106 : decode cX9_digest 106 = .ok (.lload_n 1, 1) := by decide +kernel
theorem dX9_digest_107 : decode cX9_digest 107 = .ok (.ldc2_w 214, 3) := by decide +kernel
theorem dX9_digest_110 : decode cX9_digest 110 = .ok (.lmul, 1) := by decide +kernel
theorem dX9_digest_111 : decode cX9_digest 111 = .ok (.aload_n 0, 1) := by decide +kernel
theorem dX9_digest_112 : decode cX9_digest 112 = .ok (.getfield 63, 3) := by decide +kernel
theorem dX9_digest_115 : decode cX9_digest 115 = .ok (.iload_n 3, 1) := by decide +kernel
theorem dX9_digest_116 : decode cX9_digest 116 = .ok (.iaload, 1) := by decide +kernel
theorem dX9_digest_117 : decode cX9_digest 117 = .ok (.i2l, 1) := by decide +kernel
theorem dX9_digest_118 : decode cX9_digest 118 = .ok (.ladd, 1) := by decide +kernel
theorem dX9_digest_119 : decode cX9_digest 119 = .ok (.lstore_n 1, 1) := by decide +kernel
theorem dX9_digest_120 : decode cX9_digest 120 = .ok (.iconst 0, 1) := by decide +kernel
theorem dX9_digest_121 : decode cX9_digest 121 = .ok (.istore 4, 2) := by decide +kernel
theorem dX9_digest_123 : decode cX9_digest 123 = .ok (.iload 4, 2) := by decide +kernel
theorem dX9_digest_125 : decode cX9_digest 125 = .ok (.bipush 6, 2) := by decide +kernel
theorem dX9_digest_127 : decode cX9_digest 127 = .ok (.if_icmp .ge 56, 3) := by decide +kernel
theorem dX9_digest_130 : decode cX9_digest 130 = .ok (.aload_n 0, 1) := by decide +kernel
theorem dX9_digest_131 : decode cX9_digest 131 = .ok (.getfield 53, 3) := by decide +kernel
theorem dX9_digest_134 : decode cX9_digest 134 = .ok (.iload_n 3, 1) := by decide +kernel
theorem dX9_digest_135 : decode cX9_digest 135 = .ok (.baload, 1) := by decide +kernel
theorem dX9_digest_136 : decode cX9_digest 136 = .ok (.ifCond .eq 47, 3) := by decide +kernel
theorem dX9_digest_139 : decode cX9_digest 139 = .ok (.lload_n 1, 1) := by decide +kernel
theorem dX9_digest_140 : decode cX9_digest 140 = .ok (.ldc2_w 214, 3) := by decide +kernel
theorem dX9_digest_143 : decode cX9_digest 143 = .ok (.lmul, 1) := by decide +kernel
theorem dX9_digest_144 : decode cX9_digest 144 = .ok (.aload_n 0, 1) := by decide +kernel
theorem dX9_digest_145 : decode cX9_digest 145 = .ok (.getfield 57, 3) := by decide +kernel
theorem dX9_digest_148 : decode cX9_digest 148 = .ok (.bipush 6, 2) := by decide +kernel
theorem dX9_digest_150 : decode cX9_digest 150 = .ok (.iload_n 3, 1) := by decide +kernel
theorem dX9_digest_151 : decode cX9_digest 151 = .ok (.imul, 1) := by decide +kernel
theorem dX9_digest_152 : decode cX9_digest 152 = .ok (.iload 4, 2) := by decide +kernel
theorem dX9_digest_154 : decode cX9_digest 154 = .ok (.iadd, 1) := by decide +kernel
theorem dX9_digest_155 : decode cX9_digest 155 = .ok (.iaload, 1) := by decide +kernel
theorem dX9_digest_156 : decode cX9_digest 156 = .ok (.i2l, 1) := by decide +kernel
theorem dX9_digest_157 : decode cX9_digest 157 = .ok (.ladd, 1) := by decide +kernel
theorem dX9_digest_158 : decode cX9_digest 158 = .ok (.ldc2_w 214, 3) := by decide +kernel
theorem dX9_digest_161 : decode cX9_digest 161 = .ok (.lmul, 1) := by decide +kernel
theorem dX9_digest_162 : decode cX9_digest 162 = .ok (.aload_n 0, 1) := by decide +kernel
theorem dX9_digest_163 : decode cX9_digest 163 = .ok (.getfield 60, 3) := by decide +kernel
theorem dX9_digest_166 : decode cX9_digest 166 = .ok (.bipush 6, 2) := by decide +kernel
theorem dX9_digest_168 : decode cX9_digest 168 = .ok (.iload_n 3, 1) := by decide +kernel
theorem dX9_digest_169 : decode cX9_digest 169 = .ok (.imul, 1) := by decide +kernel
theorem dX9_digest_170 : decode cX9_digest 170 = .ok (.iload 4, 2) := by decide +kernel
theorem dX9_digest_172 : decode cX9_digest 172 = .ok (.iadd, 1) := by decide +kernel
theorem dX9_digest_173 : decode cX9_digest 173 = .ok (.iaload, 1) := by decide +kernel
theorem dX9_digest_174 : decode cX9_digest 174 = .ok (.i2l, 1) := by decide +kernel
theorem dX9_digest_175 : decode cX9_digest 175 = .ok (.ladd, 1) := by decide +kernel
theorem dX9_digest_176 : decode cX9_digest 176 = .ok (.lstore_n 1, 1) := by decide +kernel
theorem dX9_digest_177 : decode cX9_digest 177 = .ok (.iinc 4 1, 3) := by decide +kernel
theorem dX9_digest_180 : decode cX9_digest 180 = .ok (.goto (-57), 3) := by decide +kernel
theorem dX9_digest_183 : decode cX9_digest 183 = .ok (.iinc 3 1, 3) := by decide +kernel
theorem dX9_digest_186 : decode cX9_digest 186 = .ok (.goto (-95), 3) := by decide +kernel
theorem dX9_digest_189 : decode cX9_digest 189 = .ok (.iconst 0, 1) := by decide +kernel
theorem dX9_digest_190 : decode cX9_digest 190 = .ok (.istore_n 3, 1) := by decide +kernel
theorem dX9_digest_191 : decode cX9_digest 191 = .ok (.iload_n 3, 1) := by decide +kernel
theorem dX9_digest_192 : decode cX9_digest 192 = .ok (.bipush 6, 2) := by decide +kernel
theorem dX9_digest_194 : decode cX9_digest 194 = .ok (.if_icmp .ge 23, 3) := by decide +kernel
theorem dX9_digest_197 : decode cX9_digest 197 = .ok (.lload_n 1, 1) := by decide +kernel
theorem dX9_digest_198 : decode cX9_digest 198 = .ok (.ldc2_w 214, 3) := by decide +kernel
theorem dX9_digest_201 : decode cX9_digest 201 = .ok (.lmul, 1) := by decide +kernel
theorem dX9_digest_202 : decode cX9_digest 202 = .ok (.aload_n 0, 1) := by decide +kernel
theorem dX9_digest_203 : decode cX9_digest 203 = .ok (.getfield 84, 3) := by decide +kernel
theorem dX9_digest_206 : decode cX9_digest 206 = .ok (.iload_n 3, 1) := by decide +kernel
theorem dX9_digest_207 : decode cX9_digest 207 = .ok (.iaload, 1) := by decide +kernel
theorem dX9_digest_208 : decode cX9_digest 208 = .ok (.i2l, 1) := by decide +kernel
theorem dX9_digest_209 : decode cX9_digest 209 = .ok (.ladd, 1) := by decide +kernel
theorem dX9_digest_210 : decode cX9_digest 210 = .ok (.lstore_n 1, 1) := by decide +kernel
theorem dX9_digest_211 : decode cX9_digest 211 = .ok (.iinc 3 1, 3) := by decide +kernel
theorem dX9_digest_214 : decode cX9_digest 214 = .ok (.goto (-23), 3) := by decide +kernel
theorem dX9_digest_217 : decode cX9_digest 217 = .ok (.lload_n 1, 1) := by decide +kernel
theorem dX9_digest_218 : decode cX9_digest 218 = .ok (.lreturn, 1) := by decide +kernel
