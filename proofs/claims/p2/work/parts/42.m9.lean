theorem dX11_isSmall_0 : decode cX11_isSmall 0 = .ok (.iload_n 0, 1) := by decide +kernel
theorem dX11_isSmall_1 : decode cX11_isSmall 1 = .ok (.i2l, 1) := by decide +kernel
theorem dX11_isSmall_2 : decode cX11_isSmall 2 = .ok (.ldc2_w 201, 3) := by decide +kernel
theorem dX11_isSmall_5 : decode cX11_isSmall 5 = .ok (.ldc2_w 203, 3) := by decide +kernel
set_option maxRecDepth 20000 in
theorem ggX11_isSmall_X11_in : GoodIn wsX11_isSmall wsX11_in := goodIn_r _ [6] (by decide +kernel) (by decide +kernel)
set_option maxRecDepth 20000 in
theorem gX11_isSmall_X11_in : GoodIn wsX11_isSmall (va_wsS RX11 49 yX11_in wsX11_in) := goodIn_app (goodIn_of _ (by decide +kernel)) ggX11_isSmall_X11_in
theorem dX11_isSmall_8 : decode cX11_isSmall 8 = .ok (.invokestatic 49, 3) := by decide +kernel
theorem dX11_isSmall_11 : decode cX11_isSmall 11 = .ok (.ireturn, 1) := by decide +kernel
theorem dX11_isFigure_0 : decode cX11_isFigure 0 = .ok (.iload_n 0, 1) := by decide +kernel
theorem dX11_isFigure_1 : decode cX11_isFigure 1 = .ok (.i2l, 1) := by decide +kernel
theorem dX11_isFigure_2 : decode cX11_isFigure 2 = .ok (.ldc2_w 205, 3) := by decide +kernel
theorem dX11_isFigure_5 : decode cX11_isFigure 5 = .ok (.ldc2_w 207, 3) := by decide +kernel
set_option maxRecDepth 20000 in
theorem ggX11_isFigure_X11_in : GoodIn wsX11_isFigure wsX11_in := goodIn_r _ [6] (by decide +kernel) (by decide +kernel)
set_option maxRecDepth 20000 in
theorem gX11_isFigure_X11_in : GoodIn wsX11_isFigure (va_wsS RX11 49 yX11_in wsX11_in) := goodIn_app (goodIn_of _ (by decide +kernel)) ggX11_isFigure_X11_in
theorem dX11_isFigure_8 : decode cX11_isFigure 8 = .ok (.invokestatic 49, 3) := by decide +kernel
theorem dX11_isFigure_11 : decode cX11_isFigure 11 = .ok (.ireturn, 1) := by decide +kernel
theorem dX11_look_0 : decode cX11_look 0 = .ok (.aload_n 0, 1) := by decide +kernel
theorem dX11_look_1 : decode cX11_look 1 = .ok (.iload_n 1, 1) := by decide +kernel
theorem dX11_look_2 : decode cX11_look 2 = .ok (.putfield 209, 3) := by decide +kernel
theorem dX11_look_5 : decode cX11_look 5 = .ok (.aload_n 0, 1) := by decide +kernel
theorem dX11_look_6 : decode cX11_look 6 = .ok (.getfield 209, 3) := by decide +kernel
theorem dX11_look_9 : decode cX11_look 9 = .ok (.aload_n 0, 1) := by decide +kernel
theorem dX11_look_10 : decode cX11_look 10 = .ok (.getfield 196, 3) := by decide +kernel
theorem dX11_look_43 : decode cX11_look 43 = .ok (.aload_n 0, 1) := by decide +kernel
theorem dX11_look_44 : decode cX11_look 44 = .ok (.iconst 0, 1) := by decide +kernel
theorem dX11_look_45 : decode cX11_look 45 = .ok (.putfield 212, 3) := by decide +kernel
theorem dX11_look_48 : decode cX11_look 48 = .ok (.aload_n 0, 1) := by decide +kernel
theorem dX11_look_49 : decode cX11_look 49 = .ok (.iconst 0, 1) := by decide +kernel
theorem dX11_look_50 : decode cX11_look 50 = .ok (.putfield 215, 3) := by decide +kernel
theorem dX11_look_53 : decode cX11_look 53 = .ok (.aload_n 0, 1) := by decide +kernel
theorem dX11_look_54 : decode cX11_look 54 = .ok (.iconst 0, 1) := by decide +kernel
theorem dX11_look_55 : decode cX11_look 55 = .ok (.putfield 218, 3) := by decide +kernel
theorem dX11_look_58 : decode cX11_look 58 = .ok (.aload_n 0, 1) := by decide +kernel
theorem dX11_look_59 : decode cX11_look 59 = .ok (.getfield 209, 3) := by decide +kernel
theorem dX11_look_62 : decode cX11_look 62 = .ok (.aload_n 0, 1) := by decide +kernel
theorem dX11_look_63 : decode cX11_look 63 = .ok (.getfield 196, 3) := by decide +kernel
theorem dX11_look_66 : decode cX11_look 66 = .ok (.if_icmp .ne 4, 3) := by decide +kernel
theorem dX11_look_70 : decode cX11_look 70 = .ok (.aload_n 0, 1) := by decide +kernel
theorem dX11_look_71 : decode cX11_look 71 = .ok (.getfield 35, 3) := by decide +kernel
theorem dX11_look_74 : decode cX11_look 74 = .ok (.aload_n 0, 1) := by decide +kernel
theorem dX11_look_75 : decode cX11_look 75 = .ok (.getfield 209, 3) := by decide +kernel
theorem dX11_look_78 : decode cX11_look 78 = .ok (.iaload, 1) := by decide +kernel
theorem dX11_look_79 : decode cX11_look 79 = .ok (.istore_n 2, 1) := by decide +kernel
theorem dX11_look_80 : decode cX11_look 80 = .ok (.aload_n 0, 1) := by decide +kernel
theorem dX11_look_81 : decode cX11_look 81 = .ok (.iload_n 2, 1) := by decide +kernel
set_option maxRecDepth 20000 in
theorem ggX11_look_X11_isSmall : GoodIn wsX11_look wsX11_isSmall := goodIn_r _ [10, 11, 12, 13, 14, 9, 15] (by decide +kernel) (by decide +kernel)
set_option maxRecDepth 20000 in
theorem gX11_look_X11_isSmall : GoodIn wsX11_look (va_wsS RX11 221 yX11_isSmall wsX11_isSmall) := goodIn_app (goodIn_of _ (by decide +kernel)) ggX11_look_X11_isSmall
theorem dX11_look_82 : decode cX11_look 82 = .ok (.invokestatic 221, 3) := by decide +kernel
theorem dX11_look_124 : decode cX11_look 124 = .ok (.putfield 215, 3) := by decide +kernel
theorem dX11_look_127 : decode cX11_look 127 = .ok (.aload_n 0, 1) := by decide +kernel
theorem dX11_look_128 : decode cX11_look 128 = .ok (.iconst 1, 1) := by decide +kernel
theorem dX11_look_129 : decode cX11_look 129 = .ok (.putfield 212, 3) := by decide +kernel
theorem dX11_look_132 : decode cX11_look 132 = .ok (.aload_n 0, 1) := by decide +kernel
theorem dX11_look_133 : decode cX11_look 133 = .ok (.getfield 215, 3) := by decide +kernel
theorem dX11_look_136 : decode cX11_look 136 = .ok (.iconst 3, 1) := by decide +kernel
theorem dX11_look_145 : decode cX11_look 145 = .ok (.istore_n 3, 1) := by decide +kernel
theorem dX11_look_146 : decode cX11_look 146 = .ok (.iload_n 3, 1) := by decide +kernel
theorem dX11_look_225 : decode cX11_look 225 = .ok (.iconst 0, 1) := by decide +kernel
theorem dX11_look_226 : decode cX11_look 226 = .ok (.istore 4, 2) := by decide +kernel
theorem dX11_look_228 : decode cX11_look 228 = .ok (.iload 4, 2) := by decide +kernel
theorem dX11_look_230 : decode cX11_look 230 = .ok (.aload_n 0, 1) := by decide +kernel
theorem dX11_look_231 : decode cX11_look 231 = .ok (.getfield 212, 3) := by decide +kernel
theorem dX11_look_284 : decode cX11_look 284 = .ok (.aload_n 0, 1) := by decide +kernel
theorem dX11_look_285 : decode cX11_look 285 = .ok (.aload_n 0, 1) := by decide +kernel
theorem dX11_look_286 : decode cX11_look 286 = .ok (.getfield 215, 3) := by decide +kernel
theorem dX11_look_289 : decode cX11_look 289 = .ok (.iconst 2, 1) := by decide +kernel
theorem dX11_look_290 : decode cX11_look 290 = .ok (.if_icmp .ne 15, 3) := by decide +kernel
theorem dX11_look_305 : decode cX11_look 305 = .ok (.aload_n 0, 1) := by decide +kernel
theorem dX11_look_306 : decode cX11_look 306 = .ok (.getfield 215, 3) := by decide +kernel
theorem dX11_look_309 : decode cX11_look 309 = .ok (.putfield 215, 3) := by decide +kernel
theorem dX11_look_312 : decode cX11_look 312 = .ok (.return_, 1) := by decide +kernel
theorem dX11_look_293 : decode cX11_look 293 = .ok (.aload_n 0, 1) := by decide +kernel
theorem dX11_look_294 : decode cX11_look 294 = .ok (.getfield 212, 3) := by decide +kernel
theorem dX11_look_297 : decode cX11_look 297 = .ok (.iconst 2, 1) := by decide +kernel
theorem dX11_look_298 : decode cX11_look 298 = .ok (.if_icmp .le 7, 3) := by decide +kernel
theorem dX11_look_301 : decode cX11_look 301 = .ok (.iconst 4, 1) := by decide +kernel
theorem dX11_look_302 : decode cX11_look 302 = .ok (.goto 7, 3) := by decide +kernel
theorem dX11_look_234 : decode cX11_look 234 = .ok (.if_icmp .ge 50, 3) := by decide +kernel
theorem dX11_look_237 : decode cX11_look 237 = .ok (.iload 4, 2) := by decide +kernel
theorem dX11_look_239 : decode cX11_look 239 = .ok (.iconst 2, 1) := by decide +kernel
theorem dX11_look_240 : decode cX11_look 240 = .ok (.if_icmp .ge 44, 3) := by decide +kernel
theorem dX11_look_243 : decode cX11_look 243 = .ok (.aload_n 0, 1) := by decide +kernel
theorem dX11_look_244 : decode cX11_look 244 = .ok (.getfield 215, 3) := by decide +kernel
theorem dX11_look_247 : decode cX11_look 247 = .ok (.iconst 2, 1) := by decide +kernel
theorem dX11_look_248 : decode cX11_look 248 = .ok (.if_icmp .ne 36, 3) := by decide +kernel
theorem dX11_look_251 : decode cX11_look 251 = .ok (.aload_n 0, 1) := by decide +kernel
theorem dX11_look_252 : decode cX11_look 252 = .ok (.bipush 10, 2) := by decide +kernel
theorem dX11_look_254 : decode cX11_look 254 = .ok (.aload_n 0, 1) := by decide +kernel
theorem dX11_look_255 : decode cX11_look 255 = .ok (.getfield 218, 3) := by decide +kernel
theorem dX11_look_258 : decode cX11_look 258 = .ok (.imul, 1) := by decide +kernel
theorem dX11_look_259 : decode cX11_look 259 = .ok (.aload_n 0, 1) := by decide +kernel
theorem dX11_look_260 : decode cX11_look 260 = .ok (.getfield 35, 3) := by decide +kernel
theorem dX11_look_263 : decode cX11_look 263 = .ok (.aload_n 0, 1) := by decide +kernel
theorem dX11_look_264 : decode cX11_look 264 = .ok (.getfield 209, 3) := by decide +kernel
theorem dX11_look_267 : decode cX11_look 267 = .ok (.iload 4, 2) := by decide +kernel
theorem dX11_look_269 : decode cX11_look 269 = .ok (.iadd, 1) := by decide +kernel
theorem dX11_look_270 : decode cX11_look 270 = .ok (.iaload, 1) := by decide +kernel
theorem dX11_look_271 : decode cX11_look 271 = .ok (.iadd, 1) := by decide +kernel
theorem dX11_look_272 : decode cX11_look 272 = .ok (.bipush 48, 2) := by decide +kernel
theorem dX11_look_274 : decode cX11_look 274 = .ok (.isub, 1) := by decide +kernel
theorem dX11_look_275 : decode cX11_look 275 = .ok (.putfield 218, 3) := by decide +kernel
theorem dX11_look_278 : decode cX11_look 278 = .ok (.iinc 4 1, 3) := by decide +kernel
theorem dX11_look_281 : decode cX11_look 281 = .ok (.goto (-53), 3) := by decide +kernel
theorem dX11_look_147 : decode cX11_look 147 = .ok (.ifCond .eq 78, 3) := by decide +kernel
theorem dX11_look_150 : decode cX11_look 150 = .ok (.aload_n 0, 1) := by decide +kernel
theorem dX11_look_151 : decode cX11_look 151 = .ok (.getfield 209, 3) := by decide +kernel
theorem dX11_look_154 : decode cX11_look 154 = .ok (.aload_n 0, 1) := by decide +kernel
theorem dX11_look_155 : decode cX11_look 155 = .ok (.getfield 212, 3) := by decide +kernel
theorem dX11_look_158 : decode cX11_look 158 = .ok (.iadd, 1) := by decide +kernel
theorem dX11_look_159 : decode cX11_look 159 = .ok (.aload_n 0, 1) := by decide +kernel
theorem dX11_look_160 : decode cX11_look 160 = .ok (.getfield 196, 3) := by decide +kernel
theorem dX11_look_163 : decode cX11_look 163 = .ok (.if_icmp .ge 62, 3) := by decide +kernel
theorem dX11_look_166 : decode cX11_look 166 = .ok (.aload_n 0, 1) := by decide +kernel
theorem dX11_look_167 : decode cX11_look 167 = .ok (.getfield 35, 3) := by decide +kernel
theorem dX11_look_170 : decode cX11_look 170 = .ok (.aload_n 0, 1) := by decide +kernel
theorem dX11_look_171 : decode cX11_look 171 = .ok (.getfield 209, 3) := by decide +kernel
theorem dX11_look_174 : decode cX11_look 174 = .ok (.aload_n 0, 1) := by decide +kernel
theorem dX11_look_175 : decode cX11_look 175 = .ok (.getfield 212, 3) := by decide +kernel
theorem dX11_look_178 : decode cX11_look 178 = .ok (.iadd, 1) := by decide +kernel
theorem dX11_look_179 : decode cX11_look 179 = .ok (.iaload, 1) := by decide +kernel
theorem dX11_look_180 : decode cX11_look 180 = .ok (.istore 4, 2) := by decide +kernel
theorem dX11_look_182 : decode cX11_look 182 = .ok (.aload_n 0, 1) := by decide +kernel
theorem dX11_look_183 : decode cX11_look 183 = .ok (.getfield 215, 3) := by decide +kernel
theorem dX11_look_186 : decode cX11_look 186 = .ok (.iconst 1, 1) := by decide +kernel
theorem dX11_look_203 : decode cX11_look 203 = .ok (.istore_n 3, 1) := by decide +kernel
theorem dX11_look_204 : decode cX11_look 204 = .ok (.aload_n 0, 1) := by decide +kernel
theorem dX11_look_205 : decode cX11_look 205 = .ok (.dup, 1) := by decide +kernel
theorem dX11_look_206 : decode cX11_look 206 = .ok (.getfield 212, 3) := by decide +kernel
theorem dX11_look_209 : decode cX11_look 209 = .ok (.iload_n 3, 1) := by decide +kernel
theorem dX11_look_210 : decode cX11_look 210 = .ok (.ifCond .eq 7, 3) := by decide +kernel
theorem dX11_look_217 : decode cX11_look 217 = .ok (.iconst 0, 1) := by decide +kernel
theorem dX11_look_218 : decode cX11_look 218 = .ok (.iadd, 1) := by decide +kernel
theorem dX11_look_219 : decode cX11_look 219 = .ok (.putfield 212, 3) := by decide +kernel
theorem dX11_look_222 : decode cX11_look 222 = .ok (.goto (-76), 3) := by decide +kernel
theorem dX11_look_213 : decode cX11_look 213 = .ok (.iconst 1, 1) := by decide +kernel
theorem dX11_look_214 : decode cX11_look 214 = .ok (.goto 4, 3) := by decide +kernel
theorem dX11_look_187 : decode cX11_look 187 = .ok (.if_icmp .ne 11, 3) := by decide +kernel
theorem dX11_look_198 : decode cX11_look 198 = .ok (.iload 4, 2) := by decide +kernel
set_option maxRecDepth 20000 in
theorem ggX11_look_X11_isFigure : GoodIn wsX11_look wsX11_isFigure := goodIn_r _ [18, 19, 20, 13, 14, 9, 15] (by decide +kernel) (by decide +kernel)
set_option maxRecDepth 20000 in
theorem gX11_look_X11_isFigure : GoodIn wsX11_look (va_wsS RX11 224 yX11_isFigure wsX11_isFigure) := goodIn_app (goodIn_of _ (by decide +kernel)) ggX11_look_X11_isFigure
theorem dX11_look_200 : decode cX11_look 200 = .ok (.invokestatic 224, 3) := by decide +kernel
theorem dX11_look_190 : decode cX11_look 190 = .ok (.iload 4, 2) := by decide +kernel
theorem dX11_look_192 : decode cX11_look 192 = .ok (.invokestatic 221, 3) := by decide +kernel
theorem dX11_look_195 : decode cX11_look 195 = .ok (.goto 8, 3) := by decide +kernel
theorem dX11_look_137 : decode cX11_look 137 = .ok (.if_icmp .ge 7, 3) := by decide +kernel
theorem dX11_look_144 : decode cX11_look 144 = .ok (.iconst 0, 1) := by decide +kernel
theorem dX11_look_140 : decode cX11_look 140 = .ok (.iconst 1, 1) := by decide +kernel
theorem dX11_look_141 : decode cX11_look 141 = .ok (.goto 4, 3) := by decide +kernel
theorem dX11_look_85 : decode cX11_look 85 = .ok (.ifCond .eq 7, 3) := by decide +kernel
theorem dX11_look_92 : decode cX11_look 92 = .ok (.iload_n 2, 1) := by decide +kernel
theorem dX11_look_93 : decode cX11_look 93 = .ok (.invokestatic 224, 3) := by decide +kernel
theorem dX11_look_96 : decode cX11_look 96 = .ok (.ifCond .eq 7, 3) := by decide +kernel
theorem dX11_look_103 : decode cX11_look 103 = .ok (.iload_n 2, 1) := by decide +kernel
theorem dX11_look_104 : decode cX11_look 104 = .ok (.bipush 59, 2) := by decide +kernel
theorem dX11_look_106 : decode cX11_look 106 = .ok (.if_icmp .ne 7, 3) := by decide +kernel
theorem dX11_look_113 : decode cX11_look 113 = .ok (.iload_n 2, 1) := by decide +kernel
theorem dX11_look_114 : decode cX11_look 114 = .ok (.bipush 45, 2) := by decide +kernel
theorem dX11_look_116 : decode cX11_look 116 = .ok (.if_icmp .ne 7, 3) := by decide +kernel
theorem dX11_look_123 : decode cX11_look 123 = .ok (.iconst 4, 1) := by decide +kernel
theorem dX11_look_119 : decode cX11_look 119 = .ok (.iconst 5, 1) := by decide +kernel
theorem dX11_look_120 : decode cX11_look 120 = .ok (.goto 4, 3) := by decide +kernel
theorem dX11_look_109 : decode cX11_look 109 = .ok (.iconst 3, 1) := by decide +kernel
theorem dX11_look_110 : decode cX11_look 110 = .ok (.goto 14, 3) := by decide +kernel
theorem dX11_look_99 : decode cX11_look 99 = .ok (.iconst 2, 1) := by decide +kernel
theorem dX11_look_100 : decode cX11_look 100 = .ok (.goto 24, 3) := by decide +kernel
theorem dX11_look_88 : decode cX11_look 88 = .ok (.iconst 1, 1) := by decide +kernel
theorem dX11_look_89 : decode cX11_look 89 = .ok (.goto 35, 3) := by decide +kernel
theorem dX11_look_69 : decode cX11_look 69 = .ok (.return_, 1) := by decide +kernel
theorem dX11_look_13 : decode cX11_look 13 = .ok (.if_icmp .ge 30, 3) := by decide +kernel
theorem dX11_look_16 : decode cX11_look 16 = .ok (.aload_n 0, 1) := by decide +kernel
theorem dX11_look_17 : decode cX11_look 17 = .ok (.getfield 35, 3) := by decide +kernel
theorem dX11_look_20 : decode cX11_look 20 = .ok (.aload_n 0, 1) := by decide +kernel
theorem dX11_look_21 : decode cX11_look 21 = .ok (.getfield 209, 3) := by decide +kernel
theorem dX11_look_24 : decode cX11_look 24 = .ok (.iaload, 1) := by decide +kernel
theorem dX11_look_25 : decode cX11_look 25 = .ok (.bipush 32, 2) := by decide +kernel
theorem dX11_look_27 : decode cX11_look 27 = .ok (.if_icmp .ne 16, 3) := by decide +kernel
theorem dX11_look_30 : decode cX11_look 30 = .ok (.aload_n 0, 1) := by decide +kernel
theorem dX11_look_31 : decode cX11_look 31 = .ok (.dup, 1) := by decide +kernel
theorem dX11_look_32 : decode cX11_look 32 = .ok (.getfield 209, 3) := by decide +kernel
theorem dX11_look_35 : decode cX11_look 35 = .ok (.iconst 1, 1) := by decide +kernel
theorem dX11_look_36 : decode cX11_look 36 = .ok (.iadd, 1) := by decide +kernel
theorem dX11_look_37 : decode cX11_look 37 = .ok (.putfield 209, 3) := by decide +kernel
theorem dX11_look_40 : decode cX11_look 40 = .ok (.goto (-35), 3) := by decide +kernel
theorem dX11_goOn_0 : decode cX11_goOn 0 = .ok (.aload_n 0, 1) := by decide +kernel
theorem dX11_goOn_1 : decode cX11_goOn 1 = .ok (.aload_n 0, 1) := by decide +kernel
theorem dX11_goOn_2 : decode cX11_goOn 2 = .ok (.getfield 209, 3) := by decide +kernel
theorem dX11_goOn_5 : decode cX11_goOn 5 = .ok (.aload_n 0, 1) := by decide +kernel
theorem dX11_goOn_6 : decode cX11_goOn 6 = .ok (.getfield 212, 3) := by decide +kernel
theorem dX11_goOn_9 : decode cX11_goOn 9 = .ok (.iadd, 1) := by decide +kernel
set_option maxRecDepth 20000 in
theorem ggX11_goOn_X11_look : GoodIn wsX11_goOn wsX11_look := goodIn_r _ [7, 1, 8, 9, 2, 10, 11, 12, 13, 6, 14, 15, 16, 17, 18, 19, 20, 21, 22, 23, 24, 25, 26, 27, 28, 29, 30, 31, 32, 33, 34, 35, 36, 37, 38, 39, 40, 41, 42, 43] (by decide +kernel) (by decide +kernel)
set_option maxRecDepth 20000 in
theorem gX11_goOn_X11_look : GoodIn wsX11_goOn (wsV RX11 227 RX11 yX11_look wsX11_look) := goodIn_app (goodIn_of _ (by decide +kernel)) ggX11_goOn_X11_look
theorem dX11_goOn_10 : decode cX11_goOn 10 = .ok (.invokevirtual 227, 3) := by decide +kernel
theorem dX11_goOn_13 : decode cX11_goOn 13 = .ok (.return_, 1) := by decide +kernel
theorem dX11_isWord_0 : decode cX11_isWord 0 = .ok (.aload_n 0, 1) := by decide +kernel
theorem dX11_isWord_1 : decode cX11_isWord 1 = .ok (.getfield 215, 3) := by decide +kernel
theorem dX11_isWord_4 : decode cX11_isWord 4 = .ok (.iconst 1, 1) := by decide +kernel
theorem dX11_isWord_21 : decode cX11_isWord 21 = .ok (.istore 5, 2) := by decide +kernel
theorem dX11_isWord_23 : decode cX11_isWord 23 = .ok (.iconst 0, 1) := by decide +kernel
theorem dX11_isWord_24 : decode cX11_isWord 24 = .ok (.istore 6, 2) := by decide +kernel
theorem dX11_isWord_26 : decode cX11_isWord 26 = .ok (.iload 6, 2) := by decide +kernel
theorem dX11_isWord_28 : decode cX11_isWord 28 = .ok (.iconst 4, 1) := by decide +kernel
theorem dX11_isWord_29 : decode cX11_isWord 29 = .ok (.if_icmp .ge 67, 3) := by decide +kernel
theorem dX11_isWord_96 : decode cX11_isWord 96 = .ok (.iload 5, 2) := by decide +kernel
theorem dX11_isWord_98 : decode cX11_isWord 98 = .ok (.ireturn, 1) := by decide +kernel
theorem dX11_isWord_32 : decode cX11_isWord 32 = .ok (.iload 5, 2) := by decide +kernel
theorem dX11_isWord_34 : decode cX11_isWord 34 = .ok (.ifCond .eq 62, 3) := by decide +kernel
theorem dX11_isWord_37 : decode cX11_isWord 37 = .ok (.aload_n 0, 1) := by decide +kernel
theorem dX11_isWord_38 : decode cX11_isWord 38 = .ok (.getfield 35, 3) := by decide +kernel
theorem dX11_isWord_41 : decode cX11_isWord 41 = .ok (.aload_n 0, 1) := by decide +kernel
theorem dX11_isWord_42 : decode cX11_isWord 42 = .ok (.getfield 209, 3) := by decide +kernel
theorem dX11_isWord_45 : decode cX11_isWord 45 = .ok (.iload 6, 2) := by decide +kernel
theorem dX11_isWord_47 : decode cX11_isWord 47 = .ok (.iadd, 1) := by decide +kernel
theorem dX11_isWord_48 : decode cX11_isWord 48 = .ok (.iaload, 1) := by decide +kernel
theorem dX11_isWord_49 : decode cX11_isWord 49 = .ok (.iload 6, 2) := by decide +kernel
theorem dX11_isWord_80 : decode cX11_isWord 80 = .ok (.if_icmp .ne 7, 3) := by decide +kernel
theorem dX11_isWord_87 : decode cX11_isWord 87 = .ok (.iconst 0, 1) := by decide +kernel
theorem dX11_isWord_88 : decode cX11_isWord 88 = .ok (.istore 5, 2) := by decide +kernel
theorem dX11_isWord_90 : decode cX11_isWord 90 = .ok (.iinc 6 1, 3) := by decide +kernel
theorem dX11_isWord_93 : decode cX11_isWord 93 = .ok (.goto (-67), 3) := by decide +kernel
theorem dX11_isWord_83 : decode cX11_isWord 83 = .ok (.iconst 1, 1) := by decide +kernel
theorem dX11_isWord_84 : decode cX11_isWord 84 = .ok (.goto 4, 3) := by decide +kernel
theorem dX11_isWord_51 : decode cX11_isWord 51 = .ok (.ifCond .ne 7, 3) := by decide +kernel
theorem dX11_isWord_58 : decode cX11_isWord 58 = .ok (.iload 6, 2) := by decide +kernel
theorem dX11_isWord_60 : decode cX11_isWord 60 = .ok (.iconst 1, 1) := by decide +kernel
theorem dX11_isWord_61 : decode cX11_isWord 61 = .ok (.if_icmp .ne 7, 3) := by decide +kernel
theorem dX11_isWord_68 : decode cX11_isWord 68 = .ok (.iload 6, 2) := by decide +kernel
theorem dX11_isWord_70 : decode cX11_isWord 70 = .ok (.iconst 2, 1) := by decide +kernel
theorem dX11_isWord_71 : decode cX11_isWord 71 = .ok (.if_icmp .ne 7, 3) := by decide +kernel
theorem dX11_isWord_78 : decode cX11_isWord 78 = .ok (.iload 4, 2) := by decide +kernel
theorem dX11_isWord_74 : decode cX11_isWord 74 = .ok (.iload_n 3, 1) := by decide +kernel
theorem dX11_isWord_75 : decode cX11_isWord 75 = .ok (.goto 5, 3) := by decide +kernel
theorem dX11_isWord_64 : decode cX11_isWord 64 = .ok (.iload_n 2, 1) := by decide +kernel
theorem dX11_isWord_65 : decode cX11_isWord 65 = .ok (.goto 15, 3) := by decide +kernel
theorem dX11_isWord_54 : decode cX11_isWord 54 = .ok (.iload_n 1, 1) := by decide +kernel
theorem dX11_isWord_55 : decode cX11_isWord 55 = .ok (.goto 25, 3) := by decide +kernel
theorem dX11_isWord_5 : decode cX11_isWord 5 = .ok (.if_icmp .ne 15, 3) := by decide +kernel
theorem dX11_isWord_20 : decode cX11_isWord 20 = .ok (.iconst 0, 1) := by decide +kernel
theorem dX11_isWord_8 : decode cX11_isWord 8 = .ok (.aload_n 0, 1) := by decide +kernel
theorem dX11_isWord_9 : decode cX11_isWord 9 = .ok (.getfield 212, 3) := by decide +kernel
theorem dX11_isWord_12 : decode cX11_isWord 12 = .ok (.iconst 4, 1) := by decide +kernel
theorem dX11_isWord_13 : decode cX11_isWord 13 = .ok (.if_icmp .lt 7, 3) := by decide +kernel
theorem dX11_isWord_16 : decode cX11_isWord 16 = .ok (.iconst 1, 1) := by decide +kernel
theorem dX11_isWord_17 : decode cX11_isWord 17 = .ok (.goto 4, 3) := by decide +kernel
theorem dX11_goesOn_0 : decode cX11_goesOn 0 = .ok (.iconst 4, 1) := by decide +kernel
theorem dX11_goesOn_1 : decode cX11_goesOn 1 = .ok (.iload_n 1, 1) := by decide +kernel
theorem dX11_goesOn_10 : decode cX11_goesOn 10 = .ok (.iadd, 1) := by decide +kernel
theorem dX11_goesOn_11 : decode cX11_goesOn 11 = .ok (.iload_n 2, 1) := by decide +kernel
theorem dX11_goesOn_20 : decode cX11_goesOn 20 = .ok (.iadd, 1) := by decide +kernel
theorem dX11_goesOn_21 : decode cX11_goesOn 21 = .ok (.iload_n 3, 1) := by decide +kernel
theorem dX11_goesOn_30 : decode cX11_goesOn 30 = .ok (.iadd, 1) := by decide +kernel
theorem dX11_goesOn_31 : decode cX11_goesOn 31 = .ok (.iload 4, 2) := by decide +kernel
theorem dX11_goesOn_41 : decode cX11_goesOn 41 = .ok (.iadd, 1) := by decide +kernel
theorem dX11_goesOn_42 : decode cX11_goesOn 42 = .ok (.istore 5, 2) := by decide +kernel
theorem dX11_goesOn_44 : decode cX11_goesOn 44 = .ok (.aload_n 0, 1) := by decide +kernel
theorem dX11_goesOn_45 : decode cX11_goesOn 45 = .ok (.getfield 212, 3) := by decide +kernel
theorem dX11_goesOn_48 : decode cX11_goesOn 48 = .ok (.iload 5, 2) := by decide +kernel
theorem dX11_goesOn_58 : decode cX11_goesOn 58 = .ok (.istore 6, 2) := by decide +kernel
theorem dX11_goesOn_60 : decode cX11_goesOn 60 = .ok (.iconst 4, 1) := by decide +kernel
theorem dX11_goesOn_61 : decode cX11_goesOn 61 = .ok (.istore 7, 2) := by decide +kernel
theorem dX11_goesOn_63 : decode cX11_goesOn 63 = .ok (.iload 7, 2) := by decide +kernel
theorem dX11_goesOn_65 : decode cX11_goesOn 65 = .ok (.iload 5, 2) := by decide +kernel
theorem dX11_goesOn_67 : decode cX11_goesOn 67 = .ok (.if_icmp .ge 69, 3) := by decide +kernel
theorem dX11_goesOn_136 : decode cX11_goesOn 136 = .ok (.iload 6, 2) := by decide +kernel
theorem dX11_goesOn_138 : decode cX11_goesOn 138 = .ok (.ireturn, 1) := by decide +kernel
theorem dX11_goesOn_70 : decode cX11_goesOn 70 = .ok (.iload 6, 2) := by decide +kernel
theorem dX11_goesOn_72 : decode cX11_goesOn 72 = .ok (.ifCond .eq 64, 3) := by decide +kernel
theorem dX11_goesOn_75 : decode cX11_goesOn 75 = .ok (.aload_n 0, 1) := by decide +kernel
theorem dX11_goesOn_76 : decode cX11_goesOn 76 = .ok (.getfield 35, 3) := by decide +kernel
theorem dX11_goesOn_79 : decode cX11_goesOn 79 = .ok (.aload_n 0, 1) := by decide +kernel
theorem dX11_goesOn_80 : decode cX11_goesOn 80 = .ok (.getfield 209, 3) := by decide +kernel
theorem dX11_goesOn_83 : decode cX11_goesOn 83 = .ok (.iload 7, 2) := by decide +kernel
theorem dX11_goesOn_85 : decode cX11_goesOn 85 = .ok (.iadd, 1) := by decide +kernel
theorem dX11_goesOn_86 : decode cX11_goesOn 86 = .ok (.iaload, 1) := by decide +kernel
theorem dX11_goesOn_87 : decode cX11_goesOn 87 = .ok (.iload 7, 2) := by decide +kernel
theorem dX11_goesOn_89 : decode cX11_goesOn 89 = .ok (.iconst 4, 1) := by decide +kernel
theorem dX11_goesOn_120 : decode cX11_goesOn 120 = .ok (.if_icmp .ne 7, 3) := by decide +kernel
theorem dX11_goesOn_127 : decode cX11_goesOn 127 = .ok (.iconst 0, 1) := by decide +kernel
theorem dX11_goesOn_128 : decode cX11_goesOn 128 = .ok (.istore 6, 2) := by decide +kernel
theorem dX11_goesOn_130 : decode cX11_goesOn 130 = .ok (.iinc 7 1, 3) := by decide +kernel
theorem dX11_goesOn_133 : decode cX11_goesOn 133 = .ok (.goto (-70), 3) := by decide +kernel
theorem dX11_goesOn_123 : decode cX11_goesOn 123 = .ok (.iconst 1, 1) := by decide +kernel
theorem dX11_goesOn_124 : decode cX11_goesOn 124 = .ok (.goto 4, 3) := by decide +kernel
theorem dX11_goesOn_90 : decode cX11_goesOn 90 = .ok (.if_icmp .ne 7, 3) := by decide +kernel
theorem dX11_goesOn_97 : decode cX11_goesOn 97 = .ok (.iload 7, 2) := by decide +kernel
theorem dX11_goesOn_99 : decode cX11_goesOn 99 = .ok (.iconst 5, 1) := by decide +kernel
theorem dX11_goesOn_100 : decode cX11_goesOn 100 = .ok (.if_icmp .ne 7, 3) := by decide +kernel
theorem dX11_goesOn_107 : decode cX11_goesOn 107 = .ok (.iload 7, 2) := by decide +kernel
theorem dX11_goesOn_109 : decode cX11_goesOn 109 = .ok (.bipush 6, 2) := by decide +kernel
theorem dX11_goesOn_111 : decode cX11_goesOn 111 = .ok (.if_icmp .ne 7, 3) := by decide +kernel
theorem dX11_goesOn_118 : decode cX11_goesOn 118 = .ok (.iload 4, 2) := by decide +kernel
theorem dX11_goesOn_114 : decode cX11_goesOn 114 = .ok (.iload_n 3, 1) := by decide +kernel
theorem dX11_goesOn_115 : decode cX11_goesOn 115 = .ok (.goto 5, 3) := by decide +kernel
theorem dX11_goesOn_103 : decode cX11_goesOn 103 = .ok (.iload_n 2, 1) := by decide +kernel
theorem dX11_goesOn_104 : decode cX11_goesOn 104 = .ok (.goto 16, 3) := by decide +kernel
theorem dX11_goesOn_93 : decode cX11_goesOn 93 = .ok (.iload_n 1, 1) := by decide +kernel
theorem dX11_goesOn_94 : decode cX11_goesOn 94 = .ok (.goto 26, 3) := by decide +kernel
theorem dX11_goesOn_50 : decode cX11_goesOn 50 = .ok (.if_icmp .ne 7, 3) := by decide +kernel
theorem dX11_goesOn_57 : decode cX11_goesOn 57 = .ok (.iconst 0, 1) := by decide +kernel
theorem dX11_goesOn_53 : decode cX11_goesOn 53 = .ok (.iconst 1, 1) := by decide +kernel
theorem dX11_goesOn_54 : decode cX11_goesOn 54 = .ok (.goto 4, 3) := by decide +kernel
theorem dX11_goesOn_33 : decode cX11_goesOn 33 = .ok (.ifCond .ne 7, 3) := by decide +kernel
theorem dX11_goesOn_40 : decode cX11_goesOn 40 = .ok (.iconst 1, 1) := by decide +kernel
theorem dX11_goesOn_36 : decode cX11_goesOn 36 = .ok (.iconst 0, 1) := by decide +kernel
theorem dX11_goesOn_37 : decode cX11_goesOn 37 = .ok (.goto 4, 3) := by decide +kernel
theorem dX11_goesOn_22 : decode cX11_goesOn 22 = .ok (.ifCond .ne 7, 3) := by decide +kernel
theorem dX11_goesOn_29 : decode cX11_goesOn 29 = .ok (.iconst 1, 1) := by decide +kernel
theorem dX11_goesOn_25 : decode cX11_goesOn 25 = .ok (.iconst 0, 1) := by decide +kernel
theorem dX11_goesOn_26 : decode cX11_goesOn 26 = .ok (.goto 4, 3) := by decide +kernel
theorem dX11_goesOn_12 : decode cX11_goesOn 12 = .ok (.ifCond .ne 7, 3) := by decide +kernel
theorem dX11_goesOn_19 : decode cX11_goesOn 19 = .ok (.iconst 1, 1) := by decide +kernel
theorem dX11_goesOn_15 : decode cX11_goesOn 15 = .ok (.iconst 0, 1) := by decide +kernel
theorem dX11_goesOn_16 : decode cX11_goesOn 16 = .ok (.goto 4, 3) := by decide +kernel
theorem dX11_goesOn_2 : decode cX11_goesOn 2 = .ok (.ifCond .ne 7, 3) := by decide +kernel
theorem dX11_goesOn_9 : decode cX11_goesOn 9 = .ok (.iconst 1, 1) := by decide +kernel
theorem dX11_goesOn_5 : decode cX11_goesOn 5 = .ok (.iconst 0, 1) := by decide +kernel
theorem dX11_goesOn_6 : decode cX11_goesOn 6 = .ok (.goto 4, 3) := by decide +kernel
theorem dX11_takes_0 : decode cX11_takes 0 = .ok (.aload_n 0, 1) := by decide +kernel
theorem dX11_takes_1 : decode cX11_takes 1 = .ok (.getfield 215, 3) := by decide +kernel
theorem dX11_takes_4 : decode cX11_takes 4 = .ok (.iconst 2, 1) := by decide +kernel
theorem dX11_takes_5 : decode cX11_takes 5 = .ok (.if_icmp .ne 18, 3) := by decide +kernel
theorem dX11_takes_23 : decode cX11_takes 23 = .ok (.iconst 0, 1) := by decide +kernel
theorem dX11_takes_24 : decode cX11_takes 24 = .ok (.ireturn, 1) := by decide +kernel
theorem dX11_takes_8 : decode cX11_takes 8 = .ok (.aload_n 0, 1) := by decide +kernel
theorem dX11_takes_9 : decode cX11_takes 9 = .ok (.getfield 218, 3) := by decide +kernel
theorem dX11_takes_12 : decode cX11_takes 12 = .ok (.i2l, 1) := by decide +kernel
theorem dX11_takes_13 : decode cX11_takes 13 = .ok (.iload_n 1, 1) := by decide +kernel
theorem dX11_takes_14 : decode cX11_takes 14 = .ok (.i2l, 1) := by decide +kernel
theorem dX11_takes_15 : decode cX11_takes 15 = .ok (.iload_n 2, 1) := by decide +kernel
theorem dX11_takes_16 : decode cX11_takes 16 = .ok (.i2l, 1) := by decide +kernel
set_option maxRecDepth 20000 in
theorem ggX11_takes_X11_in : GoodIn wsX11_takes wsX11_in := goodIn_r _ [7] (by decide +kernel) (by decide +kernel)
set_option maxRecDepth 20000 in
theorem gX11_takes_X11_in : GoodIn wsX11_takes (va_wsS RX11 49 yX11_in wsX11_in) := goodIn_app (goodIn_of _ (by decide +kernel)) ggX11_takes_X11_in
theorem dX11_takes_17 : decode cX11_takes 17 = .ok (.invokestatic 49, 3) := by decide +kernel
theorem dX11_takes_20 : decode cX11_takes 20 = .ok (.ifCond .ne 5, 3) := by decide +kernel
theorem dX11_takes_25 : decode cX11_takes 25 = .ok (.aload_n 0, 1) := by decide +kernel
theorem dX11_takes_26 : decode cX11_takes 26 = .ok (.aload_n 0, 1) := by decide +kernel
theorem dX11_takes_27 : decode cX11_takes 27 = .ok (.getfield 218, 3) := by decide +kernel
theorem dX11_takes_30 : decode cX11_takes 30 = .ok (.putfield 230, 3) := by decide +kernel
theorem dX11_takes_33 : decode cX11_takes 33 = .ok (.aload_n 0, 1) := by decide +kernel
set_option maxRecDepth 20000 in
theorem ggX11_takes_X11_goOn : GoodIn wsX11_takes wsX11_goOn := goodIn_r _ [11, 12, 13, 14, 15, 16, 6, 17, 18, 19, 1, 2, 20, 21, 22, 23, 24, 4, 5, 7, 25, 26, 27, 28, 29, 30, 31, 32, 33, 34, 35, 36, 37, 38, 39, 40, 41, 42, 43, 44, 45, 46, 47, 48] (by decide +kernel) (by decide +kernel)
set_option maxRecDepth 20000 in
theorem gX11_takes_X11_goOn : GoodIn wsX11_takes (wsV RX11 233 RX11 yX11_goOn wsX11_goOn) := goodIn_app (goodIn_of _ (by decide +kernel)) ggX11_takes_X11_goOn
theorem dX11_takes_34 : decode cX11_takes 34 = .ok (.invokevirtual 233, 3) := by decide +kernel
theorem dX11_takes_37 : decode cX11_takes 37 = .ok (.iconst 1, 1) := by decide +kernel
theorem dX11_takes_38 : decode cX11_takes 38 = .ok (.ireturn, 1) := by decide +kernel
set_option maxHeartbeats 4000000 in
set_option maxRecDepth 100000 in
theorem n_X11_isSmall (l : Launch) (D : va_G) (cy : Nat → ClassId) (px : Int32) (sz : Nat)  : Met l yX11_isSmall wsX11_isSmall ({ frames := 1, cells := 0, slots := 0, locals := 25 }) (va_Pc [.int px] (kPre D cy [] sz)) (va_Qi (fun (r : Int32) (u : Unit) => (r = 1 ∧ True) ∨ (r = 0 ∧ True)) (fun _ _ => True) (fun q : Nat => sz ≤ q)) 0 0 (fun q : Nat => sz ≤ q) := by
  refine Met.ofW (cc := cX11_isSmall) (maxL := 1) (ret := (some .boolean)) (by decide) rfl ?_
  intro p e s m args below meth c s₁ B hml hv
  obtain ⟨rfl, hsz, hP, hKA, hD0⟩ := hv
  have hx := B.exec
  have hb := B.bytes
  have hr := B.returns
  have hts := atoms_spec (ws := wsX11_isSmall) B.pre
  have hown : s.vm.findClass RX11 = some m.cls := findClass_of_methodNamed B.named
  have hlocks := B.notSynchronized
  subst hsz
  have hK := hKA.1
  have hD := hD0
  generalize hAe : (fun q : Nat => s.heap.size ≤ q) = A
  have hA : ∀ q : Nat, s.heap.size ≤ q → A q := fun q h => by rw [← hAe]; exact h
  have hS : va_S A s.heap s.heap [] := va_S.rf
  have hP : va_P D vwCl [] s.heap := hP
  have hl := lv_entry ([.int px]) (n := 1) (Nat.le_of_ble_eq_true rfl)
  rw [lg_entry_eq]
  generalize (lg_sl ([.int px]) ++ List.replicate (1 - (lg_sl ([.int px])).length) Slot.unset).toArray = ls at hl ⊢
  have hl : lv_has ls 1 [(0, .int px)] := hl
  refine qW (fun QF hQF => ?_)
  have z0_ := hts (.constantLong RX11 201 97) (by decide +kernel)
  have z1_ := hts (.constantLong RX11 203 122) (by decide +kernel)
  refine lv_iload_n hx hb dX11_isSmall_0 rfl (lv_at hl 0 rfl) ?_
  refine lv_i2l hx hb dX11_isSmall_1 rfl ?_
  refine lv_ldc2 hx hb hown z0_ dX11_isSmall_2 ?_
  refine lv_ldc2 hx hb hown z1_ dX11_isSmall_5 ?_
  refine rd_i (va_runS (As := [.long px.toInt64, .long 97, .long 122]) (rest := []) ⟨hx, hb, hml, hown, hts⟩ (n_X11_in l D cy px.toInt64 (97) (122) _ ) (va_cwS 3 hts gX11_isSmall_X11_in rfl rfl rfl (by decide +kernel) ⟨Nat.le_of_ble_eq_true rfl, Nat.le_of_ble_eq_true rfl⟩) (pS hKA pE (dE (A := A))) rfl rfl hl.1 rfl (lv_room (Nat.le_of_ble_eq_true rfl)) dX11_isSmall_8 ⟨Nat.le_of_ble_eq_true rfl, Nat.le_of_ble_eq_true rfl⟩) hP hS hA (fun r1 H locs hwr1 hP hS => ?_)
  have hwr1 : (r1 = 1 ∧ ((97) ≤ px.toInt64 ∧ px.toInt64 ≤ (122))) ∨ (r1 = 0 ∧ (¬ ((97) ≤ px.toInt64 ∧ px.toInt64 ≤ (122)))) := hwr1
  subst hQF
  exact W.zret (v := r1) hx hb hr (z_bn hwr1) (fun t ht hW => ⟨⟨r1, (), rfl, (z_bt hwr1), trivial⟩, hS.F ht⟩) hS.2.2 dX11_isSmall_11

set_option maxHeartbeats 4000000 in
set_option maxRecDepth 100000 in
theorem n_X11_isFigure (l : Launch) (D : va_G) (cy : Nat → ClassId) (px : Int32) (sz : Nat)  : Met l yX11_isFigure wsX11_isFigure ({ frames := 1, cells := 0, slots := 0, locals := 25 }) (va_Pc [.int px] (kPre D cy [] sz)) (va_Qi (fun (r : Int32) (u : Unit) => (r = 1 ∧ True) ∨ (r = 0 ∧ True)) (fun _ _ => True) (fun q : Nat => sz ≤ q)) 0 0 (fun q : Nat => sz ≤ q) := by
  refine Met.ofW (cc := cX11_isFigure) (maxL := 1) (ret := (some .boolean)) (by decide) rfl ?_
  intro p e s m args below meth c s₁ B hml hv
  obtain ⟨rfl, hsz, hP, hKA, hD0⟩ := hv
  have hx := B.exec
  have hb := B.bytes
  have hr := B.returns
  have hts := atoms_spec (ws := wsX11_isFigure) B.pre
  have hown : s.vm.findClass RX11 = some m.cls := findClass_of_methodNamed B.named
  have hlocks := B.notSynchronized
  subst hsz
  have hK := hKA.1
  have hD := hD0
  generalize hAe : (fun q : Nat => s.heap.size ≤ q) = A
  have hA : ∀ q : Nat, s.heap.size ≤ q → A q := fun q h => by rw [← hAe]; exact h
  have hS : va_S A s.heap s.heap [] := va_S.rf
  have hP : va_P D vwCl [] s.heap := hP
  have hl := lv_entry ([.int px]) (n := 1) (Nat.le_of_ble_eq_true rfl)
  rw [lg_entry_eq]
  generalize (lg_sl ([.int px]) ++ List.replicate (1 - (lg_sl ([.int px])).length) Slot.unset).toArray = ls at hl ⊢
  have hl : lv_has ls 1 [(0, .int px)] := hl
  refine qW (fun QF hQF => ?_)
  have z0_ := hts (.constantLong RX11 205 48) (by decide +kernel)
  have z1_ := hts (.constantLong RX11 207 57) (by decide +kernel)
  refine lv_iload_n hx hb dX11_isFigure_0 rfl (lv_at hl 0 rfl) ?_
  refine lv_i2l hx hb dX11_isFigure_1 rfl ?_
  refine lv_ldc2 hx hb hown z0_ dX11_isFigure_2 ?_
  refine lv_ldc2 hx hb hown z1_ dX11_isFigure_5 ?_
  refine rd_i (va_runS (As := [.long px.toInt64, .long 48, .long 57]) (rest := []) ⟨hx, hb, hml, hown, hts⟩ (n_X11_in l D cy px.toInt64 (48) (57) _ ) (va_cwS 3 hts gX11_isFigure_X11_in rfl rfl rfl (by decide +kernel) ⟨Nat.le_of_ble_eq_true rfl, Nat.le_of_ble_eq_true rfl⟩) (pS hKA pE (dE (A := A))) rfl rfl hl.1 rfl (lv_room (Nat.le_of_ble_eq_true rfl)) dX11_isFigure_8 ⟨Nat.le_of_ble_eq_true rfl, Nat.le_of_ble_eq_true rfl⟩) hP hS hA (fun r1 H locs hwr1 hP hS => ?_)
  have hwr1 : (r1 = 1 ∧ ((48) ≤ px.toInt64 ∧ px.toInt64 ≤ (57))) ∨ (r1 = 0 ∧ (¬ ((48) ≤ px.toInt64 ∧ px.toInt64 ≤ (57)))) := hwr1
  subst hQF
  exact W.zret (v := r1) hx hb hr (z_bn hwr1) (fun t ht hW => ⟨⟨r1, (), rfl, (z_bt hwr1), trivial⟩, hS.F ht⟩) hS.2.2 dX11_isFigure_11

set_option maxHeartbeats 4000000 in
set_option maxRecDepth 100000 in
theorem n_X11_look (l : Launch) (D : va_G) (cy : Nat → ClassId) (mm : Nat) (mm_now : Nat) (mm_kept : Nat) (mm_isKept : Nat) (mm_refused : Nat) (mm_lineFrom : Int32) (mm_lineTo : Int32) (mm_stands : Nat) (mm_far : Nat) (mm_queue : Nat) (mm_queued : Int32) (mm_meets : Nat) (mm_bytes : Nat) (bl : Nat) (ta : Nat) (tl : Nat) (mm_token : Int32) (mm_value : Int32) (mm_next : Nat) (tk : Nat) (mm_bytes_f : Nat → Int32) (pf : Nat) (sz : Nat) (hbl : bl ≤ 250) (hpf : pf ≤ bl) : Met l yX11_look wsX11_look ({ frames := 2, cells := 0, slots := 0, locals := 45 }) (va_Pc [.ref mm, .int (nI pf)] (kPre D cy [(mm, .inr (11, [.ref mm_now, .ref mm_kept, .ref mm_isKept, .ref mm_refused, .int mm_lineFrom, .int mm_lineTo, .ref mm_stands, .ref mm_far, .ref mm_queue, .int mm_queued, .ref mm_meets, .ref mm_bytes, .int (nI bl), .int (nI ta), .int (nI tl), .int mm_token, .int mm_value, .ref mm_next, .int (nI tk)])), (mm_bytes, .inl (cy 1, 250, .inl mm_bytes_f))] sz)) (va_Qv (fun (u : Nat × Nat × Int32 × Int32) => u.1 + u.2.1 ≤ bl ∧ (u.2.2.1 = 0 ∨ 1 ≤ u.2.1) ∧ pf ≤ u.1) (fun (u : Nat × Nat × Int32 × Int32) t => va_P D vwCl ([(mm, .inr (11, [.ref mm_now, .ref mm_kept, .ref mm_isKept, .ref mm_refused, .int mm_lineFrom, .int mm_lineTo, .ref mm_stands, .ref mm_far, .ref mm_queue, .int mm_queued, .ref mm_meets, .ref mm_bytes, .int (nI bl), .int (nI u.1), .int (nI u.2.1), .int u.2.2.1, .int u.2.2.2, .ref mm_next, .int (nI tk)])), (mm_bytes, .inl (cy 1, 250, .inl mm_bytes_f))]) t.heap ∧ va_D (va_A [(mm, .inr (11, [.ref mm_now, .ref mm_kept, .ref mm_isKept, .ref mm_refused, .int mm_lineFrom, .int mm_lineTo, .ref mm_stands, .ref mm_far, .ref mm_queue, .int mm_queued, .ref mm_meets, .ref mm_bytes, .int (nI bl), .int (nI ta), .int (nI tl), .int mm_token, .int mm_value, .ref mm_next, .int (nI tk)])), (mm_bytes, .inl (cy 1, 250, .inl mm_bytes_f))] sz) ([(mm, .inr (11, [.ref mm_now, .ref mm_kept, .ref mm_isKept, .ref mm_refused, .int mm_lineFrom, .int mm_lineTo, .ref mm_stands, .ref mm_far, .ref mm_queue, .int mm_queued, .ref mm_meets, .ref mm_bytes, .int (nI bl), .int (nI u.1), .int (nI u.2.1), .int u.2.2.1, .int u.2.2.2, .ref mm_next, .int (nI tk)])), (mm_bytes, .inl (cy 1, 250, .inl mm_bytes_f))])) (va_A [(mm, .inr (11, [.ref mm_now, .ref mm_kept, .ref mm_isKept, .ref mm_refused, .int mm_lineFrom, .int mm_lineTo, .ref mm_stands, .ref mm_far, .ref mm_queue, .int mm_queued, .ref mm_meets, .ref mm_bytes, .int (nI bl), .int (nI ta), .int (nI tl), .int mm_token, .int mm_value, .ref mm_next, .int (nI tk)])), (mm_bytes, .inl (cy 1, 250, .inl mm_bytes_f))] sz)) 0 0 (va_A [(mm, .inr (11, [.ref mm_now, .ref mm_kept, .ref mm_isKept, .ref mm_refused, .int mm_lineFrom, .int mm_lineTo, .ref mm_stands, .ref mm_far, .ref mm_queue, .int mm_queued, .ref mm_meets, .ref mm_bytes, .int (nI bl), .int (nI ta), .int (nI tl), .int mm_token, .int mm_value, .ref mm_next, .int (nI tk)])), (mm_bytes, .inl (cy 1, 250, .inl mm_bytes_f))] sz) := by
  refine Met.ofW (cc := cX11_look) (maxL := 5) (ret := none) (by decide) rfl ?_
  intro p e s m args below meth c s₁ B hml hv
  obtain ⟨rfl, hsz, hP, hKA, hD0⟩ := hv
  have hx := B.exec
  have hb := B.bytes
  have hr := B.returns
  have hts := atoms_spec (ws := wsX11_look) B.pre
  have hown : s.vm.findClass RX11 = some m.cls := findClass_of_methodNamed B.named
  have hlocks := B.notSynchronized
  subst hsz
  have hK := hKA.1
  have hD := hD0.self (sz := s.heap.size)
  generalize hAe : va_A [(mm, .inr (11, [.ref mm_now, .ref mm_kept, .ref mm_isKept, .ref mm_refused, .int mm_lineFrom, .int mm_lineTo, .ref mm_stands, .ref mm_far, .ref mm_queue, .int mm_queued, .ref mm_meets, .ref mm_bytes, .int (nI bl), .int (nI ta), .int (nI tl), .int mm_token, .int mm_value, .ref mm_next, .int (nI tk)])), (mm_bytes, .inl (cy 1, 250, .inl mm_bytes_f))] s.heap.size = A at hD ⊢
  have hA : ∀ q : Nat, s.heap.size ≤ q → A q := fun q h => by rw [← hAe]; exact Or.inr h
  have hS : va_S A s.heap s.heap [] := va_S.rf
  have hP : va_P D vwCl [(mm, .inr (11, [.ref mm_now, .ref mm_kept, .ref mm_isKept, .ref mm_refused, .int mm_lineFrom, .int mm_lineTo, .ref mm_stands, .ref mm_far, .ref mm_queue, .int mm_queued, .ref mm_meets, .ref mm_bytes, .int (nI bl), .int (nI ta), .int (nI tl), .int mm_token, .int mm_value, .ref mm_next, .int (nI tk)])), (mm_bytes, .inl (cy 1, 250, .inl mm_bytes_f))] s.heap := hP
  have hl := lv_entry ([.ref mm, .int (nI pf)]) (n := 5) (Nat.le_of_ble_eq_true rfl)
  rw [lg_entry_eq]
  generalize (lg_sl ([.ref mm, .int (nI pf)]) ++ List.replicate (5 - (lg_sl ([.ref mm, .int (nI pf)])).length) Slot.unset).toArray = ls at hl ⊢
  have hl : lv_has ls 5 [(0, .ref mm), (1, .int (nI pf))] := hl
  refine qW (fun QF hQF => ?_)
  have z0_ := hts (.fieldLink RX11 209 "HeardSeenModel" "tokenAt" "I") (by decide +kernel)
  have zi11_ : ∀ w ∈ u_ws RX11 TX11 19, w ∈ wsX11_look := by decide +kernel
  have z2_ := hts (.fieldLink RX11 196 "HeardSeenModel" "bytesLong" "I") (by decide +kernel)
  have z3_ := hts (.fieldLink RX11 35 "HeardSeenModel" "bytes" "[I") (by decide +kernel)
  have z4_ := hts (.fieldLink RX11 212 "HeardSeenModel" "tokenLong" "I") (by decide +kernel)
  have z5_ := hts (.fieldLink RX11 215 "HeardSeenModel" "token" "I") (by decide +kernel)
  have z6_ := hts (.fieldLink RX11 218 "HeardSeenModel" "value" "I") (by decide +kernel)
  refine lv_aload_n hx hb dX11_look_0 rfl (lv_at hl 0 rfl) ?_
  refine lv_iload_n hx hb dX11_look_1 rfl (lv_at hl 1 rfl) ?_
  refine va_put (D := D) (ci := 11) (v := .int (nI pf)) (ty := .int) (C := RX11) (T := TX11) (N := 19) hx hb hts zi11_ tyX11 tyX11_ok nmX11 hown hK hP hD hS 0 rfl rfl 13 (by decide) z0_ (fun _ h9 => h9) rfl (by decide +kernel) rfl rfl (Nat.le_of_ble_eq_true rfl) dX11_look_2 (fun H locs hP hD hS => ?_)
  have hP : va_P D vwCl [(mm, .inr (11, [.ref mm_now, .ref mm_kept, .ref mm_isKept, .ref mm_refused, .int mm_lineFrom, .int mm_lineTo, .ref mm_stands, .ref mm_far, .ref mm_queue, .int mm_queued, .ref mm_meets, .ref mm_bytes, .int (nI bl), .int (nI pf), .int (nI tl), .int mm_token, .int mm_value, .ref mm_next, .int (nI tk)])), (mm_bytes, .inl (cy 1, 250, .inl mm_bytes_f))] H := hP
  have hD : va_D A [(mm, .inr (11, [.ref mm_now, .ref mm_kept, .ref mm_isKept, .ref mm_refused, .int mm_lineFrom, .int mm_lineTo, .ref mm_stands, .ref mm_far, .ref mm_queue, .int mm_queued, .ref mm_meets, .ref mm_bytes, .int (nI bl), .int (nI pf), .int (nI tl), .int mm_token, .int mm_value, .ref mm_next, .int (nI tk)])), (mm_bytes, .inl (cy 1, 250, .inl mm_bytes_f))] := hD
  have lp5 : ∀ (n5 : Nat) (u_mm_13_5 : Nat) (h5a : u_mm_13_5 ≤ bl) (h5b : pf ≤ u_mm_13_5), 251 - u_mm_13_5 < n5 → ∀ (H : Heap) (locs : List Loc), va_P D vwCl [(mm, .inr (11, [.ref mm_now, .ref mm_kept, .ref mm_isKept, .ref mm_refused, .int mm_lineFrom, .int mm_lineTo, .ref mm_stands, .ref mm_far, .ref mm_queue, .int mm_queued, .ref mm_meets, .ref mm_bytes, .int (nI bl), .int (nI u_mm_13_5), .int (nI tl), .int mm_token, .int mm_value, .ref mm_next, .int (nI tk)])), (mm_bytes, .inl (cy 1, 250, .inl mm_bytes_f))] H → va_D A [(mm, .inr (11, [.ref mm_now, .ref mm_kept, .ref mm_isKept, .ref mm_refused, .int mm_lineFrom, .int mm_lineTo, .ref mm_stands, .ref mm_far, .ref mm_queue, .int mm_queued, .ref mm_meets, .ref mm_bytes, .int (nI bl), .int (nI u_mm_13_5), .int (nI tl), .int mm_token, .int mm_value, .ref mm_next, .int (nI tk)])), (mm_bytes, .inl (cy 1, 250, .inl mm_bytes_f))] → va_S A s.heap H locs → ∀ ls : Array Slot, lv_has ls 5 [(0, .ref mm), (1, .int (nI pf))] → W p l e (headSpec wsX11_look ({ frames := 2, cells := 0, slots := 0, locals := 45 })).room s m [.ref mm, .int (nI pf)].toArray below meth c H locs 0 0 QF (F0 m 5 ls []) := by
    intro n5
    induction n5 with
    | zero => intro u_mm_13_5 h5a h5b hm; exact absurd hm (Nat.not_lt_zero _)
    | succ n5 ih5 =>
      intro u_mm_13_5 h5a h5b hm5 H locs hP hD hS ls hl
      refine lv_aload_n hx hb dX11_look_5 rfl (lv_at hl 0 rfl) ?_
      refine va_get (D := D) (ci := 11) (v := .int (nI u_mm_13_5)) (C := RX11) (T := TX11) (N := 19) hx hb hts zi11_ hown hK hP 0 rfl rfl 13 (by decide) z0_ (fun _ h9 => h9) rfl dX11_look_6 ?_
      refine lv_aload_n hx hb dX11_look_9 rfl (lv_at hl 0 rfl) ?_
      refine va_get (D := D) (ci := 11) (v := .int (nI bl)) (C := RX11) (T := TX11) (N := 19) hx hb hts zi11_ hown hK hP 0 rfl rfl 12 (by decide) z2_ (fun _ h9 => h9) rfl dX11_look_10 ?_
      have j43 : ∀ (H : Heap) (locs : List Loc), va_P D vwCl [(mm, .inr (11, [.ref mm_now, .ref mm_kept, .ref mm_isKept, .ref mm_refused, .int mm_lineFrom, .int mm_lineTo, .ref mm_stands, .ref mm_far, .ref mm_queue, .int mm_queued, .ref mm_meets, .ref mm_bytes, .int (nI bl), .int (nI u_mm_13_5), .int (nI tl), .int mm_token, .int mm_value, .ref mm_next, .int (nI tk)])), (mm_bytes, .inl (cy 1, 250, .inl mm_bytes_f))] H → va_D A [(mm, .inr (11, [.ref mm_now, .ref mm_kept, .ref mm_isKept, .ref mm_refused, .int mm_lineFrom, .int mm_lineTo, .ref mm_stands, .ref mm_far, .ref mm_queue, .int mm_queued, .ref mm_meets, .ref mm_bytes, .int (nI bl), .int (nI u_mm_13_5), .int (nI tl), .int mm_token, .int mm_value, .ref mm_next, .int (nI tk)])), (mm_bytes, .inl (cy 1, 250, .inl mm_bytes_f))] → va_S A s.heap H locs → ∀ ls : Array Slot, lv_has ls 5 [(0, .ref mm), (1, .int (nI pf))] → W p l e (headSpec wsX11_look ({ frames := 2, cells := 0, slots := 0, locals := 45 })).room s m [.ref mm, .int (nI pf)].toArray below meth c H locs 0 0 QF (F0 m 43 ls []) := by
        intro  H locs hP hD hS ls hl
        refine lv_aload_n hx hb dX11_look_43 rfl (lv_at hl 0 rfl) ?_
        refine lv_iconst (v := 0) hx hb dX11_look_44 (by decide) ?_
        refine va_put (D := D) (ci := 11) (v := .int 0) (ty := .int) (C := RX11) (T := TX11) (N := 19) hx hb hts zi11_ tyX11 tyX11_ok nmX11 hown hK hP hD hS 0 rfl rfl 14 (by decide) z4_ (fun _ h9 => h9) rfl (by decide +kernel) rfl rfl (Nat.le_of_ble_eq_true rfl) dX11_look_45 (fun H locs hP hD hS => ?_)
        have hP : va_P D vwCl [(mm, .inr (11, [.ref mm_now, .ref mm_kept, .ref mm_isKept, .ref mm_refused, .int mm_lineFrom, .int mm_lineTo, .ref mm_stands, .ref mm_far, .ref mm_queue, .int mm_queued, .ref mm_meets, .ref mm_bytes, .int (nI bl), .int (nI u_mm_13_5), .int 0, .int mm_token, .int mm_value, .ref mm_next, .int (nI tk)])), (mm_bytes, .inl (cy 1, 250, .inl mm_bytes_f))] H := hP
        have hD : va_D A [(mm, .inr (11, [.ref mm_now, .ref mm_kept, .ref mm_isKept, .ref mm_refused, .int mm_lineFrom, .int mm_lineTo, .ref mm_stands, .ref mm_far, .ref mm_queue, .int mm_queued, .ref mm_meets, .ref mm_bytes, .int (nI bl), .int (nI u_mm_13_5), .int 0, .int mm_token, .int mm_value, .ref mm_next, .int (nI tk)])), (mm_bytes, .inl (cy 1, 250, .inl mm_bytes_f))] := hD
        refine lv_aload_n hx hb dX11_look_48 rfl (lv_at hl 0 rfl) ?_
        refine lv_iconst (v := 0) hx hb dX11_look_49 (by decide) ?_
        refine va_put (D := D) (ci := 11) (v := .int 0) (ty := .int) (C := RX11) (T := TX11) (N := 19) hx hb hts zi11_ tyX11 tyX11_ok nmX11 hown hK hP hD hS 0 rfl rfl 15 (by decide) z5_ (fun _ h9 => h9) rfl (by decide +kernel) rfl rfl (Nat.le_of_ble_eq_true rfl) dX11_look_50 (fun H locs hP hD hS => ?_)
        have hP : va_P D vwCl [(mm, .inr (11, [.ref mm_now, .ref mm_kept, .ref mm_isKept, .ref mm_refused, .int mm_lineFrom, .int mm_lineTo, .ref mm_stands, .ref mm_far, .ref mm_queue, .int mm_queued, .ref mm_meets, .ref mm_bytes, .int (nI bl), .int (nI u_mm_13_5), .int 0, .int 0, .int mm_value, .ref mm_next, .int (nI tk)])), (mm_bytes, .inl (cy 1, 250, .inl mm_bytes_f))] H := hP
        have hD : va_D A [(mm, .inr (11, [.ref mm_now, .ref mm_kept, .ref mm_isKept, .ref mm_refused, .int mm_lineFrom, .int mm_lineTo, .ref mm_stands, .ref mm_far, .ref mm_queue, .int mm_queued, .ref mm_meets, .ref mm_bytes, .int (nI bl), .int (nI u_mm_13_5), .int 0, .int 0, .int mm_value, .ref mm_next, .int (nI tk)])), (mm_bytes, .inl (cy 1, 250, .inl mm_bytes_f))] := hD
        refine lv_aload_n hx hb dX11_look_53 rfl (lv_at hl 0 rfl) ?_
        refine lv_iconst (v := 0) hx hb dX11_look_54 (by decide) ?_
        refine va_put (D := D) (ci := 11) (v := .int 0) (ty := .int) (C := RX11) (T := TX11) (N := 19) hx hb hts zi11_ tyX11 tyX11_ok nmX11 hown hK hP hD hS 0 rfl rfl 16 (by decide) z6_ (fun _ h9 => h9) rfl (by decide +kernel) rfl rfl (Nat.le_of_ble_eq_true rfl) dX11_look_55 (fun H locs hP hD hS => ?_)
        have hP : va_P D vwCl [(mm, .inr (11, [.ref mm_now, .ref mm_kept, .ref mm_isKept, .ref mm_refused, .int mm_lineFrom, .int mm_lineTo, .ref mm_stands, .ref mm_far, .ref mm_queue, .int mm_queued, .ref mm_meets, .ref mm_bytes, .int (nI bl), .int (nI u_mm_13_5), .int 0, .int 0, .int 0, .ref mm_next, .int (nI tk)])), (mm_bytes, .inl (cy 1, 250, .inl mm_bytes_f))] H := hP
        have hD : va_D A [(mm, .inr (11, [.ref mm_now, .ref mm_kept, .ref mm_isKept, .ref mm_refused, .int mm_lineFrom, .int mm_lineTo, .ref mm_stands, .ref mm_far, .ref mm_queue, .int mm_queued, .ref mm_meets, .ref mm_bytes, .int (nI bl), .int (nI u_mm_13_5), .int 0, .int 0, .int 0, .ref mm_next, .int (nI tk)])), (mm_bytes, .inl (cy 1, 250, .inl mm_bytes_f))] := hD
        refine lv_aload_n hx hb dX11_look_58 rfl (lv_at hl 0 rfl) ?_
        refine va_get (D := D) (ci := 11) (v := .int (nI u_mm_13_5)) (C := RX11) (T := TX11) (N := 19) hx hb hts zi11_ hown hK hP 0 rfl rfl 13 (by decide) z0_ (fun _ h9 => h9) rfl dX11_look_59 ?_
        refine lv_aload_n hx hb dX11_look_62 rfl (lv_at hl 0 rfl) ?_
        refine va_get (D := D) (ci := 11) (v := .int (nI bl)) (C := RX11) (T := TX11) (N := 19) hx hb hts zi11_ hown hK hP 0 rfl rfl 12 (by decide) z2_ (fun _ h9 => h9) rfl dX11_look_63 ?_
        refine lv_icmp_ne (tgt := 70) hx hb dX11_look_66 (by decide) (fun c1 => ?_) (fun c1 => ?_)
        · skip
          have hlt66 := ne5 (n := bl) rfl (by assumption) h5a
          refine lv_aload_n hx hb dX11_look_70 rfl (lv_at hl 0 rfl) ?_
          refine va_get (D := D) (ci := 11) (v := .ref mm_bytes) (C := RX11) (T := TX11) (N := 19) hx hb hts zi11_ hown hK hP 0 rfl rfl 11 (by decide) z3_ (fun _ h9 => h9) rfl dX11_look_71 ?_
          refine lv_aload_n hx hb dX11_look_74 rfl (lv_at hl 0 rfl) ?_
          refine va_get (D := D) (ci := 11) (v := .int (nI u_mm_13_5)) (C := RX11) (T := TX11) (N := 19) hx hb hts zi11_ hown hK hP 0 rfl rfl 13 (by decide) z0_ (fun _ h9 => h9) rfl dX11_look_75 ?_
          refine my_iald hx hb hK hP 1 1 rfl rfl (by first | exact in_ge (N := 250) (by decide) (by omega) (by assumption) | exact vp_in_nI (by omega) (by omega)) (nI_clamp (by omega)) dX11_look_78 ?_
          refine lv_topi (fun x2 ex2 => ?_)
          refine lv_istore_n (lv' := [(2, .int x2), (0, .ref mm), (1, .int (nI pf))]) hx hb dX11_look_79 rfl hl (by decide) rfl (fun ls hl => ?_)
          refine lv_aload_n hx hb dX11_look_80 rfl (lv_at hl 1 rfl) ?_
          refine lv_iload_n hx hb dX11_look_81 rfl (lv_at hl 0 rfl) ?_
          refine rd_i (va_runS (As := [.int x2]) (rest := [.ref mm]) ⟨hx, hb, hml, hown, hts⟩ (n_X11_isSmall l D cy x2 _ ) (va_cwS 1 hts gX11_look_X11_isSmall rfl rfl rfl (by decide +kernel) ⟨Nat.le_of_ble_eq_true rfl, Nat.le_of_ble_eq_true rfl⟩) (pS hKA pE (dE (A := A))) rfl rfl hl.1 rfl (lv_room (Nat.le_of_ble_eq_true rfl)) dX11_look_82 ⟨Nat.le_of_ble_eq_true rfl, Nat.le_of_ble_eq_true rfl⟩) hP hS hA (fun r3 H locs hwr3 hP hS => ?_)
          have hwr3 : (r3 = 1 ∧ True) ∨ (r3 = 0 ∧ True) := hwr3
          have j124 : ∀ (s2_124 : Int32) (H : Heap) (locs : List Loc), va_P D vwCl [(mm, .inr (11, [.ref mm_now, .ref mm_kept, .ref mm_isKept, .ref mm_refused, .int mm_lineFrom, .int mm_lineTo, .ref mm_stands, .ref mm_far, .ref mm_queue, .int mm_queued, .ref mm_meets, .ref mm_bytes, .int (nI bl), .int (nI u_mm_13_5), .int 0, .int 0, .int 0, .ref mm_next, .int (nI tk)])), (mm_bytes, .inl (cy 1, 250, .inl mm_bytes_f))] H → va_D A [(mm, .inr (11, [.ref mm_now, .ref mm_kept, .ref mm_isKept, .ref mm_refused, .int mm_lineFrom, .int mm_lineTo, .ref mm_stands, .ref mm_far, .ref mm_queue, .int mm_queued, .ref mm_meets, .ref mm_bytes, .int (nI bl), .int (nI u_mm_13_5), .int 0, .int 0, .int 0, .ref mm_next, .int (nI tk)])), (mm_bytes, .inl (cy 1, 250, .inl mm_bytes_f))] → va_S A s.heap H locs → ∀ ls : Array Slot, lv_has ls 5 [(2, .int x2), (0, .ref mm), (1, .int (nI pf))] → W p l e (headSpec wsX11_look ({ frames := 2, cells := 0, slots := 0, locals := 45 })).room s m [.ref mm, .int (nI pf)].toArray below meth c H locs 0 0 QF (F0 m 124 ls [.int s2_124, .ref mm]) := by
            intro s2_124 H locs hP hD hS ls hl
            refine va_put (D := D) (ci := 11) (v := .int s2_124) (ty := .int) (C := RX11) (T := TX11) (N := 19) hx hb hts zi11_ tyX11 tyX11_ok nmX11 hown hK hP hD hS 0 rfl rfl 15 (by decide) z5_ (fun _ h9 => h9) rfl (by decide +kernel) rfl rfl (Nat.le_of_ble_eq_true rfl) dX11_look_124 (fun H locs hP hD hS => ?_)
            have hP : va_P D vwCl [(mm, .inr (11, [.ref mm_now, .ref mm_kept, .ref mm_isKept, .ref mm_refused, .int mm_lineFrom, .int mm_lineTo, .ref mm_stands, .ref mm_far, .ref mm_queue, .int mm_queued, .ref mm_meets, .ref mm_bytes, .int (nI bl), .int (nI u_mm_13_5), .int 0, .int s2_124, .int 0, .ref mm_next, .int (nI tk)])), (mm_bytes, .inl (cy 1, 250, .inl mm_bytes_f))] H := hP
            have hD : va_D A [(mm, .inr (11, [.ref mm_now, .ref mm_kept, .ref mm_isKept, .ref mm_refused, .int mm_lineFrom, .int mm_lineTo, .ref mm_stands, .ref mm_far, .ref mm_queue, .int mm_queued, .ref mm_meets, .ref mm_bytes, .int (nI bl), .int (nI u_mm_13_5), .int 0, .int s2_124, .int 0, .ref mm_next, .int (nI tk)])), (mm_bytes, .inl (cy 1, 250, .inl mm_bytes_f))] := hD
            refine lv_aload_n hx hb dX11_look_127 rfl (lv_at hl 1 rfl) ?_
            refine lv_iconst (v := 1) hx hb dX11_look_128 (by decide) ?_
            refine va_put (D := D) (ci := 11) (v := .int 1) (ty := .int) (C := RX11) (T := TX11) (N := 19) hx hb hts zi11_ tyX11 tyX11_ok nmX11 hown hK hP hD hS 0 rfl rfl 14 (by decide) z4_ (fun _ h9 => h9) rfl (by decide +kernel) rfl rfl (Nat.le_of_ble_eq_true rfl) dX11_look_129 (fun H locs hP hD hS => ?_)
            have hP : va_P D vwCl [(mm, .inr (11, [.ref mm_now, .ref mm_kept, .ref mm_isKept, .ref mm_refused, .int mm_lineFrom, .int mm_lineTo, .ref mm_stands, .ref mm_far, .ref mm_queue, .int mm_queued, .ref mm_meets, .ref mm_bytes, .int (nI bl), .int (nI u_mm_13_5), .int 1, .int s2_124, .int 0, .ref mm_next, .int (nI tk)])), (mm_bytes, .inl (cy 1, 250, .inl mm_bytes_f))] H := hP
            have hD : va_D A [(mm, .inr (11, [.ref mm_now, .ref mm_kept, .ref mm_isKept, .ref mm_refused, .int mm_lineFrom, .int mm_lineTo, .ref mm_stands, .ref mm_far, .ref mm_queue, .int mm_queued, .ref mm_meets, .ref mm_bytes, .int (nI bl), .int (nI u_mm_13_5), .int 1, .int s2_124, .int 0, .ref mm_next, .int (nI tk)])), (mm_bytes, .inl (cy 1, 250, .inl mm_bytes_f))] := hD
            refine lv_aload_n hx hb dX11_look_132 rfl (lv_at hl 1 rfl) ?_
            refine va_get (D := D) (ci := 11) (v := .int s2_124) (C := RX11) (T := TX11) (N := 19) hx hb hts zi11_ hown hK hP 0 rfl rfl 15 (by decide) z5_ (fun _ h9 => h9) rfl dX11_look_133 ?_
            refine lv_iconst (v := 3) hx hb dX11_look_136 (by decide) ?_
            have j145 : ∀ (s1_145 : Int32) (bs1_145 : s1_145 = 1 ∨ s1_145 = 0) (H : Heap) (locs : List Loc), va_P D vwCl [(mm, .inr (11, [.ref mm_now, .ref mm_kept, .ref mm_isKept, .ref mm_refused, .int mm_lineFrom, .int mm_lineTo, .ref mm_stands, .ref mm_far, .ref mm_queue, .int mm_queued, .ref mm_meets, .ref mm_bytes, .int (nI bl), .int (nI u_mm_13_5), .int 1, .int s2_124, .int 0, .ref mm_next, .int (nI tk)])), (mm_bytes, .inl (cy 1, 250, .inl mm_bytes_f))] H → va_D A [(mm, .inr (11, [.ref mm_now, .ref mm_kept, .ref mm_isKept, .ref mm_refused, .int mm_lineFrom, .int mm_lineTo, .ref mm_stands, .ref mm_far, .ref mm_queue, .int mm_queued, .ref mm_meets, .ref mm_bytes, .int (nI bl), .int (nI u_mm_13_5), .int 1, .int s2_124, .int 0, .ref mm_next, .int (nI tk)])), (mm_bytes, .inl (cy 1, 250, .inl mm_bytes_f))] → va_S A s.heap H locs → ∀ ls : Array Slot, lv_has ls 5 [(2, .int x2), (0, .ref mm), (1, .int (nI pf))] → W p l e (headSpec wsX11_look ({ frames := 2, cells := 0, slots := 0, locals := 45 })).room s m [.ref mm, .int (nI pf)].toArray below meth c H locs 0 0 QF (F0 m 145 ls [.int s1_145]) := by
              intro s1_145 bs1_145 H locs hP hD hS ls hl
              refine lv_istore_n (lv' := [(3, .int s1_145), (2, .int x2), (0, .ref mm), (1, .int (nI pf))]) hx hb dX11_look_145 rfl hl (by decide) rfl (fun ls hl => ?_)
              have lp146 : ∀ (n146 : Nat) (u_mm_14_146 : Nat) (v3_146 : Int32) (bv3_146 : v3_146 = 1 ∨ v3_146 = 0) (h6a : u_mm_13_5 + u_mm_14_146 ≤ bl) (h6b : 1 ≤ u_mm_14_146), (if v3_146 = 0 then 0 else 1) + (251 - u_mm_14_146) < n146 → ∀ (H : Heap) (locs : List Loc), va_P D vwCl [(mm, .inr (11, [.ref mm_now, .ref mm_kept, .ref mm_isKept, .ref mm_refused, .int mm_lineFrom, .int mm_lineTo, .ref mm_stands, .ref mm_far, .ref mm_queue, .int mm_queued, .ref mm_meets, .ref mm_bytes, .int (nI bl), .int (nI u_mm_13_5), .int (nI u_mm_14_146), .int s2_124, .int 0, .ref mm_next, .int (nI tk)])), (mm_bytes, .inl (cy 1, 250, .inl mm_bytes_f))] H → va_D A [(mm, .inr (11, [.ref mm_now, .ref mm_kept, .ref mm_isKept, .ref mm_refused, .int mm_lineFrom, .int mm_lineTo, .ref mm_stands, .ref mm_far, .ref mm_queue, .int mm_queued, .ref mm_meets, .ref mm_bytes, .int (nI bl), .int (nI u_mm_13_5), .int (nI u_mm_14_146), .int s2_124, .int 0, .ref mm_next, .int (nI tk)])), (mm_bytes, .inl (cy 1, 250, .inl mm_bytes_f))] → va_S A s.heap H locs → ∀ ls : Array Slot, lv_has ls 5 [(3, .int v3_146), (2, .int x2), (0, .ref mm), (1, .int (nI pf))] → W p l e (headSpec wsX11_look ({ frames := 2, cells := 0, slots := 0, locals := 45 })).room s m [.ref mm, .int (nI pf)].toArray below meth c H locs 0 0 QF (F0 m 146 ls []) := by
                intro n146
                induction n146 with
                | zero => intro u_mm_14_146 v3_146 bv3_146 h6a h6b hm; exact absurd hm (Nat.not_lt_zero _)
                | succ n146 ih146 =>
                  intro u_mm_14_146 v3_146 bv3_146 h6a h6b hm146 H locs hP hD hS ls hl
                  refine lv_iload_n hx hb dX11_look_146 rfl (lv_at hl 0 rfl) ?_
                  have j225 : ∀ (H : Heap) (locs : List Loc), va_P D vwCl [(mm, .inr (11, [.ref mm_now, .ref mm_kept, .ref mm_isKept, .ref mm_refused, .int mm_lineFrom, .int mm_lineTo, .ref mm_stands, .ref mm_far, .ref mm_queue, .int mm_queued, .ref mm_meets, .ref mm_bytes, .int (nI bl), .int (nI u_mm_13_5), .int (nI u_mm_14_146), .int s2_124, .int 0, .ref mm_next, .int (nI tk)])), (mm_bytes, .inl (cy 1, 250, .inl mm_bytes_f))] H → va_D A [(mm, .inr (11, [.ref mm_now, .ref mm_kept, .ref mm_isKept, .ref mm_refused, .int mm_lineFrom, .int mm_lineTo, .ref mm_stands, .ref mm_far, .ref mm_queue, .int mm_queued, .ref mm_meets, .ref mm_bytes, .int (nI bl), .int (nI u_mm_13_5), .int (nI u_mm_14_146), .int s2_124, .int 0, .ref mm_next, .int (nI tk)])), (mm_bytes, .inl (cy 1, 250, .inl mm_bytes_f))] → va_S A s.heap H locs → ∀ ls : Array Slot, lv_has ls 5 [(3, .int v3_146), (2, .int x2), (0, .ref mm), (1, .int (nI pf))] → W p l e (headSpec wsX11_look ({ frames := 2, cells := 0, slots := 0, locals := 45 })).room s m [.ref mm, .int (nI pf)].toArray below meth c H locs 0 0 QF (F0 m 225 ls []) := by
                    intro  H locs hP hD hS ls hl
                    refine lv_iconst (v := 0) hx hb dX11_look_225 (by decide) ?_
                    refine lv_istore (lv' := [(4, .int 0), (3, .int v3_146), (2, .int x2), (0, .ref mm), (1, .int (nI pf))]) hx hb dX11_look_226 hl (by decide) rfl (fun ls hl => ?_)
                    have lp228 : ∀ (n228 : Nat) (v4_228 : Nat) (u_mm_16_228 : Int32) (hv4_228 : v4_228 < 2147483648), 2147483648 - v4_228 < n228 → ∀ (H : Heap) (locs : List Loc), va_P D vwCl [(mm, .inr (11, [.ref mm_now, .ref mm_kept, .ref mm_isKept, .ref mm_refused, .int mm_lineFrom, .int mm_lineTo, .ref mm_stands, .ref mm_far, .ref mm_queue, .int mm_queued, .ref mm_meets, .ref mm_bytes, .int (nI bl), .int (nI u_mm_13_5), .int (nI u_mm_14_146), .int s2_124, .int u_mm_16_228, .ref mm_next, .int (nI tk)])), (mm_bytes, .inl (cy 1, 250, .inl mm_bytes_f))] H → va_D A [(mm, .inr (11, [.ref mm_now, .ref mm_kept, .ref mm_isKept, .ref mm_refused, .int mm_lineFrom, .int mm_lineTo, .ref mm_stands, .ref mm_far, .ref mm_queue, .int mm_queued, .ref mm_meets, .ref mm_bytes, .int (nI bl), .int (nI u_mm_13_5), .int (nI u_mm_14_146), .int s2_124, .int u_mm_16_228, .ref mm_next, .int (nI tk)])), (mm_bytes, .inl (cy 1, 250, .inl mm_bytes_f))] → va_S A s.heap H locs → ∀ ls : Array Slot, lv_has ls 5 [(4, .int (nI v4_228)), (3, .int v3_146), (2, .int x2), (0, .ref mm), (1, .int (nI pf))] → W p l e (headSpec wsX11_look ({ frames := 2, cells := 0, slots := 0, locals := 45 })).room s m [.ref mm, .int (nI pf)].toArray below meth c H locs 0 0 QF (F0 m 228 ls []) := by
                      intro n228
                      induction n228 with
                      | zero => intro v4_228 u_mm_16_228 hv4_228 hm; exact absurd hm (Nat.not_lt_zero _)
                      | succ n228 ih228 =>
                        intro v4_228 u_mm_16_228 hv4_228 hm228 H locs hP hD hS ls hl
                        refine lv_iload hx hb dX11_look_228 (lv_at hl 0 rfl) ?_
                        refine lv_aload_n hx hb dX11_look_230 rfl (lv_at hl 3 rfl) ?_
                        refine va_get (D := D) (ci := 11) (v := .int (nI u_mm_14_146)) (C := RX11) (T := TX11) (N := 19) hx hb hts zi11_ hown hK hP 0 rfl rfl 14 (by decide) z4_ (fun _ h9 => h9) rfl dX11_look_231 ?_
                        have j284 : ∀ (H : Heap) (locs : List Loc), va_P D vwCl [(mm, .inr (11, [.ref mm_now, .ref mm_kept, .ref mm_isKept, .ref mm_refused, .int mm_lineFrom, .int mm_lineTo, .ref mm_stands, .ref mm_far, .ref mm_queue, .int mm_queued, .ref mm_meets, .ref mm_bytes, .int (nI bl), .int (nI u_mm_13_5), .int (nI u_mm_14_146), .int s2_124, .int u_mm_16_228, .ref mm_next, .int (nI tk)])), (mm_bytes, .inl (cy 1, 250, .inl mm_bytes_f))] H → va_D A [(mm, .inr (11, [.ref mm_now, .ref mm_kept, .ref mm_isKept, .ref mm_refused, .int mm_lineFrom, .int mm_lineTo, .ref mm_stands, .ref mm_far, .ref mm_queue, .int mm_queued, .ref mm_meets, .ref mm_bytes, .int (nI bl), .int (nI u_mm_13_5), .int (nI u_mm_14_146), .int s2_124, .int u_mm_16_228, .ref mm_next, .int (nI tk)])), (mm_bytes, .inl (cy 1, 250, .inl mm_bytes_f))] → va_S A s.heap H locs → ∀ ls : Array Slot, lv_has ls 5 [(4, .int (nI v4_228)), (3, .int v3_146), (2, .int x2), (0, .ref mm), (1, .int (nI pf))] → W p l e (headSpec wsX11_look ({ frames := 2, cells := 0, slots := 0, locals := 45 })).room s m [.ref mm, .int (nI pf)].toArray below meth c H locs 0 0 QF (F0 m 284 ls []) := by
                          intro  H locs hP hD hS ls hl
                          refine lv_aload_n hx hb dX11_look_284 rfl (lv_at hl 3 rfl) ?_
                          refine lv_aload_n hx hb dX11_look_285 rfl (lv_at hl 3 rfl) ?_
                          refine va_get (D := D) (ci := 11) (v := .int s2_124) (C := RX11) (T := TX11) (N := 19) hx hb hts zi11_ hown hK hP 0 rfl rfl 15 (by decide) z5_ (fun _ h9 => h9) rfl dX11_look_286 ?_
                          refine lv_iconst (v := 2) hx hb dX11_look_289 (by decide) ?_
                          refine lv_icmp_ne (tgt := 305) hx hb dX11_look_290 (by decide) (fun c4 => ?_) (fun c4 => ?_)
                          · skip
                            refine lv_aload_n hx hb dX11_look_305 rfl (lv_at hl 3 rfl) ?_
                            refine va_get (D := D) (ci := 11) (v := .int s2_124) (C := RX11) (T := TX11) (N := 19) hx hb hts zi11_ hown hK hP 0 rfl rfl 15 (by decide) z5_ (fun _ h9 => h9) rfl dX11_look_306 ?_
                            refine va_put (D := D) (ci := 11) (v := .int s2_124) (ty := .int) (C := RX11) (T := TX11) (N := 19) hx hb hts zi11_ tyX11 tyX11_ok nmX11 hown hK hP hD hS 0 rfl rfl 15 (by decide) z5_ (fun _ h9 => h9) rfl (by decide +kernel) rfl rfl (Nat.le_of_ble_eq_true rfl) dX11_look_309 (fun H locs hP hD hS => ?_)
                            have hP : va_P D vwCl [(mm, .inr (11, [.ref mm_now, .ref mm_kept, .ref mm_isKept, .ref mm_refused, .int mm_lineFrom, .int mm_lineTo, .ref mm_stands, .ref mm_far, .ref mm_queue, .int mm_queued, .ref mm_meets, .ref mm_bytes, .int (nI bl), .int (nI u_mm_13_5), .int (nI u_mm_14_146), .int s2_124, .int u_mm_16_228, .ref mm_next, .int (nI tk)])), (mm_bytes, .inl (cy 1, 250, .inl mm_bytes_f))] H := hP
                            have hD : va_D A [(mm, .inr (11, [.ref mm_now, .ref mm_kept, .ref mm_isKept, .ref mm_refused, .int mm_lineFrom, .int mm_lineTo, .ref mm_stands, .ref mm_far, .ref mm_queue, .int mm_queued, .ref mm_meets, .ref mm_bytes, .int (nI bl), .int (nI u_mm_13_5), .int (nI u_mm_14_146), .int s2_124, .int u_mm_16_228, .ref mm_next, .int (nI tk)])), (mm_bytes, .inl (cy 1, 250, .inl mm_bytes_f))] := hD
                            subst hQF
                            have hP9 := hP
                            have hD9 := hD
                            exact W.vret hx hb hr (fun t ht hW => ⟨⟨(u_mm_13_5, u_mm_14_146, s2_124, u_mm_16_228), rfl, ⟨by omega, Or.inr (by omega), by omega⟩, by rw [ht]; exact hP9, hD9⟩, hS.F ht⟩) hS.2.2 dX11_look_312
                          · skip
                            refine lv_aload_n hx hb dX11_look_293 rfl (lv_at hl 3 rfl) ?_
                            refine va_get (D := D) (ci := 11) (v := .int (nI u_mm_14_146)) (C := RX11) (T := TX11) (N := 19) hx hb hts zi11_ hown hK hP 0 rfl rfl 14 (by decide) z4_ (fun _ h9 => h9) rfl dX11_look_294 ?_
                            refine lv_iconst (v := 2) hx hb dX11_look_297 (by decide) ?_
                            refine lv_icmp_le (tgt := 305) hx hb dX11_look_298 (by decide) (fun c5 => ?_) (fun c5 => ?_)
                            · skip
                              refine lv_aload_n hx hb dX11_look_305 rfl (lv_at hl 3 rfl) ?_
                              refine va_get (D := D) (ci := 11) (v := .int s2_124) (C := RX11) (T := TX11) (N := 19) hx hb hts zi11_ hown hK hP 0 rfl rfl 15 (by decide) z5_ (fun _ h9 => h9) rfl dX11_look_306 ?_
                              refine W.eq (g2 := F0 m 309 ls [.int 2, .ref mm]) (congrArg (fun v9 : Int32 => F0 m 309 ls [.int v9, .ref mm]) c4) ?_
                              refine va_put (D := D) (ci := 11) (v := .int 2) (ty := .int) (C := RX11) (T := TX11) (N := 19) hx hb hts zi11_ tyX11 tyX11_ok nmX11 hown hK hP hD hS 0 rfl rfl 15 (by decide) z5_ (fun _ h9 => h9) rfl (by decide +kernel) rfl rfl (Nat.le_of_ble_eq_true rfl) dX11_look_309 (fun H locs hP hD hS => ?_)
                              have hP : va_P D vwCl [(mm, .inr (11, [.ref mm_now, .ref mm_kept, .ref mm_isKept, .ref mm_refused, .int mm_lineFrom, .int mm_lineTo, .ref mm_stands, .ref mm_far, .ref mm_queue, .int mm_queued, .ref mm_meets, .ref mm_bytes, .int (nI bl), .int (nI u_mm_13_5), .int (nI u_mm_14_146), .int 2, .int u_mm_16_228, .ref mm_next, .int (nI tk)])), (mm_bytes, .inl (cy 1, 250, .inl mm_bytes_f))] H := hP
                              have hD : va_D A [(mm, .inr (11, [.ref mm_now, .ref mm_kept, .ref mm_isKept, .ref mm_refused, .int mm_lineFrom, .int mm_lineTo, .ref mm_stands, .ref mm_far, .ref mm_queue, .int mm_queued, .ref mm_meets, .ref mm_bytes, .int (nI bl), .int (nI u_mm_13_5), .int (nI u_mm_14_146), .int 2, .int u_mm_16_228, .ref mm_next, .int (nI tk)])), (mm_bytes, .inl (cy 1, 250, .inl mm_bytes_f))] := hD
                              subst hQF
                              have hP9 := hP
                              have hD9 := hD
                              exact W.vret hx hb hr (fun t ht hW => ⟨⟨(u_mm_13_5, u_mm_14_146, 2, u_mm_16_228), rfl, ⟨by omega, Or.inr (by omega), by omega⟩, by rw [ht]; exact hP9, hD9⟩, hS.F ht⟩) hS.2.2 dX11_look_312
                            · skip
                              refine lv_iconst (v := 4) hx hb dX11_look_301 (by decide) ?_
                              refine lv_goto (tgt := 309) hx hb dX11_look_302 (by decide) ?_
                              refine va_put (D := D) (ci := 11) (v := .int 4) (ty := .int) (C := RX11) (T := TX11) (N := 19) hx hb hts zi11_ tyX11 tyX11_ok nmX11 hown hK hP hD hS 0 rfl rfl 15 (by decide) z5_ (fun _ h9 => h9) rfl (by decide +kernel) rfl rfl (Nat.le_of_ble_eq_true rfl) dX11_look_309 (fun H locs hP hD hS => ?_)
                              have hP : va_P D vwCl [(mm, .inr (11, [.ref mm_now, .ref mm_kept, .ref mm_isKept, .ref mm_refused, .int mm_lineFrom, .int mm_lineTo, .ref mm_stands, .ref mm_far, .ref mm_queue, .int mm_queued, .ref mm_meets, .ref mm_bytes, .int (nI bl), .int (nI u_mm_13_5), .int (nI u_mm_14_146), .int 4, .int u_mm_16_228, .ref mm_next, .int (nI tk)])), (mm_bytes, .inl (cy 1, 250, .inl mm_bytes_f))] H := hP
                              have hD : va_D A [(mm, .inr (11, [.ref mm_now, .ref mm_kept, .ref mm_isKept, .ref mm_refused, .int mm_lineFrom, .int mm_lineTo, .ref mm_stands, .ref mm_far, .ref mm_queue, .int mm_queued, .ref mm_meets, .ref mm_bytes, .int (nI bl), .int (nI u_mm_13_5), .int (nI u_mm_14_146), .int 4, .int u_mm_16_228, .ref mm_next, .int (nI tk)])), (mm_bytes, .inl (cy 1, 250, .inl mm_bytes_f))] := hD
                              subst hQF
                              have hP9 := hP
                              have hD9 := hD
                              exact W.vret hx hb hr (fun t ht hW => ⟨⟨(u_mm_13_5, u_mm_14_146, 4, u_mm_16_228), rfl, ⟨by omega, Or.inr (by omega), by omega⟩, by rw [ht]; exact hP9, hD9⟩, hS.F ht⟩) hS.2.2 dX11_look_312
                        refine lv_icmp_ge (tgt := 284) hx hb dX11_look_234 (by decide) (fun c6 => ?_) (fun c6 => ?_)
                        · skip
                          exact j284 _ _ hP hD hS ls hl
                        · skip
                          have hlt234 := ltM (n := u_mm_14_146) (k := v4_228) (by omega) (by assumption) (by assumption)
                          refine lv_iload hx hb dX11_look_237 (lv_at hl 0 rfl) ?_
                          refine lv_iconst (v := 2) hx hb dX11_look_239 (by decide) ?_
                          refine lv_icmp_ge (tgt := 284) hx hb dX11_look_240 (by decide) (fun c7 => ?_) (fun c7 => ?_)
                          · skip
                            exact j284 _ _ hP hD hS ls hl
                          · skip
                            refine lv_aload_n hx hb dX11_look_243 rfl (lv_at hl 3 rfl) ?_
                            refine va_get (D := D) (ci := 11) (v := .int s2_124) (C := RX11) (T := TX11) (N := 19) hx hb hts zi11_ hown hK hP 0 rfl rfl 15 (by decide) z5_ (fun _ h9 => h9) rfl dX11_look_244 ?_
                            refine lv_iconst (v := 2) hx hb dX11_look_247 (by decide) ?_
                            refine lv_icmp_ne (tgt := 284) hx hb dX11_look_248 (by decide) (fun c8 => ?_) (fun c8 => ?_)
                            · skip
                              exact j284 _ _ hP hD hS ls hl
                            · skip
                              refine lv_aload_n hx hb dX11_look_251 rfl (lv_at hl 3 rfl) ?_
                              refine lv_bipush (v := 10) hx hb dX11_look_252 (by decide) ?_
                              refine lv_aload_n hx hb dX11_look_254 rfl (lv_at hl 3 rfl) ?_
                              refine va_get (D := D) (ci := 11) (v := .int u_mm_16_228) (C := RX11) (T := TX11) (N := 19) hx hb hts zi11_ hown hK hP 0 rfl rfl 16 (by decide) z6_ (fun _ h9 => h9) rfl dX11_look_255 ?_
                              refine lv_imul hx hb dX11_look_258 ?_
                              refine lv_aload_n hx hb dX11_look_259 rfl (lv_at hl 3 rfl) ?_
                              refine va_get (D := D) (ci := 11) (v := .ref mm_bytes) (C := RX11) (T := TX11) (N := 19) hx hb hts zi11_ hown hK hP 0 rfl rfl 11 (by decide) z3_ (fun _ h9 => h9) rfl dX11_look_260 ?_
                              refine lv_aload_n hx hb dX11_look_263 rfl (lv_at hl 3 rfl) ?_
                              refine va_get (D := D) (ci := 11) (v := .int (nI u_mm_13_5)) (C := RX11) (T := TX11) (N := 19) hx hb hts zi11_ hown hK hP 0 rfl rfl 13 (by decide) z0_ (fun _ h9 => h9) rfl dX11_look_264 ?_
                              refine lv_iload hx hb dX11_look_267 (lv_at hl 0 rfl) ?_
                              refine lv_iadd hx hb dX11_look_269 ?_
                              refine lv_topi (fun x9 ex9 => ?_)
                              obtain rfl : x9 = nI (u_mm_13_5 + v4_228) := by rw [ex9]; exact nI_add _ _
                              refine my_iald hx hb hK hP 1 1 rfl rfl (by first | exact in_ge (N := 250) (by decide) (by omega) (by assumption) | exact vp_in_nI (by omega) (by omega)) (nI_clamp (by omega)) dX11_look_270 ?_
                              refine lv_iadd hx hb dX11_look_271 ?_
                              refine lv_bipush (v := 48) hx hb dX11_look_272 (by decide) ?_
                              refine lv_isub hx hb dX11_look_274 ?_
                              refine lv_topi (fun x10 ex10 => ?_)
                              refine va_put (D := D) (ci := 11) (v := .int x10) (ty := .int) (C := RX11) (T := TX11) (N := 19) hx hb hts zi11_ tyX11 tyX11_ok nmX11 hown hK hP hD hS 0 rfl rfl 16 (by decide) z6_ (fun _ h9 => h9) rfl (by decide +kernel) rfl rfl (Nat.le_of_ble_eq_true rfl) dX11_look_275 (fun H locs hP hD hS => ?_)
                              have hP : va_P D vwCl [(mm, .inr (11, [.ref mm_now, .ref mm_kept, .ref mm_isKept, .ref mm_refused, .int mm_lineFrom, .int mm_lineTo, .ref mm_stands, .ref mm_far, .ref mm_queue, .int mm_queued, .ref mm_meets, .ref mm_bytes, .int (nI bl), .int (nI u_mm_13_5), .int (nI u_mm_14_146), .int s2_124, .int x10, .ref mm_next, .int (nI tk)])), (mm_bytes, .inl (cy 1, 250, .inl mm_bytes_f))] H := hP
                              have hD : va_D A [(mm, .inr (11, [.ref mm_now, .ref mm_kept, .ref mm_isKept, .ref mm_refused, .int mm_lineFrom, .int mm_lineTo, .ref mm_stands, .ref mm_far, .ref mm_queue, .int mm_queued, .ref mm_meets, .ref mm_bytes, .int (nI bl), .int (nI u_mm_13_5), .int (nI u_mm_14_146), .int s2_124, .int x10, .ref mm_next, .int (nI tk)])), (mm_bytes, .inl (cy 1, 250, .inl mm_bytes_f))] := hD
                              refine lv_iinc (v := nI (v4_228 + 1)) (lv' := [(4, .int (nI (v4_228 + 1))), (3, .int v3_146), (2, .int x2), (0, .ref mm), (1, .int (nI pf))]) hx hb dX11_look_278 hl (k := 0) rfl (nI_1 _) (by decide) rfl (fun ls hl => ?_)
                              refine lv_goto (tgt := 228) hx hb dX11_look_281 (by decide) ?_
                              exact ih228 (v4_228 + 1) x10 (by first | omega | exact nlt_max hv4_228 (by assumption)) (by first | omega | (have := nlt_max hv4_228 (by assumption); omega)) _ _ hP hD hS ls hl
                    exact lp228 (2147483648 - 0 + 1) 0 0 (by first | omega | exact nlt_max (by assumption) (by assumption)) (Nat.lt_succ_self _) _ _ hP hD hS ls hl
                  refine lv_if_eq (tgt := 225) hx hb dX11_look_147 (by decide) (fun c11 => ?_) (fun c11 => ?_)
                  · skip
                    exact j225 _ _ hP hD hS ls hl
                  · skip
                    refine lv_aload_n hx hb dX11_look_150 rfl (lv_at hl 2 rfl) ?_
                    refine va_get (D := D) (ci := 11) (v := .int (nI u_mm_13_5)) (C := RX11) (T := TX11) (N := 19) hx hb hts zi11_ hown hK hP 0 rfl rfl 13 (by decide) z0_ (fun _ h9 => h9) rfl dX11_look_151 ?_
                    refine lv_aload_n hx hb dX11_look_154 rfl (lv_at hl 2 rfl) ?_
                    refine va_get (D := D) (ci := 11) (v := .int (nI u_mm_14_146)) (C := RX11) (T := TX11) (N := 19) hx hb hts zi11_ hown hK hP 0 rfl rfl 14 (by decide) z4_ (fun _ h9 => h9) rfl dX11_look_155 ?_
                    refine lv_iadd hx hb dX11_look_158 ?_
                    refine lv_topi (fun x12 ex12 => ?_)
                    obtain rfl : x12 = nI (u_mm_13_5 + u_mm_14_146) := by rw [ex12]; exact nI_add _ _
                    refine lv_aload_n hx hb dX11_look_159 rfl (lv_at hl 2 rfl) ?_
                    refine va_get (D := D) (ci := 11) (v := .int (nI bl)) (C := RX11) (T := TX11) (N := 19) hx hb hts zi11_ hown hK hP 0 rfl rfl 12 (by decide) z2_ (fun _ h9 => h9) rfl dX11_look_160 ?_
                    refine lv_icmp_ge (tgt := 225) hx hb dX11_look_163 (by decide) (fun c13 => ?_) (fun c13 => ?_)
                    · skip
                      exact j225 _ _ hP hD hS ls hl
                    · skip
                      have hlt163 := ltM (n := bl) (k := u_mm_13_5 + u_mm_14_146) (by omega) (by omega) (by assumption)
                      refine lv_aload_n hx hb dX11_look_166 rfl (lv_at hl 2 rfl) ?_
                      refine va_get (D := D) (ci := 11) (v := .ref mm_bytes) (C := RX11) (T := TX11) (N := 19) hx hb hts zi11_ hown hK hP 0 rfl rfl 11 (by decide) z3_ (fun _ h9 => h9) rfl dX11_look_167 ?_
                      refine lv_aload_n hx hb dX11_look_170 rfl (lv_at hl 2 rfl) ?_
                      refine va_get (D := D) (ci := 11) (v := .int (nI u_mm_13_5)) (C := RX11) (T := TX11) (N := 19) hx hb hts zi11_ hown hK hP 0 rfl rfl 13 (by decide) z0_ (fun _ h9 => h9) rfl dX11_look_171 ?_
                      refine lv_aload_n hx hb dX11_look_174 rfl (lv_at hl 2 rfl) ?_
                      refine va_get (D := D) (ci := 11) (v := .int (nI u_mm_14_146)) (C := RX11) (T := TX11) (N := 19) hx hb hts zi11_ hown hK hP 0 rfl rfl 14 (by decide) z4_ (fun _ h9 => h9) rfl dX11_look_175 ?_
                      refine lv_iadd hx hb dX11_look_178 ?_
                      refine lv_topi (fun x14 ex14 => ?_)
                      obtain rfl : x14 = nI (u_mm_13_5 + u_mm_14_146) := by rw [ex14]; exact nI_add _ _
                      refine my_iald hx hb hK hP 1 1 rfl rfl (by first | exact in_ge (N := 250) (by decide) (by omega) (by assumption) | exact vp_in_nI (by omega) (by omega)) (nI_clamp (by omega)) dX11_look_179 ?_
                      refine lv_topi (fun x15 ex15 => ?_)
                      refine lv_istore (lv' := [(4, .int x15), (3, .int v3_146), (2, .int x2), (0, .ref mm), (1, .int (nI pf))]) hx hb dX11_look_180 hl (by decide) rfl (fun ls hl => ?_)
                      refine lv_aload_n hx hb dX11_look_182 rfl (lv_at hl 3 rfl) ?_
                      refine va_get (D := D) (ci := 11) (v := .int s2_124) (C := RX11) (T := TX11) (N := 19) hx hb hts zi11_ hown hK hP 0 rfl rfl 15 (by decide) z5_ (fun _ h9 => h9) rfl dX11_look_183 ?_
                      refine lv_iconst (v := 1) hx hb dX11_look_186 (by decide) ?_
                      have j203 : ∀ (s1_203 : Int32) (bs1_203 : s1_203 = 1 ∨ s1_203 = 0) (H : Heap) (locs : List Loc), va_P D vwCl [(mm, .inr (11, [.ref mm_now, .ref mm_kept, .ref mm_isKept, .ref mm_refused, .int mm_lineFrom, .int mm_lineTo, .ref mm_stands, .ref mm_far, .ref mm_queue, .int mm_queued, .ref mm_meets, .ref mm_bytes, .int (nI bl), .int (nI u_mm_13_5), .int (nI u_mm_14_146), .int s2_124, .int 0, .ref mm_next, .int (nI tk)])), (mm_bytes, .inl (cy 1, 250, .inl mm_bytes_f))] H → va_D A [(mm, .inr (11, [.ref mm_now, .ref mm_kept, .ref mm_isKept, .ref mm_refused, .int mm_lineFrom, .int mm_lineTo, .ref mm_stands, .ref mm_far, .ref mm_queue, .int mm_queued, .ref mm_meets, .ref mm_bytes, .int (nI bl), .int (nI u_mm_13_5), .int (nI u_mm_14_146), .int s2_124, .int 0, .ref mm_next, .int (nI tk)])), (mm_bytes, .inl (cy 1, 250, .inl mm_bytes_f))] → va_S A s.heap H locs → ∀ ls : Array Slot, lv_has ls 5 [(4, .int x15), (3, .int v3_146), (2, .int x2), (0, .ref mm), (1, .int (nI pf))] → W p l e (headSpec wsX11_look ({ frames := 2, cells := 0, slots := 0, locals := 45 })).room s m [.ref mm, .int (nI pf)].toArray below meth c H locs 0 0 QF (F0 m 203 ls [.int s1_203]) := by
                        intro s1_203 bs1_203 H locs hP hD hS ls hl
                        refine lv_istore_n (lv' := [(3, .int s1_203), (4, .int x15), (2, .int x2), (0, .ref mm), (1, .int (nI pf))]) hx hb dX11_look_203 rfl hl (by decide) rfl (fun ls hl => ?_)
                        refine lv_aload_n hx hb dX11_look_204 rfl (lv_at hl 3 rfl) ?_
                        refine lv_dup hx hb dX11_look_205 rfl ?_
                        refine va_get (D := D) (ci := 11) (v := .int (nI u_mm_14_146)) (C := RX11) (T := TX11) (N := 19) hx hb hts zi11_ hown hK hP 0 rfl rfl 14 (by decide) z4_ (fun _ h9 => h9) rfl dX11_look_206 ?_
                        refine lv_iload_n hx hb dX11_look_209 rfl (lv_at hl 0 rfl) ?_
                        refine lv_if_eq (tgt := 217) hx hb dX11_look_210 (by decide) (fun c16 => ?_) (fun c16 => ?_)
                        · skip
                          refine lv_iconst (v := 0) hx hb dX11_look_217 (by decide) ?_
                          refine lv_iadd hx hb dX11_look_218 ?_
                          refine lv_topi (fun x17 ex17 => ?_)
                          obtain rfl : x17 = nI (u_mm_14_146 + 0) := by rw [ex17]; exact nI_add _ _
                          refine va_put (D := D) (ci := 11) (v := .int (nI (u_mm_14_146 + 0))) (ty := .int) (C := RX11) (T := TX11) (N := 19) hx hb hts zi11_ tyX11 tyX11_ok nmX11 hown hK hP hD hS 0 rfl rfl 14 (by decide) z4_ (fun _ h9 => h9) rfl (by decide +kernel) rfl rfl (Nat.le_of_ble_eq_true rfl) dX11_look_219 (fun H locs hP hD hS => ?_)
                          have hP : va_P D vwCl [(mm, .inr (11, [.ref mm_now, .ref mm_kept, .ref mm_isKept, .ref mm_refused, .int mm_lineFrom, .int mm_lineTo, .ref mm_stands, .ref mm_far, .ref mm_queue, .int mm_queued, .ref mm_meets, .ref mm_bytes, .int (nI bl), .int (nI u_mm_13_5), .int (nI (u_mm_14_146 + 0)), .int s2_124, .int 0, .ref mm_next, .int (nI tk)])), (mm_bytes, .inl (cy 1, 250, .inl mm_bytes_f))] H := hP
                          have hD : va_D A [(mm, .inr (11, [.ref mm_now, .ref mm_kept, .ref mm_isKept, .ref mm_refused, .int mm_lineFrom, .int mm_lineTo, .ref mm_stands, .ref mm_far, .ref mm_queue, .int mm_queued, .ref mm_meets, .ref mm_bytes, .int (nI bl), .int (nI u_mm_13_5), .int (nI (u_mm_14_146 + 0)), .int s2_124, .int 0, .ref mm_next, .int (nI tk)])), (mm_bytes, .inl (cy 1, 250, .inl mm_bytes_f))] := hD
                          refine lv_goto (tgt := 146) hx hb dX11_look_222 (by decide) ?_
                          exact ih146 (u_mm_14_146 + 0) s1_203 bs1_203 (by omega) (by omega) (by rw [if_neg (by assumption : ¬ v3_146 = 0)] at hm146; first | (rw [if_pos (by assumption : s1_203 = 0)]; omega) | (rw [if_neg (by assumption : ¬ s1_203 = 0)]; omega)) _ _ hP hD hS ls (lv_sub hl [0, 2, 3, 4] rfl)
                        · skip
                          refine lv_iconst (v := 1) hx hb dX11_look_213 (by decide) ?_
                          refine lv_goto (tgt := 218) hx hb dX11_look_214 (by decide) ?_
                          refine lv_iadd hx hb dX11_look_218 ?_
                          refine lv_topi (fun x18 ex18 => ?_)
                          obtain rfl : x18 = nI (u_mm_14_146 + 1) := by rw [ex18]; exact nI_add _ _
                          refine va_put (D := D) (ci := 11) (v := .int (nI (u_mm_14_146 + 1))) (ty := .int) (C := RX11) (T := TX11) (N := 19) hx hb hts zi11_ tyX11 tyX11_ok nmX11 hown hK hP hD hS 0 rfl rfl 14 (by decide) z4_ (fun _ h9 => h9) rfl (by decide +kernel) rfl rfl (Nat.le_of_ble_eq_true rfl) dX11_look_219 (fun H locs hP hD hS => ?_)
                          have hP : va_P D vwCl [(mm, .inr (11, [.ref mm_now, .ref mm_kept, .ref mm_isKept, .ref mm_refused, .int mm_lineFrom, .int mm_lineTo, .ref mm_stands, .ref mm_far, .ref mm_queue, .int mm_queued, .ref mm_meets, .ref mm_bytes, .int (nI bl), .int (nI u_mm_13_5), .int (nI (u_mm_14_146 + 1)), .int s2_124, .int 0, .ref mm_next, .int (nI tk)])), (mm_bytes, .inl (cy 1, 250, .inl mm_bytes_f))] H := hP
                          have hD : va_D A [(mm, .inr (11, [.ref mm_now, .ref mm_kept, .ref mm_isKept, .ref mm_refused, .int mm_lineFrom, .int mm_lineTo, .ref mm_stands, .ref mm_far, .ref mm_queue, .int mm_queued, .ref mm_meets, .ref mm_bytes, .int (nI bl), .int (nI u_mm_13_5), .int (nI (u_mm_14_146 + 1)), .int s2_124, .int 0, .ref mm_next, .int (nI tk)])), (mm_bytes, .inl (cy 1, 250, .inl mm_bytes_f))] := hD
                          refine lv_goto (tgt := 146) hx hb dX11_look_222 (by decide) ?_
                          exact ih146 (u_mm_14_146 + 1) s1_203 bs1_203 (by omega) (by omega) (by rw [if_neg (by assumption : ¬ v3_146 = 0)] at hm146; first | (rw [if_pos (by assumption : s1_203 = 0)]; omega) | (rw [if_neg (by assumption : ¬ s1_203 = 0)]; omega)) _ _ hP hD hS ls (lv_sub hl [0, 2, 3, 4] rfl)
                      refine lv_icmp_ne (tgt := 198) hx hb dX11_look_187 (by decide) (fun c19 => ?_) (fun c19 => ?_)
                      · skip
                        refine lv_iload hx hb dX11_look_198 (lv_at hl 0 rfl) ?_
                        refine rd_i (va_runS (As := [.int x15]) (rest := []) ⟨hx, hb, hml, hown, hts⟩ (n_X11_isFigure l D cy x15 _ ) (va_cwS 1 hts gX11_look_X11_isFigure rfl rfl rfl (by decide +kernel) ⟨Nat.le_of_ble_eq_true rfl, Nat.le_of_ble_eq_true rfl⟩) (pS hKA pE (dE (A := A))) rfl rfl hl.1 rfl (lv_room (Nat.le_of_ble_eq_true rfl)) dX11_look_200 ⟨Nat.le_of_ble_eq_true rfl, Nat.le_of_ble_eq_true rfl⟩) hP hS hA (fun r20 H locs hwr20 hP hS => ?_)
                        have hwr20 : (r20 = 1 ∧ True) ∨ (r20 = 0 ∧ True) := hwr20
                        exact j203 r20 (z_bo hwr20) _ _ hP hD hS ls hl
                      · skip
                        refine lv_iload hx hb dX11_look_190 (lv_at hl 0 rfl) ?_
                        refine rd_i (va_runS (As := [.int x15]) (rest := []) ⟨hx, hb, hml, hown, hts⟩ (n_X11_isSmall l D cy x15 _ ) (va_cwS 1 hts gX11_look_X11_isSmall rfl rfl rfl (by decide +kernel) ⟨Nat.le_of_ble_eq_true rfl, Nat.le_of_ble_eq_true rfl⟩) (pS hKA pE (dE (A := A))) rfl rfl hl.1 rfl (lv_room (Nat.le_of_ble_eq_true rfl)) dX11_look_192 ⟨Nat.le_of_ble_eq_true rfl, Nat.le_of_ble_eq_true rfl⟩) hP hS hA (fun r21 H locs hwr21 hP hS => ?_)
                        have hwr21 : (r21 = 1 ∧ True) ∨ (r21 = 0 ∧ True) := hwr21
                        refine lv_goto (tgt := 203) hx hb dX11_look_195 (by decide) ?_
                        exact j203 r21 (z_bo hwr21) _ _ hP hD hS ls hl
              exact lp146 ((if s1_145 = 0 then 0 else 1) + (251 - 1) + 1) 1 s1_145 bs1_145 (by omega) (by omega) (Nat.lt_succ_self _) _ _ hP hD hS ls hl
            refine lv_icmp_ge (tgt := 144) hx hb dX11_look_137 (by decide) (fun c22 => ?_) (fun c22 => ?_)
            · skip
              refine lv_iconst (v := 0) hx hb dX11_look_144 (by decide) ?_
              exact j145 0 (Or.inr rfl) _ _ hP hD hS ls hl
            · skip
              refine lv_iconst (v := 1) hx hb dX11_look_140 (by decide) ?_
              refine lv_goto (tgt := 145) hx hb dX11_look_141 (by decide) ?_
              exact j145 1 (Or.inl rfl) _ _ hP hD hS ls hl
          refine lv_if_eq (tgt := 92) hx hb dX11_look_85 (by decide) (fun c23 => ?_) (fun c23 => ?_)
          · skip
            refine lv_iload_n hx hb dX11_look_92 rfl (lv_at hl 0 rfl) ?_
            refine rd_i (va_runS (As := [.int x2]) (rest := [.ref mm]) ⟨hx, hb, hml, hown, hts⟩ (n_X11_isFigure l D cy x2 _ ) (va_cwS 1 hts gX11_look_X11_isFigure rfl rfl rfl (by decide +kernel) ⟨Nat.le_of_ble_eq_true rfl, Nat.le_of_ble_eq_true rfl⟩) (pS hKA pE (dE (A := A))) rfl rfl hl.1 rfl (lv_room (Nat.le_of_ble_eq_true rfl)) dX11_look_93 ⟨Nat.le_of_ble_eq_true rfl, Nat.le_of_ble_eq_true rfl⟩) hP hS hA (fun r24 H locs hwr24 hP hS => ?_)
            have hwr24 : (r24 = 1 ∧ True) ∨ (r24 = 0 ∧ True) := hwr24
            refine lv_if_eq (tgt := 103) hx hb dX11_look_96 (by decide) (fun c25 => ?_) (fun c25 => ?_)
            · skip
              refine lv_iload_n hx hb dX11_look_103 rfl (lv_at hl 0 rfl) ?_
              refine lv_bipush (v := 59) hx hb dX11_look_104 (by decide) ?_
              refine lv_icmp_ne (tgt := 113) hx hb dX11_look_106 (by decide) (fun c26 => ?_) (fun c26 => ?_)
              · skip
                refine lv_iload_n hx hb dX11_look_113 rfl (lv_at hl 0 rfl) ?_
                refine lv_bipush (v := 45) hx hb dX11_look_114 (by decide) ?_
                refine lv_icmp_ne (tgt := 123) hx hb dX11_look_116 (by decide) (fun c27 => ?_) (fun c27 => ?_)
                · skip
                  refine lv_iconst (v := 4) hx hb dX11_look_123 (by decide) ?_
                  exact j124 4 _ _ hP hD hS ls hl
                · skip
                  refine lv_iconst (v := 5) hx hb dX11_look_119 (by decide) ?_
                  refine lv_goto (tgt := 124) hx hb dX11_look_120 (by decide) ?_
                  exact j124 5 _ _ hP hD hS ls hl
              · skip
                refine lv_iconst (v := 3) hx hb dX11_look_109 (by decide) ?_
                refine lv_goto (tgt := 124) hx hb dX11_look_110 (by decide) ?_
                exact j124 3 _ _ hP hD hS ls hl
            · skip
              refine lv_iconst (v := 2) hx hb dX11_look_99 (by decide) ?_
              refine lv_goto (tgt := 124) hx hb dX11_look_100 (by decide) ?_
              exact j124 2 _ _ hP hD hS ls hl
          · skip
            refine lv_iconst (v := 1) hx hb dX11_look_88 (by decide) ?_
            refine lv_goto (tgt := 124) hx hb dX11_look_89 (by decide) ?_
            exact j124 1 _ _ hP hD hS ls hl
        · skip
          subst hQF
          have hP9 := hP
          have hD9 := hD
          exact W.vret hx hb hr (fun t ht hW => ⟨⟨(u_mm_13_5, 0, 0, 0), rfl, ⟨by omega, Or.inl rfl, by omega⟩, by rw [ht]; exact hP9, hD9⟩, hS.F ht⟩) hS.2.2 dX11_look_69
      refine lv_icmp_ge (tgt := 43) hx hb dX11_look_13 (by decide) (fun c28 => ?_) (fun c28 => ?_)
      · skip
        exact j43 _ _ hP hD hS ls hl
      · skip
        have hlt13 := ltM (n := bl) (k := u_mm_13_5) (by omega) (by omega) (by assumption)
        refine lv_aload_n hx hb dX11_look_16 rfl (lv_at hl 0 rfl) ?_
        refine va_get (D := D) (ci := 11) (v := .ref mm_bytes) (C := RX11) (T := TX11) (N := 19) hx hb hts zi11_ hown hK hP 0 rfl rfl 11 (by decide) z3_ (fun _ h9 => h9) rfl dX11_look_17 ?_
        refine lv_aload_n hx hb dX11_look_20 rfl (lv_at hl 0 rfl) ?_
        refine va_get (D := D) (ci := 11) (v := .int (nI u_mm_13_5)) (C := RX11) (T := TX11) (N := 19) hx hb hts zi11_ hown hK hP 0 rfl rfl 13 (by decide) z0_ (fun _ h9 => h9) rfl dX11_look_21 ?_
        refine my_iald hx hb hK hP 1 1 rfl rfl (by first | exact in_ge (N := 250) (by decide) (by omega) (by assumption) | exact vp_in_nI (by omega) (by omega)) (nI_clamp (by omega)) dX11_look_24 ?_
        refine lv_bipush (v := 32) hx hb dX11_look_25 (by decide) ?_
        refine lv_icmp_ne (tgt := 43) hx hb dX11_look_27 (by decide) (fun c29 => ?_) (fun c29 => ?_)
        · skip
          exact j43 _ _ hP hD hS ls hl
        · skip
          refine lv_aload_n hx hb dX11_look_30 rfl (lv_at hl 0 rfl) ?_
          refine lv_dup hx hb dX11_look_31 rfl ?_
          refine va_get (D := D) (ci := 11) (v := .int (nI u_mm_13_5)) (C := RX11) (T := TX11) (N := 19) hx hb hts zi11_ hown hK hP 0 rfl rfl 13 (by decide) z0_ (fun _ h9 => h9) rfl dX11_look_32 ?_
          refine lv_iconst (v := 1) hx hb dX11_look_35 (by decide) ?_
          refine lv_iadd hx hb dX11_look_36 ?_
          refine lv_topi (fun x30 ex30 => ?_)
          obtain rfl : x30 = nI (u_mm_13_5 + 1) := by rw [ex30]; exact nI_add _ _
          refine va_put (D := D) (ci := 11) (v := .int (nI (u_mm_13_5 + 1))) (ty := .int) (C := RX11) (T := TX11) (N := 19) hx hb hts zi11_ tyX11 tyX11_ok nmX11 hown hK hP hD hS 0 rfl rfl 13 (by decide) z0_ (fun _ h9 => h9) rfl (by decide +kernel) rfl rfl (Nat.le_of_ble_eq_true rfl) dX11_look_37 (fun H locs hP hD hS => ?_)
          have hP : va_P D vwCl [(mm, .inr (11, [.ref mm_now, .ref mm_kept, .ref mm_isKept, .ref mm_refused, .int mm_lineFrom, .int mm_lineTo, .ref mm_stands, .ref mm_far, .ref mm_queue, .int mm_queued, .ref mm_meets, .ref mm_bytes, .int (nI bl), .int (nI (u_mm_13_5 + 1)), .int (nI tl), .int mm_token, .int mm_value, .ref mm_next, .int (nI tk)])), (mm_bytes, .inl (cy 1, 250, .inl mm_bytes_f))] H := hP
          have hD : va_D A [(mm, .inr (11, [.ref mm_now, .ref mm_kept, .ref mm_isKept, .ref mm_refused, .int mm_lineFrom, .int mm_lineTo, .ref mm_stands, .ref mm_far, .ref mm_queue, .int mm_queued, .ref mm_meets, .ref mm_bytes, .int (nI bl), .int (nI (u_mm_13_5 + 1)), .int (nI tl), .int mm_token, .int mm_value, .ref mm_next, .int (nI tk)])), (mm_bytes, .inl (cy 1, 250, .inl mm_bytes_f))] := hD
          refine lv_goto (tgt := 5) hx hb dX11_look_40 (by decide) ?_
          exact ih5 (u_mm_13_5 + 1) (by omega) (by omega) (by omega) _ _ hP hD hS ls hl
  exact lp5 (251 - pf + 1) pf hpf (Nat.le_refl _) (Nat.lt_succ_self _) _ _ hP hD hS ls hl

set_option maxHeartbeats 4000000 in
set_option maxRecDepth 100000 in
theorem n_X11_goOn (l : Launch) (D : va_G) (cy : Nat → ClassId) (mm : Nat) (mm_now : Nat) (mm_kept : Nat) (mm_isKept : Nat) (mm_refused : Nat) (mm_lineFrom : Int32) (mm_lineTo : Int32) (mm_stands : Nat) (mm_far : Nat) (mm_queue : Nat) (mm_queued : Int32) (mm_meets : Nat) (mm_bytes : Nat) (bl : Nat) (ta : Nat) (tl : Nat) (mm_token : Int32) (mm_value : Int32) (mm_next : Nat) (tk : Nat) (mm_bytes_f : Nat → Int32) (sz : Nat) (hbl : bl ≤ 250) (htt : ta + tl ≤ bl) : Met l yX11_goOn wsX11_goOn ({ frames := 3, cells := 0, slots := 0, locals := 69 }) (va_Pc [.ref mm] (kPre D cy [(mm, .inr (11, [.ref mm_now, .ref mm_kept, .ref mm_isKept, .ref mm_refused, .int mm_lineFrom, .int mm_lineTo, .ref mm_stands, .ref mm_far, .ref mm_queue, .int mm_queued, .ref mm_meets, .ref mm_bytes, .int (nI bl), .int (nI ta), .int (nI tl), .int mm_token, .int mm_value, .ref mm_next, .int (nI tk)])), (mm_bytes, .inl (cy 1, 250, .inl mm_bytes_f))] sz)) (va_Qv (fun (u : Nat × Nat × Int32 × Int32) => u.1 + u.2.1 ≤ bl ∧ (u.2.2.1 = 0 ∨ 1 ≤ u.2.1) ∧ ta + tl ≤ u.1) (fun (u : Nat × Nat × Int32 × Int32) t => va_P D vwCl ([(mm, .inr (11, [.ref mm_now, .ref mm_kept, .ref mm_isKept, .ref mm_refused, .int mm_lineFrom, .int mm_lineTo, .ref mm_stands, .ref mm_far, .ref mm_queue, .int mm_queued, .ref mm_meets, .ref mm_bytes, .int (nI bl), .int (nI u.1), .int (nI u.2.1), .int u.2.2.1, .int u.2.2.2, .ref mm_next, .int (nI tk)])), (mm_bytes, .inl (cy 1, 250, .inl mm_bytes_f))]) t.heap ∧ va_D (va_A [(mm, .inr (11, [.ref mm_now, .ref mm_kept, .ref mm_isKept, .ref mm_refused, .int mm_lineFrom, .int mm_lineTo, .ref mm_stands, .ref mm_far, .ref mm_queue, .int mm_queued, .ref mm_meets, .ref mm_bytes, .int (nI bl), .int (nI ta), .int (nI tl), .int mm_token, .int mm_value, .ref mm_next, .int (nI tk)])), (mm_bytes, .inl (cy 1, 250, .inl mm_bytes_f))] sz) ([(mm, .inr (11, [.ref mm_now, .ref mm_kept, .ref mm_isKept, .ref mm_refused, .int mm_lineFrom, .int mm_lineTo, .ref mm_stands, .ref mm_far, .ref mm_queue, .int mm_queued, .ref mm_meets, .ref mm_bytes, .int (nI bl), .int (nI u.1), .int (nI u.2.1), .int u.2.2.1, .int u.2.2.2, .ref mm_next, .int (nI tk)])), (mm_bytes, .inl (cy 1, 250, .inl mm_bytes_f))])) (va_A [(mm, .inr (11, [.ref mm_now, .ref mm_kept, .ref mm_isKept, .ref mm_refused, .int mm_lineFrom, .int mm_lineTo, .ref mm_stands, .ref mm_far, .ref mm_queue, .int mm_queued, .ref mm_meets, .ref mm_bytes, .int (nI bl), .int (nI ta), .int (nI tl), .int mm_token, .int mm_value, .ref mm_next, .int (nI tk)])), (mm_bytes, .inl (cy 1, 250, .inl mm_bytes_f))] sz)) 0 0 (va_A [(mm, .inr (11, [.ref mm_now, .ref mm_kept, .ref mm_isKept, .ref mm_refused, .int mm_lineFrom, .int mm_lineTo, .ref mm_stands, .ref mm_far, .ref mm_queue, .int mm_queued, .ref mm_meets, .ref mm_bytes, .int (nI bl), .int (nI ta), .int (nI tl), .int mm_token, .int mm_value, .ref mm_next, .int (nI tk)])), (mm_bytes, .inl (cy 1, 250, .inl mm_bytes_f))] sz) := by
  refine Met.ofW (cc := cX11_goOn) (maxL := 1) (ret := none) (by decide) rfl ?_
  intro p e s m args below meth c s₁ B hml hv
  obtain ⟨rfl, hsz, hP, hKA, hD0⟩ := hv
  have hx := B.exec
  have hb := B.bytes
  have hr := B.returns
  have hts := atoms_spec (ws := wsX11_goOn) B.pre
  have hown : s.vm.findClass RX11 = some m.cls := findClass_of_methodNamed B.named
  have hlocks := B.notSynchronized
  subst hsz
  have hK := hKA.1
  have hD := hD0.self (sz := s.heap.size)
  generalize hAe : va_A [(mm, .inr (11, [.ref mm_now, .ref mm_kept, .ref mm_isKept, .ref mm_refused, .int mm_lineFrom, .int mm_lineTo, .ref mm_stands, .ref mm_far, .ref mm_queue, .int mm_queued, .ref mm_meets, .ref mm_bytes, .int (nI bl), .int (nI ta), .int (nI tl), .int mm_token, .int mm_value, .ref mm_next, .int (nI tk)])), (mm_bytes, .inl (cy 1, 250, .inl mm_bytes_f))] s.heap.size = A at hD ⊢
  have hA : ∀ q : Nat, s.heap.size ≤ q → A q := fun q h => by rw [← hAe]; exact Or.inr h
  have hS : va_S A s.heap s.heap [] := va_S.rf
  have hP : va_P D vwCl [(mm, .inr (11, [.ref mm_now, .ref mm_kept, .ref mm_isKept, .ref mm_refused, .int mm_lineFrom, .int mm_lineTo, .ref mm_stands, .ref mm_far, .ref mm_queue, .int mm_queued, .ref mm_meets, .ref mm_bytes, .int (nI bl), .int (nI ta), .int (nI tl), .int mm_token, .int mm_value, .ref mm_next, .int (nI tk)])), (mm_bytes, .inl (cy 1, 250, .inl mm_bytes_f))] s.heap := hP
  have hl := lv_entry ([.ref mm]) (n := 1) (Nat.le_of_ble_eq_true rfl)
  rw [lg_entry_eq]
  generalize (lg_sl ([.ref mm]) ++ List.replicate (1 - (lg_sl ([.ref mm])).length) Slot.unset).toArray = ls at hl ⊢
  have hl : lv_has ls 1 [(0, .ref mm)] := hl
  refine qW (fun QF hQF => ?_)
  have z0_ := hts (.fieldLink RX11 209 "HeardSeenModel" "tokenAt" "I") (by decide +kernel)
  have zi11_ : ∀ w ∈ u_ws RX11 TX11 19, w ∈ wsX11_goOn := by decide +kernel
  have z2_ := hts (.fieldLink RX11 212 "HeardSeenModel" "tokenLong" "I") (by decide +kernel)
  refine lv_aload_n hx hb dX11_goOn_0 rfl (lv_at hl 0 rfl) ?_
  refine lv_aload_n hx hb dX11_goOn_1 rfl (lv_at hl 0 rfl) ?_
  refine va_get (D := D) (ci := 11) (v := .int (nI ta)) (C := RX11) (T := TX11) (N := 19) hx hb hts zi11_ hown hK hP 0 rfl rfl 13 (by decide) z0_ (fun _ h9 => h9) rfl dX11_goOn_2 ?_
  refine lv_aload_n hx hb dX11_goOn_5 rfl (lv_at hl 0 rfl) ?_
  refine va_get (D := D) (ci := 11) (v := .int (nI tl)) (C := RX11) (T := TX11) (N := 19) hx hb hts zi11_ hown hK hP 0 rfl rfl 14 (by decide) z2_ (fun _ h9 => h9) rfl dX11_goOn_6 ?_
  refine lv_iadd hx hb dX11_goOn_9 ?_
  refine lv_topi (fun x1 ex1 => ?_)
  obtain rfl : x1 = nI (ta + tl) := by rw [ex1]; exact nI_add _ _
  refine wr_v (wr := []) (va_runV (As := [.int (nI (ta + tl))]) (rest := []) ⟨hx, hb, hml, hown, hts⟩ (n_X11_look l D cy mm mm_now mm_kept mm_isKept mm_refused mm_lineFrom mm_lineTo mm_stands mm_far mm_queue mm_queued mm_meets mm_bytes bl ta tl mm_token mm_value mm_next tk mm_bytes_f (ta + tl) _ (by first | assumption | omega) (by first | assumption | omega)) (cwV 1 hts gX11_goOn_X11_look rfl rfl rfl (by decide +kernel) ⟨Nat.le_of_ble_eq_true rfl, Nat.le_of_ble_eq_true rfl⟩) (pV (ci := 11) (k := 0) hKA (hP.sub (ws' := [(mm, .inr (11, [.ref mm_now, .ref mm_kept, .ref mm_isKept, .ref mm_refused, .int mm_lineFrom, .int mm_lineTo, .ref mm_stands, .ref mm_far, .ref mm_queue, .int mm_queued, .ref mm_meets, .ref mm_bytes, .int (nI bl), .int (nI ta), .int (nI tl), .int mm_token, .int mm_value, .ref mm_next, .int (nI tk)])), (mm_bytes, .inl (cy 1, 250, .inl mm_bytes_f))]) [0, 1] rfl) (hD.sub (ws' := [(mm, .inr (11, [.ref mm_now, .ref mm_kept, .ref mm_isKept, .ref mm_refused, .int mm_lineFrom, .int mm_lineTo, .ref mm_stands, .ref mm_far, .ref mm_queue, .int mm_queued, .ref mm_meets, .ref mm_bytes, .int (nI bl), .int (nI ta), .int (nI tl), .int mm_token, .int mm_value, .ref mm_next, .int (nI tk)])), (mm_bytes, .inl (cy 1, 250, .inl mm_bytes_f))]) [0, 1] (by decide) rfl) rfl rfl) rfl rfl hl.1 rfl (lv_room (Nat.le_of_ble_eq_true rfl)) dX11_goOn_10 ⟨Nat.le_of_ble_eq_true rfl, Nat.le_of_ble_eq_true rfl⟩) hP hD hS hA [0, 1] [] rfl rfl (by decide +kernel) (by decide +kernel) (fun ur2 H locs hwr2 hP hD hS => ?_)
  obtain ⟨z3, z4, z5, z6⟩ := ur2
  have hP : va_P D vwCl [(mm, .inr (11, [.ref mm_now, .ref mm_kept, .ref mm_isKept, .ref mm_refused, .int mm_lineFrom, .int mm_lineTo, .ref mm_stands, .ref mm_far, .ref mm_queue, .int mm_queued, .ref mm_meets, .ref mm_bytes, .int (nI bl), .int (nI z3), .int (nI z4), .int z5, .int z6, .ref mm_next, .int (nI tk)])), (mm_bytes, .inl (cy 1, 250, .inl mm_bytes_f))] H := hP
  have hD : va_D A [(mm, .inr (11, [.ref mm_now, .ref mm_kept, .ref mm_isKept, .ref mm_refused, .int mm_lineFrom, .int mm_lineTo, .ref mm_stands, .ref mm_far, .ref mm_queue, .int mm_queued, .ref mm_meets, .ref mm_bytes, .int (nI bl), .int (nI z3), .int (nI z4), .int z5, .int z6, .ref mm_next, .int (nI tk)])), (mm_bytes, .inl (cy 1, 250, .inl mm_bytes_f))] := hD
  have hwr2 : z3 + z4 ≤ bl ∧ (z5 = 0 ∨ 1 ≤ z4) ∧ (ta + tl) ≤ z3 := hwr2
  subst hQF
  have hP9 := hP
  have hD9 := hD
  exact W.vret hx hb hr (fun t ht hW => ⟨⟨(z3, z4, z5, z6), rfl, (by assumption), by rw [ht]; exact hP9, hD9⟩, hS.F ht⟩) hS.2.2 dX11_goOn_13

set_option maxHeartbeats 4000000 in
set_option maxRecDepth 100000 in
theorem n_X11_isWord (l : Launch) (D : va_G) (cy : Nat → ClassId) (mm : Nat) (mm_now : Nat) (mm_kept : Nat) (mm_isKept : Nat) (mm_refused : Nat) (mm_lineFrom : Int32) (mm_lineTo : Int32) (mm_stands : Nat) (mm_far : Nat) (mm_queue : Nat) (mm_queued : Int32) (mm_meets : Nat) (mm_bytes : Nat) (bl : Nat) (ta : Nat) (tl : Nat) (mm_token : Int32) (mm_value : Int32) (mm_next : Nat) (tk : Nat) (mm_bytes_f : Nat → Int32) (px : Int32) (py : Int32) (pz : Int32) (pt : Int32) (sz : Nat) (hbl : bl ≤ 250) (htt : ta + tl ≤ bl) : Met l yX11_isWord wsX11_isWord ({ frames := 0, cells := 0, slots := 0, locals := 0 }) (va_Pc [.ref mm, .int px, .int py, .int pz, .int pt] (kPre D cy [(mm, .inr (11, [.ref mm_now, .ref mm_kept, .ref mm_isKept, .ref mm_refused, .int mm_lineFrom, .int mm_lineTo, .ref mm_stands, .ref mm_far, .ref mm_queue, .int mm_queued, .ref mm_meets, .ref mm_bytes, .int (nI bl), .int (nI ta), .int (nI tl), .int mm_token, .int mm_value, .ref mm_next, .int (nI tk)])), (mm_bytes, .inl (cy 1, 250, .inl mm_bytes_f))] sz)) (va_Qi (fun (r : Int32) (u : Unit) => (r = 1 ∧ True) ∨ (r = 0 ∧ True)) (fun _ _ => True) (fun q : Nat => sz ≤ q)) 0 0 (fun q : Nat => sz ≤ q) := by
  refine Met.ofW (cc := cX11_isWord) (maxL := 7) (ret := (some .boolean)) (by decide) rfl ?_
  intro p e s m args below meth c s₁ B hml hv
  obtain ⟨rfl, hsz, hP, hKA, hD0⟩ := hv
  have hx := B.exec
  have hb := B.bytes
  have hr := B.returns
  have hts := atoms_spec (ws := wsX11_isWord) B.pre
  have hown : s.vm.findClass RX11 = some m.cls := findClass_of_methodNamed B.named
  have hlocks := B.notSynchronized
  subst hsz
  have hK := hKA.1
  have hD := hD0
  generalize hAe : (fun q : Nat => s.heap.size ≤ q) = A
  have hA : ∀ q : Nat, s.heap.size ≤ q → A q := fun q h => by rw [← hAe]; exact h
  have hS : va_S A s.heap s.heap [] := va_S.rf
  have hP : va_P D vwCl [(mm, .inr (11, [.ref mm_now, .ref mm_kept, .ref mm_isKept, .ref mm_refused, .int mm_lineFrom, .int mm_lineTo, .ref mm_stands, .ref mm_far, .ref mm_queue, .int mm_queued, .ref mm_meets, .ref mm_bytes, .int (nI bl), .int (nI ta), .int (nI tl), .int mm_token, .int mm_value, .ref mm_next, .int (nI tk)])), (mm_bytes, .inl (cy 1, 250, .inl mm_bytes_f))] s.heap := hP
  have hl := lv_entry ([.ref mm, .int px, .int py, .int pz, .int pt]) (n := 7) (Nat.le_of_ble_eq_true rfl)
  rw [lg_entry_eq]
  generalize (lg_sl ([.ref mm, .int px, .int py, .int pz, .int pt]) ++ List.replicate (7 - (lg_sl ([.ref mm, .int px, .int py, .int pz, .int pt])).length) Slot.unset).toArray = ls at hl ⊢
  have hl : lv_has ls 7 [(0, .ref mm), (1, .int px), (2, .int py), (3, .int pz), (4, .int pt)] := hl
  refine qW (fun QF hQF => ?_)
  have z0_ := hts (.fieldLink RX11 215 "HeardSeenModel" "token" "I") (by decide +kernel)
  have zi11_ : ∀ w ∈ u_ws RX11 TX11 19, w ∈ wsX11_isWord := by decide +kernel
  have z2_ := hts (.fieldLink RX11 212 "HeardSeenModel" "tokenLong" "I") (by decide +kernel)
  have z3_ := hts (.fieldLink RX11 35 "HeardSeenModel" "bytes" "[I") (by decide +kernel)
  have z4_ := hts (.fieldLink RX11 209 "HeardSeenModel" "tokenAt" "I") (by decide +kernel)
  refine lv_aload_n hx hb dX11_isWord_0 rfl (lv_at hl 0 rfl) ?_
  refine va_get (D := D) (ci := 11) (v := .int mm_token) (C := RX11) (T := TX11) (N := 19) hx hb hts zi11_ hown hK hP 0 rfl rfl 15 (by decide) z0_ (fun _ h9 => h9) rfl dX11_isWord_1 ?_
  refine lv_iconst (v := 1) hx hb dX11_isWord_4 (by decide) ?_
  have j21 : ∀ (s1_21 : Int32) (bs1_21 : s1_21 = 1 ∨ s1_21 = 0) (hj4 : s1_21 = 0 ∨ 4 ≤ tl) (H : Heap) (locs : List Loc), va_P D vwCl [(mm, .inr (11, [.ref mm_now, .ref mm_kept, .ref mm_isKept, .ref mm_refused, .int mm_lineFrom, .int mm_lineTo, .ref mm_stands, .ref mm_far, .ref mm_queue, .int mm_queued, .ref mm_meets, .ref mm_bytes, .int (nI bl), .int (nI ta), .int (nI tl), .int mm_token, .int mm_value, .ref mm_next, .int (nI tk)])), (mm_bytes, .inl (cy 1, 250, .inl mm_bytes_f))] H → va_D (fun _ => True) [(mm, .inr (11, [.ref mm_now, .ref mm_kept, .ref mm_isKept, .ref mm_refused, .int mm_lineFrom, .int mm_lineTo, .ref mm_stands, .ref mm_far, .ref mm_queue, .int mm_queued, .ref mm_meets, .ref mm_bytes, .int (nI bl), .int (nI ta), .int (nI tl), .int mm_token, .int mm_value, .ref mm_next, .int (nI tk)])), (mm_bytes, .inl (cy 1, 250, .inl mm_bytes_f))] → va_S A s.heap H locs → ∀ ls : Array Slot, lv_has ls 7 [(0, .ref mm), (1, .int px), (2, .int py), (3, .int pz), (4, .int pt)] → W p l e (headSpec wsX11_isWord ({ frames := 0, cells := 0, slots := 0, locals := 0 })).room s m [.ref mm, .int px, .int py, .int pz, .int pt].toArray below meth c H locs 0 0 QF (F0 m 21 ls [.int s1_21]) := by
    intro s1_21 bs1_21 hj4 H locs hP hD hS ls hl
    refine lv_istore (lv' := [(5, .int s1_21), (0, .ref mm), (1, .int px), (2, .int py), (3, .int pz), (4, .int pt)]) hx hb dX11_isWord_21 hl (by decide) rfl (fun ls hl => ?_)
    refine lv_iconst (v := 0) hx hb dX11_isWord_23 (by decide) ?_
    refine lv_istore (lv' := [(6, .int 0), (5, .int s1_21), (0, .ref mm), (1, .int px), (2, .int py), (3, .int pz), (4, .int pt)]) hx hb dX11_isWord_24 hl (by decide) rfl (fun ls hl => ?_)
    have lp26 : ∀ (n26 : Nat) (v6_26 : Nat) (v5_26 : Int32) (bv5_26 : v5_26 = 1 ∨ v5_26 = 0) (hv6_26 : v6_26 < 2147483648) (hw4 : v5_26 = 0 ∨ 4 ≤ tl), 2147483648 - v6_26 < n26 → ∀ (H : Heap) (locs : List Loc), va_P D vwCl [(mm, .inr (11, [.ref mm_now, .ref mm_kept, .ref mm_isKept, .ref mm_refused, .int mm_lineFrom, .int mm_lineTo, .ref mm_stands, .ref mm_far, .ref mm_queue, .int mm_queued, .ref mm_meets, .ref mm_bytes, .int (nI bl), .int (nI ta), .int (nI tl), .int mm_token, .int mm_value, .ref mm_next, .int (nI tk)])), (mm_bytes, .inl (cy 1, 250, .inl mm_bytes_f))] H → va_D (fun _ => True) [(mm, .inr (11, [.ref mm_now, .ref mm_kept, .ref mm_isKept, .ref mm_refused, .int mm_lineFrom, .int mm_lineTo, .ref mm_stands, .ref mm_far, .ref mm_queue, .int mm_queued, .ref mm_meets, .ref mm_bytes, .int (nI bl), .int (nI ta), .int (nI tl), .int mm_token, .int mm_value, .ref mm_next, .int (nI tk)])), (mm_bytes, .inl (cy 1, 250, .inl mm_bytes_f))] → va_S A s.heap H locs → ∀ ls : Array Slot, lv_has ls 7 [(6, .int (nI v6_26)), (5, .int v5_26), (0, .ref mm), (1, .int px), (2, .int py), (3, .int pz), (4, .int pt)] → W p l e (headSpec wsX11_isWord ({ frames := 0, cells := 0, slots := 0, locals := 0 })).room s m [.ref mm, .int px, .int py, .int pz, .int pt].toArray below meth c H locs 0 0 QF (F0 m 26 ls []) := by
      intro n26
      induction n26 with
      | zero => intro v6_26 v5_26 bv5_26 hv6_26 hw4 hm; exact absurd hm (Nat.not_lt_zero _)
      | succ n26 ih26 =>
        intro v6_26 v5_26 bv5_26 hv6_26 hw4 hm26 H locs hP hD hS ls hl
        refine lv_iload hx hb dX11_isWord_26 (lv_at hl 0 rfl) ?_
        refine lv_iconst (v := 4) hx hb dX11_isWord_28 (by decide) ?_
        refine lv_icmp_ge (tgt := 96) hx hb dX11_isWord_29 (by decide) (fun c1 => ?_) (fun c1 => ?_)
        · skip
          refine lv_iload hx hb dX11_isWord_96 (lv_at hl 1 rfl) ?_
          subst hQF
          exact W.zret (v := v5_26) hx hb hr (z_bm bv5_26) (fun t ht hW => ⟨⟨v5_26, (), rfl, (z_bu bv5_26), trivial⟩, hS.F ht⟩) hS.2.2 dX11_isWord_98
        · skip
          have hk29 := ltN (n := 4) (x := 4) (k := v6_26) (by decide) (by assumption) (by assumption)
          refine lv_iload hx hb dX11_isWord_32 (lv_at hl 1 rfl) ?_
          refine lv_if_eq (tgt := 96) hx hb dX11_isWord_34 (by decide) (fun c2 => ?_) (fun c2 => ?_)
          · skip
            refine lv_iload hx hb dX11_isWord_96 (lv_at hl 1 rfl) ?_
            refine W.eq (g2 := F0 m 98 ls [.int 0]) (congrArg (fun v9 : Int32 => F0 m 98 ls [.int v9]) c2) ?_
            subst hQF
            exact W.zret (v := 0) hx hb hr rfl (fun t ht hW => ⟨⟨0, (), rfl, (Or.inr ⟨rfl, trivial⟩), trivial⟩, hS.F ht⟩) hS.2.2 dX11_isWord_98
          · skip
            have h4 := hw4.resolve_left (by assumption)
            refine lv_aload_n hx hb dX11_isWord_37 rfl (lv_at hl 2 rfl) ?_
            refine va_get (D := D) (ci := 11) (v := .ref mm_bytes) (C := RX11) (T := TX11) (N := 19) hx hb hts zi11_ hown hK hP 0 rfl rfl 11 (by decide) z3_ (fun _ h9 => h9) rfl dX11_isWord_38 ?_
            refine lv_aload_n hx hb dX11_isWord_41 rfl (lv_at hl 2 rfl) ?_
            refine va_get (D := D) (ci := 11) (v := .int (nI ta)) (C := RX11) (T := TX11) (N := 19) hx hb hts zi11_ hown hK hP 0 rfl rfl 13 (by decide) z4_ (fun _ h9 => h9) rfl dX11_isWord_42 ?_
            refine lv_iload hx hb dX11_isWord_45 (lv_at hl 0 rfl) ?_
            refine lv_iadd hx hb dX11_isWord_47 ?_
            refine lv_topi (fun x3 ex3 => ?_)
            obtain rfl : x3 = nI (ta + v6_26) := by rw [ex3]; exact nI_add _ _
            refine my_iald hx hb hK hP 1 1 rfl rfl (by first | exact in_ge (N := 250) (by decide) (by omega) (by assumption) | exact vp_in_nI (by omega) (by omega)) (nI_clamp (by omega)) dX11_isWord_48 ?_
            refine lv_iload hx hb dX11_isWord_49 (lv_at hl 0 rfl) ?_
            have j80 : ∀ (s2_80 : Int32) (H : Heap) (locs : List Loc), va_P D vwCl [(mm, .inr (11, [.ref mm_now, .ref mm_kept, .ref mm_isKept, .ref mm_refused, .int mm_lineFrom, .int mm_lineTo, .ref mm_stands, .ref mm_far, .ref mm_queue, .int mm_queued, .ref mm_meets, .ref mm_bytes, .int (nI bl), .int (nI ta), .int (nI tl), .int mm_token, .int mm_value, .ref mm_next, .int (nI tk)])), (mm_bytes, .inl (cy 1, 250, .inl mm_bytes_f))] H → va_D (fun _ => True) [(mm, .inr (11, [.ref mm_now, .ref mm_kept, .ref mm_isKept, .ref mm_refused, .int mm_lineFrom, .int mm_lineTo, .ref mm_stands, .ref mm_far, .ref mm_queue, .int mm_queued, .ref mm_meets, .ref mm_bytes, .int (nI bl), .int (nI ta), .int (nI tl), .int mm_token, .int mm_value, .ref mm_next, .int (nI tk)])), (mm_bytes, .inl (cy 1, 250, .inl mm_bytes_f))] → va_S A s.heap H locs → ∀ ls : Array Slot, lv_has ls 7 [(6, .int (nI v6_26)), (5, .int v5_26), (0, .ref mm), (1, .int px), (2, .int py), (3, .int pz), (4, .int pt)] → W p l e (headSpec wsX11_isWord ({ frames := 0, cells := 0, slots := 0, locals := 0 })).room s m [.ref mm, .int px, .int py, .int pz, .int pt].toArray below meth c H locs 0 0 QF (F0 m 80 ls [.int s2_80, .int (mm_bytes_f (ta + v6_26))]) := by
              intro s2_80 H locs hP hD hS ls hl
              refine lv_icmp_ne (tgt := 87) hx hb dX11_isWord_80 (by decide) (fun c4 => ?_) (fun c4 => ?_)
              · skip
                refine lv_iconst (v := 0) hx hb dX11_isWord_87 (by decide) ?_
                refine lv_istore (lv' := [(5, .int 0), (6, .int (nI v6_26)), (0, .ref mm), (1, .int px), (2, .int py), (3, .int pz), (4, .int pt)]) hx hb dX11_isWord_88 hl (by decide) rfl (fun ls hl => ?_)
                refine lv_iinc (v := nI (v6_26 + 1)) (lv' := [(6, .int (nI (v6_26 + 1))), (5, .int 0), (0, .ref mm), (1, .int px), (2, .int py), (3, .int pz), (4, .int pt)]) hx hb dX11_isWord_90 hl (k := 1) rfl (nI_1 _) (by decide) rfl (fun ls hl => ?_)
                refine lv_goto (tgt := 26) hx hb dX11_isWord_93 (by decide) ?_
                exact ih26 (v6_26 + 1) 0 (Or.inr rfl) (by first | omega | exact nlt_max hv6_26 (by assumption)) (Or.inr h4) (by first | omega | (have := nlt_max hv6_26 (by assumption); omega)) _ _ hP hD hS ls hl
              · skip
                refine lv_iconst (v := 1) hx hb dX11_isWord_83 (by decide) ?_
                refine lv_goto (tgt := 88) hx hb dX11_isWord_84 (by decide) ?_
                refine lv_istore (lv' := [(5, .int 1), (6, .int (nI v6_26)), (0, .ref mm), (1, .int px), (2, .int py), (3, .int pz), (4, .int pt)]) hx hb dX11_isWord_88 hl (by decide) rfl (fun ls hl => ?_)
                refine lv_iinc (v := nI (v6_26 + 1)) (lv' := [(6, .int (nI (v6_26 + 1))), (5, .int 1), (0, .ref mm), (1, .int px), (2, .int py), (3, .int pz), (4, .int pt)]) hx hb dX11_isWord_90 hl (k := 1) rfl (nI_1 _) (by decide) rfl (fun ls hl => ?_)
                refine lv_goto (tgt := 26) hx hb dX11_isWord_93 (by decide) ?_
                exact ih26 (v6_26 + 1) 1 (Or.inl rfl) (by first | omega | exact nlt_max hv6_26 (by assumption)) (Or.inr h4) (by first | omega | (have := nlt_max hv6_26 (by assumption); omega)) _ _ hP hD hS ls hl
            refine lv_if_ne (tgt := 58) hx hb dX11_isWord_51 (by decide) (fun c5 => ?_) (fun c5 => ?_)
            · skip
              refine lv_iload hx hb dX11_isWord_58 (lv_at hl 0 rfl) ?_
              refine lv_iconst (v := 1) hx hb dX11_isWord_60 (by decide) ?_
              refine lv_icmp_ne (tgt := 68) hx hb dX11_isWord_61 (by decide) (fun c6 => ?_) (fun c6 => ?_)
              · skip
                refine lv_iload hx hb dX11_isWord_68 (lv_at hl 0 rfl) ?_
                refine lv_iconst (v := 2) hx hb dX11_isWord_70 (by decide) ?_
                refine lv_icmp_ne (tgt := 78) hx hb dX11_isWord_71 (by decide) (fun c7 => ?_) (fun c7 => ?_)
                · skip
                  refine lv_iload hx hb dX11_isWord_78 (lv_at hl 6 rfl) ?_
                  exact j80 pt _ _ hP hD hS ls hl
                · skip
                  refine lv_iload_n hx hb dX11_isWord_74 rfl (lv_at hl 5 rfl) ?_
                  refine lv_goto (tgt := 80) hx hb dX11_isWord_75 (by decide) ?_
                  exact j80 pz _ _ hP hD hS ls hl
              · skip
                refine lv_iload_n hx hb dX11_isWord_64 rfl (lv_at hl 4 rfl) ?_
                refine lv_goto (tgt := 80) hx hb dX11_isWord_65 (by decide) ?_
                exact j80 py _ _ hP hD hS ls hl
            · skip
              refine lv_iload_n hx hb dX11_isWord_54 rfl (lv_at hl 3 rfl) ?_
              refine lv_goto (tgt := 80) hx hb dX11_isWord_55 (by decide) ?_
              exact j80 px _ _ hP hD hS ls hl
    exact lp26 (2147483648 - 0 + 1) 0 s1_21 bs1_21 (by first | omega | exact nlt_max (by assumption) (by assumption)) hj4 (Nat.lt_succ_self _) _ _ hP hD hS ls hl
  refine lv_icmp_ne (tgt := 20) hx hb dX11_isWord_5 (by decide) (fun c8 => ?_) (fun c8 => ?_)
  · skip
    refine lv_iconst (v := 0) hx hb dX11_isWord_20 (by decide) ?_
    exact j21 0 (Or.inr rfl) (Or.inl rfl) _ _ hP hD hS ls hl
  · skip
    refine lv_aload_n hx hb dX11_isWord_8 rfl (lv_at hl 0 rfl) ?_
    refine va_get (D := D) (ci := 11) (v := .int (nI tl)) (C := RX11) (T := TX11) (N := 19) hx hb hts zi11_ hown hK hP 0 rfl rfl 14 (by decide) z2_ (fun _ h9 => h9) rfl dX11_isWord_9 ?_
    refine lv_iconst (v := 4) hx hb dX11_isWord_12 (by decide) ?_
    refine lv_icmp_lt (tgt := 20) hx hb dX11_isWord_13 (by decide) (fun c9 => ?_) (fun c9 => ?_)
    · skip
      refine lv_iconst (v := 0) hx hb dX11_isWord_20 (by decide) ?_
      exact j21 0 (Or.inr rfl) (Or.inl rfl) _ _ hP hD hS ls hl
    · skip
      refine lv_iconst (v := 1) hx hb dX11_isWord_16 (by decide) ?_
      refine lv_goto (tgt := 21) hx hb dX11_isWord_17 (by decide) ?_
      exact j21 1 (Or.inl rfl) (Or.inr (nlt4 (by omega) (by assumption))) _ _ hP hD hS ls hl

set_option maxHeartbeats 4000000 in
set_option maxRecDepth 100000 in
theorem n_X11_goesOn (l : Launch) (D : va_G) (cy : Nat → ClassId) (mm : Nat) (mm_now : Nat) (mm_kept : Nat) (mm_isKept : Nat) (mm_refused : Nat) (mm_lineFrom : Int32) (mm_lineTo : Int32) (mm_stands : Nat) (mm_far : Nat) (mm_queue : Nat) (mm_queued : Int32) (mm_meets : Nat) (mm_bytes : Nat) (bl : Nat) (ta : Nat) (tl : Nat) (mm_token : Int32) (mm_value : Int32) (mm_next : Nat) (tk : Nat) (mm_bytes_f : Nat → Int32) (px : Int32) (py : Int32) (pz : Int32) (pt : Int32) (sz : Nat) (hbl : bl ≤ 250) (htt : ta + tl ≤ bl) : Met l yX11_goesOn wsX11_goesOn ({ frames := 0, cells := 0, slots := 0, locals := 0 }) (va_Pc [.ref mm, .int px, .int py, .int pz, .int pt] (kPre D cy [(mm, .inr (11, [.ref mm_now, .ref mm_kept, .ref mm_isKept, .ref mm_refused, .int mm_lineFrom, .int mm_lineTo, .ref mm_stands, .ref mm_far, .ref mm_queue, .int mm_queued, .ref mm_meets, .ref mm_bytes, .int (nI bl), .int (nI ta), .int (nI tl), .int mm_token, .int mm_value, .ref mm_next, .int (nI tk)])), (mm_bytes, .inl (cy 1, 250, .inl mm_bytes_f))] sz)) (va_Qi (fun (r : Int32) (u : Unit) => (r = 1 ∧ True) ∨ (r = 0 ∧ True)) (fun _ _ => True) (fun q : Nat => sz ≤ q)) 0 0 (fun q : Nat => sz ≤ q) := by
  refine Met.ofW (cc := cX11_goesOn) (maxL := 8) (ret := (some .boolean)) (by decide) rfl ?_
  intro p e s m args below meth c s₁ B hml hv
  obtain ⟨rfl, hsz, hP, hKA, hD0⟩ := hv
  have hx := B.exec
  have hb := B.bytes
  have hr := B.returns
  have hts := atoms_spec (ws := wsX11_goesOn) B.pre
  have hown : s.vm.findClass RX11 = some m.cls := findClass_of_methodNamed B.named
  have hlocks := B.notSynchronized
  subst hsz
  have hK := hKA.1
  have hD := hD0
  generalize hAe : (fun q : Nat => s.heap.size ≤ q) = A
  have hA : ∀ q : Nat, s.heap.size ≤ q → A q := fun q h => by rw [← hAe]; exact h
  have hS : va_S A s.heap s.heap [] := va_S.rf
  have hP : va_P D vwCl [(mm, .inr (11, [.ref mm_now, .ref mm_kept, .ref mm_isKept, .ref mm_refused, .int mm_lineFrom, .int mm_lineTo, .ref mm_stands, .ref mm_far, .ref mm_queue, .int mm_queued, .ref mm_meets, .ref mm_bytes, .int (nI bl), .int (nI ta), .int (nI tl), .int mm_token, .int mm_value, .ref mm_next, .int (nI tk)])), (mm_bytes, .inl (cy 1, 250, .inl mm_bytes_f))] s.heap := hP
  have hl := lv_entry ([.ref mm, .int px, .int py, .int pz, .int pt]) (n := 8) (Nat.le_of_ble_eq_true rfl)
  rw [lg_entry_eq]
  generalize (lg_sl ([.ref mm, .int px, .int py, .int pz, .int pt]) ++ List.replicate (8 - (lg_sl ([.ref mm, .int px, .int py, .int pz, .int pt])).length) Slot.unset).toArray = ls at hl ⊢
  have hl : lv_has ls 8 [(0, .ref mm), (1, .int px), (2, .int py), (3, .int pz), (4, .int pt)] := hl
  refine qW (fun QF hQF => ?_)
  have z0_ := hts (.fieldLink RX11 212 "HeardSeenModel" "tokenLong" "I") (by decide +kernel)
  have zi11_ : ∀ w ∈ u_ws RX11 TX11 19, w ∈ wsX11_goesOn := by decide +kernel
  have z2_ := hts (.fieldLink RX11 35 "HeardSeenModel" "bytes" "[I") (by decide +kernel)
  have z3_ := hts (.fieldLink RX11 209 "HeardSeenModel" "tokenAt" "I") (by decide +kernel)
  refine lv_iconst (v := 4) hx hb dX11_goesOn_0 (by decide) ?_
  refine lv_iload_n hx hb dX11_goesOn_1 rfl (lv_at hl 1 rfl) ?_
  have j10 : ∀ (s2_10 : Int32) (bs2_10 : s2_10 = 1 ∨ s2_10 = 0) (H : Heap) (locs : List Loc), va_P D vwCl [(mm, .inr (11, [.ref mm_now, .ref mm_kept, .ref mm_isKept, .ref mm_refused, .int mm_lineFrom, .int mm_lineTo, .ref mm_stands, .ref mm_far, .ref mm_queue, .int mm_queued, .ref mm_meets, .ref mm_bytes, .int (nI bl), .int (nI ta), .int (nI tl), .int mm_token, .int mm_value, .ref mm_next, .int (nI tk)])), (mm_bytes, .inl (cy 1, 250, .inl mm_bytes_f))] H → va_D (fun _ => True) [(mm, .inr (11, [.ref mm_now, .ref mm_kept, .ref mm_isKept, .ref mm_refused, .int mm_lineFrom, .int mm_lineTo, .ref mm_stands, .ref mm_far, .ref mm_queue, .int mm_queued, .ref mm_meets, .ref mm_bytes, .int (nI bl), .int (nI ta), .int (nI tl), .int mm_token, .int mm_value, .ref mm_next, .int (nI tk)])), (mm_bytes, .inl (cy 1, 250, .inl mm_bytes_f))] → va_S A s.heap H locs → ∀ ls : Array Slot, lv_has ls 8 [(0, .ref mm), (1, .int px), (2, .int py), (3, .int pz), (4, .int pt)] → W p l e (headSpec wsX11_goesOn ({ frames := 0, cells := 0, slots := 0, locals := 0 })).room s m [.ref mm, .int px, .int py, .int pz, .int pt].toArray below meth c H locs 0 0 QF (F0 m 10 ls [.int s2_10, .int 4]) := by
    intro s2_10 bs2_10 H locs hP hD hS ls hl
    refine lv_iadd hx hb dX11_goesOn_10 ?_
    refine lv_iload_n hx hb dX11_goesOn_11 rfl (lv_at hl 2 rfl) ?_
    have j20 : ∀ (s2_20 : Int32) (bs2_20 : s2_20 = 1 ∨ s2_20 = 0) (H : Heap) (locs : List Loc), va_P D vwCl [(mm, .inr (11, [.ref mm_now, .ref mm_kept, .ref mm_isKept, .ref mm_refused, .int mm_lineFrom, .int mm_lineTo, .ref mm_stands, .ref mm_far, .ref mm_queue, .int mm_queued, .ref mm_meets, .ref mm_bytes, .int (nI bl), .int (nI ta), .int (nI tl), .int mm_token, .int mm_value, .ref mm_next, .int (nI tk)])), (mm_bytes, .inl (cy 1, 250, .inl mm_bytes_f))] H → va_D (fun _ => True) [(mm, .inr (11, [.ref mm_now, .ref mm_kept, .ref mm_isKept, .ref mm_refused, .int mm_lineFrom, .int mm_lineTo, .ref mm_stands, .ref mm_far, .ref mm_queue, .int mm_queued, .ref mm_meets, .ref mm_bytes, .int (nI bl), .int (nI ta), .int (nI tl), .int mm_token, .int mm_value, .ref mm_next, .int (nI tk)])), (mm_bytes, .inl (cy 1, 250, .inl mm_bytes_f))] → va_S A s.heap H locs → ∀ ls : Array Slot, lv_has ls 8 [(0, .ref mm), (1, .int px), (2, .int py), (3, .int pz), (4, .int pt)] → W p l e (headSpec wsX11_goesOn ({ frames := 0, cells := 0, slots := 0, locals := 0 })).room s m [.ref mm, .int px, .int py, .int pz, .int pt].toArray below meth c H locs 0 0 QF (F0 m 20 ls [.int s2_20, .int (4 + s2_10)]) := by
      intro s2_20 bs2_20 H locs hP hD hS ls hl
      refine lv_iadd hx hb dX11_goesOn_20 ?_
      refine lv_iload_n hx hb dX11_goesOn_21 rfl (lv_at hl 3 rfl) ?_
      have j30 : ∀ (s2_30 : Int32) (bs2_30 : s2_30 = 1 ∨ s2_30 = 0) (H : Heap) (locs : List Loc), va_P D vwCl [(mm, .inr (11, [.ref mm_now, .ref mm_kept, .ref mm_isKept, .ref mm_refused, .int mm_lineFrom, .int mm_lineTo, .ref mm_stands, .ref mm_far, .ref mm_queue, .int mm_queued, .ref mm_meets, .ref mm_bytes, .int (nI bl), .int (nI ta), .int (nI tl), .int mm_token, .int mm_value, .ref mm_next, .int (nI tk)])), (mm_bytes, .inl (cy 1, 250, .inl mm_bytes_f))] H → va_D (fun _ => True) [(mm, .inr (11, [.ref mm_now, .ref mm_kept, .ref mm_isKept, .ref mm_refused, .int mm_lineFrom, .int mm_lineTo, .ref mm_stands, .ref mm_far, .ref mm_queue, .int mm_queued, .ref mm_meets, .ref mm_bytes, .int (nI bl), .int (nI ta), .int (nI tl), .int mm_token, .int mm_value, .ref mm_next, .int (nI tk)])), (mm_bytes, .inl (cy 1, 250, .inl mm_bytes_f))] → va_S A s.heap H locs → ∀ ls : Array Slot, lv_has ls 8 [(0, .ref mm), (1, .int px), (2, .int py), (3, .int pz), (4, .int pt)] → W p l e (headSpec wsX11_goesOn ({ frames := 0, cells := 0, slots := 0, locals := 0 })).room s m [.ref mm, .int px, .int py, .int pz, .int pt].toArray below meth c H locs 0 0 QF (F0 m 30 ls [.int s2_30, .int ((4 + s2_10) + s2_20)]) := by
        intro s2_30 bs2_30 H locs hP hD hS ls hl
        refine lv_iadd hx hb dX11_goesOn_30 ?_
        refine lv_iload hx hb dX11_goesOn_31 (lv_at hl 4 rfl) ?_
        have j41 : ∀ (s2_41 : Int32) (bs2_41 : s2_41 = 1 ∨ s2_41 = 0) (H : Heap) (locs : List Loc), va_P D vwCl [(mm, .inr (11, [.ref mm_now, .ref mm_kept, .ref mm_isKept, .ref mm_refused, .int mm_lineFrom, .int mm_lineTo, .ref mm_stands, .ref mm_far, .ref mm_queue, .int mm_queued, .ref mm_meets, .ref mm_bytes, .int (nI bl), .int (nI ta), .int (nI tl), .int mm_token, .int mm_value, .ref mm_next, .int (nI tk)])), (mm_bytes, .inl (cy 1, 250, .inl mm_bytes_f))] H → va_D (fun _ => True) [(mm, .inr (11, [.ref mm_now, .ref mm_kept, .ref mm_isKept, .ref mm_refused, .int mm_lineFrom, .int mm_lineTo, .ref mm_stands, .ref mm_far, .ref mm_queue, .int mm_queued, .ref mm_meets, .ref mm_bytes, .int (nI bl), .int (nI ta), .int (nI tl), .int mm_token, .int mm_value, .ref mm_next, .int (nI tk)])), (mm_bytes, .inl (cy 1, 250, .inl mm_bytes_f))] → va_S A s.heap H locs → ∀ ls : Array Slot, lv_has ls 8 [(0, .ref mm), (1, .int px), (2, .int py), (3, .int pz), (4, .int pt)] → W p l e (headSpec wsX11_goesOn ({ frames := 0, cells := 0, slots := 0, locals := 0 })).room s m [.ref mm, .int px, .int py, .int pz, .int pt].toArray below meth c H locs 0 0 QF (F0 m 41 ls [.int s2_41, .int (((4 + s2_10) + s2_20) + s2_30)]) := by
          intro s2_41 bs2_41 H locs hP hD hS ls hl
          refine lv_iadd hx hb dX11_goesOn_41 ?_
          refine lv_topi (fun x1 ex1 => ?_)
          refine lv_istore (lv' := [(5, .int x1), (0, .ref mm), (1, .int px), (2, .int py), (3, .int pz), (4, .int pt)]) hx hb dX11_goesOn_42 hl (by decide) rfl (fun ls hl => ?_)
          refine lv_aload_n hx hb dX11_goesOn_44 rfl (lv_at hl 1 rfl) ?_
          refine va_get (D := D) (ci := 11) (v := .int (nI tl)) (C := RX11) (T := TX11) (N := 19) hx hb hts zi11_ hown hK hP 0 rfl rfl 14 (by decide) z0_ (fun _ h9 => h9) rfl dX11_goesOn_45 ?_
          refine lv_iload hx hb dX11_goesOn_48 (lv_at hl 0 rfl) ?_
          have j58 : ∀ (s1_58 : Int32) (bs1_58 : s1_58 = 1 ∨ s1_58 = 0) (hj5 : s1_58 = 0 ∨ nI tl = x1) (H : Heap) (locs : List Loc), va_P D vwCl [(mm, .inr (11, [.ref mm_now, .ref mm_kept, .ref mm_isKept, .ref mm_refused, .int mm_lineFrom, .int mm_lineTo, .ref mm_stands, .ref mm_far, .ref mm_queue, .int mm_queued, .ref mm_meets, .ref mm_bytes, .int (nI bl), .int (nI ta), .int (nI tl), .int mm_token, .int mm_value, .ref mm_next, .int (nI tk)])), (mm_bytes, .inl (cy 1, 250, .inl mm_bytes_f))] H → va_D (fun _ => True) [(mm, .inr (11, [.ref mm_now, .ref mm_kept, .ref mm_isKept, .ref mm_refused, .int mm_lineFrom, .int mm_lineTo, .ref mm_stands, .ref mm_far, .ref mm_queue, .int mm_queued, .ref mm_meets, .ref mm_bytes, .int (nI bl), .int (nI ta), .int (nI tl), .int mm_token, .int mm_value, .ref mm_next, .int (nI tk)])), (mm_bytes, .inl (cy 1, 250, .inl mm_bytes_f))] → va_S A s.heap H locs → ∀ ls : Array Slot, lv_has ls 8 [(5, .int x1), (0, .ref mm), (1, .int px), (2, .int py), (3, .int pz), (4, .int pt)] → W p l e (headSpec wsX11_goesOn ({ frames := 0, cells := 0, slots := 0, locals := 0 })).room s m [.ref mm, .int px, .int py, .int pz, .int pt].toArray below meth c H locs 0 0 QF (F0 m 58 ls [.int s1_58]) := by
            intro s1_58 bs1_58 hj5 H locs hP hD hS ls hl
            refine lv_istore (lv' := [(6, .int s1_58), (5, .int x1), (0, .ref mm), (1, .int px), (2, .int py), (3, .int pz), (4, .int pt)]) hx hb dX11_goesOn_58 hl (by decide) rfl (fun ls hl => ?_)
            refine lv_iconst (v := 4) hx hb dX11_goesOn_60 (by decide) ?_
            refine lv_istore (lv' := [(7, .int 4), (6, .int s1_58), (5, .int x1), (0, .ref mm), (1, .int px), (2, .int py), (3, .int pz), (4, .int pt)]) hx hb dX11_goesOn_61 hl (by decide) rfl (fun ls hl => ?_)
            have lp63 : ∀ (n63 : Nat) (v7_63 : Nat) (v6_63 : Int32) (bv6_63 : v6_63 = 1 ∨ v6_63 = 0) (hv7_63 : v7_63 < 2147483648) (hw5 : v6_63 = 0 ∨ nI tl = x1), 2147483648 - v7_63 < n63 → ∀ (H : Heap) (locs : List Loc), va_P D vwCl [(mm, .inr (11, [.ref mm_now, .ref mm_kept, .ref mm_isKept, .ref mm_refused, .int mm_lineFrom, .int mm_lineTo, .ref mm_stands, .ref mm_far, .ref mm_queue, .int mm_queued, .ref mm_meets, .ref mm_bytes, .int (nI bl), .int (nI ta), .int (nI tl), .int mm_token, .int mm_value, .ref mm_next, .int (nI tk)])), (mm_bytes, .inl (cy 1, 250, .inl mm_bytes_f))] H → va_D (fun _ => True) [(mm, .inr (11, [.ref mm_now, .ref mm_kept, .ref mm_isKept, .ref mm_refused, .int mm_lineFrom, .int mm_lineTo, .ref mm_stands, .ref mm_far, .ref mm_queue, .int mm_queued, .ref mm_meets, .ref mm_bytes, .int (nI bl), .int (nI ta), .int (nI tl), .int mm_token, .int mm_value, .ref mm_next, .int (nI tk)])), (mm_bytes, .inl (cy 1, 250, .inl mm_bytes_f))] → va_S A s.heap H locs → ∀ ls : Array Slot, lv_has ls 8 [(7, .int (nI v7_63)), (6, .int v6_63), (5, .int x1), (0, .ref mm), (1, .int px), (2, .int py), (3, .int pz), (4, .int pt)] → W p l e (headSpec wsX11_goesOn ({ frames := 0, cells := 0, slots := 0, locals := 0 })).room s m [.ref mm, .int px, .int py, .int pz, .int pt].toArray below meth c H locs 0 0 QF (F0 m 63 ls []) := by
              intro n63
              induction n63 with
              | zero => intro v7_63 v6_63 bv6_63 hv7_63 hw5 hm; exact absurd hm (Nat.not_lt_zero _)
              | succ n63 ih63 =>
                intro v7_63 v6_63 bv6_63 hv7_63 hw5 hm63 H locs hP hD hS ls hl
                refine lv_iload hx hb dX11_goesOn_63 (lv_at hl 0 rfl) ?_
                refine lv_iload hx hb dX11_goesOn_65 (lv_at hl 2 rfl) ?_
                refine lv_icmp_ge (tgt := 136) hx hb dX11_goesOn_67 (by decide) (fun c2 => ?_) (fun c2 => ?_)
                · skip
                  refine lv_iload hx hb dX11_goesOn_136 (lv_at hl 1 rfl) ?_
                  subst hQF
                  exact W.zret (v := v6_63) hx hb hr (z_bm bv6_63) (fun t ht hW => ⟨⟨v6_63, (), rfl, (z_bu bv6_63), trivial⟩, hS.F ht⟩) hS.2.2 dX11_goesOn_138
                · skip
                  refine lv_iload hx hb dX11_goesOn_70 (lv_at hl 1 rfl) ?_
                  refine lv_if_eq (tgt := 136) hx hb dX11_goesOn_72 (by decide) (fun c3 => ?_) (fun c3 => ?_)
                  · skip
                    refine lv_iload hx hb dX11_goesOn_136 (lv_at hl 1 rfl) ?_
                    refine W.eq (g2 := F0 m 138 ls [.int 0]) (congrArg (fun v9 : Int32 => F0 m 138 ls [.int v9]) c3) ?_
                    subst hQF
                    exact W.zret (v := 0) hx hb hr rfl (fun t ht hW => ⟨⟨0, (), rfl, (Or.inr ⟨rfl, trivial⟩), trivial⟩, hS.F ht⟩) hS.2.2 dX11_goesOn_138
                  · skip
                    have hsz := hw5.resolve_left (by assumption)
                    have hk67 := ltM (n := tl) (k := v7_63) (by omega) (by assumption) (by rw [hsz]; assumption)
                    refine lv_aload_n hx hb dX11_goesOn_75 rfl (lv_at hl 3 rfl) ?_
                    refine va_get (D := D) (ci := 11) (v := .ref mm_bytes) (C := RX11) (T := TX11) (N := 19) hx hb hts zi11_ hown hK hP 0 rfl rfl 11 (by decide) z2_ (fun _ h9 => h9) rfl dX11_goesOn_76 ?_
                    refine lv_aload_n hx hb dX11_goesOn_79 rfl (lv_at hl 3 rfl) ?_
                    refine va_get (D := D) (ci := 11) (v := .int (nI ta)) (C := RX11) (T := TX11) (N := 19) hx hb hts zi11_ hown hK hP 0 rfl rfl 13 (by decide) z3_ (fun _ h9 => h9) rfl dX11_goesOn_80 ?_
                    refine lv_iload hx hb dX11_goesOn_83 (lv_at hl 0 rfl) ?_
                    refine lv_iadd hx hb dX11_goesOn_85 ?_
                    refine lv_topi (fun x4 ex4 => ?_)
                    obtain rfl : x4 = nI (ta + v7_63) := by rw [ex4]; exact nI_add _ _
                    refine my_iald hx hb hK hP 1 1 rfl rfl (by first | exact in_ge (N := 250) (by decide) (by omega) (by assumption) | exact vp_in_nI (by omega) (by omega)) (nI_clamp (by omega)) dX11_goesOn_86 ?_
                    refine lv_iload hx hb dX11_goesOn_87 (lv_at hl 0 rfl) ?_
                    refine lv_iconst (v := 4) hx hb dX11_goesOn_89 (by decide) ?_
                    have j120 : ∀ (s2_120 : Int32) (H : Heap) (locs : List Loc), va_P D vwCl [(mm, .inr (11, [.ref mm_now, .ref mm_kept, .ref mm_isKept, .ref mm_refused, .int mm_lineFrom, .int mm_lineTo, .ref mm_stands, .ref mm_far, .ref mm_queue, .int mm_queued, .ref mm_meets, .ref mm_bytes, .int (nI bl), .int (nI ta), .int (nI tl), .int mm_token, .int mm_value, .ref mm_next, .int (nI tk)])), (mm_bytes, .inl (cy 1, 250, .inl mm_bytes_f))] H → va_D (fun _ => True) [(mm, .inr (11, [.ref mm_now, .ref mm_kept, .ref mm_isKept, .ref mm_refused, .int mm_lineFrom, .int mm_lineTo, .ref mm_stands, .ref mm_far, .ref mm_queue, .int mm_queued, .ref mm_meets, .ref mm_bytes, .int (nI bl), .int (nI ta), .int (nI tl), .int mm_token, .int mm_value, .ref mm_next, .int (nI tk)])), (mm_bytes, .inl (cy 1, 250, .inl mm_bytes_f))] → va_S A s.heap H locs → ∀ ls : Array Slot, lv_has ls 8 [(7, .int (nI v7_63)), (6, .int v6_63), (5, .int x1), (0, .ref mm), (1, .int px), (2, .int py), (3, .int pz), (4, .int pt)] → W p l e (headSpec wsX11_goesOn ({ frames := 0, cells := 0, slots := 0, locals := 0 })).room s m [.ref mm, .int px, .int py, .int pz, .int pt].toArray below meth c H locs 0 0 QF (F0 m 120 ls [.int s2_120, .int (mm_bytes_f (ta + v7_63))]) := by
                      intro s2_120 H locs hP hD hS ls hl
                      refine lv_icmp_ne (tgt := 127) hx hb dX11_goesOn_120 (by decide) (fun c5 => ?_) (fun c5 => ?_)
                      · skip
                        refine lv_iconst (v := 0) hx hb dX11_goesOn_127 (by decide) ?_
                        refine lv_istore (lv' := [(6, .int 0), (7, .int (nI v7_63)), (5, .int x1), (0, .ref mm), (1, .int px), (2, .int py), (3, .int pz), (4, .int pt)]) hx hb dX11_goesOn_128 hl (by decide) rfl (fun ls hl => ?_)
                        refine lv_iinc (v := nI (v7_63 + 1)) (lv' := [(7, .int (nI (v7_63 + 1))), (6, .int 0), (5, .int x1), (0, .ref mm), (1, .int px), (2, .int py), (3, .int pz), (4, .int pt)]) hx hb dX11_goesOn_130 hl (k := 1) rfl (nI_1 _) (by decide) rfl (fun ls hl => ?_)
                        refine lv_goto (tgt := 63) hx hb dX11_goesOn_133 (by decide) ?_
                        exact ih63 (v7_63 + 1) 0 (Or.inr rfl) (by first | omega | exact nlt_max hv7_63 (by assumption)) (Or.inr hsz) (by first | omega | (have := nlt_max hv7_63 (by assumption); omega)) _ _ hP hD hS ls hl
                      · skip
                        refine lv_iconst (v := 1) hx hb dX11_goesOn_123 (by decide) ?_
                        refine lv_goto (tgt := 128) hx hb dX11_goesOn_124 (by decide) ?_
                        refine lv_istore (lv' := [(6, .int 1), (7, .int (nI v7_63)), (5, .int x1), (0, .ref mm), (1, .int px), (2, .int py), (3, .int pz), (4, .int pt)]) hx hb dX11_goesOn_128 hl (by decide) rfl (fun ls hl => ?_)
                        refine lv_iinc (v := nI (v7_63 + 1)) (lv' := [(7, .int (nI (v7_63 + 1))), (6, .int 1), (5, .int x1), (0, .ref mm), (1, .int px), (2, .int py), (3, .int pz), (4, .int pt)]) hx hb dX11_goesOn_130 hl (k := 1) rfl (nI_1 _) (by decide) rfl (fun ls hl => ?_)
                        refine lv_goto (tgt := 63) hx hb dX11_goesOn_133 (by decide) ?_
                        exact ih63 (v7_63 + 1) 1 (Or.inl rfl) (by first | omega | exact nlt_max hv7_63 (by assumption)) (Or.inr hsz) (by first | omega | (have := nlt_max hv7_63 (by assumption); omega)) _ _ hP hD hS ls hl
                    refine lv_icmp_ne (tgt := 97) hx hb dX11_goesOn_90 (by decide) (fun c6 => ?_) (fun c6 => ?_)
                    · skip
                      refine lv_iload hx hb dX11_goesOn_97 (lv_at hl 0 rfl) ?_
                      refine lv_iconst (v := 5) hx hb dX11_goesOn_99 (by decide) ?_
                      refine lv_icmp_ne (tgt := 107) hx hb dX11_goesOn_100 (by decide) (fun c7 => ?_) (fun c7 => ?_)
                      · skip
                        refine lv_iload hx hb dX11_goesOn_107 (lv_at hl 0 rfl) ?_
                        refine lv_bipush (v := 6) hx hb dX11_goesOn_109 (by decide) ?_
                        refine lv_icmp_ne (tgt := 118) hx hb dX11_goesOn_111 (by decide) (fun c8 => ?_) (fun c8 => ?_)
                        · skip
                          refine lv_iload hx hb dX11_goesOn_118 (lv_at hl 7 rfl) ?_
                          exact j120 pt _ _ hP hD hS ls hl
                        · skip
                          refine lv_iload_n hx hb dX11_goesOn_114 rfl (lv_at hl 6 rfl) ?_
                          refine lv_goto (tgt := 120) hx hb dX11_goesOn_115 (by decide) ?_
                          exact j120 pz _ _ hP hD hS ls hl
                      · skip
                        refine lv_iload_n hx hb dX11_goesOn_103 rfl (lv_at hl 5 rfl) ?_
                        refine lv_goto (tgt := 120) hx hb dX11_goesOn_104 (by decide) ?_
                        exact j120 py _ _ hP hD hS ls hl
                    · skip
                      refine lv_iload_n hx hb dX11_goesOn_93 rfl (lv_at hl 4 rfl) ?_
                      refine lv_goto (tgt := 120) hx hb dX11_goesOn_94 (by decide) ?_
                      exact j120 px _ _ hP hD hS ls hl
            exact lp63 (2147483648 - 4 + 1) 4 s1_58 bs1_58 (by first | omega | exact nlt_max (by assumption) (by assumption)) hj5 (Nat.lt_succ_self _) _ _ hP hD hS ls hl
          refine lv_icmp_ne (tgt := 57) hx hb dX11_goesOn_50 (by decide) (fun c9 => ?_) (fun c9 => ?_)
          · skip
            refine lv_iconst (v := 0) hx hb dX11_goesOn_57 (by decide) ?_
            exact j58 0 (Or.inr rfl) (Or.inl rfl) _ _ hP hD hS ls hl
          · skip
            refine lv_iconst (v := 1) hx hb dX11_goesOn_53 (by decide) ?_
            refine lv_goto (tgt := 58) hx hb dX11_goesOn_54 (by decide) ?_
            exact j58 1 (Or.inl rfl) (Or.inr (by assumption)) _ _ hP hD hS ls hl
        refine lv_if_ne (tgt := 40) hx hb dX11_goesOn_33 (by decide) (fun c10 => ?_) (fun c10 => ?_)
        · skip
          refine lv_iconst (v := 1) hx hb dX11_goesOn_40 (by decide) ?_
          exact j41 1 (Or.inl rfl) _ _ hP hD hS ls hl
        · skip
          refine lv_iconst (v := 0) hx hb dX11_goesOn_36 (by decide) ?_
          refine lv_goto (tgt := 41) hx hb dX11_goesOn_37 (by decide) ?_
          exact j41 0 (Or.inr rfl) _ _ hP hD hS ls hl
      refine lv_if_ne (tgt := 29) hx hb dX11_goesOn_22 (by decide) (fun c11 => ?_) (fun c11 => ?_)
      · skip
        refine lv_iconst (v := 1) hx hb dX11_goesOn_29 (by decide) ?_
        exact j30 1 (Or.inl rfl) _ _ hP hD hS ls hl
      · skip
        refine lv_iconst (v := 0) hx hb dX11_goesOn_25 (by decide) ?_
        refine lv_goto (tgt := 30) hx hb dX11_goesOn_26 (by decide) ?_
        exact j30 0 (Or.inr rfl) _ _ hP hD hS ls hl
    refine lv_if_ne (tgt := 19) hx hb dX11_goesOn_12 (by decide) (fun c12 => ?_) (fun c12 => ?_)
    · skip
      refine lv_iconst (v := 1) hx hb dX11_goesOn_19 (by decide) ?_
      exact j20 1 (Or.inl rfl) _ _ hP hD hS ls hl
    · skip
      refine lv_iconst (v := 0) hx hb dX11_goesOn_15 (by decide) ?_
      refine lv_goto (tgt := 20) hx hb dX11_goesOn_16 (by decide) ?_
      exact j20 0 (Or.inr rfl) _ _ hP hD hS ls hl
  refine lv_if_ne (tgt := 9) hx hb dX11_goesOn_2 (by decide) (fun c13 => ?_) (fun c13 => ?_)
  · skip
    refine lv_iconst (v := 1) hx hb dX11_goesOn_9 (by decide) ?_
    exact j10 1 (Or.inl rfl) _ _ hP hD hS ls hl
  · skip
    refine lv_iconst (v := 0) hx hb dX11_goesOn_5 (by decide) ?_
    refine lv_goto (tgt := 10) hx hb dX11_goesOn_6 (by decide) ?_
    exact j10 0 (Or.inr rfl) _ _ hP hD hS ls hl

set_option maxHeartbeats 4000000 in
set_option maxRecDepth 100000 in
theorem n_X11_takes (l : Launch) (D : va_G) (cy : Nat → ClassId) (mm : Nat) (mm_now : Nat) (mm_kept : Nat) (mm_isKept : Nat) (mm_refused : Nat) (mm_lineFrom : Int32) (mm_lineTo : Int32) (mm_stands : Nat) (mm_far : Nat) (mm_queue : Nat) (mm_queued : Int32) (mm_meets : Nat) (mm_bytes : Nat) (bl : Nat) (ta : Nat) (tl : Nat) (mm_token : Int32) (mm_value : Int32) (mm_next : Nat) (tk : Nat) (mm_bytes_f : Nat → Int32) (pl : Nat) (ph : Int32) (sz : Nat) (hbl : bl ≤ 250) (htt : ta + tl ≤ bl) (htz : mm_token = 0 ∨ 1 ≤ tl) (htk : tk ≤ 35) (hpl : pl < 1000) (hph : ph.toInt ≤ 35) : Met l yX11_takes wsX11_takes ({ frames := 4, cells := 0, slots := 0, locals := 89 }) (va_Pc [.ref mm, .int (nI pl), .int ph] (kPre D cy [(mm, .inr (11, [.ref mm_now, .ref mm_kept, .ref mm_isKept, .ref mm_refused, .int mm_lineFrom, .int mm_lineTo, .ref mm_stands, .ref mm_far, .ref mm_queue, .int mm_queued, .ref mm_meets, .ref mm_bytes, .int (nI bl), .int (nI ta), .int (nI tl), .int mm_token, .int mm_value, .ref mm_next, .int (nI tk)])), (mm_bytes, .inl (cy 1, 250, .inl mm_bytes_f))] sz)) (va_Qi (fun (r : Int32) (u : Nat × Nat × Int32 × Int32 × Nat) => (r = 1 ∧ (u.1 + u.2.1 ≤ bl ∧ (u.2.2.1 = 0 ∨ 1 ≤ u.2.1) ∧ ta ≤ u.1 ∧ u.2.2.2.2 ≤ 35 ∧ pl ≤ u.2.2.2.2 ∧ (u.2.2.2.2 : Int) ≤ (ph : Int32).toInt)) ∨ (r = 0 ∧ (u.1 + u.2.1 ≤ bl ∧ (u.2.2.1 = 0 ∨ 1 ≤ u.2.1) ∧ ta ≤ u.1 ∧ u.2.2.2.2 ≤ 35))) (fun (u : Nat × Nat × Int32 × Int32 × Nat) t => va_P D vwCl ([(mm, .inr (11, [.ref mm_now, .ref mm_kept, .ref mm_isKept, .ref mm_refused, .int mm_lineFrom, .int mm_lineTo, .ref mm_stands, .ref mm_far, .ref mm_queue, .int mm_queued, .ref mm_meets, .ref mm_bytes, .int (nI bl), .int (nI u.1), .int (nI u.2.1), .int u.2.2.1, .int u.2.2.2.1, .ref mm_next, .int (nI u.2.2.2.2)])), (mm_bytes, .inl (cy 1, 250, .inl mm_bytes_f))]) t.heap ∧ va_D (va_A [(mm, .inr (11, [.ref mm_now, .ref mm_kept, .ref mm_isKept, .ref mm_refused, .int mm_lineFrom, .int mm_lineTo, .ref mm_stands, .ref mm_far, .ref mm_queue, .int mm_queued, .ref mm_meets, .ref mm_bytes, .int (nI bl), .int (nI ta), .int (nI tl), .int mm_token, .int mm_value, .ref mm_next, .int (nI tk)])), (mm_bytes, .inl (cy 1, 250, .inl mm_bytes_f))] sz) ([(mm, .inr (11, [.ref mm_now, .ref mm_kept, .ref mm_isKept, .ref mm_refused, .int mm_lineFrom, .int mm_lineTo, .ref mm_stands, .ref mm_far, .ref mm_queue, .int mm_queued, .ref mm_meets, .ref mm_bytes, .int (nI bl), .int (nI u.1), .int (nI u.2.1), .int u.2.2.1, .int u.2.2.2.1, .ref mm_next, .int (nI u.2.2.2.2)])), (mm_bytes, .inl (cy 1, 250, .inl mm_bytes_f))])) (va_A [(mm, .inr (11, [.ref mm_now, .ref mm_kept, .ref mm_isKept, .ref mm_refused, .int mm_lineFrom, .int mm_lineTo, .ref mm_stands, .ref mm_far, .ref mm_queue, .int mm_queued, .ref mm_meets, .ref mm_bytes, .int (nI bl), .int (nI ta), .int (nI tl), .int mm_token, .int mm_value, .ref mm_next, .int (nI tk)])), (mm_bytes, .inl (cy 1, 250, .inl mm_bytes_f))] sz)) 0 0 (va_A [(mm, .inr (11, [.ref mm_now, .ref mm_kept, .ref mm_isKept, .ref mm_refused, .int mm_lineFrom, .int mm_lineTo, .ref mm_stands, .ref mm_far, .ref mm_queue, .int mm_queued, .ref mm_meets, .ref mm_bytes, .int (nI bl), .int (nI ta), .int (nI tl), .int mm_token, .int mm_value, .ref mm_next, .int (nI tk)])), (mm_bytes, .inl (cy 1, 250, .inl mm_bytes_f))] sz) := by
  refine Met.ofW (cc := cX11_takes) (maxL := 3) (ret := (some .boolean)) (by decide) rfl ?_
  intro p e s m args below meth c s₁ B hml hv
  obtain ⟨rfl, hsz, hP, hKA, hD0⟩ := hv
  have hx := B.exec
  have hb := B.bytes
  have hr := B.returns
  have hts := atoms_spec (ws := wsX11_takes) B.pre
  have hown : s.vm.findClass RX11 = some m.cls := findClass_of_methodNamed B.named
  have hlocks := B.notSynchronized
  subst hsz
  have hK := hKA.1
  have hD := hD0.self (sz := s.heap.size)
  generalize hAe : va_A [(mm, .inr (11, [.ref mm_now, .ref mm_kept, .ref mm_isKept, .ref mm_refused, .int mm_lineFrom, .int mm_lineTo, .ref mm_stands, .ref mm_far, .ref mm_queue, .int mm_queued, .ref mm_meets, .ref mm_bytes, .int (nI bl), .int (nI ta), .int (nI tl), .int mm_token, .int mm_value, .ref mm_next, .int (nI tk)])), (mm_bytes, .inl (cy 1, 250, .inl mm_bytes_f))] s.heap.size = A at hD ⊢
  have hA : ∀ q : Nat, s.heap.size ≤ q → A q := fun q h => by rw [← hAe]; exact Or.inr h
  have hS : va_S A s.heap s.heap [] := va_S.rf
  have hP : va_P D vwCl [(mm, .inr (11, [.ref mm_now, .ref mm_kept, .ref mm_isKept, .ref mm_refused, .int mm_lineFrom, .int mm_lineTo, .ref mm_stands, .ref mm_far, .ref mm_queue, .int mm_queued, .ref mm_meets, .ref mm_bytes, .int (nI bl), .int (nI ta), .int (nI tl), .int mm_token, .int mm_value, .ref mm_next, .int (nI tk)])), (mm_bytes, .inl (cy 1, 250, .inl mm_bytes_f))] s.heap := hP
  have hl := lv_entry ([.ref mm, .int (nI pl), .int ph]) (n := 3) (Nat.le_of_ble_eq_true rfl)
  rw [lg_entry_eq]
  generalize (lg_sl ([.ref mm, .int (nI pl), .int ph]) ++ List.replicate (3 - (lg_sl ([.ref mm, .int (nI pl), .int ph])).length) Slot.unset).toArray = ls at hl ⊢
  have hl : lv_has ls 3 [(0, .ref mm), (1, .int (nI pl)), (2, .int ph)] := hl
  refine qW (fun QF hQF => ?_)
  have z0_ := hts (.fieldLink RX11 215 "HeardSeenModel" "token" "I") (by decide +kernel)
  have zi11_ : ∀ w ∈ u_ws RX11 TX11 19, w ∈ wsX11_takes := by decide +kernel
  have z2_ := hts (.fieldLink RX11 218 "HeardSeenModel" "value" "I") (by decide +kernel)
  have z3_ := hts (.fieldLink RX11 230 "HeardSeenModel" "taken" "I") (by decide +kernel)
  refine lv_aload_n hx hb dX11_takes_0 rfl (lv_at hl 0 rfl) ?_
  refine va_get (D := D) (ci := 11) (v := .int mm_token) (C := RX11) (T := TX11) (N := 19) hx hb hts zi11_ hown hK hP 0 rfl rfl 15 (by decide) z0_ (fun _ h9 => h9) rfl dX11_takes_1 ?_
  refine lv_iconst (v := 2) hx hb dX11_takes_4 (by decide) ?_
  refine lv_icmp_ne (tgt := 23) hx hb dX11_takes_5 (by decide) (fun c1 => ?_) (fun c1 => ?_)
  · skip
    refine lv_iconst (v := 0) hx hb dX11_takes_23 (by decide) ?_
    subst hQF
    have hP9 := hP
    have hD9 := hD
    exact W.zret (v := 0) hx hb hr rfl (fun t ht hW => ⟨⟨0, (ta, tl, mm_token, mm_value, tk), rfl, (Or.inr ⟨rfl, htt, htz, Nat.le_refl _, htk⟩), by rw [ht]; exact hP9, hD9⟩, hS.F ht⟩) hS.2.2 dX11_takes_24
  · skip
    refine lv_aload_n hx hb dX11_takes_8 rfl (lv_at hl 0 rfl) ?_
    refine va_get (D := D) (ci := 11) (v := .int mm_value) (C := RX11) (T := TX11) (N := 19) hx hb hts zi11_ hown hK hP 0 rfl rfl 16 (by decide) z2_ (fun _ h9 => h9) rfl dX11_takes_9 ?_
    refine lv_i2l hx hb dX11_takes_12 rfl ?_
    refine lv_iload_n hx hb dX11_takes_13 rfl (lv_at hl 1 rfl) ?_
    refine lv_i2l hx hb dX11_takes_14 rfl ?_
    refine lv_iload_n hx hb dX11_takes_15 rfl (lv_at hl 2 rfl) ?_
    refine lv_i2l hx hb dX11_takes_16 rfl ?_
    refine rd_i (va_runS (As := [.long mm_value.toInt64, .long ((nI pl).toInt64), .long ph.toInt64]) (rest := []) ⟨hx, hb, hml, hown, hts⟩ (n_X11_in l D cy mm_value.toInt64 ((nI pl).toInt64) ph.toInt64 _ ) (va_cwS 3 hts gX11_takes_X11_in rfl rfl rfl (by decide +kernel) ⟨Nat.le_of_ble_eq_true rfl, Nat.le_of_ble_eq_true rfl⟩) (pS hKA pE (dE (A := A))) rfl rfl hl.1 rfl (lv_room (Nat.le_of_ble_eq_true rfl)) dX11_takes_17 ⟨Nat.le_of_ble_eq_true rfl, Nat.le_of_ble_eq_true rfl⟩) hP hS hA (fun r2 H locs hwr2 hP hS => ?_)
    have hwr2 : (r2 = 1 ∧ (((nI pl).toInt64) ≤ mm_value.toInt64 ∧ mm_value.toInt64 ≤ ph.toInt64)) ∨ (r2 = 0 ∧ (¬ (((nI pl).toInt64) ≤ mm_value.toInt64 ∧ mm_value.toInt64 ≤ ph.toInt64))) := hwr2
    refine lv_if_ne (tgt := 25) hx hb dX11_takes_20 (by decide) (fun c3 => ?_) (fun c3 => ?_)
    · skip
      obtain ⟨hp4, hp5⟩ := z_b1 hwr2 c3
      obtain ⟨vv, evv, hv1, hv2⟩ := z_tk (pl := pl) (by omega) (by assumption) (by assumption)
      refine lv_aload_n hx hb dX11_takes_25 rfl (lv_at hl 0 rfl) ?_
      refine lv_aload_n hx hb dX11_takes_26 rfl (lv_at hl 0 rfl) ?_
      refine va_get (D := D) (ci := 11) (v := .int mm_value) (C := RX11) (T := TX11) (N := 19) hx hb hts zi11_ hown hK hP 0 rfl rfl 16 (by decide) z2_ (fun _ h9 => h9) rfl dX11_takes_27 ?_
      refine W.eq (g2 := F0 m 30 ls [.int (nI vv), .ref mm]) (congrArg (fun v9 : Int32 => F0 m 30 ls [.int v9, .ref mm]) evv) ?_
      refine va_put (D := D) (ci := 11) (v := .int (nI vv)) (ty := .int) (C := RX11) (T := TX11) (N := 19) hx hb hts zi11_ tyX11 tyX11_ok nmX11 hown hK hP hD hS 0 rfl rfl 18 (by decide) z3_ (fun _ h9 => h9) rfl (by decide +kernel) rfl rfl (Nat.le_of_ble_eq_true rfl) dX11_takes_30 (fun H locs hP hD hS => ?_)
      have hP : va_P D vwCl [(mm, .inr (11, [.ref mm_now, .ref mm_kept, .ref mm_isKept, .ref mm_refused, .int mm_lineFrom, .int mm_lineTo, .ref mm_stands, .ref mm_far, .ref mm_queue, .int mm_queued, .ref mm_meets, .ref mm_bytes, .int (nI bl), .int (nI ta), .int (nI tl), .int mm_token, .int mm_value, .ref mm_next, .int (nI vv)])), (mm_bytes, .inl (cy 1, 250, .inl mm_bytes_f))] H := hP
      have hD : va_D A [(mm, .inr (11, [.ref mm_now, .ref mm_kept, .ref mm_isKept, .ref mm_refused, .int mm_lineFrom, .int mm_lineTo, .ref mm_stands, .ref mm_far, .ref mm_queue, .int mm_queued, .ref mm_meets, .ref mm_bytes, .int (nI bl), .int (nI ta), .int (nI tl), .int mm_token, .int mm_value, .ref mm_next, .int (nI vv)])), (mm_bytes, .inl (cy 1, 250, .inl mm_bytes_f))] := hD
      refine lv_aload_n hx hb dX11_takes_33 rfl (lv_at hl 0 rfl) ?_
      refine wr_v (wr := []) (va_runV (As := []) (rest := []) ⟨hx, hb, hml, hown, hts⟩ (n_X11_goOn l D cy mm mm_now mm_kept mm_isKept mm_refused mm_lineFrom mm_lineTo mm_stands mm_far mm_queue mm_queued mm_meets mm_bytes bl ta tl mm_token mm_value mm_next vv mm_bytes_f _ (by first | assumption | omega) (by first | assumption | omega)) (cwV 0 hts gX11_takes_X11_goOn rfl rfl rfl (by decide +kernel) ⟨Nat.le_of_ble_eq_true rfl, Nat.le_of_ble_eq_true rfl⟩) (pV (ci := 11) (k := 0) hKA (hP.sub (ws' := [(mm, .inr (11, [.ref mm_now, .ref mm_kept, .ref mm_isKept, .ref mm_refused, .int mm_lineFrom, .int mm_lineTo, .ref mm_stands, .ref mm_far, .ref mm_queue, .int mm_queued, .ref mm_meets, .ref mm_bytes, .int (nI bl), .int (nI ta), .int (nI tl), .int mm_token, .int mm_value, .ref mm_next, .int (nI vv)])), (mm_bytes, .inl (cy 1, 250, .inl mm_bytes_f))]) [0, 1] rfl) (hD.sub (ws' := [(mm, .inr (11, [.ref mm_now, .ref mm_kept, .ref mm_isKept, .ref mm_refused, .int mm_lineFrom, .int mm_lineTo, .ref mm_stands, .ref mm_far, .ref mm_queue, .int mm_queued, .ref mm_meets, .ref mm_bytes, .int (nI bl), .int (nI ta), .int (nI tl), .int mm_token, .int mm_value, .ref mm_next, .int (nI vv)])), (mm_bytes, .inl (cy 1, 250, .inl mm_bytes_f))]) [0, 1] (by decide) rfl) rfl rfl) rfl rfl hl.1 rfl (lv_room (Nat.le_of_ble_eq_true rfl)) dX11_takes_34 ⟨Nat.le_of_ble_eq_true rfl, Nat.le_of_ble_eq_true rfl⟩) hP hD hS hA [0, 1] [] rfl rfl (by decide +kernel) (by decide +kernel) (fun ur6 H locs hwr6 hP hD hS => ?_)
      obtain ⟨z7, z8, z9, z10⟩ := ur6
      have hP : va_P D vwCl [(mm, .inr (11, [.ref mm_now, .ref mm_kept, .ref mm_isKept, .ref mm_refused, .int mm_lineFrom, .int mm_lineTo, .ref mm_stands, .ref mm_far, .ref mm_queue, .int mm_queued, .ref mm_meets, .ref mm_bytes, .int (nI bl), .int (nI z7), .int (nI z8), .int z9, .int z10, .ref mm_next, .int (nI vv)])), (mm_bytes, .inl (cy 1, 250, .inl mm_bytes_f))] H := hP
      have hD : va_D A [(mm, .inr (11, [.ref mm_now, .ref mm_kept, .ref mm_isKept, .ref mm_refused, .int mm_lineFrom, .int mm_lineTo, .ref mm_stands, .ref mm_far, .ref mm_queue, .int mm_queued, .ref mm_meets, .ref mm_bytes, .int (nI bl), .int (nI z7), .int (nI z8), .int z9, .int z10, .ref mm_next, .int (nI vv)])), (mm_bytes, .inl (cy 1, 250, .inl mm_bytes_f))] := hD
      have hwr6 : z7 + z8 ≤ bl ∧ (z9 = 0 ∨ 1 ≤ z8) ∧ ta + tl ≤ z7 := hwr6
      obtain ⟨har6, hbr6, hcr6⟩ := hwr6
      refine lv_iconst (v := 1) hx hb dX11_takes_37 (by decide) ?_
      subst hQF
      have hP9 := hP
      have hD9 := hD
      exact W.zret (v := 1) hx hb hr rfl (fun t ht hW => ⟨⟨1, (z7, z8, z9, z10, vv), rfl, (Or.inl ⟨rfl, (show z7 + z8 ≤ bl by omega), (by assumption), (show ta ≤ z7 by omega), (show vv ≤ 35 by omega), hv1, hv2⟩), by rw [ht]; exact hP9, hD9⟩, hS.F ht⟩) hS.2.2 dX11_takes_38
    · skip
      have hq11 := z_b0 hwr2 c3
      refine lv_iconst (v := 0) hx hb dX11_takes_23 (by decide) ?_
      subst hQF
      have hP9 := hP
      have hD9 := hD
      exact W.zret (v := 0) hx hb hr rfl (fun t ht hW => ⟨⟨0, (ta, tl, mm_token, mm_value, tk), rfl, (Or.inr ⟨rfl, htt, htz, Nat.le_refl _, htk⟩), by rw [ht]; exact hP9, hD9⟩, hS.F ht⟩) hS.2.2 dX11_takes_24
