theorem dX11_readsItem_0 : decode cX11_readsItem 0 = .ok (.aload_n 0, 1) := by decide +kernel
theorem dX11_readsItem_1 : decode cX11_readsItem 1 = .ok (.bipush 104, 2) := by decide +kernel
theorem dX11_readsItem_3 : decode cX11_readsItem 3 = .ok (.bipush 101, 2) := by decide +kernel
theorem dX11_readsItem_5 : decode cX11_readsItem 5 = .ok (.bipush 100, 2) := by decide +kernel
theorem dX11_readsItem_7 : decode cX11_readsItem 7 = .ok (.bipush 103, 2) := by decide +kernel
set_option maxRecDepth 20000 in
theorem ggX11_readsItem_X11_isWord : GoodIn wsX11_readsItem wsX11_isWord := goodIn_r _ [7, 8, 9, 10, 11, 73, 74, 75, 76, 77, 78, 79, 80, 81, 82, 83, 84, 85, 86, 87, 88, 89, 90, 91] (by decide +kernel) (by decide +kernel)
set_option maxRecDepth 20000 in
theorem gX11_readsItem_X11_isWord : GoodIn wsX11_readsItem (wsV RX11 236 RX11 yX11_isWord wsX11_isWord) := goodIn_app (goodIn_of _ (by decide +kernel)) ggX11_readsItem_X11_isWord
theorem dX11_readsItem_9 : decode cX11_readsItem 9 = .ok (.invokevirtual 236, 3) := by decide +kernel
theorem dX11_readsItem_32 : decode cX11_readsItem 32 = .ok (.aload_n 0, 1) := by decide +kernel
theorem dX11_readsItem_33 : decode cX11_readsItem 33 = .ok (.bipush 102, 2) := by decide +kernel
theorem dX11_readsItem_35 : decode cX11_readsItem 35 = .ok (.bipush 111, 2) := by decide +kernel
theorem dX11_readsItem_37 : decode cX11_readsItem 37 = .ok (.bipush 117, 2) := by decide +kernel
theorem dX11_readsItem_39 : decode cX11_readsItem 39 = .ok (.bipush 110, 2) := by decide +kernel
theorem dX11_readsItem_41 : decode cX11_readsItem 41 = .ok (.invokevirtual 236, 3) := by decide +kernel
theorem dX11_readsItem_112 : decode cX11_readsItem 112 = .ok (.aload_n 0, 1) := by decide +kernel
theorem dX11_readsItem_113 : decode cX11_readsItem 113 = .ok (.bipush 100, 2) := by decide +kernel
theorem dX11_readsItem_115 : decode cX11_readsItem 115 = .ok (.bipush 114, 2) := by decide +kernel
theorem dX11_readsItem_117 : decode cX11_readsItem 117 = .ok (.bipush 111, 2) := by decide +kernel
theorem dX11_readsItem_119 : decode cX11_readsItem 119 = .ok (.bipush 119, 2) := by decide +kernel
theorem dX11_readsItem_121 : decode cX11_readsItem 121 = .ok (.invokevirtual 236, 3) := by decide +kernel
theorem dX11_readsItem_162 : decode cX11_readsItem 162 = .ok (.aload_n 0, 1) := by decide +kernel
theorem dX11_readsItem_163 : decode cX11_readsItem 163 = .ok (.bipush 119, 2) := by decide +kernel
theorem dX11_readsItem_165 : decode cX11_readsItem 165 = .ok (.bipush 105, 2) := by decide +kernel
theorem dX11_readsItem_167 : decode cX11_readsItem 167 = .ok (.bipush 110, 2) := by decide +kernel
theorem dX11_readsItem_169 : decode cX11_readsItem 169 = .ok (.bipush 100, 2) := by decide +kernel
theorem dX11_readsItem_171 : decode cX11_readsItem 171 = .ok (.invokevirtual 236, 3) := by decide +kernel
theorem dX11_readsItem_193 : decode cX11_readsItem 193 = .ok (.aload_n 0, 1) := by decide +kernel
theorem dX11_readsItem_194 : decode cX11_readsItem 194 = .ok (.bipush 112, 2) := by decide +kernel
theorem dX11_readsItem_196 : decode cX11_readsItem 196 = .ok (.bipush 101, 2) := by decide +kernel
theorem dX11_readsItem_198 : decode cX11_readsItem 198 = .ok (.bipush 114, 2) := by decide +kernel
theorem dX11_readsItem_200 : decode cX11_readsItem 200 = .ok (.bipush 115, 2) := by decide +kernel
theorem dX11_readsItem_202 : decode cX11_readsItem 202 = .ok (.invokevirtual 236, 3) := by decide +kernel
theorem dX11_readsItem_226 : decode cX11_readsItem 226 = .ok (.aload_n 0, 1) := by decide +kernel
theorem dX11_readsItem_227 : decode cX11_readsItem 227 = .ok (.bipush 116, 2) := by decide +kernel
theorem dX11_readsItem_229 : decode cX11_readsItem 229 = .ok (.bipush 101, 2) := by decide +kernel
theorem dX11_readsItem_231 : decode cX11_readsItem 231 = .ok (.bipush 108, 2) := by decide +kernel
theorem dX11_readsItem_233 : decode cX11_readsItem 233 = .ok (.bipush 108, 2) := by decide +kernel
theorem dX11_readsItem_235 : decode cX11_readsItem 235 = .ok (.invokevirtual 236, 3) := by decide +kernel
theorem dX11_readsItem_238 : decode cX11_readsItem 238 = .ok (.ifCond .eq 25, 3) := by decide +kernel
theorem dX11_readsItem_263 : decode cX11_readsItem 263 = .ok (.iconst 0, 1) := by decide +kernel
theorem dX11_readsItem_264 : decode cX11_readsItem 264 = .ok (.ireturn, 1) := by decide +kernel
theorem dX11_readsItem_241 : decode cX11_readsItem 241 = .ok (.aload_n 0, 1) := by decide +kernel
theorem dX11_readsItem_242 : decode cX11_readsItem 242 = .ok (.iconst 0, 1) := by decide +kernel
theorem dX11_readsItem_243 : decode cX11_readsItem 243 = .ok (.iconst 0, 1) := by decide +kernel
theorem dX11_readsItem_244 : decode cX11_readsItem 244 = .ok (.iconst 0, 1) := by decide +kernel
theorem dX11_readsItem_245 : decode cX11_readsItem 245 = .ok (.iconst 0, 1) := by decide +kernel
set_option maxRecDepth 20000 in
theorem ggX11_readsItem_X11_goesOn : GoodIn wsX11_readsItem wsX11_goesOn := goodIn_r _ [15, 9, 10, 11, 73, 74, 75, 76, 77, 78, 79, 80, 81, 82, 83, 84, 85, 86, 87, 88, 89, 90, 91] (by decide +kernel) (by decide +kernel)
set_option maxRecDepth 20000 in
theorem gX11_readsItem_X11_goesOn : GoodIn wsX11_readsItem (wsV RX11 240 RX11 yX11_goesOn wsX11_goesOn) := goodIn_app (goodIn_of _ (by decide +kernel)) ggX11_readsItem_X11_goesOn
theorem dX11_readsItem_246 : decode cX11_readsItem 246 = .ok (.invokevirtual 240, 3) := by decide +kernel
theorem dX11_readsItem_249 : decode cX11_readsItem 249 = .ok (.ifCond .eq 14, 3) := by decide +kernel
theorem dX11_readsItem_252 : decode cX11_readsItem 252 = .ok (.aload_n 0, 1) := by decide +kernel
set_option maxRecDepth 20000 in
theorem ggX11_readsItem_X11_readsTell : GoodIn wsX11_readsItem wsX11_readsTell := goodIn_r _ [72, 1, 2, 8, 20, 21, 22, 23, 6, 24, 11, 9, 25, 26, 27, 28, 29, 10, 30, 31, 32, 33, 34, 35, 36, 37, 38, 39, 40, 41, 42, 54, 55, 56, 57, 73, 74, 75, 76, 77, 78, 79, 80, 81, 82, 83, 84, 85, 86, 87, 88, 89, 90, 91] (by decide +kernel) (by decide +kernel)
set_option maxRecDepth 20000 in
theorem gX11_readsItem_X11_readsTell : GoodIn wsX11_readsItem (wsV RX11 262 RX11 yX11_readsTell wsX11_readsTell) := goodIn_app (goodIn_of _ (by decide +kernel)) ggX11_readsItem_X11_readsTell
theorem dX11_readsItem_253 : decode cX11_readsItem 253 = .ok (.invokevirtual 262, 3) := by decide +kernel
theorem dX11_readsItem_256 : decode cX11_readsItem 256 = .ok (.ifCond .eq 7, 3) := by decide +kernel
theorem dX11_readsItem_259 : decode cX11_readsItem 259 = .ok (.iconst 1, 1) := by decide +kernel
theorem dX11_readsItem_260 : decode cX11_readsItem 260 = .ok (.goto 4, 3) := by decide +kernel
theorem dX11_readsItem_205 : decode cX11_readsItem 205 = .ok (.ifCond .eq 21, 3) := by decide +kernel
theorem dX11_readsItem_208 : decode cX11_readsItem 208 = .ok (.aload_n 0, 1) := by decide +kernel
theorem dX11_readsItem_209 : decode cX11_readsItem 209 = .ok (.bipush 111, 2) := by decide +kernel
theorem dX11_readsItem_211 : decode cX11_readsItem 211 = .ok (.bipush 110, 2) := by decide +kernel
theorem dX11_readsItem_213 : decode cX11_readsItem 213 = .ok (.iconst 0, 1) := by decide +kernel
theorem dX11_readsItem_214 : decode cX11_readsItem 214 = .ok (.iconst 0, 1) := by decide +kernel
theorem dX11_readsItem_215 : decode cX11_readsItem 215 = .ok (.invokevirtual 240, 3) := by decide +kernel
theorem dX11_readsItem_218 : decode cX11_readsItem 218 = .ok (.ifCond .eq 8, 3) := by decide +kernel
theorem dX11_readsItem_221 : decode cX11_readsItem 221 = .ok (.aload_n 0, 1) := by decide +kernel
set_option maxRecDepth 20000 in
theorem ggX11_readsItem_X11_readsPerson : GoodIn wsX11_readsItem wsX11_readsPerson := goodIn_r _ [65, 1, 2, 8, 20, 21, 22, 23, 6, 24, 11, 9, 25, 26, 27, 28, 29, 10, 30, 31, 32, 33, 34, 35, 36, 37, 38, 39, 40, 41, 42, 54, 55, 56, 57, 43, 44, 45, 46, 47, 48, 49, 50, 51, 52, 53, 66, 67, 68, 73, 74, 75, 76, 77, 78, 79, 80, 81, 82, 83, 84, 85, 86, 87, 88, 89, 90, 91] (by decide +kernel) (by decide +kernel)
set_option maxRecDepth 20000 in
theorem gX11_readsItem_X11_readsPerson : GoodIn wsX11_readsItem (wsV RX11 259 RX11 yX11_readsPerson wsX11_readsPerson) := goodIn_app (goodIn_of _ (by decide +kernel)) ggX11_readsItem_X11_readsPerson
theorem dX11_readsItem_222 : decode cX11_readsItem 222 = .ok (.invokevirtual 259, 3) := by decide +kernel
theorem dX11_readsItem_225 : decode cX11_readsItem 225 = .ok (.ireturn, 1) := by decide +kernel
theorem dX11_readsItem_174 : decode cX11_readsItem 174 = .ok (.ifCond .eq 19, 3) := by decide +kernel
theorem dX11_readsItem_177 : decode cX11_readsItem 177 = .ok (.aload_n 0, 1) := by decide +kernel
theorem dX11_readsItem_178 : decode cX11_readsItem 178 = .ok (.iconst 0, 1) := by decide +kernel
theorem dX11_readsItem_179 : decode cX11_readsItem 179 = .ok (.iconst 0, 1) := by decide +kernel
theorem dX11_readsItem_180 : decode cX11_readsItem 180 = .ok (.iconst 0, 1) := by decide +kernel
theorem dX11_readsItem_181 : decode cX11_readsItem 181 = .ok (.iconst 0, 1) := by decide +kernel
theorem dX11_readsItem_182 : decode cX11_readsItem 182 = .ok (.invokevirtual 240, 3) := by decide +kernel
theorem dX11_readsItem_185 : decode cX11_readsItem 185 = .ok (.ifCond .eq 8, 3) := by decide +kernel
theorem dX11_readsItem_188 : decode cX11_readsItem 188 = .ok (.aload_n 0, 1) := by decide +kernel
set_option maxRecDepth 20000 in
theorem ggX11_readsItem_X11_readsWind : GoodIn wsX11_readsItem wsX11_readsWind := goodIn_r _ [61, 8, 1, 2, 21, 22, 23, 6, 24, 11, 9, 25, 26, 27, 28, 29, 10, 20, 30, 31, 32, 33, 34, 35, 36, 37, 38, 39, 40, 41, 42, 54, 55, 56, 57, 73, 74, 75, 76, 77, 78, 79, 80, 81, 82, 83, 84, 85, 86, 87, 88, 89, 90, 91] (by decide +kernel) (by decide +kernel)
set_option maxRecDepth 20000 in
theorem gX11_readsItem_X11_readsWind : GoodIn wsX11_readsItem (wsV RX11 256 RX11 yX11_readsWind wsX11_readsWind) := goodIn_app (goodIn_of _ (by decide +kernel)) ggX11_readsItem_X11_readsWind
theorem dX11_readsItem_189 : decode cX11_readsItem 189 = .ok (.invokevirtual 256, 3) := by decide +kernel
theorem dX11_readsItem_192 : decode cX11_readsItem 192 = .ok (.ireturn, 1) := by decide +kernel
theorem dX11_readsItem_124 : decode cX11_readsItem 124 = .ok (.ifCond .eq 38, 3) := by decide +kernel
theorem dX11_readsItem_127 : decode cX11_readsItem 127 = .ok (.aload_n 0, 1) := by decide +kernel
theorem dX11_readsItem_128 : decode cX11_readsItem 128 = .ok (.bipush 110, 2) := by decide +kernel
theorem dX11_readsItem_130 : decode cX11_readsItem 130 = .ok (.iconst 0, 1) := by decide +kernel
theorem dX11_readsItem_131 : decode cX11_readsItem 131 = .ok (.iconst 0, 1) := by decide +kernel
theorem dX11_readsItem_132 : decode cX11_readsItem 132 = .ok (.iconst 0, 1) := by decide +kernel
theorem dX11_readsItem_133 : decode cX11_readsItem 133 = .ok (.invokevirtual 240, 3) := by decide +kernel
theorem dX11_readsItem_136 : decode cX11_readsItem 136 = .ok (.ifCond .eq 26, 3) := by decide +kernel
theorem dX11_readsItem_139 : decode cX11_readsItem 139 = .ok (.aload_n 0, 1) := by decide +kernel
set_option maxRecDepth 20000 in
theorem ggX11_readsItem_X11_goOn : GoodIn wsX11_readsItem wsX11_goOn := goodIn_r _ [24, 11, 9, 25, 26, 27, 6, 28, 29, 10, 8, 20, 30, 31, 32, 33, 34, 35, 36, 37, 38, 39, 40, 41, 42, 73, 74, 75, 76, 77, 78, 79, 80, 81, 82, 83, 84, 85, 86, 87, 88, 89, 90, 91] (by decide +kernel) (by decide +kernel)
set_option maxRecDepth 20000 in
theorem gX11_readsItem_X11_goOn : GoodIn wsX11_readsItem (wsV RX11 233 RX11 yX11_goOn wsX11_goOn) := goodIn_app (goodIn_of _ (by decide +kernel)) ggX11_readsItem_X11_goOn
theorem dX11_readsItem_140 : decode cX11_readsItem 140 = .ok (.invokevirtual 233, 3) := by decide +kernel
theorem dX11_readsItem_143 : decode cX11_readsItem 143 = .ok (.aload_n 0, 1) := by decide +kernel
theorem dX11_readsItem_144 : decode cX11_readsItem 144 = .ok (.iconst 0, 1) := by decide +kernel
theorem dX11_readsItem_145 : decode cX11_readsItem 145 = .ok (.iconst 4, 1) := by decide +kernel
set_option maxRecDepth 20000 in
theorem ggX11_readsItem_X11_takes : GoodIn wsX11_readsItem wsX11_takes := goodIn_r _ [57, 8, 20, 2, 35, 36, 6, 37, 21, 22, 23, 24, 11, 9, 25, 26, 27, 28, 29, 10, 30, 31, 32, 33, 34, 38, 39, 40, 41, 42, 73, 74, 75, 76, 77, 78, 79, 80, 81, 82, 83, 84, 85, 86, 87, 88, 89, 90, 91] (by decide +kernel) (by decide +kernel)
set_option maxRecDepth 20000 in
theorem gX11_readsItem_X11_takes : GoodIn wsX11_readsItem (wsV RX11 243 RX11 yX11_takes wsX11_takes) := goodIn_app (goodIn_of _ (by decide +kernel)) ggX11_readsItem_X11_takes
theorem dX11_readsItem_146 : decode cX11_readsItem 146 = .ok (.invokevirtual 243, 3) := by decide +kernel
theorem dX11_readsItem_149 : decode cX11_readsItem 149 = .ok (.istore_n 1, 1) := by decide +kernel
theorem dX11_readsItem_150 : decode cX11_readsItem 150 = .ok (.aload_n 0, 1) := by decide +kernel
theorem dX11_readsItem_151 : decode cX11_readsItem 151 = .ok (.getfield 38, 3) := by decide +kernel
theorem dX11_readsItem_154 : decode cX11_readsItem 154 = .ok (.iconst 2, 1) := by decide +kernel
theorem dX11_readsItem_155 : decode cX11_readsItem 155 = .ok (.aload_n 0, 1) := by decide +kernel
theorem dX11_readsItem_156 : decode cX11_readsItem 156 = .ok (.getfield 230, 3) := by decide +kernel
theorem dX11_readsItem_159 : decode cX11_readsItem 159 = .ok (.iastore, 1) := by decide +kernel
theorem dX11_readsItem_160 : decode cX11_readsItem 160 = .ok (.iload_n 1, 1) := by decide +kernel
theorem dX11_readsItem_161 : decode cX11_readsItem 161 = .ok (.ireturn, 1) := by decide +kernel
theorem dX11_readsItem_44 : decode cX11_readsItem 44 = .ok (.ifCond .eq 68, 3) := by decide +kernel
theorem dX11_readsItem_47 : decode cX11_readsItem 47 = .ok (.aload_n 0, 1) := by decide +kernel
theorem dX11_readsItem_48 : decode cX11_readsItem 48 = .ok (.bipush 116, 2) := by decide +kernel
theorem dX11_readsItem_50 : decode cX11_readsItem 50 = .ok (.bipush 97, 2) := by decide +kernel
theorem dX11_readsItem_52 : decode cX11_readsItem 52 = .ok (.bipush 105, 2) := by decide +kernel
theorem dX11_readsItem_54 : decode cX11_readsItem 54 = .ok (.bipush 110, 2) := by decide +kernel
theorem dX11_readsItem_56 : decode cX11_readsItem 56 = .ok (.invokevirtual 240, 3) := by decide +kernel
theorem dX11_readsItem_59 : decode cX11_readsItem 59 = .ok (.ifCond .eq 53, 3) := by decide +kernel
theorem dX11_readsItem_62 : decode cX11_readsItem 62 = .ok (.aload_n 0, 1) := by decide +kernel
theorem dX11_readsItem_63 : decode cX11_readsItem 63 = .ok (.invokevirtual 233, 3) := by decide +kernel
theorem dX11_readsItem_66 : decode cX11_readsItem 66 = .ok (.aload_n 0, 1) := by decide +kernel
theorem dX11_readsItem_67 : decode cX11_readsItem 67 = .ok (.iconst 0, 1) := by decide +kernel
theorem dX11_readsItem_68 : decode cX11_readsItem 68 = .ok (.aload_n 0, 1) := by decide +kernel
set_option maxRecDepth 20000 in
theorem ggX11_readsItem_X11_nextSquares : GoodIn wsX11_readsItem wsX11_nextSquares := goodIn_r _ [50, 1, 73, 74, 75, 76, 77, 78, 79, 80, 81, 82, 83, 84, 85, 86, 87, 88, 89, 90, 91] (by decide +kernel) (by decide +kernel)
set_option maxRecDepth 20000 in
theorem gX11_readsItem_X11_nextSquares : GoodIn wsX11_readsItem (wsV RX11 246 RX11 yX11_nextSquares wsX11_nextSquares) := goodIn_app (goodIn_of _ (by decide +kernel)) ggX11_readsItem_X11_nextSquares
theorem dX11_readsItem_69 : decode cX11_readsItem 69 = .ok (.invokevirtual 246, 3) := by decide +kernel
theorem dX11_readsItem_72 : decode cX11_readsItem 72 = .ok (.iconst 1, 1) := by decide +kernel
theorem dX11_readsItem_73 : decode cX11_readsItem 73 = .ok (.isub, 1) := by decide +kernel
theorem dX11_readsItem_74 : decode cX11_readsItem 74 = .ok (.invokevirtual 243, 3) := by decide +kernel
theorem dX11_readsItem_77 : decode cX11_readsItem 77 = .ok (.istore_n 1, 1) := by decide +kernel
theorem dX11_readsItem_78 : decode cX11_readsItem 78 = .ok (.aload_n 0, 1) := by decide +kernel
theorem dX11_readsItem_79 : decode cX11_readsItem 79 = .ok (.getfield 38, 3) := by decide +kernel
theorem dX11_readsItem_82 : decode cX11_readsItem 82 = .ok (.bipush 56, 2) := by decide +kernel
theorem dX11_readsItem_84 : decode cX11_readsItem 84 = .ok (.aload_n 0, 1) := by decide +kernel
theorem dX11_readsItem_85 : decode cX11_readsItem 85 = .ok (.getfield 230, 3) := by decide +kernel
theorem dX11_readsItem_88 : decode cX11_readsItem 88 = .ok (.iadd, 1) := by decide +kernel
theorem dX11_readsItem_89 : decode cX11_readsItem 89 = .ok (.iload_n 1, 1) := by decide +kernel
theorem dX11_readsItem_90 : decode cX11_readsItem 90 = .ok (.ifCond .eq 7, 3) := by decide +kernel
theorem dX11_readsItem_97 : decode cX11_readsItem 97 = .ok (.aload_n 0, 1) := by decide +kernel
theorem dX11_readsItem_98 : decode cX11_readsItem 98 = .ok (.getfield 38, 3) := by decide +kernel
theorem dX11_readsItem_101 : decode cX11_readsItem 101 = .ok (.bipush 56, 2) := by decide +kernel
theorem dX11_readsItem_103 : decode cX11_readsItem 103 = .ok (.aload_n 0, 1) := by decide +kernel
theorem dX11_readsItem_104 : decode cX11_readsItem 104 = .ok (.getfield 230, 3) := by decide +kernel
theorem dX11_readsItem_107 : decode cX11_readsItem 107 = .ok (.iadd, 1) := by decide +kernel
theorem dX11_readsItem_108 : decode cX11_readsItem 108 = .ok (.iaload, 1) := by decide +kernel
theorem dX11_readsItem_109 : decode cX11_readsItem 109 = .ok (.iastore, 1) := by decide +kernel
theorem dX11_readsItem_110 : decode cX11_readsItem 110 = .ok (.iload_n 1, 1) := by decide +kernel
theorem dX11_readsItem_111 : decode cX11_readsItem 111 = .ok (.ireturn, 1) := by decide +kernel
theorem dX11_readsItem_93 : decode cX11_readsItem 93 = .ok (.iconst 1, 1) := by decide +kernel
theorem dX11_readsItem_94 : decode cX11_readsItem 94 = .ok (.goto 15, 3) := by decide +kernel
theorem dX11_readsItem_12 : decode cX11_readsItem 12 = .ok (.ifCond .eq 20, 3) := by decide +kernel
theorem dX11_readsItem_15 : decode cX11_readsItem 15 = .ok (.aload_n 0, 1) := by decide +kernel
theorem dX11_readsItem_16 : decode cX11_readsItem 16 = .ok (.bipush 101, 2) := by decide +kernel
theorem dX11_readsItem_18 : decode cX11_readsItem 18 = .ok (.iconst 0, 1) := by decide +kernel
theorem dX11_readsItem_19 : decode cX11_readsItem 19 = .ok (.iconst 0, 1) := by decide +kernel
theorem dX11_readsItem_20 : decode cX11_readsItem 20 = .ok (.iconst 0, 1) := by decide +kernel
theorem dX11_readsItem_21 : decode cX11_readsItem 21 = .ok (.invokevirtual 240, 3) := by decide +kernel
theorem dX11_readsItem_24 : decode cX11_readsItem 24 = .ok (.ifCond .eq 8, 3) := by decide +kernel
theorem dX11_readsItem_27 : decode cX11_readsItem 27 = .ok (.aload_n 0, 1) := by decide +kernel
set_option maxRecDepth 20000 in
theorem ggX11_readsItem_X11_readsHedge : GoodIn wsX11_readsItem wsX11_readsHedge := goodIn_r _ [19, 8, 20, 1, 21, 22, 23, 6, 24, 11, 9, 25, 26, 27, 28, 29, 10, 30, 31, 32, 33, 34, 35, 36, 37, 38, 39, 40, 41, 42, 43, 44, 45, 46, 47, 48, 49, 50, 51, 52, 53, 73, 74, 75, 76, 77, 78, 79, 80, 81, 82, 83, 84, 85, 86, 87, 88, 89, 90, 91] (by decide +kernel) (by decide +kernel)
set_option maxRecDepth 20000 in
theorem gX11_readsItem_X11_readsHedge : GoodIn wsX11_readsItem (wsV RX11 252 RX11 yX11_readsHedge wsX11_readsHedge) := goodIn_app (goodIn_of _ (by decide +kernel)) ggX11_readsItem_X11_readsHedge
theorem dX11_readsItem_28 : decode cX11_readsItem 28 = .ok (.invokevirtual 252, 3) := by decide +kernel
theorem dX11_readsItem_31 : decode cX11_readsItem 31 = .ok (.ireturn, 1) := by decide +kernel
set_option maxHeartbeats 4000000 in
set_option maxRecDepth 100000 in
theorem n_X11_readsItem (l : Launch) (D : va_G) (cy : Nat → ClassId) (mm : Nat) (mm_now : Nat) (mm_kept : Nat) (mm_isKept : Nat) (mm_refused : Nat) (mm_lineFrom : Int32) (mm_lineTo : Int32) (mm_stands : Nat) (mm_far : Nat) (mm_queue : Nat) (mm_queued : Int32) (mm_meets : Nat) (mm_bytes : Nat) (bl : Nat) (ta : Nat) (tl : Nat) (mm_token : Int32) (mm_value : Int32) (mm_next : Nat) (tk : Nat) (mm_bytes_f : Nat → Int32) (mm_next_f : Nat → Int32) (sz : Nat) (hbl : bl ≤ 250) (htt : ta + tl ≤ bl) (htz : mm_token = 0 ∨ 1 ≤ tl) (htk : tk ≤ 35) (hXN : mN mm_next_f) : Met l yX11_readsItem wsX11_readsItem ({ frames := 6, cells := 0, slots := 0, locals := 133 }) (va_Pc [.ref mm] (kPre D cy [(mm, .inr (11, [.ref mm_now, .ref mm_kept, .ref mm_isKept, .ref mm_refused, .int mm_lineFrom, .int mm_lineTo, .ref mm_stands, .ref mm_far, .ref mm_queue, .int mm_queued, .ref mm_meets, .ref mm_bytes, .int (nI bl), .int (nI ta), .int (nI tl), .int mm_token, .int mm_value, .ref mm_next, .int (nI tk)])), (mm_bytes, .inl (cy 1, 250, .inl mm_bytes_f)), (mm_next, .inl (cy 1, 122, .inl mm_next_f))] sz)) (va_Qi (fun (r : Int32) (u : Nat × Nat × Int32 × Int32 × Nat × (Nat → Int32)) => (r = 1 ∧ (u.1 + u.2.1 ≤ bl ∧ (u.2.2.1 = 0 ∨ 1 ≤ u.2.1) ∧ ta ≤ u.1 ∧ u.2.2.2.2.1 ≤ 35 ∧ mN u.2.2.2.2.2)) ∨ (r = 0 ∧ (u.1 + u.2.1 ≤ bl ∧ (u.2.2.1 = 0 ∨ 1 ≤ u.2.1) ∧ ta ≤ u.1 ∧ u.2.2.2.2.1 ≤ 35 ∧ mN u.2.2.2.2.2))) (fun (u : Nat × Nat × Int32 × Int32 × Nat × (Nat → Int32)) t => va_P D vwCl ([(mm, .inr (11, [.ref mm_now, .ref mm_kept, .ref mm_isKept, .ref mm_refused, .int mm_lineFrom, .int mm_lineTo, .ref mm_stands, .ref mm_far, .ref mm_queue, .int mm_queued, .ref mm_meets, .ref mm_bytes, .int (nI bl), .int (nI u.1), .int (nI u.2.1), .int u.2.2.1, .int u.2.2.2.1, .ref mm_next, .int (nI u.2.2.2.2.1)])), (mm_bytes, .inl (cy 1, 250, .inl mm_bytes_f)), (mm_next, .inl (cy 1, 122, .inl u.2.2.2.2.2))]) t.heap ∧ va_D (va_A [(mm, .inr (11, [.ref mm_now, .ref mm_kept, .ref mm_isKept, .ref mm_refused, .int mm_lineFrom, .int mm_lineTo, .ref mm_stands, .ref mm_far, .ref mm_queue, .int mm_queued, .ref mm_meets, .ref mm_bytes, .int (nI bl), .int (nI ta), .int (nI tl), .int mm_token, .int mm_value, .ref mm_next, .int (nI tk)])), (mm_bytes, .inl (cy 1, 250, .inl mm_bytes_f)), (mm_next, .inl (cy 1, 122, .inl mm_next_f))] sz) ([(mm, .inr (11, [.ref mm_now, .ref mm_kept, .ref mm_isKept, .ref mm_refused, .int mm_lineFrom, .int mm_lineTo, .ref mm_stands, .ref mm_far, .ref mm_queue, .int mm_queued, .ref mm_meets, .ref mm_bytes, .int (nI bl), .int (nI u.1), .int (nI u.2.1), .int u.2.2.1, .int u.2.2.2.1, .ref mm_next, .int (nI u.2.2.2.2.1)])), (mm_bytes, .inl (cy 1, 250, .inl mm_bytes_f)), (mm_next, .inl (cy 1, 122, .inl u.2.2.2.2.2))])) (va_A [(mm, .inr (11, [.ref mm_now, .ref mm_kept, .ref mm_isKept, .ref mm_refused, .int mm_lineFrom, .int mm_lineTo, .ref mm_stands, .ref mm_far, .ref mm_queue, .int mm_queued, .ref mm_meets, .ref mm_bytes, .int (nI bl), .int (nI ta), .int (nI tl), .int mm_token, .int mm_value, .ref mm_next, .int (nI tk)])), (mm_bytes, .inl (cy 1, 250, .inl mm_bytes_f)), (mm_next, .inl (cy 1, 122, .inl mm_next_f))] sz)) 0 0 (va_A [(mm, .inr (11, [.ref mm_now, .ref mm_kept, .ref mm_isKept, .ref mm_refused, .int mm_lineFrom, .int mm_lineTo, .ref mm_stands, .ref mm_far, .ref mm_queue, .int mm_queued, .ref mm_meets, .ref mm_bytes, .int (nI bl), .int (nI ta), .int (nI tl), .int mm_token, .int mm_value, .ref mm_next, .int (nI tk)])), (mm_bytes, .inl (cy 1, 250, .inl mm_bytes_f)), (mm_next, .inl (cy 1, 122, .inl mm_next_f))] sz) := by
  refine Met.ofW (cc := cX11_readsItem) (maxL := 2) (ret := (some .boolean)) (by decide) rfl ?_
  intro p e s m args below meth c s₁ B hml hv
  obtain ⟨rfl, hsz, hP, hKA, hD0⟩ := hv
  have hx := B.exec
  have hb := B.bytes
  have hr := B.returns
  have hts := atoms_spec (ws := wsX11_readsItem) B.pre
  have hown : s.vm.findClass RX11 = some m.cls := findClass_of_methodNamed B.named
  have hlocks := B.notSynchronized
  subst hsz
  have hK := hKA.1
  have hD := hD0.self (sz := s.heap.size)
  generalize hAe : va_A [(mm, .inr (11, [.ref mm_now, .ref mm_kept, .ref mm_isKept, .ref mm_refused, .int mm_lineFrom, .int mm_lineTo, .ref mm_stands, .ref mm_far, .ref mm_queue, .int mm_queued, .ref mm_meets, .ref mm_bytes, .int (nI bl), .int (nI ta), .int (nI tl), .int mm_token, .int mm_value, .ref mm_next, .int (nI tk)])), (mm_bytes, .inl (cy 1, 250, .inl mm_bytes_f)), (mm_next, .inl (cy 1, 122, .inl mm_next_f))] s.heap.size = A at hD ⊢
  have hA : ∀ q : Nat, s.heap.size ≤ q → A q := fun q h => by rw [← hAe]; exact Or.inr h
  have hS : va_S A s.heap s.heap [] := va_S.rf
  have hP : va_P D vwCl [(mm, .inr (11, [.ref mm_now, .ref mm_kept, .ref mm_isKept, .ref mm_refused, .int mm_lineFrom, .int mm_lineTo, .ref mm_stands, .ref mm_far, .ref mm_queue, .int mm_queued, .ref mm_meets, .ref mm_bytes, .int (nI bl), .int (nI ta), .int (nI tl), .int mm_token, .int mm_value, .ref mm_next, .int (nI tk)])), (mm_bytes, .inl (cy 1, 250, .inl mm_bytes_f)), (mm_next, .inl (cy 1, 122, .inl mm_next_f))] s.heap := hP
  have hl := lv_entry ([.ref mm]) (n := 2) (Nat.le_of_ble_eq_true rfl)
  rw [lg_entry_eq]
  generalize (lg_sl ([.ref mm]) ++ List.replicate (2 - (lg_sl ([.ref mm])).length) Slot.unset).toArray = ls at hl ⊢
  have hl : lv_has ls 2 [(0, .ref mm)] := hl
  refine qW (fun QF hQF => ?_)
  have z0_ := hts (.fieldLink RX11 38 "HeardSeenModel" "next" "[I") (by decide +kernel)
  have zi11_ : ∀ w ∈ u_ws RX11 TX11 19, w ∈ wsX11_readsItem := by decide +kernel
  have z2_ := hts (.fieldLink RX11 230 "HeardSeenModel" "taken" "I") (by decide +kernel)
  obtain ⟨xW, xH, xS, xP, hX⟩ := hXN
  obtain ⟨hxW2, hxW6, hxH2, hxH6, hxSe, hxS4, hxS6, hxP5⟩ := hX.rng
  have c1 : (1 : Int32).toInt = 1 := by decide
  have c4 : (4 : Int32).toInt = 4 := by decide
  have c5 : (5 : Int32).toInt = 5 := by decide
  have c6 : (6 : Int32).toInt = 6 := by decide
  have c9 : (9 : Int32).toInt = 9 := by decide
  refine lv_aload_n hx hb dX11_readsItem_0 rfl (lv_at hl 0 rfl) ?_
  refine lv_bipush (v := 104) hx hb dX11_readsItem_1 (by decide) ?_
  refine lv_bipush (v := 101) hx hb dX11_readsItem_3 (by decide) ?_
  refine lv_bipush (v := 100) hx hb dX11_readsItem_5 (by decide) ?_
  refine lv_bipush (v := 103) hx hb dX11_readsItem_7 (by decide) ?_
  refine rd_i (va_runV (As := [.int 104, .int 101, .int 100, .int 103]) (rest := []) ⟨hx, hb, hml, hown, hts⟩ (n_X11_isWord l D cy mm mm_now mm_kept mm_isKept mm_refused mm_lineFrom mm_lineTo mm_stands mm_far mm_queue mm_queued mm_meets mm_bytes bl ta tl mm_token mm_value mm_next tk mm_bytes_f (104) (101) (100) (103) _ (by first | assumption | omega) (by first | assumption | omega)) (cwV 4 hts gX11_readsItem_X11_isWord rfl rfl rfl (by decide +kernel) ⟨Nat.le_of_ble_eq_true rfl, Nat.le_of_ble_eq_true rfl⟩) (pV (ci := 11) (k := 0) hKA (hP.sub (ws' := [(mm, .inr (11, [.ref mm_now, .ref mm_kept, .ref mm_isKept, .ref mm_refused, .int mm_lineFrom, .int mm_lineTo, .ref mm_stands, .ref mm_far, .ref mm_queue, .int mm_queued, .ref mm_meets, .ref mm_bytes, .int (nI bl), .int (nI ta), .int (nI tl), .int mm_token, .int mm_value, .ref mm_next, .int (nI tk)])), (mm_bytes, .inl (cy 1, 250, .inl mm_bytes_f))]) [0, 1] rfl) (hD.sub (ws' := [(mm, .inr (11, [.ref mm_now, .ref mm_kept, .ref mm_isKept, .ref mm_refused, .int mm_lineFrom, .int mm_lineTo, .ref mm_stands, .ref mm_far, .ref mm_queue, .int mm_queued, .ref mm_meets, .ref mm_bytes, .int (nI bl), .int (nI ta), .int (nI tl), .int mm_token, .int mm_value, .ref mm_next, .int (nI tk)])), (mm_bytes, .inl (cy 1, 250, .inl mm_bytes_f))]) [0, 1] (by decide) rfl) rfl rfl) rfl rfl hl.1 rfl (lv_room (Nat.le_of_ble_eq_true rfl)) dX11_readsItem_9 ⟨Nat.le_of_ble_eq_true rfl, Nat.le_of_ble_eq_true rfl⟩) hP hS hA (fun r1 H locs hwr1 hP hS => ?_)
  have hwr1 : (r1 = 1 ∧ True) ∨ (r1 = 0 ∧ True) := hwr1
  have j32 : ∀ (H : Heap) (locs : List Loc), va_P D vwCl [(mm, .inr (11, [.ref mm_now, .ref mm_kept, .ref mm_isKept, .ref mm_refused, .int mm_lineFrom, .int mm_lineTo, .ref mm_stands, .ref mm_far, .ref mm_queue, .int mm_queued, .ref mm_meets, .ref mm_bytes, .int (nI bl), .int (nI ta), .int (nI tl), .int mm_token, .int mm_value, .ref mm_next, .int (nI tk)])), (mm_bytes, .inl (cy 1, 250, .inl mm_bytes_f)), (mm_next, .inl (cy 1, 122, .inl mm_next_f))] H → va_D A [(mm, .inr (11, [.ref mm_now, .ref mm_kept, .ref mm_isKept, .ref mm_refused, .int mm_lineFrom, .int mm_lineTo, .ref mm_stands, .ref mm_far, .ref mm_queue, .int mm_queued, .ref mm_meets, .ref mm_bytes, .int (nI bl), .int (nI ta), .int (nI tl), .int mm_token, .int mm_value, .ref mm_next, .int (nI tk)])), (mm_bytes, .inl (cy 1, 250, .inl mm_bytes_f)), (mm_next, .inl (cy 1, 122, .inl mm_next_f))] → va_S A s.heap H locs → ∀ ls : Array Slot, lv_has ls 2 [(0, .ref mm)] → W p l e (headSpec wsX11_readsItem ({ frames := 6, cells := 0, slots := 0, locals := 133 })).room s m [.ref mm].toArray below meth c H locs 0 0 QF (F0 m 32 ls []) := by
    intro  H locs hP hD hS ls hl
    refine lv_aload_n hx hb dX11_readsItem_32 rfl (lv_at hl 0 rfl) ?_
    refine lv_bipush (v := 102) hx hb dX11_readsItem_33 (by decide) ?_
    refine lv_bipush (v := 111) hx hb dX11_readsItem_35 (by decide) ?_
    refine lv_bipush (v := 117) hx hb dX11_readsItem_37 (by decide) ?_
    refine lv_bipush (v := 110) hx hb dX11_readsItem_39 (by decide) ?_
    refine rd_i (va_runV (As := [.int 102, .int 111, .int 117, .int 110]) (rest := []) ⟨hx, hb, hml, hown, hts⟩ (n_X11_isWord l D cy mm mm_now mm_kept mm_isKept mm_refused mm_lineFrom mm_lineTo mm_stands mm_far mm_queue mm_queued mm_meets mm_bytes bl ta tl mm_token mm_value mm_next tk mm_bytes_f (102) (111) (117) (110) _ (by first | assumption | omega) (by first | assumption | omega)) (cwV 4 hts gX11_readsItem_X11_isWord rfl rfl rfl (by decide +kernel) ⟨Nat.le_of_ble_eq_true rfl, Nat.le_of_ble_eq_true rfl⟩) (pV (ci := 11) (k := 0) hKA (hP.sub (ws' := [(mm, .inr (11, [.ref mm_now, .ref mm_kept, .ref mm_isKept, .ref mm_refused, .int mm_lineFrom, .int mm_lineTo, .ref mm_stands, .ref mm_far, .ref mm_queue, .int mm_queued, .ref mm_meets, .ref mm_bytes, .int (nI bl), .int (nI ta), .int (nI tl), .int mm_token, .int mm_value, .ref mm_next, .int (nI tk)])), (mm_bytes, .inl (cy 1, 250, .inl mm_bytes_f))]) [0, 1] rfl) (hD.sub (ws' := [(mm, .inr (11, [.ref mm_now, .ref mm_kept, .ref mm_isKept, .ref mm_refused, .int mm_lineFrom, .int mm_lineTo, .ref mm_stands, .ref mm_far, .ref mm_queue, .int mm_queued, .ref mm_meets, .ref mm_bytes, .int (nI bl), .int (nI ta), .int (nI tl), .int mm_token, .int mm_value, .ref mm_next, .int (nI tk)])), (mm_bytes, .inl (cy 1, 250, .inl mm_bytes_f))]) [0, 1] (by decide) rfl) rfl rfl) rfl rfl hl.1 rfl (lv_room (Nat.le_of_ble_eq_true rfl)) dX11_readsItem_41 ⟨Nat.le_of_ble_eq_true rfl, Nat.le_of_ble_eq_true rfl⟩) hP hS hA (fun r2 H locs hwr2 hP hS => ?_)
    have hwr2 : (r2 = 1 ∧ True) ∨ (r2 = 0 ∧ True) := hwr2
    have j112 : ∀ (H : Heap) (locs : List Loc), va_P D vwCl [(mm, .inr (11, [.ref mm_now, .ref mm_kept, .ref mm_isKept, .ref mm_refused, .int mm_lineFrom, .int mm_lineTo, .ref mm_stands, .ref mm_far, .ref mm_queue, .int mm_queued, .ref mm_meets, .ref mm_bytes, .int (nI bl), .int (nI ta), .int (nI tl), .int mm_token, .int mm_value, .ref mm_next, .int (nI tk)])), (mm_bytes, .inl (cy 1, 250, .inl mm_bytes_f)), (mm_next, .inl (cy 1, 122, .inl mm_next_f))] H → va_D A [(mm, .inr (11, [.ref mm_now, .ref mm_kept, .ref mm_isKept, .ref mm_refused, .int mm_lineFrom, .int mm_lineTo, .ref mm_stands, .ref mm_far, .ref mm_queue, .int mm_queued, .ref mm_meets, .ref mm_bytes, .int (nI bl), .int (nI ta), .int (nI tl), .int mm_token, .int mm_value, .ref mm_next, .int (nI tk)])), (mm_bytes, .inl (cy 1, 250, .inl mm_bytes_f)), (mm_next, .inl (cy 1, 122, .inl mm_next_f))] → va_S A s.heap H locs → ∀ ls : Array Slot, lv_has ls 2 [(0, .ref mm)] → W p l e (headSpec wsX11_readsItem ({ frames := 6, cells := 0, slots := 0, locals := 133 })).room s m [.ref mm].toArray below meth c H locs 0 0 QF (F0 m 112 ls []) := by
      intro  H locs hP hD hS ls hl
      refine lv_aload_n hx hb dX11_readsItem_112 rfl (lv_at hl 0 rfl) ?_
      refine lv_bipush (v := 100) hx hb dX11_readsItem_113 (by decide) ?_
      refine lv_bipush (v := 114) hx hb dX11_readsItem_115 (by decide) ?_
      refine lv_bipush (v := 111) hx hb dX11_readsItem_117 (by decide) ?_
      refine lv_bipush (v := 119) hx hb dX11_readsItem_119 (by decide) ?_
      refine rd_i (va_runV (As := [.int 100, .int 114, .int 111, .int 119]) (rest := []) ⟨hx, hb, hml, hown, hts⟩ (n_X11_isWord l D cy mm mm_now mm_kept mm_isKept mm_refused mm_lineFrom mm_lineTo mm_stands mm_far mm_queue mm_queued mm_meets mm_bytes bl ta tl mm_token mm_value mm_next tk mm_bytes_f (100) (114) (111) (119) _ (by first | assumption | omega) (by first | assumption | omega)) (cwV 4 hts gX11_readsItem_X11_isWord rfl rfl rfl (by decide +kernel) ⟨Nat.le_of_ble_eq_true rfl, Nat.le_of_ble_eq_true rfl⟩) (pV (ci := 11) (k := 0) hKA (hP.sub (ws' := [(mm, .inr (11, [.ref mm_now, .ref mm_kept, .ref mm_isKept, .ref mm_refused, .int mm_lineFrom, .int mm_lineTo, .ref mm_stands, .ref mm_far, .ref mm_queue, .int mm_queued, .ref mm_meets, .ref mm_bytes, .int (nI bl), .int (nI ta), .int (nI tl), .int mm_token, .int mm_value, .ref mm_next, .int (nI tk)])), (mm_bytes, .inl (cy 1, 250, .inl mm_bytes_f))]) [0, 1] rfl) (hD.sub (ws' := [(mm, .inr (11, [.ref mm_now, .ref mm_kept, .ref mm_isKept, .ref mm_refused, .int mm_lineFrom, .int mm_lineTo, .ref mm_stands, .ref mm_far, .ref mm_queue, .int mm_queued, .ref mm_meets, .ref mm_bytes, .int (nI bl), .int (nI ta), .int (nI tl), .int mm_token, .int mm_value, .ref mm_next, .int (nI tk)])), (mm_bytes, .inl (cy 1, 250, .inl mm_bytes_f))]) [0, 1] (by decide) rfl) rfl rfl) rfl rfl hl.1 rfl (lv_room (Nat.le_of_ble_eq_true rfl)) dX11_readsItem_121 ⟨Nat.le_of_ble_eq_true rfl, Nat.le_of_ble_eq_true rfl⟩) hP hS hA (fun r3 H locs hwr3 hP hS => ?_)
      have hwr3 : (r3 = 1 ∧ True) ∨ (r3 = 0 ∧ True) := hwr3
      have j162 : ∀ (H : Heap) (locs : List Loc), va_P D vwCl [(mm, .inr (11, [.ref mm_now, .ref mm_kept, .ref mm_isKept, .ref mm_refused, .int mm_lineFrom, .int mm_lineTo, .ref mm_stands, .ref mm_far, .ref mm_queue, .int mm_queued, .ref mm_meets, .ref mm_bytes, .int (nI bl), .int (nI ta), .int (nI tl), .int mm_token, .int mm_value, .ref mm_next, .int (nI tk)])), (mm_bytes, .inl (cy 1, 250, .inl mm_bytes_f)), (mm_next, .inl (cy 1, 122, .inl mm_next_f))] H → va_D A [(mm, .inr (11, [.ref mm_now, .ref mm_kept, .ref mm_isKept, .ref mm_refused, .int mm_lineFrom, .int mm_lineTo, .ref mm_stands, .ref mm_far, .ref mm_queue, .int mm_queued, .ref mm_meets, .ref mm_bytes, .int (nI bl), .int (nI ta), .int (nI tl), .int mm_token, .int mm_value, .ref mm_next, .int (nI tk)])), (mm_bytes, .inl (cy 1, 250, .inl mm_bytes_f)), (mm_next, .inl (cy 1, 122, .inl mm_next_f))] → va_S A s.heap H locs → ∀ ls : Array Slot, lv_has ls 2 [(0, .ref mm)] → W p l e (headSpec wsX11_readsItem ({ frames := 6, cells := 0, slots := 0, locals := 133 })).room s m [.ref mm].toArray below meth c H locs 0 0 QF (F0 m 162 ls []) := by
        intro  H locs hP hD hS ls hl
        refine lv_aload_n hx hb dX11_readsItem_162 rfl (lv_at hl 0 rfl) ?_
        refine lv_bipush (v := 119) hx hb dX11_readsItem_163 (by decide) ?_
        refine lv_bipush (v := 105) hx hb dX11_readsItem_165 (by decide) ?_
        refine lv_bipush (v := 110) hx hb dX11_readsItem_167 (by decide) ?_
        refine lv_bipush (v := 100) hx hb dX11_readsItem_169 (by decide) ?_
        refine rd_i (va_runV (As := [.int 119, .int 105, .int 110, .int 100]) (rest := []) ⟨hx, hb, hml, hown, hts⟩ (n_X11_isWord l D cy mm mm_now mm_kept mm_isKept mm_refused mm_lineFrom mm_lineTo mm_stands mm_far mm_queue mm_queued mm_meets mm_bytes bl ta tl mm_token mm_value mm_next tk mm_bytes_f (119) (105) (110) (100) _ (by first | assumption | omega) (by first | assumption | omega)) (cwV 4 hts gX11_readsItem_X11_isWord rfl rfl rfl (by decide +kernel) ⟨Nat.le_of_ble_eq_true rfl, Nat.le_of_ble_eq_true rfl⟩) (pV (ci := 11) (k := 0) hKA (hP.sub (ws' := [(mm, .inr (11, [.ref mm_now, .ref mm_kept, .ref mm_isKept, .ref mm_refused, .int mm_lineFrom, .int mm_lineTo, .ref mm_stands, .ref mm_far, .ref mm_queue, .int mm_queued, .ref mm_meets, .ref mm_bytes, .int (nI bl), .int (nI ta), .int (nI tl), .int mm_token, .int mm_value, .ref mm_next, .int (nI tk)])), (mm_bytes, .inl (cy 1, 250, .inl mm_bytes_f))]) [0, 1] rfl) (hD.sub (ws' := [(mm, .inr (11, [.ref mm_now, .ref mm_kept, .ref mm_isKept, .ref mm_refused, .int mm_lineFrom, .int mm_lineTo, .ref mm_stands, .ref mm_far, .ref mm_queue, .int mm_queued, .ref mm_meets, .ref mm_bytes, .int (nI bl), .int (nI ta), .int (nI tl), .int mm_token, .int mm_value, .ref mm_next, .int (nI tk)])), (mm_bytes, .inl (cy 1, 250, .inl mm_bytes_f))]) [0, 1] (by decide) rfl) rfl rfl) rfl rfl hl.1 rfl (lv_room (Nat.le_of_ble_eq_true rfl)) dX11_readsItem_171 ⟨Nat.le_of_ble_eq_true rfl, Nat.le_of_ble_eq_true rfl⟩) hP hS hA (fun r4 H locs hwr4 hP hS => ?_)
        have hwr4 : (r4 = 1 ∧ True) ∨ (r4 = 0 ∧ True) := hwr4
        have j193 : ∀ (H : Heap) (locs : List Loc), va_P D vwCl [(mm, .inr (11, [.ref mm_now, .ref mm_kept, .ref mm_isKept, .ref mm_refused, .int mm_lineFrom, .int mm_lineTo, .ref mm_stands, .ref mm_far, .ref mm_queue, .int mm_queued, .ref mm_meets, .ref mm_bytes, .int (nI bl), .int (nI ta), .int (nI tl), .int mm_token, .int mm_value, .ref mm_next, .int (nI tk)])), (mm_bytes, .inl (cy 1, 250, .inl mm_bytes_f)), (mm_next, .inl (cy 1, 122, .inl mm_next_f))] H → va_D A [(mm, .inr (11, [.ref mm_now, .ref mm_kept, .ref mm_isKept, .ref mm_refused, .int mm_lineFrom, .int mm_lineTo, .ref mm_stands, .ref mm_far, .ref mm_queue, .int mm_queued, .ref mm_meets, .ref mm_bytes, .int (nI bl), .int (nI ta), .int (nI tl), .int mm_token, .int mm_value, .ref mm_next, .int (nI tk)])), (mm_bytes, .inl (cy 1, 250, .inl mm_bytes_f)), (mm_next, .inl (cy 1, 122, .inl mm_next_f))] → va_S A s.heap H locs → ∀ ls : Array Slot, lv_has ls 2 [(0, .ref mm)] → W p l e (headSpec wsX11_readsItem ({ frames := 6, cells := 0, slots := 0, locals := 133 })).room s m [.ref mm].toArray below meth c H locs 0 0 QF (F0 m 193 ls []) := by
          intro  H locs hP hD hS ls hl
          refine lv_aload_n hx hb dX11_readsItem_193 rfl (lv_at hl 0 rfl) ?_
          refine lv_bipush (v := 112) hx hb dX11_readsItem_194 (by decide) ?_
          refine lv_bipush (v := 101) hx hb dX11_readsItem_196 (by decide) ?_
          refine lv_bipush (v := 114) hx hb dX11_readsItem_198 (by decide) ?_
          refine lv_bipush (v := 115) hx hb dX11_readsItem_200 (by decide) ?_
          refine rd_i (va_runV (As := [.int 112, .int 101, .int 114, .int 115]) (rest := []) ⟨hx, hb, hml, hown, hts⟩ (n_X11_isWord l D cy mm mm_now mm_kept mm_isKept mm_refused mm_lineFrom mm_lineTo mm_stands mm_far mm_queue mm_queued mm_meets mm_bytes bl ta tl mm_token mm_value mm_next tk mm_bytes_f (112) (101) (114) (115) _ (by first | assumption | omega) (by first | assumption | omega)) (cwV 4 hts gX11_readsItem_X11_isWord rfl rfl rfl (by decide +kernel) ⟨Nat.le_of_ble_eq_true rfl, Nat.le_of_ble_eq_true rfl⟩) (pV (ci := 11) (k := 0) hKA (hP.sub (ws' := [(mm, .inr (11, [.ref mm_now, .ref mm_kept, .ref mm_isKept, .ref mm_refused, .int mm_lineFrom, .int mm_lineTo, .ref mm_stands, .ref mm_far, .ref mm_queue, .int mm_queued, .ref mm_meets, .ref mm_bytes, .int (nI bl), .int (nI ta), .int (nI tl), .int mm_token, .int mm_value, .ref mm_next, .int (nI tk)])), (mm_bytes, .inl (cy 1, 250, .inl mm_bytes_f))]) [0, 1] rfl) (hD.sub (ws' := [(mm, .inr (11, [.ref mm_now, .ref mm_kept, .ref mm_isKept, .ref mm_refused, .int mm_lineFrom, .int mm_lineTo, .ref mm_stands, .ref mm_far, .ref mm_queue, .int mm_queued, .ref mm_meets, .ref mm_bytes, .int (nI bl), .int (nI ta), .int (nI tl), .int mm_token, .int mm_value, .ref mm_next, .int (nI tk)])), (mm_bytes, .inl (cy 1, 250, .inl mm_bytes_f))]) [0, 1] (by decide) rfl) rfl rfl) rfl rfl hl.1 rfl (lv_room (Nat.le_of_ble_eq_true rfl)) dX11_readsItem_202 ⟨Nat.le_of_ble_eq_true rfl, Nat.le_of_ble_eq_true rfl⟩) hP hS hA (fun r5 H locs hwr5 hP hS => ?_)
          have hwr5 : (r5 = 1 ∧ True) ∨ (r5 = 0 ∧ True) := hwr5
          have j226 : ∀ (H : Heap) (locs : List Loc), va_P D vwCl [(mm, .inr (11, [.ref mm_now, .ref mm_kept, .ref mm_isKept, .ref mm_refused, .int mm_lineFrom, .int mm_lineTo, .ref mm_stands, .ref mm_far, .ref mm_queue, .int mm_queued, .ref mm_meets, .ref mm_bytes, .int (nI bl), .int (nI ta), .int (nI tl), .int mm_token, .int mm_value, .ref mm_next, .int (nI tk)])), (mm_bytes, .inl (cy 1, 250, .inl mm_bytes_f)), (mm_next, .inl (cy 1, 122, .inl mm_next_f))] H → va_D A [(mm, .inr (11, [.ref mm_now, .ref mm_kept, .ref mm_isKept, .ref mm_refused, .int mm_lineFrom, .int mm_lineTo, .ref mm_stands, .ref mm_far, .ref mm_queue, .int mm_queued, .ref mm_meets, .ref mm_bytes, .int (nI bl), .int (nI ta), .int (nI tl), .int mm_token, .int mm_value, .ref mm_next, .int (nI tk)])), (mm_bytes, .inl (cy 1, 250, .inl mm_bytes_f)), (mm_next, .inl (cy 1, 122, .inl mm_next_f))] → va_S A s.heap H locs → ∀ ls : Array Slot, lv_has ls 2 [(0, .ref mm)] → W p l e (headSpec wsX11_readsItem ({ frames := 6, cells := 0, slots := 0, locals := 133 })).room s m [.ref mm].toArray below meth c H locs 0 0 QF (F0 m 226 ls []) := by
            intro  H locs hP hD hS ls hl
            refine lv_aload_n hx hb dX11_readsItem_226 rfl (lv_at hl 0 rfl) ?_
            refine lv_bipush (v := 116) hx hb dX11_readsItem_227 (by decide) ?_
            refine lv_bipush (v := 101) hx hb dX11_readsItem_229 (by decide) ?_
            refine lv_bipush (v := 108) hx hb dX11_readsItem_231 (by decide) ?_
            refine lv_bipush (v := 108) hx hb dX11_readsItem_233 (by decide) ?_
            refine rd_i (va_runV (As := [.int 116, .int 101, .int 108, .int 108]) (rest := []) ⟨hx, hb, hml, hown, hts⟩ (n_X11_isWord l D cy mm mm_now mm_kept mm_isKept mm_refused mm_lineFrom mm_lineTo mm_stands mm_far mm_queue mm_queued mm_meets mm_bytes bl ta tl mm_token mm_value mm_next tk mm_bytes_f (116) (101) (108) (108) _ (by first | assumption | omega) (by first | assumption | omega)) (cwV 4 hts gX11_readsItem_X11_isWord rfl rfl rfl (by decide +kernel) ⟨Nat.le_of_ble_eq_true rfl, Nat.le_of_ble_eq_true rfl⟩) (pV (ci := 11) (k := 0) hKA (hP.sub (ws' := [(mm, .inr (11, [.ref mm_now, .ref mm_kept, .ref mm_isKept, .ref mm_refused, .int mm_lineFrom, .int mm_lineTo, .ref mm_stands, .ref mm_far, .ref mm_queue, .int mm_queued, .ref mm_meets, .ref mm_bytes, .int (nI bl), .int (nI ta), .int (nI tl), .int mm_token, .int mm_value, .ref mm_next, .int (nI tk)])), (mm_bytes, .inl (cy 1, 250, .inl mm_bytes_f))]) [0, 1] rfl) (hD.sub (ws' := [(mm, .inr (11, [.ref mm_now, .ref mm_kept, .ref mm_isKept, .ref mm_refused, .int mm_lineFrom, .int mm_lineTo, .ref mm_stands, .ref mm_far, .ref mm_queue, .int mm_queued, .ref mm_meets, .ref mm_bytes, .int (nI bl), .int (nI ta), .int (nI tl), .int mm_token, .int mm_value, .ref mm_next, .int (nI tk)])), (mm_bytes, .inl (cy 1, 250, .inl mm_bytes_f))]) [0, 1] (by decide) rfl) rfl rfl) rfl rfl hl.1 rfl (lv_room (Nat.le_of_ble_eq_true rfl)) dX11_readsItem_235 ⟨Nat.le_of_ble_eq_true rfl, Nat.le_of_ble_eq_true rfl⟩) hP hS hA (fun r6 H locs hwr6 hP hS => ?_)
            have hwr6 : (r6 = 1 ∧ True) ∨ (r6 = 0 ∧ True) := hwr6
            refine lv_if_eq (tgt := 263) hx hb dX11_readsItem_238 (by decide) (fun c7 => ?_) (fun c7 => ?_)
            · skip
              refine lv_iconst (v := 0) hx hb dX11_readsItem_263 (by decide) ?_
              subst hQF
              have hP9 := hP
              have hD9 := hD
              exact W.zret (v := 0) hx hb hr rfl (fun t ht hW => ⟨⟨0, (ta, tl, mm_token, mm_value, tk, mm_next_f), rfl, (Or.inr ⟨rfl, ⟨(show ta + tl ≤ bl by omega), (by assumption), (show ta ≤ ta by omega), (show tk ≤ 35 by omega), ⟨_, _, _, _, hX⟩⟩⟩), by rw [ht]; exact hP9, hD9⟩, hS.F ht⟩) hS.2.2 dX11_readsItem_264
            · skip
              refine lv_aload_n hx hb dX11_readsItem_241 rfl (lv_at hl 0 rfl) ?_
              refine lv_iconst (v := 0) hx hb dX11_readsItem_242 (by decide) ?_
              refine lv_iconst (v := 0) hx hb dX11_readsItem_243 (by decide) ?_
              refine lv_iconst (v := 0) hx hb dX11_readsItem_244 (by decide) ?_
              refine lv_iconst (v := 0) hx hb dX11_readsItem_245 (by decide) ?_
              refine rd_i (va_runV (As := [.int 0, .int 0, .int 0, .int 0]) (rest := []) ⟨hx, hb, hml, hown, hts⟩ (n_X11_goesOn l D cy mm mm_now mm_kept mm_isKept mm_refused mm_lineFrom mm_lineTo mm_stands mm_far mm_queue mm_queued mm_meets mm_bytes bl ta tl mm_token mm_value mm_next tk mm_bytes_f (0) (0) (0) (0) _ (by first | assumption | omega) (by first | assumption | omega)) (cwV 4 hts gX11_readsItem_X11_goesOn rfl rfl rfl (by decide +kernel) ⟨Nat.le_of_ble_eq_true rfl, Nat.le_of_ble_eq_true rfl⟩) (pV (ci := 11) (k := 0) hKA (hP.sub (ws' := [(mm, .inr (11, [.ref mm_now, .ref mm_kept, .ref mm_isKept, .ref mm_refused, .int mm_lineFrom, .int mm_lineTo, .ref mm_stands, .ref mm_far, .ref mm_queue, .int mm_queued, .ref mm_meets, .ref mm_bytes, .int (nI bl), .int (nI ta), .int (nI tl), .int mm_token, .int mm_value, .ref mm_next, .int (nI tk)])), (mm_bytes, .inl (cy 1, 250, .inl mm_bytes_f))]) [0, 1] rfl) (hD.sub (ws' := [(mm, .inr (11, [.ref mm_now, .ref mm_kept, .ref mm_isKept, .ref mm_refused, .int mm_lineFrom, .int mm_lineTo, .ref mm_stands, .ref mm_far, .ref mm_queue, .int mm_queued, .ref mm_meets, .ref mm_bytes, .int (nI bl), .int (nI ta), .int (nI tl), .int mm_token, .int mm_value, .ref mm_next, .int (nI tk)])), (mm_bytes, .inl (cy 1, 250, .inl mm_bytes_f))]) [0, 1] (by decide) rfl) rfl rfl) rfl rfl hl.1 rfl (lv_room (Nat.le_of_ble_eq_true rfl)) dX11_readsItem_246 ⟨Nat.le_of_ble_eq_true rfl, Nat.le_of_ble_eq_true rfl⟩) hP hS hA (fun r8 H locs hwr8 hP hS => ?_)
              have hwr8 : (r8 = 1 ∧ True) ∨ (r8 = 0 ∧ True) := hwr8
              refine lv_if_eq (tgt := 263) hx hb dX11_readsItem_249 (by decide) (fun c9 => ?_) (fun c9 => ?_)
              · skip
                refine lv_iconst (v := 0) hx hb dX11_readsItem_263 (by decide) ?_
                subst hQF
                have hP9 := hP
                have hD9 := hD
                exact W.zret (v := 0) hx hb hr rfl (fun t ht hW => ⟨⟨0, (ta, tl, mm_token, mm_value, tk, mm_next_f), rfl, (Or.inr ⟨rfl, ⟨(show ta + tl ≤ bl by omega), (by assumption), (show ta ≤ ta by omega), (show tk ≤ 35 by omega), ⟨_, _, _, _, hX⟩⟩⟩), by rw [ht]; exact hP9, hD9⟩, hS.F ht⟩) hS.2.2 dX11_readsItem_264
              · skip
                refine lv_aload_n hx hb dX11_readsItem_252 rfl (lv_at hl 0 rfl) ?_
                refine wr_i (wr := []) (va_runV (As := []) (rest := []) ⟨hx, hb, hml, hown, hts⟩ (n_X11_readsTell l D cy mm mm_now mm_kept mm_isKept mm_refused mm_lineFrom mm_lineTo mm_stands mm_far mm_queue mm_queued mm_meets mm_bytes bl ta tl mm_token mm_value mm_next tk mm_next_f mm_bytes_f _ (by first | assumption | omega) (by first | assumption | omega) (by first | assumption | omega) (by first | assumption | omega) ⟨_, _, _, _, hX⟩) (cwV 0 hts gX11_readsItem_X11_readsTell rfl rfl rfl (by decide +kernel) ⟨Nat.le_of_ble_eq_true rfl, Nat.le_of_ble_eq_true rfl⟩) (pV (ci := 11) (k := 0) hKA (hP.sub (ws' := [(mm, .inr (11, [.ref mm_now, .ref mm_kept, .ref mm_isKept, .ref mm_refused, .int mm_lineFrom, .int mm_lineTo, .ref mm_stands, .ref mm_far, .ref mm_queue, .int mm_queued, .ref mm_meets, .ref mm_bytes, .int (nI bl), .int (nI ta), .int (nI tl), .int mm_token, .int mm_value, .ref mm_next, .int (nI tk)])), (mm_next, .inl (cy 1, 122, .inl mm_next_f)), (mm_bytes, .inl (cy 1, 250, .inl mm_bytes_f))]) [0, 2, 1] rfl) (hD.sub (ws' := [(mm, .inr (11, [.ref mm_now, .ref mm_kept, .ref mm_isKept, .ref mm_refused, .int mm_lineFrom, .int mm_lineTo, .ref mm_stands, .ref mm_far, .ref mm_queue, .int mm_queued, .ref mm_meets, .ref mm_bytes, .int (nI bl), .int (nI ta), .int (nI tl), .int mm_token, .int mm_value, .ref mm_next, .int (nI tk)])), (mm_next, .inl (cy 1, 122, .inl mm_next_f)), (mm_bytes, .inl (cy 1, 250, .inl mm_bytes_f))]) [0, 2, 1] (by decide) rfl) rfl rfl) rfl rfl hl.1 rfl (lv_room (Nat.le_of_ble_eq_true rfl)) dX11_readsItem_253 ⟨Nat.le_of_ble_eq_true rfl, Nat.le_of_ble_eq_true rfl⟩) hP hD hS hA [0, 2, 1] [] rfl rfl (by decide +kernel) (by decide +kernel) (fun r10 ur10 H locs hwr10 hP hD hS => ?_)
                obtain ⟨z11, z12, z13, z14, z15, z16⟩ := ur10
                have hP : va_P D vwCl [(mm, .inr (11, [.ref mm_now, .ref mm_kept, .ref mm_isKept, .ref mm_refused, .int mm_lineFrom, .int mm_lineTo, .ref mm_stands, .ref mm_far, .ref mm_queue, .int mm_queued, .ref mm_meets, .ref mm_bytes, .int (nI bl), .int (nI z11), .int (nI z12), .int z13, .int z14, .ref mm_next, .int (nI z15)])), (mm_next, .inl (cy 1, 122, .inl z16)), (mm_bytes, .inl (cy 1, 250, .inl mm_bytes_f))] H := hP
                have hD : va_D A [(mm, .inr (11, [.ref mm_now, .ref mm_kept, .ref mm_isKept, .ref mm_refused, .int mm_lineFrom, .int mm_lineTo, .ref mm_stands, .ref mm_far, .ref mm_queue, .int mm_queued, .ref mm_meets, .ref mm_bytes, .int (nI bl), .int (nI z11), .int (nI z12), .int z13, .int z14, .ref mm_next, .int (nI z15)])), (mm_next, .inl (cy 1, 122, .inl z16)), (mm_bytes, .inl (cy 1, 250, .inl mm_bytes_f))] := hD
                have hwr10 : (r10 = 1 ∧ (z11 + z12 ≤ bl ∧ (z13 = 0 ∨ 1 ≤ z12) ∧ ta ≤ z11 ∧ z15 ≤ 35 ∧ mN z16)) ∨ (r10 = 0 ∧ (z11 + z12 ≤ bl ∧ (z13 = 0 ∨ 1 ≤ z12) ∧ ta ≤ z11 ∧ z15 ≤ 35 ∧ mN z16)) := hwr10
                refine lv_if_eq (tgt := 263) hx hb dX11_readsItem_256 (by decide) (fun c17 => ?_) (fun c17 => ?_)
                · skip
                  obtain ⟨hq18, hq19, hq20, hq21, hq22⟩ := z_b0 hwr10 c17
                  refine lv_iconst (v := 0) hx hb dX11_readsItem_263 (by decide) ?_
                  subst hQF
                  have hP9 := hP.sub (ws' := [(mm, .inr (11, [.ref mm_now, .ref mm_kept, .ref mm_isKept, .ref mm_refused, .int mm_lineFrom, .int mm_lineTo, .ref mm_stands, .ref mm_far, .ref mm_queue, .int mm_queued, .ref mm_meets, .ref mm_bytes, .int (nI bl), .int (nI z11), .int (nI z12), .int z13, .int z14, .ref mm_next, .int (nI z15)])), (mm_bytes, .inl (cy 1, 250, .inl mm_bytes_f)), (mm_next, .inl (cy 1, 122, .inl z16))]) [0, 2, 1] rfl
                  have hD9 := hD.sub (ws' := [(mm, .inr (11, [.ref mm_now, .ref mm_kept, .ref mm_isKept, .ref mm_refused, .int mm_lineFrom, .int mm_lineTo, .ref mm_stands, .ref mm_far, .ref mm_queue, .int mm_queued, .ref mm_meets, .ref mm_bytes, .int (nI bl), .int (nI z11), .int (nI z12), .int z13, .int z14, .ref mm_next, .int (nI z15)])), (mm_bytes, .inl (cy 1, 250, .inl mm_bytes_f)), (mm_next, .inl (cy 1, 122, .inl z16))]) [0, 2, 1] (by decide) rfl
                  exact W.zret (v := 0) hx hb hr rfl (fun t ht hW => ⟨⟨0, (z11, z12, z13, z14, z15, z16), rfl, (Or.inr ⟨rfl, ⟨(show z11 + z12 ≤ bl by omega), (by assumption), (show ta ≤ z11 by omega), (show z15 ≤ 35 by omega), (by assumption)⟩⟩), by rw [ht]; exact hP9, hD9⟩, hS.F ht⟩) hS.2.2 dX11_readsItem_264
                · skip
                  obtain ⟨hp23, hp24, hp25, hp26, hp27⟩ := z_b1 hwr10 c17
                  refine lv_iconst (v := 1) hx hb dX11_readsItem_259 (by decide) ?_
                  refine lv_goto (tgt := 264) hx hb dX11_readsItem_260 (by decide) ?_
                  subst hQF
                  have hP9 := hP.sub (ws' := [(mm, .inr (11, [.ref mm_now, .ref mm_kept, .ref mm_isKept, .ref mm_refused, .int mm_lineFrom, .int mm_lineTo, .ref mm_stands, .ref mm_far, .ref mm_queue, .int mm_queued, .ref mm_meets, .ref mm_bytes, .int (nI bl), .int (nI z11), .int (nI z12), .int z13, .int z14, .ref mm_next, .int (nI z15)])), (mm_bytes, .inl (cy 1, 250, .inl mm_bytes_f)), (mm_next, .inl (cy 1, 122, .inl z16))]) [0, 2, 1] rfl
                  have hD9 := hD.sub (ws' := [(mm, .inr (11, [.ref mm_now, .ref mm_kept, .ref mm_isKept, .ref mm_refused, .int mm_lineFrom, .int mm_lineTo, .ref mm_stands, .ref mm_far, .ref mm_queue, .int mm_queued, .ref mm_meets, .ref mm_bytes, .int (nI bl), .int (nI z11), .int (nI z12), .int z13, .int z14, .ref mm_next, .int (nI z15)])), (mm_bytes, .inl (cy 1, 250, .inl mm_bytes_f)), (mm_next, .inl (cy 1, 122, .inl z16))]) [0, 2, 1] (by decide) rfl
                  exact W.zret (v := 1) hx hb hr rfl (fun t ht hW => ⟨⟨1, (z11, z12, z13, z14, z15, z16), rfl, (Or.inl ⟨rfl, ⟨(show z11 + z12 ≤ bl by omega), (by assumption), (show ta ≤ z11 by omega), (show z15 ≤ 35 by omega), (by assumption)⟩⟩), by rw [ht]; exact hP9, hD9⟩, hS.F ht⟩) hS.2.2 dX11_readsItem_264
          refine lv_if_eq (tgt := 226) hx hb dX11_readsItem_205 (by decide) (fun c28 => ?_) (fun c28 => ?_)
          · skip
            exact j226 _ _ hP hD hS ls hl
          · skip
            refine lv_aload_n hx hb dX11_readsItem_208 rfl (lv_at hl 0 rfl) ?_
            refine lv_bipush (v := 111) hx hb dX11_readsItem_209 (by decide) ?_
            refine lv_bipush (v := 110) hx hb dX11_readsItem_211 (by decide) ?_
            refine lv_iconst (v := 0) hx hb dX11_readsItem_213 (by decide) ?_
            refine lv_iconst (v := 0) hx hb dX11_readsItem_214 (by decide) ?_
            refine rd_i (va_runV (As := [.int 111, .int 110, .int 0, .int 0]) (rest := []) ⟨hx, hb, hml, hown, hts⟩ (n_X11_goesOn l D cy mm mm_now mm_kept mm_isKept mm_refused mm_lineFrom mm_lineTo mm_stands mm_far mm_queue mm_queued mm_meets mm_bytes bl ta tl mm_token mm_value mm_next tk mm_bytes_f (111) (110) (0) (0) _ (by first | assumption | omega) (by first | assumption | omega)) (cwV 4 hts gX11_readsItem_X11_goesOn rfl rfl rfl (by decide +kernel) ⟨Nat.le_of_ble_eq_true rfl, Nat.le_of_ble_eq_true rfl⟩) (pV (ci := 11) (k := 0) hKA (hP.sub (ws' := [(mm, .inr (11, [.ref mm_now, .ref mm_kept, .ref mm_isKept, .ref mm_refused, .int mm_lineFrom, .int mm_lineTo, .ref mm_stands, .ref mm_far, .ref mm_queue, .int mm_queued, .ref mm_meets, .ref mm_bytes, .int (nI bl), .int (nI ta), .int (nI tl), .int mm_token, .int mm_value, .ref mm_next, .int (nI tk)])), (mm_bytes, .inl (cy 1, 250, .inl mm_bytes_f))]) [0, 1] rfl) (hD.sub (ws' := [(mm, .inr (11, [.ref mm_now, .ref mm_kept, .ref mm_isKept, .ref mm_refused, .int mm_lineFrom, .int mm_lineTo, .ref mm_stands, .ref mm_far, .ref mm_queue, .int mm_queued, .ref mm_meets, .ref mm_bytes, .int (nI bl), .int (nI ta), .int (nI tl), .int mm_token, .int mm_value, .ref mm_next, .int (nI tk)])), (mm_bytes, .inl (cy 1, 250, .inl mm_bytes_f))]) [0, 1] (by decide) rfl) rfl rfl) rfl rfl hl.1 rfl (lv_room (Nat.le_of_ble_eq_true rfl)) dX11_readsItem_215 ⟨Nat.le_of_ble_eq_true rfl, Nat.le_of_ble_eq_true rfl⟩) hP hS hA (fun r29 H locs hwr29 hP hS => ?_)
            have hwr29 : (r29 = 1 ∧ True) ∨ (r29 = 0 ∧ True) := hwr29
            refine lv_if_eq (tgt := 226) hx hb dX11_readsItem_218 (by decide) (fun c30 => ?_) (fun c30 => ?_)
            · skip
              exact j226 _ _ hP hD hS ls hl
            · skip
              refine lv_aload_n hx hb dX11_readsItem_221 rfl (lv_at hl 0 rfl) ?_
              refine wr_i (wr := []) (va_runV (As := []) (rest := []) ⟨hx, hb, hml, hown, hts⟩ (n_X11_readsPerson l D cy mm mm_now mm_kept mm_isKept mm_refused mm_lineFrom mm_lineTo mm_stands mm_far mm_queue mm_queued mm_meets mm_bytes bl ta tl mm_token mm_value mm_next tk mm_next_f mm_bytes_f _ (by first | assumption | omega) (by first | assumption | omega) (by first | assumption | omega) (by first | assumption | omega) ⟨_, _, _, _, hX⟩) (cwV 0 hts gX11_readsItem_X11_readsPerson rfl rfl rfl (by decide +kernel) ⟨Nat.le_of_ble_eq_true rfl, Nat.le_of_ble_eq_true rfl⟩) (pV (ci := 11) (k := 0) hKA (hP.sub (ws' := [(mm, .inr (11, [.ref mm_now, .ref mm_kept, .ref mm_isKept, .ref mm_refused, .int mm_lineFrom, .int mm_lineTo, .ref mm_stands, .ref mm_far, .ref mm_queue, .int mm_queued, .ref mm_meets, .ref mm_bytes, .int (nI bl), .int (nI ta), .int (nI tl), .int mm_token, .int mm_value, .ref mm_next, .int (nI tk)])), (mm_next, .inl (cy 1, 122, .inl mm_next_f)), (mm_bytes, .inl (cy 1, 250, .inl mm_bytes_f))]) [0, 2, 1] rfl) (hD.sub (ws' := [(mm, .inr (11, [.ref mm_now, .ref mm_kept, .ref mm_isKept, .ref mm_refused, .int mm_lineFrom, .int mm_lineTo, .ref mm_stands, .ref mm_far, .ref mm_queue, .int mm_queued, .ref mm_meets, .ref mm_bytes, .int (nI bl), .int (nI ta), .int (nI tl), .int mm_token, .int mm_value, .ref mm_next, .int (nI tk)])), (mm_next, .inl (cy 1, 122, .inl mm_next_f)), (mm_bytes, .inl (cy 1, 250, .inl mm_bytes_f))]) [0, 2, 1] (by decide) rfl) rfl rfl) rfl rfl hl.1 rfl (lv_room (Nat.le_of_ble_eq_true rfl)) dX11_readsItem_222 ⟨Nat.le_of_ble_eq_true rfl, Nat.le_of_ble_eq_true rfl⟩) hP hD hS hA [0, 2, 1] [] rfl rfl (by decide +kernel) (by decide +kernel) (fun r31 ur31 H locs hwr31 hP hD hS => ?_)
              obtain ⟨z32, z33, z34, z35, z36, z37⟩ := ur31
              have hP : va_P D vwCl [(mm, .inr (11, [.ref mm_now, .ref mm_kept, .ref mm_isKept, .ref mm_refused, .int mm_lineFrom, .int mm_lineTo, .ref mm_stands, .ref mm_far, .ref mm_queue, .int mm_queued, .ref mm_meets, .ref mm_bytes, .int (nI bl), .int (nI z32), .int (nI z33), .int z34, .int z35, .ref mm_next, .int (nI z36)])), (mm_next, .inl (cy 1, 122, .inl z37)), (mm_bytes, .inl (cy 1, 250, .inl mm_bytes_f))] H := hP
              have hD : va_D A [(mm, .inr (11, [.ref mm_now, .ref mm_kept, .ref mm_isKept, .ref mm_refused, .int mm_lineFrom, .int mm_lineTo, .ref mm_stands, .ref mm_far, .ref mm_queue, .int mm_queued, .ref mm_meets, .ref mm_bytes, .int (nI bl), .int (nI z32), .int (nI z33), .int z34, .int z35, .ref mm_next, .int (nI z36)])), (mm_next, .inl (cy 1, 122, .inl z37)), (mm_bytes, .inl (cy 1, 250, .inl mm_bytes_f))] := hD
              have hwr31 : (r31 = 1 ∧ (z32 + z33 ≤ bl ∧ (z34 = 0 ∨ 1 ≤ z33) ∧ ta ≤ z32 ∧ z36 ≤ 35 ∧ mN z37)) ∨ (r31 = 0 ∧ (z32 + z33 ≤ bl ∧ (z34 = 0 ∨ 1 ≤ z33) ∧ ta ≤ z32 ∧ z36 ≤ 35 ∧ mN z37)) := hwr31
              subst hQF
              have hP9 := hP.sub (ws' := [(mm, .inr (11, [.ref mm_now, .ref mm_kept, .ref mm_isKept, .ref mm_refused, .int mm_lineFrom, .int mm_lineTo, .ref mm_stands, .ref mm_far, .ref mm_queue, .int mm_queued, .ref mm_meets, .ref mm_bytes, .int (nI bl), .int (nI z32), .int (nI z33), .int z34, .int z35, .ref mm_next, .int (nI z36)])), (mm_bytes, .inl (cy 1, 250, .inl mm_bytes_f)), (mm_next, .inl (cy 1, 122, .inl z37))]) [0, 2, 1] rfl
              have hD9 := hD.sub (ws' := [(mm, .inr (11, [.ref mm_now, .ref mm_kept, .ref mm_isKept, .ref mm_refused, .int mm_lineFrom, .int mm_lineTo, .ref mm_stands, .ref mm_far, .ref mm_queue, .int mm_queued, .ref mm_meets, .ref mm_bytes, .int (nI bl), .int (nI z32), .int (nI z33), .int z34, .int z35, .ref mm_next, .int (nI z36)])), (mm_bytes, .inl (cy 1, 250, .inl mm_bytes_f)), (mm_next, .inl (cy 1, 122, .inl z37))]) [0, 2, 1] (by decide) rfl
              exact W.zret (v := r31) hx hb hr (z_bn hwr31) (fun t ht hW => ⟨⟨r31, (z32, z33, z34, z35, z36, z37), rfl, hwr31, by rw [ht]; exact hP9, hD9⟩, hS.F ht⟩) hS.2.2 dX11_readsItem_225
        refine lv_if_eq (tgt := 193) hx hb dX11_readsItem_174 (by decide) (fun c38 => ?_) (fun c38 => ?_)
        · skip
          exact j193 _ _ hP hD hS ls hl
        · skip
          refine lv_aload_n hx hb dX11_readsItem_177 rfl (lv_at hl 0 rfl) ?_
          refine lv_iconst (v := 0) hx hb dX11_readsItem_178 (by decide) ?_
          refine lv_iconst (v := 0) hx hb dX11_readsItem_179 (by decide) ?_
          refine lv_iconst (v := 0) hx hb dX11_readsItem_180 (by decide) ?_
          refine lv_iconst (v := 0) hx hb dX11_readsItem_181 (by decide) ?_
          refine rd_i (va_runV (As := [.int 0, .int 0, .int 0, .int 0]) (rest := []) ⟨hx, hb, hml, hown, hts⟩ (n_X11_goesOn l D cy mm mm_now mm_kept mm_isKept mm_refused mm_lineFrom mm_lineTo mm_stands mm_far mm_queue mm_queued mm_meets mm_bytes bl ta tl mm_token mm_value mm_next tk mm_bytes_f (0) (0) (0) (0) _ (by first | assumption | omega) (by first | assumption | omega)) (cwV 4 hts gX11_readsItem_X11_goesOn rfl rfl rfl (by decide +kernel) ⟨Nat.le_of_ble_eq_true rfl, Nat.le_of_ble_eq_true rfl⟩) (pV (ci := 11) (k := 0) hKA (hP.sub (ws' := [(mm, .inr (11, [.ref mm_now, .ref mm_kept, .ref mm_isKept, .ref mm_refused, .int mm_lineFrom, .int mm_lineTo, .ref mm_stands, .ref mm_far, .ref mm_queue, .int mm_queued, .ref mm_meets, .ref mm_bytes, .int (nI bl), .int (nI ta), .int (nI tl), .int mm_token, .int mm_value, .ref mm_next, .int (nI tk)])), (mm_bytes, .inl (cy 1, 250, .inl mm_bytes_f))]) [0, 1] rfl) (hD.sub (ws' := [(mm, .inr (11, [.ref mm_now, .ref mm_kept, .ref mm_isKept, .ref mm_refused, .int mm_lineFrom, .int mm_lineTo, .ref mm_stands, .ref mm_far, .ref mm_queue, .int mm_queued, .ref mm_meets, .ref mm_bytes, .int (nI bl), .int (nI ta), .int (nI tl), .int mm_token, .int mm_value, .ref mm_next, .int (nI tk)])), (mm_bytes, .inl (cy 1, 250, .inl mm_bytes_f))]) [0, 1] (by decide) rfl) rfl rfl) rfl rfl hl.1 rfl (lv_room (Nat.le_of_ble_eq_true rfl)) dX11_readsItem_182 ⟨Nat.le_of_ble_eq_true rfl, Nat.le_of_ble_eq_true rfl⟩) hP hS hA (fun r39 H locs hwr39 hP hS => ?_)
          have hwr39 : (r39 = 1 ∧ True) ∨ (r39 = 0 ∧ True) := hwr39
          refine lv_if_eq (tgt := 193) hx hb dX11_readsItem_185 (by decide) (fun c40 => ?_) (fun c40 => ?_)
          · skip
            exact j193 _ _ hP hD hS ls hl
          · skip
            refine lv_aload_n hx hb dX11_readsItem_188 rfl (lv_at hl 0 rfl) ?_
            refine wr_i (wr := []) (va_runV (As := []) (rest := []) ⟨hx, hb, hml, hown, hts⟩ (n_X11_readsWind l D cy mm mm_now mm_kept mm_isKept mm_refused mm_lineFrom mm_lineTo mm_stands mm_far mm_queue mm_queued mm_meets mm_bytes bl ta tl mm_token mm_value mm_next tk mm_bytes_f mm_next_f _ (by first | assumption | omega) (by first | assumption | omega) (by first | assumption | omega) (by first | assumption | omega) ⟨_, _, _, _, hX⟩) (cwV 0 hts gX11_readsItem_X11_readsWind rfl rfl rfl (by decide +kernel) ⟨Nat.le_of_ble_eq_true rfl, Nat.le_of_ble_eq_true rfl⟩) (pV (ci := 11) (k := 0) hKA (hP.sub (ws' := [(mm, .inr (11, [.ref mm_now, .ref mm_kept, .ref mm_isKept, .ref mm_refused, .int mm_lineFrom, .int mm_lineTo, .ref mm_stands, .ref mm_far, .ref mm_queue, .int mm_queued, .ref mm_meets, .ref mm_bytes, .int (nI bl), .int (nI ta), .int (nI tl), .int mm_token, .int mm_value, .ref mm_next, .int (nI tk)])), (mm_bytes, .inl (cy 1, 250, .inl mm_bytes_f)), (mm_next, .inl (cy 1, 122, .inl mm_next_f))]) [0, 1, 2] rfl) (hD.sub (ws' := [(mm, .inr (11, [.ref mm_now, .ref mm_kept, .ref mm_isKept, .ref mm_refused, .int mm_lineFrom, .int mm_lineTo, .ref mm_stands, .ref mm_far, .ref mm_queue, .int mm_queued, .ref mm_meets, .ref mm_bytes, .int (nI bl), .int (nI ta), .int (nI tl), .int mm_token, .int mm_value, .ref mm_next, .int (nI tk)])), (mm_bytes, .inl (cy 1, 250, .inl mm_bytes_f)), (mm_next, .inl (cy 1, 122, .inl mm_next_f))]) [0, 1, 2] (by decide) rfl) rfl rfl) rfl rfl hl.1 rfl (lv_room (Nat.le_of_ble_eq_true rfl)) dX11_readsItem_189 ⟨Nat.le_of_ble_eq_true rfl, Nat.le_of_ble_eq_true rfl⟩) hP hD hS hA [0, 1, 2] [] rfl rfl (by decide +kernel) (by decide +kernel) (fun r41 ur41 H locs hwr41 hP hD hS => ?_)
            obtain ⟨z42, z43, z44, z45, z46, z47⟩ := ur41
            have hP : va_P D vwCl [(mm, .inr (11, [.ref mm_now, .ref mm_kept, .ref mm_isKept, .ref mm_refused, .int mm_lineFrom, .int mm_lineTo, .ref mm_stands, .ref mm_far, .ref mm_queue, .int mm_queued, .ref mm_meets, .ref mm_bytes, .int (nI bl), .int (nI z42), .int (nI z43), .int z44, .int z45, .ref mm_next, .int (nI z46)])), (mm_bytes, .inl (cy 1, 250, .inl mm_bytes_f)), (mm_next, .inl (cy 1, 122, .inl z47))] H := hP
            have hD : va_D A [(mm, .inr (11, [.ref mm_now, .ref mm_kept, .ref mm_isKept, .ref mm_refused, .int mm_lineFrom, .int mm_lineTo, .ref mm_stands, .ref mm_far, .ref mm_queue, .int mm_queued, .ref mm_meets, .ref mm_bytes, .int (nI bl), .int (nI z42), .int (nI z43), .int z44, .int z45, .ref mm_next, .int (nI z46)])), (mm_bytes, .inl (cy 1, 250, .inl mm_bytes_f)), (mm_next, .inl (cy 1, 122, .inl z47))] := hD
            have hwr41 : (r41 = 1 ∧ (z42 + z43 ≤ bl ∧ (z44 = 0 ∨ 1 ≤ z43) ∧ ta ≤ z42 ∧ z46 ≤ 35 ∧ mN z47)) ∨ (r41 = 0 ∧ (z42 + z43 ≤ bl ∧ (z44 = 0 ∨ 1 ≤ z43) ∧ ta ≤ z42 ∧ z46 ≤ 35 ∧ mN z47)) := hwr41
            subst hQF
            have hP9 := hP
            have hD9 := hD
            exact W.zret (v := r41) hx hb hr (z_bn hwr41) (fun t ht hW => ⟨⟨r41, (z42, z43, z44, z45, z46, z47), rfl, hwr41, by rw [ht]; exact hP9, hD9⟩, hS.F ht⟩) hS.2.2 dX11_readsItem_192
      refine lv_if_eq (tgt := 162) hx hb dX11_readsItem_124 (by decide) (fun c48 => ?_) (fun c48 => ?_)
      · skip
        exact j162 _ _ hP hD hS ls hl
      · skip
        refine lv_aload_n hx hb dX11_readsItem_127 rfl (lv_at hl 0 rfl) ?_
        refine lv_bipush (v := 110) hx hb dX11_readsItem_128 (by decide) ?_
        refine lv_iconst (v := 0) hx hb dX11_readsItem_130 (by decide) ?_
        refine lv_iconst (v := 0) hx hb dX11_readsItem_131 (by decide) ?_
        refine lv_iconst (v := 0) hx hb dX11_readsItem_132 (by decide) ?_
        refine rd_i (va_runV (As := [.int 110, .int 0, .int 0, .int 0]) (rest := []) ⟨hx, hb, hml, hown, hts⟩ (n_X11_goesOn l D cy mm mm_now mm_kept mm_isKept mm_refused mm_lineFrom mm_lineTo mm_stands mm_far mm_queue mm_queued mm_meets mm_bytes bl ta tl mm_token mm_value mm_next tk mm_bytes_f (110) (0) (0) (0) _ (by first | assumption | omega) (by first | assumption | omega)) (cwV 4 hts gX11_readsItem_X11_goesOn rfl rfl rfl (by decide +kernel) ⟨Nat.le_of_ble_eq_true rfl, Nat.le_of_ble_eq_true rfl⟩) (pV (ci := 11) (k := 0) hKA (hP.sub (ws' := [(mm, .inr (11, [.ref mm_now, .ref mm_kept, .ref mm_isKept, .ref mm_refused, .int mm_lineFrom, .int mm_lineTo, .ref mm_stands, .ref mm_far, .ref mm_queue, .int mm_queued, .ref mm_meets, .ref mm_bytes, .int (nI bl), .int (nI ta), .int (nI tl), .int mm_token, .int mm_value, .ref mm_next, .int (nI tk)])), (mm_bytes, .inl (cy 1, 250, .inl mm_bytes_f))]) [0, 1] rfl) (hD.sub (ws' := [(mm, .inr (11, [.ref mm_now, .ref mm_kept, .ref mm_isKept, .ref mm_refused, .int mm_lineFrom, .int mm_lineTo, .ref mm_stands, .ref mm_far, .ref mm_queue, .int mm_queued, .ref mm_meets, .ref mm_bytes, .int (nI bl), .int (nI ta), .int (nI tl), .int mm_token, .int mm_value, .ref mm_next, .int (nI tk)])), (mm_bytes, .inl (cy 1, 250, .inl mm_bytes_f))]) [0, 1] (by decide) rfl) rfl rfl) rfl rfl hl.1 rfl (lv_room (Nat.le_of_ble_eq_true rfl)) dX11_readsItem_133 ⟨Nat.le_of_ble_eq_true rfl, Nat.le_of_ble_eq_true rfl⟩) hP hS hA (fun r49 H locs hwr49 hP hS => ?_)
        have hwr49 : (r49 = 1 ∧ True) ∨ (r49 = 0 ∧ True) := hwr49
        refine lv_if_eq (tgt := 162) hx hb dX11_readsItem_136 (by decide) (fun c50 => ?_) (fun c50 => ?_)
        · skip
          exact j162 _ _ hP hD hS ls hl
        · skip
          refine lv_aload_n hx hb dX11_readsItem_139 rfl (lv_at hl 0 rfl) ?_
          refine wr_v (wr := [(mm_next, .inl (cy 1, 122, .inl mm_next_f))]) (va_runV (As := []) (rest := []) ⟨hx, hb, hml, hown, hts⟩ (n_X11_goOn l D cy mm mm_now mm_kept mm_isKept mm_refused mm_lineFrom mm_lineTo mm_stands mm_far mm_queue mm_queued mm_meets mm_bytes bl ta tl mm_token mm_value mm_next tk mm_bytes_f _ (by first | assumption | omega) (by first | assumption | omega)) (cwV 0 hts gX11_readsItem_X11_goOn rfl rfl rfl (by decide +kernel) ⟨Nat.le_of_ble_eq_true rfl, Nat.le_of_ble_eq_true rfl⟩) (pV (ci := 11) (k := 0) hKA (hP.sub (ws' := [(mm, .inr (11, [.ref mm_now, .ref mm_kept, .ref mm_isKept, .ref mm_refused, .int mm_lineFrom, .int mm_lineTo, .ref mm_stands, .ref mm_far, .ref mm_queue, .int mm_queued, .ref mm_meets, .ref mm_bytes, .int (nI bl), .int (nI ta), .int (nI tl), .int mm_token, .int mm_value, .ref mm_next, .int (nI tk)])), (mm_bytes, .inl (cy 1, 250, .inl mm_bytes_f))]) [0, 1] rfl) (hD.sub (ws' := [(mm, .inr (11, [.ref mm_now, .ref mm_kept, .ref mm_isKept, .ref mm_refused, .int mm_lineFrom, .int mm_lineTo, .ref mm_stands, .ref mm_far, .ref mm_queue, .int mm_queued, .ref mm_meets, .ref mm_bytes, .int (nI bl), .int (nI ta), .int (nI tl), .int mm_token, .int mm_value, .ref mm_next, .int (nI tk)])), (mm_bytes, .inl (cy 1, 250, .inl mm_bytes_f))]) [0, 1] (by decide) rfl) rfl rfl) rfl rfl hl.1 rfl (lv_room (Nat.le_of_ble_eq_true rfl)) dX11_readsItem_140 ⟨Nat.le_of_ble_eq_true rfl, Nat.le_of_ble_eq_true rfl⟩) hP hD hS hA [0, 1] [2] rfl rfl (by decide +kernel) (by decide +kernel) (fun ur51 H locs hwr51 hP hD hS => ?_)
          obtain ⟨z52, z53, z54, z55⟩ := ur51
          have hP : va_P D vwCl [(mm_next, .inl (cy 1, 122, .inl mm_next_f)), (mm, .inr (11, [.ref mm_now, .ref mm_kept, .ref mm_isKept, .ref mm_refused, .int mm_lineFrom, .int mm_lineTo, .ref mm_stands, .ref mm_far, .ref mm_queue, .int mm_queued, .ref mm_meets, .ref mm_bytes, .int (nI bl), .int (nI z52), .int (nI z53), .int z54, .int z55, .ref mm_next, .int (nI tk)])), (mm_bytes, .inl (cy 1, 250, .inl mm_bytes_f))] H := hP
          have hD : va_D A [(mm_next, .inl (cy 1, 122, .inl mm_next_f)), (mm, .inr (11, [.ref mm_now, .ref mm_kept, .ref mm_isKept, .ref mm_refused, .int mm_lineFrom, .int mm_lineTo, .ref mm_stands, .ref mm_far, .ref mm_queue, .int mm_queued, .ref mm_meets, .ref mm_bytes, .int (nI bl), .int (nI z52), .int (nI z53), .int z54, .int z55, .ref mm_next, .int (nI tk)])), (mm_bytes, .inl (cy 1, 250, .inl mm_bytes_f))] := hD
          have hwr51 : z52 + z53 ≤ bl ∧ (z54 = 0 ∨ 1 ≤ z53) ∧ ta + tl ≤ z52 := hwr51
          obtain ⟨har51, hbr51, hcr51⟩ := hwr51
          refine lv_aload_n hx hb dX11_readsItem_143 rfl (lv_at hl 0 rfl) ?_
          refine lv_iconst (v := 0) hx hb dX11_readsItem_144 (by decide) ?_
          refine lv_iconst (v := 4) hx hb dX11_readsItem_145 (by decide) ?_
          refine wr_i (wr := [(mm_next, .inl (cy 1, 122, .inl mm_next_f))]) (va_runV (As := [.int 0, .int 4]) (rest := []) ⟨hx, hb, hml, hown, hts⟩ (n_X11_takes l D cy mm mm_now mm_kept mm_isKept mm_refused mm_lineFrom mm_lineTo mm_stands mm_far mm_queue mm_queued mm_meets mm_bytes bl z52 z53 z54 z55 mm_next tk mm_bytes_f 0 (4) _ (by first | assumption | omega) (by first | assumption | omega) (by first | assumption | omega) (by first | assumption | omega) (by first | assumption | omega) (by first | decide | exact z_pmle (by omega))) (cwV 2 hts gX11_readsItem_X11_takes rfl rfl rfl (by decide +kernel) ⟨Nat.le_of_ble_eq_true rfl, Nat.le_of_ble_eq_true rfl⟩) (pV (ci := 11) (k := 0) hKA (hP.sub (ws' := [(mm, .inr (11, [.ref mm_now, .ref mm_kept, .ref mm_isKept, .ref mm_refused, .int mm_lineFrom, .int mm_lineTo, .ref mm_stands, .ref mm_far, .ref mm_queue, .int mm_queued, .ref mm_meets, .ref mm_bytes, .int (nI bl), .int (nI z52), .int (nI z53), .int z54, .int z55, .ref mm_next, .int (nI tk)])), (mm_bytes, .inl (cy 1, 250, .inl mm_bytes_f))]) [1, 2] rfl) (hD.sub (ws' := [(mm, .inr (11, [.ref mm_now, .ref mm_kept, .ref mm_isKept, .ref mm_refused, .int mm_lineFrom, .int mm_lineTo, .ref mm_stands, .ref mm_far, .ref mm_queue, .int mm_queued, .ref mm_meets, .ref mm_bytes, .int (nI bl), .int (nI z52), .int (nI z53), .int z54, .int z55, .ref mm_next, .int (nI tk)])), (mm_bytes, .inl (cy 1, 250, .inl mm_bytes_f))]) [1, 2] (by decide) rfl) rfl rfl) rfl rfl hl.1 rfl (lv_room (Nat.le_of_ble_eq_true rfl)) dX11_readsItem_146 ⟨Nat.le_of_ble_eq_true rfl, Nat.le_of_ble_eq_true rfl⟩) hP hD hS hA [1, 2] [0] rfl rfl (by decide +kernel) (by decide +kernel) (fun r56 ur56 H locs hwr56 hP hD hS => ?_)
          obtain ⟨z57, z58, z59, z60, z61⟩ := ur56
          have hP : va_P D vwCl [(mm_next, .inl (cy 1, 122, .inl mm_next_f)), (mm, .inr (11, [.ref mm_now, .ref mm_kept, .ref mm_isKept, .ref mm_refused, .int mm_lineFrom, .int mm_lineTo, .ref mm_stands, .ref mm_far, .ref mm_queue, .int mm_queued, .ref mm_meets, .ref mm_bytes, .int (nI bl), .int (nI z57), .int (nI z58), .int z59, .int z60, .ref mm_next, .int (nI z61)])), (mm_bytes, .inl (cy 1, 250, .inl mm_bytes_f))] H := hP
          have hD : va_D A [(mm_next, .inl (cy 1, 122, .inl mm_next_f)), (mm, .inr (11, [.ref mm_now, .ref mm_kept, .ref mm_isKept, .ref mm_refused, .int mm_lineFrom, .int mm_lineTo, .ref mm_stands, .ref mm_far, .ref mm_queue, .int mm_queued, .ref mm_meets, .ref mm_bytes, .int (nI bl), .int (nI z57), .int (nI z58), .int z59, .int z60, .ref mm_next, .int (nI z61)])), (mm_bytes, .inl (cy 1, 250, .inl mm_bytes_f))] := hD
          have hwr56 : (r56 = 1 ∧ (z57 + z58 ≤ bl ∧ (z59 = 0 ∨ 1 ≤ z58) ∧ z52 ≤ z57 ∧ z61 ≤ 35 ∧ 0 ≤ z61 ∧ (z61 : Int) ≤ ((4) : Int32).toInt)) ∨ (r56 = 0 ∧ (z57 + z58 ≤ bl ∧ (z59 = 0 ∨ 1 ≤ z58) ∧ z52 ≤ z57 ∧ z61 ≤ 35)) := hwr56
          obtain ⟨har56, hbr56, hcr56, hdr56⟩ := z_bq hwr56
          refine lv_istore_n (lv' := [(1, .int r56), (0, .ref mm)]) hx hb dX11_readsItem_149 rfl hl (by decide) rfl (fun ls hl => ?_)
          refine lv_aload_n hx hb dX11_readsItem_150 rfl (lv_at hl 1 rfl) ?_
          refine va_get (D := D) (ci := 11) (v := .ref mm_next) (C := RX11) (T := TX11) (N := 19) hx hb hts zi11_ hown hK hP 1 rfl rfl 17 (by decide) z0_ (fun _ h9 => h9) rfl dX11_readsItem_151 ?_
          refine lv_iconst (v := 2) hx hb dX11_readsItem_154 (by decide) ?_
          refine lv_aload_n hx hb dX11_readsItem_155 rfl (lv_at hl 1 rfl) ?_
          refine va_get (D := D) (ci := 11) (v := .int (nI z61)) (C := RX11) (T := TX11) (N := 19) hx hb hts zi11_ hown hK hP 1 rfl rfl 18 (by decide) z2_ (fun _ h9 => h9) rfl dX11_readsItem_156 ?_
          refine my_iast hx hb hK hP hD hS 0 1 rfl rfl (by rw [vp_in_iff]; decide +kernel) (k := 2) (by decide +kernel) dX11_readsItem_159 (fun H locs hP hD hS => ?_)
          have hP : va_P D vwCl [(mm_next, .inl (cy 1, 122, .inl (upd mm_next_f 2 (nI z61)))), (mm, .inr (11, [.ref mm_now, .ref mm_kept, .ref mm_isKept, .ref mm_refused, .int mm_lineFrom, .int mm_lineTo, .ref mm_stands, .ref mm_far, .ref mm_queue, .int mm_queued, .ref mm_meets, .ref mm_bytes, .int (nI bl), .int (nI z57), .int (nI z58), .int z59, .int z60, .ref mm_next, .int (nI z61)])), (mm_bytes, .inl (cy 1, 250, .inl mm_bytes_f))] H := hP
          have hD : va_D A [(mm_next, .inl (cy 1, 122, .inl (upd mm_next_f 2 (nI z61)))), (mm, .inr (11, [.ref mm_now, .ref mm_kept, .ref mm_isKept, .ref mm_refused, .int mm_lineFrom, .int mm_lineTo, .ref mm_stands, .ref mm_far, .ref mm_queue, .int mm_queued, .ref mm_meets, .ref mm_bytes, .int (nI bl), .int (nI z57), .int (nI z58), .int z59, .int z60, .ref mm_next, .int (nI z61)])), (mm_bytes, .inl (cy 1, 250, .inl mm_bytes_f))] := hD
          obtain ⟨f62, ef62⟩ : ∃ y : Nat → Int32, y = upd mm_next_f 2 (nI z61) := ⟨_, rfl⟩
          rw [← ef62] at hP hD
          have hf62 : mV f62 xW xH xS xP := by rw [ef62]; exact mV.put23 hX 2 _ (by decide)
          have hP : va_P D vwCl [(mm_next, .inl (cy 1, 122, .inl f62)), (mm, .inr (11, [.ref mm_now, .ref mm_kept, .ref mm_isKept, .ref mm_refused, .int mm_lineFrom, .int mm_lineTo, .ref mm_stands, .ref mm_far, .ref mm_queue, .int mm_queued, .ref mm_meets, .ref mm_bytes, .int (nI bl), .int (nI z57), .int (nI z58), .int z59, .int z60, .ref mm_next, .int (nI z61)])), (mm_bytes, .inl (cy 1, 250, .inl mm_bytes_f))] H := hP
          have hD : va_D A [(mm_next, .inl (cy 1, 122, .inl f62)), (mm, .inr (11, [.ref mm_now, .ref mm_kept, .ref mm_isKept, .ref mm_refused, .int mm_lineFrom, .int mm_lineTo, .ref mm_stands, .ref mm_far, .ref mm_queue, .int mm_queued, .ref mm_meets, .ref mm_bytes, .int (nI bl), .int (nI z57), .int (nI z58), .int z59, .int z60, .ref mm_next, .int (nI z61)])), (mm_bytes, .inl (cy 1, 250, .inl mm_bytes_f))] := hD
          refine lv_iload_n hx hb dX11_readsItem_160 rfl (lv_at hl 0 rfl) ?_
          subst hQF
          have hP9 := hP.sub (ws' := [(mm, .inr (11, [.ref mm_now, .ref mm_kept, .ref mm_isKept, .ref mm_refused, .int mm_lineFrom, .int mm_lineTo, .ref mm_stands, .ref mm_far, .ref mm_queue, .int mm_queued, .ref mm_meets, .ref mm_bytes, .int (nI bl), .int (nI z57), .int (nI z58), .int z59, .int z60, .ref mm_next, .int (nI z61)])), (mm_bytes, .inl (cy 1, 250, .inl mm_bytes_f)), (mm_next, .inl (cy 1, 122, .inl f62))]) [1, 2, 0] rfl
          have hD9 := hD.sub (ws' := [(mm, .inr (11, [.ref mm_now, .ref mm_kept, .ref mm_isKept, .ref mm_refused, .int mm_lineFrom, .int mm_lineTo, .ref mm_stands, .ref mm_far, .ref mm_queue, .int mm_queued, .ref mm_meets, .ref mm_bytes, .int (nI bl), .int (nI z57), .int (nI z58), .int z59, .int z60, .ref mm_next, .int (nI z61)])), (mm_bytes, .inl (cy 1, 250, .inl mm_bytes_f)), (mm_next, .inl (cy 1, 122, .inl f62))]) [1, 2, 0] (by decide) rfl
          exact W.zret (v := r56) hx hb hr (z_bn hwr56) (fun t ht hW => ⟨⟨r56, (z57, z58, z59, z60, z61, f62), rfl, (z_bj hwr56 ⟨(show z57 + z58 ≤ bl by omega), (by assumption), (show ta ≤ z57 by omega), (show z61 ≤ 35 by omega), ⟨_, _, _, _, hf62⟩⟩), by rw [ht]; exact hP9, hD9⟩, hS.F ht⟩) hS.2.2 dX11_readsItem_161
    refine lv_if_eq (tgt := 112) hx hb dX11_readsItem_44 (by decide) (fun c63 => ?_) (fun c63 => ?_)
    · skip
      exact j112 _ _ hP hD hS ls hl
    · skip
      refine lv_aload_n hx hb dX11_readsItem_47 rfl (lv_at hl 0 rfl) ?_
      refine lv_bipush (v := 116) hx hb dX11_readsItem_48 (by decide) ?_
      refine lv_bipush (v := 97) hx hb dX11_readsItem_50 (by decide) ?_
      refine lv_bipush (v := 105) hx hb dX11_readsItem_52 (by decide) ?_
      refine lv_bipush (v := 110) hx hb dX11_readsItem_54 (by decide) ?_
      refine rd_i (va_runV (As := [.int 116, .int 97, .int 105, .int 110]) (rest := []) ⟨hx, hb, hml, hown, hts⟩ (n_X11_goesOn l D cy mm mm_now mm_kept mm_isKept mm_refused mm_lineFrom mm_lineTo mm_stands mm_far mm_queue mm_queued mm_meets mm_bytes bl ta tl mm_token mm_value mm_next tk mm_bytes_f (116) (97) (105) (110) _ (by first | assumption | omega) (by first | assumption | omega)) (cwV 4 hts gX11_readsItem_X11_goesOn rfl rfl rfl (by decide +kernel) ⟨Nat.le_of_ble_eq_true rfl, Nat.le_of_ble_eq_true rfl⟩) (pV (ci := 11) (k := 0) hKA (hP.sub (ws' := [(mm, .inr (11, [.ref mm_now, .ref mm_kept, .ref mm_isKept, .ref mm_refused, .int mm_lineFrom, .int mm_lineTo, .ref mm_stands, .ref mm_far, .ref mm_queue, .int mm_queued, .ref mm_meets, .ref mm_bytes, .int (nI bl), .int (nI ta), .int (nI tl), .int mm_token, .int mm_value, .ref mm_next, .int (nI tk)])), (mm_bytes, .inl (cy 1, 250, .inl mm_bytes_f))]) [0, 1] rfl) (hD.sub (ws' := [(mm, .inr (11, [.ref mm_now, .ref mm_kept, .ref mm_isKept, .ref mm_refused, .int mm_lineFrom, .int mm_lineTo, .ref mm_stands, .ref mm_far, .ref mm_queue, .int mm_queued, .ref mm_meets, .ref mm_bytes, .int (nI bl), .int (nI ta), .int (nI tl), .int mm_token, .int mm_value, .ref mm_next, .int (nI tk)])), (mm_bytes, .inl (cy 1, 250, .inl mm_bytes_f))]) [0, 1] (by decide) rfl) rfl rfl) rfl rfl hl.1 rfl (lv_room (Nat.le_of_ble_eq_true rfl)) dX11_readsItem_56 ⟨Nat.le_of_ble_eq_true rfl, Nat.le_of_ble_eq_true rfl⟩) hP hS hA (fun r64 H locs hwr64 hP hS => ?_)
      have hwr64 : (r64 = 1 ∧ True) ∨ (r64 = 0 ∧ True) := hwr64
      refine lv_if_eq (tgt := 112) hx hb dX11_readsItem_59 (by decide) (fun c65 => ?_) (fun c65 => ?_)
      · skip
        exact j112 _ _ hP hD hS ls hl
      · skip
        refine lv_aload_n hx hb dX11_readsItem_62 rfl (lv_at hl 0 rfl) ?_
        refine wr_v (wr := [(mm_next, .inl (cy 1, 122, .inl mm_next_f))]) (va_runV (As := []) (rest := []) ⟨hx, hb, hml, hown, hts⟩ (n_X11_goOn l D cy mm mm_now mm_kept mm_isKept mm_refused mm_lineFrom mm_lineTo mm_stands mm_far mm_queue mm_queued mm_meets mm_bytes bl ta tl mm_token mm_value mm_next tk mm_bytes_f _ (by first | assumption | omega) (by first | assumption | omega)) (cwV 0 hts gX11_readsItem_X11_goOn rfl rfl rfl (by decide +kernel) ⟨Nat.le_of_ble_eq_true rfl, Nat.le_of_ble_eq_true rfl⟩) (pV (ci := 11) (k := 0) hKA (hP.sub (ws' := [(mm, .inr (11, [.ref mm_now, .ref mm_kept, .ref mm_isKept, .ref mm_refused, .int mm_lineFrom, .int mm_lineTo, .ref mm_stands, .ref mm_far, .ref mm_queue, .int mm_queued, .ref mm_meets, .ref mm_bytes, .int (nI bl), .int (nI ta), .int (nI tl), .int mm_token, .int mm_value, .ref mm_next, .int (nI tk)])), (mm_bytes, .inl (cy 1, 250, .inl mm_bytes_f))]) [0, 1] rfl) (hD.sub (ws' := [(mm, .inr (11, [.ref mm_now, .ref mm_kept, .ref mm_isKept, .ref mm_refused, .int mm_lineFrom, .int mm_lineTo, .ref mm_stands, .ref mm_far, .ref mm_queue, .int mm_queued, .ref mm_meets, .ref mm_bytes, .int (nI bl), .int (nI ta), .int (nI tl), .int mm_token, .int mm_value, .ref mm_next, .int (nI tk)])), (mm_bytes, .inl (cy 1, 250, .inl mm_bytes_f))]) [0, 1] (by decide) rfl) rfl rfl) rfl rfl hl.1 rfl (lv_room (Nat.le_of_ble_eq_true rfl)) dX11_readsItem_63 ⟨Nat.le_of_ble_eq_true rfl, Nat.le_of_ble_eq_true rfl⟩) hP hD hS hA [0, 1] [2] rfl rfl (by decide +kernel) (by decide +kernel) (fun ur66 H locs hwr66 hP hD hS => ?_)
        obtain ⟨z67, z68, z69, z70⟩ := ur66
        have hP : va_P D vwCl [(mm_next, .inl (cy 1, 122, .inl mm_next_f)), (mm, .inr (11, [.ref mm_now, .ref mm_kept, .ref mm_isKept, .ref mm_refused, .int mm_lineFrom, .int mm_lineTo, .ref mm_stands, .ref mm_far, .ref mm_queue, .int mm_queued, .ref mm_meets, .ref mm_bytes, .int (nI bl), .int (nI z67), .int (nI z68), .int z69, .int z70, .ref mm_next, .int (nI tk)])), (mm_bytes, .inl (cy 1, 250, .inl mm_bytes_f))] H := hP
        have hD : va_D A [(mm_next, .inl (cy 1, 122, .inl mm_next_f)), (mm, .inr (11, [.ref mm_now, .ref mm_kept, .ref mm_isKept, .ref mm_refused, .int mm_lineFrom, .int mm_lineTo, .ref mm_stands, .ref mm_far, .ref mm_queue, .int mm_queued, .ref mm_meets, .ref mm_bytes, .int (nI bl), .int (nI z67), .int (nI z68), .int z69, .int z70, .ref mm_next, .int (nI tk)])), (mm_bytes, .inl (cy 1, 250, .inl mm_bytes_f))] := hD
        have hwr66 : z67 + z68 ≤ bl ∧ (z69 = 0 ∨ 1 ≤ z68) ∧ ta + tl ≤ z67 := hwr66
        obtain ⟨har66, hbr66, hcr66⟩ := hwr66
        refine lv_aload_n hx hb dX11_readsItem_66 rfl (lv_at hl 0 rfl) ?_
        refine lv_iconst (v := 0) hx hb dX11_readsItem_67 (by decide) ?_
        refine lv_aload_n hx hb dX11_readsItem_68 rfl (lv_at hl 0 rfl) ?_
        refine rd_i (va_runV (As := []) (rest := [.int 0, .ref mm]) ⟨hx, hb, hml, hown, hts⟩ (n_X11_nextSquares l D cy xW xH xS xP mm mm_now mm_kept mm_isKept mm_refused mm_lineFrom mm_lineTo mm_stands mm_far mm_queue mm_queued mm_meets mm_bytes bl z67 z68 z69 z70 mm_next tk mm_next_f _ (by first | assumption | omega)) (cwV 0 hts gX11_readsItem_X11_nextSquares rfl rfl rfl (by decide +kernel) ⟨Nat.le_of_ble_eq_true rfl, Nat.le_of_ble_eq_true rfl⟩) (pV (ci := 11) (k := 0) hKA (hP.sub (ws' := [(mm, .inr (11, [.ref mm_now, .ref mm_kept, .ref mm_isKept, .ref mm_refused, .int mm_lineFrom, .int mm_lineTo, .ref mm_stands, .ref mm_far, .ref mm_queue, .int mm_queued, .ref mm_meets, .ref mm_bytes, .int (nI bl), .int (nI z67), .int (nI z68), .int z69, .int z70, .ref mm_next, .int (nI tk)])), (mm_next, .inl (cy 1, 122, .inl mm_next_f))]) [1, 0] rfl) (hD.sub (ws' := [(mm, .inr (11, [.ref mm_now, .ref mm_kept, .ref mm_isKept, .ref mm_refused, .int mm_lineFrom, .int mm_lineTo, .ref mm_stands, .ref mm_far, .ref mm_queue, .int mm_queued, .ref mm_meets, .ref mm_bytes, .int (nI bl), .int (nI z67), .int (nI z68), .int z69, .int z70, .ref mm_next, .int (nI tk)])), (mm_next, .inl (cy 1, 122, .inl mm_next_f))]) [1, 0] (by decide) rfl) rfl rfl) rfl rfl hl.1 rfl (lv_room (Nat.le_of_ble_eq_true rfl)) dX11_readsItem_69 ⟨Nat.le_of_ble_eq_true rfl, Nat.le_of_ble_eq_true rfl⟩) hP hS hA (fun r71 H locs hwr71 hP hS => ?_)
        have hwr71 : r71 = nI xS := hwr71
        subst hwr71
        refine lv_iconst (v := 1) hx hb dX11_readsItem_72 (by decide) ?_
        refine lv_isub hx hb dX11_readsItem_73 ?_
        refine wr_i (wr := [(mm_next, .inl (cy 1, 122, .inl mm_next_f))]) (va_runV (As := [.int 0, .int ((nI xS) - 1)]) (rest := []) ⟨hx, hb, hml, hown, hts⟩ (n_X11_takes l D cy mm mm_now mm_kept mm_isKept mm_refused mm_lineFrom mm_lineTo mm_stands mm_far mm_queue mm_queued mm_meets mm_bytes bl z67 z68 z69 z70 mm_next tk mm_bytes_f 0 ((nI xS) - 1) _ (by first | assumption | omega) (by first | assumption | omega) (by first | assumption | omega) (by first | assumption | omega) (by first | assumption | omega) (by first | decide | exact z_pmle (by omega))) (cwV 2 hts gX11_readsItem_X11_takes rfl rfl rfl (by decide +kernel) ⟨Nat.le_of_ble_eq_true rfl, Nat.le_of_ble_eq_true rfl⟩) (pV (ci := 11) (k := 0) hKA (hP.sub (ws' := [(mm, .inr (11, [.ref mm_now, .ref mm_kept, .ref mm_isKept, .ref mm_refused, .int mm_lineFrom, .int mm_lineTo, .ref mm_stands, .ref mm_far, .ref mm_queue, .int mm_queued, .ref mm_meets, .ref mm_bytes, .int (nI bl), .int (nI z67), .int (nI z68), .int z69, .int z70, .ref mm_next, .int (nI tk)])), (mm_bytes, .inl (cy 1, 250, .inl mm_bytes_f))]) [1, 2] rfl) (hD.sub (ws' := [(mm, .inr (11, [.ref mm_now, .ref mm_kept, .ref mm_isKept, .ref mm_refused, .int mm_lineFrom, .int mm_lineTo, .ref mm_stands, .ref mm_far, .ref mm_queue, .int mm_queued, .ref mm_meets, .ref mm_bytes, .int (nI bl), .int (nI z67), .int (nI z68), .int z69, .int z70, .ref mm_next, .int (nI tk)])), (mm_bytes, .inl (cy 1, 250, .inl mm_bytes_f))]) [1, 2] (by decide) rfl) rfl rfl) rfl rfl hl.1 rfl (lv_room (Nat.le_of_ble_eq_true rfl)) dX11_readsItem_74 ⟨Nat.le_of_ble_eq_true rfl, Nat.le_of_ble_eq_true rfl⟩) hP hD hS hA [1, 2] [0] rfl rfl (by decide +kernel) (by decide +kernel) (fun r72 ur72 H locs hwr72 hP hD hS => ?_)
        obtain ⟨z73, z74, z75, z76, z77⟩ := ur72
        have hP : va_P D vwCl [(mm_next, .inl (cy 1, 122, .inl mm_next_f)), (mm, .inr (11, [.ref mm_now, .ref mm_kept, .ref mm_isKept, .ref mm_refused, .int mm_lineFrom, .int mm_lineTo, .ref mm_stands, .ref mm_far, .ref mm_queue, .int mm_queued, .ref mm_meets, .ref mm_bytes, .int (nI bl), .int (nI z73), .int (nI z74), .int z75, .int z76, .ref mm_next, .int (nI z77)])), (mm_bytes, .inl (cy 1, 250, .inl mm_bytes_f))] H := hP
        have hD : va_D A [(mm_next, .inl (cy 1, 122, .inl mm_next_f)), (mm, .inr (11, [.ref mm_now, .ref mm_kept, .ref mm_isKept, .ref mm_refused, .int mm_lineFrom, .int mm_lineTo, .ref mm_stands, .ref mm_far, .ref mm_queue, .int mm_queued, .ref mm_meets, .ref mm_bytes, .int (nI bl), .int (nI z73), .int (nI z74), .int z75, .int z76, .ref mm_next, .int (nI z77)])), (mm_bytes, .inl (cy 1, 250, .inl mm_bytes_f))] := hD
        have hwr72 : (r72 = 1 ∧ (z73 + z74 ≤ bl ∧ (z75 = 0 ∨ 1 ≤ z74) ∧ z67 ≤ z73 ∧ z77 ≤ 35 ∧ 0 ≤ z77 ∧ (z77 : Int) ≤ (((nI xS) - 1) : Int32).toInt)) ∨ (r72 = 0 ∧ (z73 + z74 ≤ bl ∧ (z75 = 0 ∨ 1 ≤ z74) ∧ z67 ≤ z73 ∧ z77 ≤ 35)) := hwr72
        obtain ⟨har72, hbr72, hcr72, hdr72⟩ := z_bq hwr72
        refine lv_istore_n (lv' := [(1, .int r72), (0, .ref mm)]) hx hb dX11_readsItem_77 rfl hl (by decide) rfl (fun ls hl => ?_)
        refine lv_aload_n hx hb dX11_readsItem_78 rfl (lv_at hl 1 rfl) ?_
        refine va_get (D := D) (ci := 11) (v := .ref mm_next) (C := RX11) (T := TX11) (N := 19) hx hb hts zi11_ hown hK hP 1 rfl rfl 17 (by decide) z0_ (fun _ h9 => h9) rfl dX11_readsItem_79 ?_
        refine lv_bipush (v := 56) hx hb dX11_readsItem_82 (by decide) ?_
        refine lv_aload_n hx hb dX11_readsItem_84 rfl (lv_at hl 1 rfl) ?_
        refine va_get (D := D) (ci := 11) (v := .int (nI z77)) (C := RX11) (T := TX11) (N := 19) hx hb hts zi11_ hown hK hP 1 rfl rfl 18 (by decide) z2_ (fun _ h9 => h9) rfl dX11_readsItem_85 ?_
        refine lv_iadd hx hb dX11_readsItem_88 ?_
        refine lv_topi (fun x78 ex78 => ?_)
        obtain rfl : x78 = nI (56 + z77) := by rw [ex78]; exact nI_add _ _
        refine lv_iload_n hx hb dX11_readsItem_89 rfl (lv_at hl 0 rfl) ?_
        refine lv_if_eq (tgt := 97) hx hb dX11_readsItem_90 (by decide) (fun c79 => ?_) (fun c79 => ?_)
        · skip
          obtain ⟨hq80, hq81, hq82, hq83⟩ := z_b0 hwr72 c79
          refine lv_aload_n hx hb dX11_readsItem_97 rfl (lv_at hl 1 rfl) ?_
          refine va_get (D := D) (ci := 11) (v := .ref mm_next) (C := RX11) (T := TX11) (N := 19) hx hb hts zi11_ hown hK hP 1 rfl rfl 17 (by decide) z0_ (fun _ h9 => h9) rfl dX11_readsItem_98 ?_
          refine lv_bipush (v := 56) hx hb dX11_readsItem_101 (by decide) ?_
          refine lv_aload_n hx hb dX11_readsItem_103 rfl (lv_at hl 1 rfl) ?_
          refine va_get (D := D) (ci := 11) (v := .int (nI z77)) (C := RX11) (T := TX11) (N := 19) hx hb hts zi11_ hown hK hP 1 rfl rfl 18 (by decide) z2_ (fun _ h9 => h9) rfl dX11_readsItem_104 ?_
          refine lv_iadd hx hb dX11_readsItem_107 ?_
          refine lv_topi (fun x84 ex84 => ?_)
          obtain rfl : x84 = nI (56 + z77) := by rw [ex84]; exact nI_add _ _
          refine my_iald hx hb hK hP 0 1 rfl rfl (by first | exact in_ge (N := 122) (by decide) (by omega) (by assumption) | exact vp_in_nI (by omega) (by omega)) (nI_clamp (by omega)) dX11_readsItem_108 ?_
          obtain ⟨jf, ejf, hjf⟩ := mV.get hX (56 + z77) 1 (by omega) (by omega) (by unfold mHi; (repeat' split) <;> omega)
          refine W.eq (g2 := F0 m 109 ls [.int (nI jf), .int (nI (56 + z77)), .ref mm_next]) (congrArg (fun v9 : Int32 => F0 m 109 ls [.int v9, .int (nI (56 + z77)), .ref mm_next]) ejf) ?_
          refine my_iast hx hb hK hP hD hS 0 1 rfl rfl (by first | exact in_ge (N := 122) (by decide) (by omega) (by assumption) | exact vp_in_nI (by omega) (by omega)) (nI_clamp (by omega)) dX11_readsItem_109 (fun H locs hP hD hS => ?_)
          have hP : va_P D vwCl [(mm_next, .inl (cy 1, 122, .inl (upd mm_next_f (56 + z77) (nI jf)))), (mm, .inr (11, [.ref mm_now, .ref mm_kept, .ref mm_isKept, .ref mm_refused, .int mm_lineFrom, .int mm_lineTo, .ref mm_stands, .ref mm_far, .ref mm_queue, .int mm_queued, .ref mm_meets, .ref mm_bytes, .int (nI bl), .int (nI z73), .int (nI z74), .int z75, .int z76, .ref mm_next, .int (nI z77)])), (mm_bytes, .inl (cy 1, 250, .inl mm_bytes_f))] H := hP
          have hD : va_D A [(mm_next, .inl (cy 1, 122, .inl (upd mm_next_f (56 + z77) (nI jf)))), (mm, .inr (11, [.ref mm_now, .ref mm_kept, .ref mm_isKept, .ref mm_refused, .int mm_lineFrom, .int mm_lineTo, .ref mm_stands, .ref mm_far, .ref mm_queue, .int mm_queued, .ref mm_meets, .ref mm_bytes, .int (nI bl), .int (nI z73), .int (nI z74), .int z75, .int z76, .ref mm_next, .int (nI z77)])), (mm_bytes, .inl (cy 1, 250, .inl mm_bytes_f))] := hD
          obtain ⟨f85, ef85⟩ : ∃ y : Nat → Int32, y = upd mm_next_f (56 + z77) (nI jf) := ⟨_, rfl⟩
          rw [← ef85] at hP hD
          have hf85 : mV f85 xW xH xS xP := by rw [ef85]; exact mV.put hX (56 + z77) jf rfl (by omega) (by unfold mHi; (repeat' split) <;> omega)
          have hP : va_P D vwCl [(mm_next, .inl (cy 1, 122, .inl f85)), (mm, .inr (11, [.ref mm_now, .ref mm_kept, .ref mm_isKept, .ref mm_refused, .int mm_lineFrom, .int mm_lineTo, .ref mm_stands, .ref mm_far, .ref mm_queue, .int mm_queued, .ref mm_meets, .ref mm_bytes, .int (nI bl), .int (nI z73), .int (nI z74), .int z75, .int z76, .ref mm_next, .int (nI z77)])), (mm_bytes, .inl (cy 1, 250, .inl mm_bytes_f))] H := hP
          have hD : va_D A [(mm_next, .inl (cy 1, 122, .inl f85)), (mm, .inr (11, [.ref mm_now, .ref mm_kept, .ref mm_isKept, .ref mm_refused, .int mm_lineFrom, .int mm_lineTo, .ref mm_stands, .ref mm_far, .ref mm_queue, .int mm_queued, .ref mm_meets, .ref mm_bytes, .int (nI bl), .int (nI z73), .int (nI z74), .int z75, .int z76, .ref mm_next, .int (nI z77)])), (mm_bytes, .inl (cy 1, 250, .inl mm_bytes_f))] := hD
          refine lv_iload_n hx hb dX11_readsItem_110 rfl (lv_at hl 0 rfl) ?_
          subst hQF
          have hP9 := hP.sub (ws' := [(mm, .inr (11, [.ref mm_now, .ref mm_kept, .ref mm_isKept, .ref mm_refused, .int mm_lineFrom, .int mm_lineTo, .ref mm_stands, .ref mm_far, .ref mm_queue, .int mm_queued, .ref mm_meets, .ref mm_bytes, .int (nI bl), .int (nI z73), .int (nI z74), .int z75, .int z76, .ref mm_next, .int (nI z77)])), (mm_bytes, .inl (cy 1, 250, .inl mm_bytes_f)), (mm_next, .inl (cy 1, 122, .inl f85))]) [1, 2, 0] rfl
          have hD9 := hD.sub (ws' := [(mm, .inr (11, [.ref mm_now, .ref mm_kept, .ref mm_isKept, .ref mm_refused, .int mm_lineFrom, .int mm_lineTo, .ref mm_stands, .ref mm_far, .ref mm_queue, .int mm_queued, .ref mm_meets, .ref mm_bytes, .int (nI bl), .int (nI z73), .int (nI z74), .int z75, .int z76, .ref mm_next, .int (nI z77)])), (mm_bytes, .inl (cy 1, 250, .inl mm_bytes_f)), (mm_next, .inl (cy 1, 122, .inl f85))]) [1, 2, 0] (by decide) rfl
          exact W.zret (v := r72) hx hb hr (z_bn hwr72) (fun t ht hW => ⟨⟨r72, (z73, z74, z75, z76, z77, f85), rfl, (z_bj hwr72 ⟨(show z73 + z74 ≤ bl by omega), (by assumption), (show ta ≤ z73 by omega), (show z77 ≤ 35 by omega), ⟨_, _, _, _, hf85⟩⟩), by rw [ht]; exact hP9, hD9⟩, hS.F ht⟩) hS.2.2 dX11_readsItem_111
        · skip
          obtain ⟨hp86, hp87, hp88, hp89, hp90, hp91⟩ := z_b1 hwr72 c79
          refine lv_iconst (v := 1) hx hb dX11_readsItem_93 (by decide) ?_
          refine lv_goto (tgt := 109) hx hb dX11_readsItem_94 (by decide) ?_
          refine my_iast hx hb hK hP hD hS 0 1 rfl rfl (by first | exact in_ge (N := 122) (by decide) (by omega) (by assumption) | exact vp_in_nI (by omega) (by omega)) (nI_clamp (by omega)) dX11_readsItem_109 (fun H locs hP hD hS => ?_)
          have hP : va_P D vwCl [(mm_next, .inl (cy 1, 122, .inl (upd mm_next_f (56 + z77) 1))), (mm, .inr (11, [.ref mm_now, .ref mm_kept, .ref mm_isKept, .ref mm_refused, .int mm_lineFrom, .int mm_lineTo, .ref mm_stands, .ref mm_far, .ref mm_queue, .int mm_queued, .ref mm_meets, .ref mm_bytes, .int (nI bl), .int (nI z73), .int (nI z74), .int z75, .int z76, .ref mm_next, .int (nI z77)])), (mm_bytes, .inl (cy 1, 250, .inl mm_bytes_f))] H := hP
          have hD : va_D A [(mm_next, .inl (cy 1, 122, .inl (upd mm_next_f (56 + z77) 1))), (mm, .inr (11, [.ref mm_now, .ref mm_kept, .ref mm_isKept, .ref mm_refused, .int mm_lineFrom, .int mm_lineTo, .ref mm_stands, .ref mm_far, .ref mm_queue, .int mm_queued, .ref mm_meets, .ref mm_bytes, .int (nI bl), .int (nI z73), .int (nI z74), .int z75, .int z76, .ref mm_next, .int (nI z77)])), (mm_bytes, .inl (cy 1, 250, .inl mm_bytes_f))] := hD
          obtain ⟨f92, ef92⟩ : ∃ y : Nat → Int32, y = upd mm_next_f (56 + z77) 1 := ⟨_, rfl⟩
          rw [← ef92] at hP hD
          have hf92 : mV f92 xW xH xS xP := by rw [ef92]; exact mV.put hX (56 + z77) 1 rfl (by omega) (by unfold mHi; (repeat' split) <;> omega)
          have hP : va_P D vwCl [(mm_next, .inl (cy 1, 122, .inl f92)), (mm, .inr (11, [.ref mm_now, .ref mm_kept, .ref mm_isKept, .ref mm_refused, .int mm_lineFrom, .int mm_lineTo, .ref mm_stands, .ref mm_far, .ref mm_queue, .int mm_queued, .ref mm_meets, .ref mm_bytes, .int (nI bl), .int (nI z73), .int (nI z74), .int z75, .int z76, .ref mm_next, .int (nI z77)])), (mm_bytes, .inl (cy 1, 250, .inl mm_bytes_f))] H := hP
          have hD : va_D A [(mm_next, .inl (cy 1, 122, .inl f92)), (mm, .inr (11, [.ref mm_now, .ref mm_kept, .ref mm_isKept, .ref mm_refused, .int mm_lineFrom, .int mm_lineTo, .ref mm_stands, .ref mm_far, .ref mm_queue, .int mm_queued, .ref mm_meets, .ref mm_bytes, .int (nI bl), .int (nI z73), .int (nI z74), .int z75, .int z76, .ref mm_next, .int (nI z77)])), (mm_bytes, .inl (cy 1, 250, .inl mm_bytes_f))] := hD
          refine lv_iload_n hx hb dX11_readsItem_110 rfl (lv_at hl 0 rfl) ?_
          subst hQF
          have hP9 := hP.sub (ws' := [(mm, .inr (11, [.ref mm_now, .ref mm_kept, .ref mm_isKept, .ref mm_refused, .int mm_lineFrom, .int mm_lineTo, .ref mm_stands, .ref mm_far, .ref mm_queue, .int mm_queued, .ref mm_meets, .ref mm_bytes, .int (nI bl), .int (nI z73), .int (nI z74), .int z75, .int z76, .ref mm_next, .int (nI z77)])), (mm_bytes, .inl (cy 1, 250, .inl mm_bytes_f)), (mm_next, .inl (cy 1, 122, .inl f92))]) [1, 2, 0] rfl
          have hD9 := hD.sub (ws' := [(mm, .inr (11, [.ref mm_now, .ref mm_kept, .ref mm_isKept, .ref mm_refused, .int mm_lineFrom, .int mm_lineTo, .ref mm_stands, .ref mm_far, .ref mm_queue, .int mm_queued, .ref mm_meets, .ref mm_bytes, .int (nI bl), .int (nI z73), .int (nI z74), .int z75, .int z76, .ref mm_next, .int (nI z77)])), (mm_bytes, .inl (cy 1, 250, .inl mm_bytes_f)), (mm_next, .inl (cy 1, 122, .inl f92))]) [1, 2, 0] (by decide) rfl
          exact W.zret (v := r72) hx hb hr (z_bn hwr72) (fun t ht hW => ⟨⟨r72, (z73, z74, z75, z76, z77, f92), rfl, (z_bj hwr72 ⟨(show z73 + z74 ≤ bl by omega), (by assumption), (show ta ≤ z73 by omega), (show z77 ≤ 35 by omega), ⟨_, _, _, _, hf92⟩⟩), by rw [ht]; exact hP9, hD9⟩, hS.F ht⟩) hS.2.2 dX11_readsItem_111
  refine lv_if_eq (tgt := 32) hx hb dX11_readsItem_12 (by decide) (fun c93 => ?_) (fun c93 => ?_)
  · skip
    exact j32 _ _ hP hD hS ls hl
  · skip
    refine lv_aload_n hx hb dX11_readsItem_15 rfl (lv_at hl 0 rfl) ?_
    refine lv_bipush (v := 101) hx hb dX11_readsItem_16 (by decide) ?_
    refine lv_iconst (v := 0) hx hb dX11_readsItem_18 (by decide) ?_
    refine lv_iconst (v := 0) hx hb dX11_readsItem_19 (by decide) ?_
    refine lv_iconst (v := 0) hx hb dX11_readsItem_20 (by decide) ?_
    refine rd_i (va_runV (As := [.int 101, .int 0, .int 0, .int 0]) (rest := []) ⟨hx, hb, hml, hown, hts⟩ (n_X11_goesOn l D cy mm mm_now mm_kept mm_isKept mm_refused mm_lineFrom mm_lineTo mm_stands mm_far mm_queue mm_queued mm_meets mm_bytes bl ta tl mm_token mm_value mm_next tk mm_bytes_f (101) (0) (0) (0) _ (by first | assumption | omega) (by first | assumption | omega)) (cwV 4 hts gX11_readsItem_X11_goesOn rfl rfl rfl (by decide +kernel) ⟨Nat.le_of_ble_eq_true rfl, Nat.le_of_ble_eq_true rfl⟩) (pV (ci := 11) (k := 0) hKA (hP.sub (ws' := [(mm, .inr (11, [.ref mm_now, .ref mm_kept, .ref mm_isKept, .ref mm_refused, .int mm_lineFrom, .int mm_lineTo, .ref mm_stands, .ref mm_far, .ref mm_queue, .int mm_queued, .ref mm_meets, .ref mm_bytes, .int (nI bl), .int (nI ta), .int (nI tl), .int mm_token, .int mm_value, .ref mm_next, .int (nI tk)])), (mm_bytes, .inl (cy 1, 250, .inl mm_bytes_f))]) [0, 1] rfl) (hD.sub (ws' := [(mm, .inr (11, [.ref mm_now, .ref mm_kept, .ref mm_isKept, .ref mm_refused, .int mm_lineFrom, .int mm_lineTo, .ref mm_stands, .ref mm_far, .ref mm_queue, .int mm_queued, .ref mm_meets, .ref mm_bytes, .int (nI bl), .int (nI ta), .int (nI tl), .int mm_token, .int mm_value, .ref mm_next, .int (nI tk)])), (mm_bytes, .inl (cy 1, 250, .inl mm_bytes_f))]) [0, 1] (by decide) rfl) rfl rfl) rfl rfl hl.1 rfl (lv_room (Nat.le_of_ble_eq_true rfl)) dX11_readsItem_21 ⟨Nat.le_of_ble_eq_true rfl, Nat.le_of_ble_eq_true rfl⟩) hP hS hA (fun r94 H locs hwr94 hP hS => ?_)
    have hwr94 : (r94 = 1 ∧ True) ∨ (r94 = 0 ∧ True) := hwr94
    refine lv_if_eq (tgt := 32) hx hb dX11_readsItem_24 (by decide) (fun c95 => ?_) (fun c95 => ?_)
    · skip
      exact j32 _ _ hP hD hS ls hl
    · skip
      refine lv_aload_n hx hb dX11_readsItem_27 rfl (lv_at hl 0 rfl) ?_
      refine wr_i (wr := []) (va_runV (As := []) (rest := []) ⟨hx, hb, hml, hown, hts⟩ (n_X11_readsHedge l D cy mm mm_now mm_kept mm_isKept mm_refused mm_lineFrom mm_lineTo mm_stands mm_far mm_queue mm_queued mm_meets mm_bytes bl ta tl mm_token mm_value mm_next tk mm_bytes_f mm_next_f _ (by first | assumption | omega) (by first | assumption | omega) (by first | assumption | omega) (by first | assumption | omega) ⟨_, _, _, _, hX⟩) (cwV 0 hts gX11_readsItem_X11_readsHedge rfl rfl rfl (by decide +kernel) ⟨Nat.le_of_ble_eq_true rfl, Nat.le_of_ble_eq_true rfl⟩) (pV (ci := 11) (k := 0) hKA (hP.sub (ws' := [(mm, .inr (11, [.ref mm_now, .ref mm_kept, .ref mm_isKept, .ref mm_refused, .int mm_lineFrom, .int mm_lineTo, .ref mm_stands, .ref mm_far, .ref mm_queue, .int mm_queued, .ref mm_meets, .ref mm_bytes, .int (nI bl), .int (nI ta), .int (nI tl), .int mm_token, .int mm_value, .ref mm_next, .int (nI tk)])), (mm_bytes, .inl (cy 1, 250, .inl mm_bytes_f)), (mm_next, .inl (cy 1, 122, .inl mm_next_f))]) [0, 1, 2] rfl) (hD.sub (ws' := [(mm, .inr (11, [.ref mm_now, .ref mm_kept, .ref mm_isKept, .ref mm_refused, .int mm_lineFrom, .int mm_lineTo, .ref mm_stands, .ref mm_far, .ref mm_queue, .int mm_queued, .ref mm_meets, .ref mm_bytes, .int (nI bl), .int (nI ta), .int (nI tl), .int mm_token, .int mm_value, .ref mm_next, .int (nI tk)])), (mm_bytes, .inl (cy 1, 250, .inl mm_bytes_f)), (mm_next, .inl (cy 1, 122, .inl mm_next_f))]) [0, 1, 2] (by decide) rfl) rfl rfl) rfl rfl hl.1 rfl (lv_room (Nat.le_of_ble_eq_true rfl)) dX11_readsItem_28 ⟨Nat.le_of_ble_eq_true rfl, Nat.le_of_ble_eq_true rfl⟩) hP hD hS hA [0, 1, 2] [] rfl rfl (by decide +kernel) (by decide +kernel) (fun r96 ur96 H locs hwr96 hP hD hS => ?_)
      obtain ⟨z97, z98, z99, z100, z101⟩ := ur96
      have hP : va_P D vwCl [(mm, .inr (11, [.ref mm_now, .ref mm_kept, .ref mm_isKept, .ref mm_refused, .int mm_lineFrom, .int mm_lineTo, .ref mm_stands, .ref mm_far, .ref mm_queue, .int mm_queued, .ref mm_meets, .ref mm_bytes, .int (nI bl), .int (nI z97), .int (nI z98), .int z99, .int z100, .ref mm_next, .int (nI tk)])), (mm_bytes, .inl (cy 1, 250, .inl mm_bytes_f)), (mm_next, .inl (cy 1, 122, .inl z101))] H := hP
      have hD : va_D A [(mm, .inr (11, [.ref mm_now, .ref mm_kept, .ref mm_isKept, .ref mm_refused, .int mm_lineFrom, .int mm_lineTo, .ref mm_stands, .ref mm_far, .ref mm_queue, .int mm_queued, .ref mm_meets, .ref mm_bytes, .int (nI bl), .int (nI z97), .int (nI z98), .int z99, .int z100, .ref mm_next, .int (nI tk)])), (mm_bytes, .inl (cy 1, 250, .inl mm_bytes_f)), (mm_next, .inl (cy 1, 122, .inl z101))] := hD
      have hwr96 : (r96 = 1 ∧ (z97 + z98 ≤ bl ∧ (z99 = 0 ∨ 1 ≤ z98) ∧ ta ≤ z97 ∧ tk ≤ 35 ∧ mN z101)) ∨ (r96 = 0 ∧ (z97 + z98 ≤ bl ∧ (z99 = 0 ∨ 1 ≤ z98) ∧ ta ≤ z97 ∧ tk ≤ 35 ∧ mN z101)) := hwr96
      subst hQF
      have hP9 := hP
      have hD9 := hD
      exact W.zret (v := r96) hx hb hr (z_bn hwr96) (fun t ht hW => ⟨⟨r96, (z97, z98, z99, z100, tk, z101), rfl, hwr96, by rw [ht]; exact hP9, hD9⟩, hS.F ht⟩) hS.2.2 dX11_readsItem_31
