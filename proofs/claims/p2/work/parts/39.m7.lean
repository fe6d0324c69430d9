theorem dX11_walk_0 : decode cX11_walk 0 = .ok (.aload_n 0, 1) := by decide +kernel
theorem dX11_walk_1 : decode cX11_walk 1 = .ok (.iload_n 1, 1) := by decide +kernel
set_option maxRecDepth 20000 in
theorem ggX11_walk_X11_isOne : GoodIn wsX11_walk wsX11_isOne := goodIn_r _ [7, 8, 9, 10, 6, 11, 12, 13, 14, 15, 121, 122, 123, 124, 125, 126, 127, 128, 129, 130, 131, 132, 133, 134, 135, 136, 137, 138, 139] (by decide +kernel) (by decide +kernel)
set_option maxRecDepth 20000 in
theorem gX11_walk_X11_isOne : GoodIn wsX11_walk (wsV RX11 94 RX11 yX11_isOne wsX11_isOne) := goodIn_app (goodIn_of _ (by decide +kernel)) ggX11_walk_X11_isOne
theorem dX11_walk_2 : decode cX11_walk 2 = .ok (.invokevirtual 94, 3) := by decide +kernel
theorem dX11_walk_5 : decode cX11_walk 5 = .ok (.ifCond .eq 25, 3) := by decide +kernel
theorem dX11_walk_30 : decode cX11_walk 30 = .ok (.aload_n 0, 1) := by decide +kernel
theorem dX11_walk_31 : decode cX11_walk 31 = .ok (.bipush (-10), 2) := by decide +kernel
set_option maxRecDepth 20000 in
theorem ggX11_walk_X11_bad : GoodIn wsX11_walk wsX11_bad := goodIn_r _ [31, 32, 121, 122, 123, 124, 125, 126, 127, 128, 129, 130, 131, 132, 133, 134, 135, 136, 137, 138, 139] (by decide +kernel) (by decide +kernel)
set_option maxRecDepth 20000 in
theorem gX11_walk_X11_bad : GoodIn wsX11_walk (wsV RX11 60 RX11 yX11_bad wsX11_bad) := goodIn_app (goodIn_of _ (by decide +kernel)) ggX11_walk_X11_bad
theorem dX11_walk_33 : decode cX11_walk 33 = .ok (.invokevirtual 60, 3) := by decide +kernel
theorem dX11_walk_36 : decode cX11_walk 36 = .ok (.ireturn, 1) := by decide +kernel
theorem dX11_walk_8 : decode cX11_walk 8 = .ok (.aload_n 0, 1) := by decide +kernel
theorem dX11_walk_9 : decode cX11_walk 9 = .ok (.iload_n 2, 1) := by decide +kernel
set_option maxRecDepth 20000 in
theorem ggX11_walk_X11_isSquare : GoodIn wsX11_walk wsX11_isSquare := goodIn_r _ [19, 20, 21, 22, 6, 23, 12, 13, 14, 15, 121, 122, 123, 124, 125, 126, 127, 128, 129, 130, 131, 132, 133, 134, 135, 136, 137, 138, 139] (by decide +kernel) (by decide +kernel)
set_option maxRecDepth 20000 in
theorem gX11_walk_X11_isSquare : GoodIn wsX11_walk (wsV RX11 68 RX11 yX11_isSquare wsX11_isSquare) := goodIn_app (goodIn_of _ (by decide +kernel)) ggX11_walk_X11_isSquare
theorem dX11_walk_10 : decode cX11_walk 10 = .ok (.invokevirtual 68, 3) := by decide +kernel
theorem dX11_walk_13 : decode cX11_walk 13 = .ok (.ifCond .eq 17, 3) := by decide +kernel
theorem dX11_walk_16 : decode cX11_walk 16 = .ok (.aload_n 0, 1) := by decide +kernel
theorem dX11_walk_17 : decode cX11_walk 17 = .ok (.iload_n 3, 1) := by decide +kernel
set_option maxRecDepth 20000 in
theorem ggX11_walk_X11_isSet : GoodIn wsX11_walk wsX11_isSet := goodIn_r _ [27, 8, 9, 10, 6, 11, 12, 13, 14, 15, 121, 122, 123, 124, 125, 126, 127, 128, 129, 130, 131, 132, 133, 134, 135, 136, 137, 138, 139] (by decide +kernel) (by decide +kernel)
set_option maxRecDepth 20000 in
theorem gX11_walk_X11_isSet : GoodIn wsX11_walk (wsV RX11 160 RX11 yX11_isSet wsX11_isSet) := goodIn_app (goodIn_of _ (by decide +kernel)) ggX11_walk_X11_isSet
theorem dX11_walk_18 : decode cX11_walk 18 = .ok (.invokevirtual 160, 3) := by decide +kernel
theorem dX11_walk_21 : decode cX11_walk 21 = .ok (.ifCond .eq 9, 3) := by decide +kernel
theorem dX11_walk_24 : decode cX11_walk 24 = .ok (.iload 4, 2) := by decide +kernel
theorem dX11_walk_26 : decode cX11_walk 26 = .ok (.iconst (-1), 1) := by decide +kernel
theorem dX11_walk_27 : decode cX11_walk 27 = .ok (.if_icmp .ge 10, 3) := by decide +kernel
theorem dX11_walk_37 : decode cX11_walk 37 = .ok (.aload_n 0, 1) := by decide +kernel
theorem dX11_walk_38 : decode cX11_walk 38 = .ok (.iload_n 1, 1) := by decide +kernel
theorem dX11_walk_39 : decode cX11_walk 39 = .ok (.iload_n 3, 1) := by decide +kernel
set_option maxRecDepth 20000 in
theorem ggX11_walk_X11_findMay : GoodIn wsX11_walk wsX11_findMay := goodIn_r _ [36, 37, 38, 39, 40, 6, 41, 12, 20, 21, 22, 23, 42, 43, 44, 45, 46, 47, 48, 49, 50, 51, 52, 53, 54, 55, 56, 8, 9, 10, 11, 57, 58, 59, 60, 61, 62, 63, 64, 65, 66, 67, 68, 69, 70, 71, 72, 73, 74, 75, 76, 77, 78, 79, 80, 81, 82, 2, 83, 84, 85, 86, 87, 88, 89, 90, 91, 92, 93, 94, 95, 96, 97, 98, 99, 100, 101, 102, 103, 104, 105, 106, 107, 108, 109, 110, 121, 122, 123, 124, 125, 126, 127, 128, 129, 130, 131, 132, 133, 134, 135, 136, 137, 138, 139] (by decide +kernel) (by decide +kernel)
set_option maxRecDepth 20000 in
theorem gX11_walk_X11_findMay : GoodIn wsX11_walk (wsV RX11 175 RX11 yX11_findMay wsX11_findMay) := goodIn_app (goodIn_of _ (by decide +kernel)) ggX11_walk_X11_findMay
theorem dX11_walk_40 : decode cX11_walk 40 = .ok (.invokevirtual 175, 3) := by decide +kernel
theorem dX11_walk_43 : decode cX11_walk 43 = .ok (.aload_n 0, 1) := by decide +kernel
theorem dX11_walk_44 : decode cX11_walk 44 = .ok (.iload_n 2, 1) := by decide +kernel
set_option maxRecDepth 20000 in
theorem ggX11_walk_X11_findFar : GoodIn wsX11_walk wsX11_findFar := goodIn_r _ [114, 1, 2, 115, 37, 116, 117, 118, 119, 6, 120, 12, 84, 85, 86, 87, 69, 70, 71, 72, 65, 66, 67, 68, 13, 14, 15, 121, 122, 123, 124, 125, 126, 127, 128, 129, 130, 131, 132, 133, 134, 135, 136, 137, 138, 139] (by decide +kernel) (by decide +kernel)
set_option maxRecDepth 20000 in
theorem gX11_walk_X11_findFar : GoodIn wsX11_walk (wsV RX11 178 RX11 yX11_findFar wsX11_findFar) := goodIn_app (goodIn_of _ (by decide +kernel)) ggX11_walk_X11_findFar
theorem dX11_walk_45 : decode cX11_walk 45 = .ok (.invokevirtual 178, 3) := by decide +kernel
theorem dX11_walk_48 : decode cX11_walk 48 = .ok (.aload_n 0, 1) := by decide +kernel
theorem dX11_walk_49 : decode cX11_walk 49 = .ok (.iload_n 1, 1) := by decide +kernel
theorem dX11_walk_50 : decode cX11_walk 50 = .ok (.iconst 1, 1) := by decide +kernel
set_option maxRecDepth 20000 in
theorem ggX11_walk_X11_of : GoodIn wsX11_walk wsX11_of := goodIn_r _ [41, 12, 121, 122, 123, 124, 125, 126, 127, 128, 129, 130, 131, 132, 133, 134, 135, 136, 137, 138, 139] (by decide +kernel) (by decide +kernel)
set_option maxRecDepth 20000 in
theorem gX11_walk_X11_of : GoodIn wsX11_walk (wsV RX11 97 RX11 yX11_of wsX11_of) := goodIn_app (goodIn_of _ (by decide +kernel)) ggX11_walk_X11_of
theorem dX11_walk_51 : decode cX11_walk 51 = .ok (.invokevirtual 97, 3) := by decide +kernel
theorem dX11_walk_54 : decode cX11_walk 54 = .ok (.istore 5, 2) := by decide +kernel
theorem dX11_walk_56 : decode cX11_walk 56 = .ok (.aload_n 0, 1) := by decide +kernel
theorem dX11_walk_57 : decode cX11_walk 57 = .ok (.getfield 26, 3) := by decide +kernel
theorem dX11_walk_60 : decode cX11_walk 60 = .ok (.iload 5, 2) := by decide +kernel
theorem dX11_walk_62 : decode cX11_walk 62 = .ok (.iaload, 1) := by decide +kernel
theorem dX11_walk_63 : decode cX11_walk 63 = .ok (.ldc 127, 2) := by decide +kernel
theorem dX11_walk_65 : decode cX11_walk 65 = .ok (.if_icmp .ne 5, 3) := by decide +kernel
theorem dX11_walk_70 : decode cX11_walk 70 = .ok (.iload 4, 2) := by decide +kernel
theorem dX11_walk_72 : decode cX11_walk 72 = .ok (.iconst (-1), 1) := by decide +kernel
theorem dX11_walk_73 : decode cX11_walk 73 = .ok (.if_icmp .ne 11, 3) := by decide +kernel
theorem dX11_walk_84 : decode cX11_walk 84 = .ok (.iload 4, 2) := by decide +kernel
theorem dX11_walk_86 : decode cX11_walk 86 = .ok (.aload_n 0, 1) := by decide +kernel
theorem dX11_walk_87 : decode cX11_walk 87 = .ok (.getfield 26, 3) := by decide +kernel
theorem dX11_walk_90 : decode cX11_walk 90 = .ok (.iload 5, 2) := by decide +kernel
theorem dX11_walk_92 : decode cX11_walk 92 = .ok (.iaload, 1) := by decide +kernel
theorem dX11_walk_93 : decode cX11_walk 93 = .ok (.if_icmp .le 6, 3) := by decide +kernel
theorem dX11_walk_99 : decode cX11_walk 99 = .ok (.iconst 0, 1) := by decide +kernel
theorem dX11_walk_100 : decode cX11_walk 100 = .ok (.istore 6, 2) := by decide +kernel
theorem dX11_walk_102 : decode cX11_walk 102 = .ok (.iload 6, 2) := by decide +kernel
theorem dX11_walk_104 : decode cX11_walk 104 = .ok (.iload 4, 2) := by decide +kernel
theorem dX11_walk_106 : decode cX11_walk 106 = .ok (.if_icmp .ge 67, 3) := by decide +kernel
theorem dX11_walk_173 : decode cX11_walk 173 = .ok (.iload 5, 2) := by decide +kernel
theorem dX11_walk_175 : decode cX11_walk 175 = .ok (.ireturn, 1) := by decide +kernel
theorem dX11_walk_109 : decode cX11_walk 109 = .ok (.iconst 0, 1) := by decide +kernel
theorem dX11_walk_110 : decode cX11_walk 110 = .ok (.istore 7, 2) := by decide +kernel
theorem dX11_walk_112 : decode cX11_walk 112 = .ok (.aload_n 0, 1) := by decide +kernel
theorem dX11_walk_113 : decode cX11_walk 113 = .ok (.iload 5, 2) := by decide +kernel
theorem dX11_walk_115 : decode cX11_walk 115 = .ok (.iload 7, 2) := by decide +kernel
set_option maxRecDepth 20000 in
theorem ggX11_walk_X11_beside : GoodIn wsX11_walk wsX11_beside := goodIn_r _ [120, 12, 84, 85, 86, 6, 87, 69, 70, 71, 72, 65, 66, 67, 68, 13, 14, 15, 121, 122, 123, 124, 125, 126, 127, 128, 129, 130, 131, 132, 133, 134, 135, 136, 137, 138, 139] (by decide +kernel) (by decide +kernel)
set_option maxRecDepth 20000 in
theorem gX11_walk_X11_beside : GoodIn wsX11_walk (wsV RX11 172 RX11 yX11_beside wsX11_beside) := goodIn_app (goodIn_of _ (by decide +kernel)) ggX11_walk_X11_beside
theorem dX11_walk_117 : decode cX11_walk 117 = .ok (.invokevirtual 172, 3) := by decide +kernel
theorem dX11_walk_120 : decode cX11_walk 120 = .ok (.istore 8, 2) := by decide +kernel
theorem dX11_walk_122 : decode cX11_walk 122 = .ok (.iload 8, 2) := by decide +kernel
theorem dX11_walk_124 : decode cX11_walk 124 = .ok (.iconst (-1), 1) := by decide +kernel
theorem dX11_walk_125 : decode cX11_walk 125 = .ok (.if_icmp .eq 22, 3) := by decide +kernel
theorem dX11_walk_147 : decode cX11_walk 147 = .ok (.iinc 7 1, 3) := by decide +kernel
theorem dX11_walk_150 : decode cX11_walk 150 = .ok (.aload_n 0, 1) := by decide +kernel
theorem dX11_walk_151 : decode cX11_walk 151 = .ok (.iload 5, 2) := by decide +kernel
theorem dX11_walk_153 : decode cX11_walk 153 = .ok (.iload 7, 2) := by decide +kernel
theorem dX11_walk_155 : decode cX11_walk 155 = .ok (.invokevirtual 172, 3) := by decide +kernel
theorem dX11_walk_158 : decode cX11_walk 158 = .ok (.istore 8, 2) := by decide +kernel
theorem dX11_walk_160 : decode cX11_walk 160 = .ok (.goto (-38), 3) := by decide +kernel
theorem dX11_walk_128 : decode cX11_walk 128 = .ok (.aload_n 0, 1) := by decide +kernel
theorem dX11_walk_129 : decode cX11_walk 129 = .ok (.getfield 26, 3) := by decide +kernel
theorem dX11_walk_132 : decode cX11_walk 132 = .ok (.iload 8, 2) := by decide +kernel
theorem dX11_walk_134 : decode cX11_walk 134 = .ok (.iaload, 1) := by decide +kernel
theorem dX11_walk_135 : decode cX11_walk 135 = .ok (.aload_n 0, 1) := by decide +kernel
theorem dX11_walk_136 : decode cX11_walk 136 = .ok (.getfield 26, 3) := by decide +kernel
theorem dX11_walk_139 : decode cX11_walk 139 = .ok (.iload 5, 2) := by decide +kernel
theorem dX11_walk_141 : decode cX11_walk 141 = .ok (.iaload, 1) := by decide +kernel
theorem dX11_walk_142 : decode cX11_walk 142 = .ok (.iconst 1, 1) := by decide +kernel
theorem dX11_walk_143 : decode cX11_walk 143 = .ok (.isub, 1) := by decide +kernel
theorem dX11_walk_144 : decode cX11_walk 144 = .ok (.if_icmp .eq 19, 3) := by decide +kernel
theorem dX11_walk_163 : decode cX11_walk 163 = .ok (.iload 8, 2) := by decide +kernel
theorem dX11_walk_165 : decode cX11_walk 165 = .ok (.istore 5, 2) := by decide +kernel
theorem dX11_walk_167 : decode cX11_walk 167 = .ok (.iinc 6 1, 3) := by decide +kernel
theorem dX11_walk_170 : decode cX11_walk 170 = .ok (.goto (-68), 3) := by decide +kernel
theorem dX11_walk_96 : decode cX11_walk 96 = .ok (.bipush (-5), 2) := by decide +kernel
theorem dX11_walk_98 : decode cX11_walk 98 = .ok (.ireturn, 1) := by decide +kernel
theorem dX11_walk_76 : decode cX11_walk 76 = .ok (.aload_n 0, 1) := by decide +kernel
theorem dX11_walk_77 : decode cX11_walk 77 = .ok (.getfield 26, 3) := by decide +kernel
theorem dX11_walk_80 : decode cX11_walk 80 = .ok (.iload 5, 2) := by decide +kernel
theorem dX11_walk_82 : decode cX11_walk 82 = .ok (.iaload, 1) := by decide +kernel
theorem dX11_walk_83 : decode cX11_walk 83 = .ok (.ireturn, 1) := by decide +kernel
theorem dX11_walk_68 : decode cX11_walk 68 = .ok (.iconst (-1), 1) := by decide +kernel
theorem dX11_walk_69 : decode cX11_walk 69 = .ok (.ireturn, 1) := by decide +kernel
theorem dX11_findMeets_0 : decode cX11_findMeets 0 = .ok (.aload_n 0, 1) := by decide +kernel
theorem dX11_findMeets_1 : decode cX11_findMeets 1 = .ok (.iload_n 1, 1) := by decide +kernel
theorem dX11_findMeets_2 : decode cX11_findMeets 2 = .ok (.iconst 1, 1) := by decide +kernel
set_option maxRecDepth 20000 in
theorem ggX11_findMeets_X11_of : GoodIn wsX11_findMeets wsX11_of := goodIn_r _ [7, 8, 79, 80, 81, 82, 83, 84, 85, 86, 87, 88, 89, 90, 91, 92, 93, 94, 95, 96, 97] (by decide +kernel) (by decide +kernel)
set_option maxRecDepth 20000 in
theorem gX11_findMeets_X11_of : GoodIn wsX11_findMeets (wsV RX11 97 RX11 yX11_of wsX11_of) := goodIn_app (goodIn_of _ (by decide +kernel)) ggX11_findMeets_X11_of
theorem dX11_findMeets_3 : decode cX11_findMeets 3 = .ok (.invokevirtual 97, 3) := by decide +kernel
theorem dX11_findMeets_6 : decode cX11_findMeets 6 = .ok (.istore_n 3, 1) := by decide +kernel
theorem dX11_findMeets_7 : decode cX11_findMeets 7 = .ok (.iconst 0, 1) := by decide +kernel
theorem dX11_findMeets_8 : decode cX11_findMeets 8 = .ok (.istore 4, 2) := by decide +kernel
theorem dX11_findMeets_10 : decode cX11_findMeets 10 = .ok (.iload 4, 2) := by decide +kernel
theorem dX11_findMeets_12 : decode cX11_findMeets 12 = .ok (.aload_n 0, 1) := by decide +kernel
set_option maxRecDepth 20000 in
theorem ggX11_findMeets_X11_squares : GoodIn wsX11_findMeets wsX11_squares := goodIn_r _ [12, 8, 79, 80, 81, 82, 83, 84, 85, 86, 87, 88, 89, 90, 91, 92, 93, 94, 95, 96, 97] (by decide +kernel) (by decide +kernel)
set_option maxRecDepth 20000 in
theorem gX11_findMeets_X11_squares : GoodIn wsX11_findMeets (wsV RX11 45 RX11 yX11_squares wsX11_squares) := goodIn_app (goodIn_of _ (by decide +kernel)) ggX11_findMeets_X11_squares
theorem dX11_findMeets_13 : decode cX11_findMeets 13 = .ok (.invokevirtual 45, 3) := by decide +kernel
theorem dX11_findMeets_16 : decode cX11_findMeets 16 = .ok (.if_icmp .ge 194, 3) := by decide +kernel
theorem dX11_findMeets_210 : decode cX11_findMeets 210 = .ok (.aload_n 0, 1) := by decide +kernel
theorem dX11_findMeets_211 : decode cX11_findMeets 211 = .ok (.iload_n 1, 1) := by decide +kernel
theorem dX11_findMeets_212 : decode cX11_findMeets 212 = .ok (.iload_n 3, 1) := by decide +kernel
set_option maxRecDepth 20000 in
theorem ggX11_findMeets_X11_stand : GoodIn wsX11_findMeets wsX11_stand := goodIn_r _ [23, 8, 79, 80, 81, 82, 83, 84, 85, 86, 87, 88, 89, 90, 91, 92, 93, 94, 95, 96, 97] (by decide +kernel) (by decide +kernel)
set_option maxRecDepth 20000 in
theorem gX11_findMeets_X11_stand : GoodIn wsX11_findMeets (wsV RX11 101 RX11 yX11_stand wsX11_stand) := goodIn_app (goodIn_of _ (by decide +kernel)) ggX11_findMeets_X11_stand
theorem dX11_findMeets_213 : decode cX11_findMeets 213 = .ok (.invokevirtual 101, 3) := by decide +kernel
theorem dX11_findMeets_216 : decode cX11_findMeets 216 = .ok (.return_, 1) := by decide +kernel
theorem dX11_findMeets_19 : decode cX11_findMeets 19 = .ok (.aload_n 0, 1) := by decide +kernel
theorem dX11_findMeets_20 : decode cX11_findMeets 20 = .ok (.getfield 23, 3) := by decide +kernel
theorem dX11_findMeets_23 : decode cX11_findMeets 23 = .ok (.iload 4, 2) := by decide +kernel
theorem dX11_findMeets_25 : decode cX11_findMeets 25 = .ok (.aload_n 0, 1) := by decide +kernel
theorem dX11_findMeets_26 : decode cX11_findMeets 26 = .ok (.iload 4, 2) := by decide +kernel
theorem dX11_findMeets_28 : decode cX11_findMeets 28 = .ok (.iload_n 1, 1) := by decide +kernel
set_option maxRecDepth 20000 in
theorem ggX11_findMeets_X11_isFree : GoodIn wsX11_findMeets wsX11_isFree := goodIn_r _ [16, 8, 17, 18, 6, 19, 79, 80, 81, 82, 83, 84, 85, 86, 87, 88, 89, 90, 91, 92, 93, 94, 95, 96, 97] (by decide +kernel) (by decide +kernel)
set_option maxRecDepth 20000 in
theorem gX11_findMeets_X11_isFree : GoodIn wsX11_findMeets (wsV RX11 83 RX11 yX11_isFree wsX11_isFree) := goodIn_app (goodIn_of _ (by decide +kernel)) ggX11_findMeets_X11_isFree
theorem dX11_findMeets_29 : decode cX11_findMeets 29 = .ok (.invokevirtual 83, 3) := by decide +kernel
theorem dX11_findMeets_32 : decode cX11_findMeets 32 = .ok (.bastore, 1) := by decide +kernel
theorem dX11_findMeets_33 : decode cX11_findMeets 33 = .ok (.aload_n 0, 1) := by decide +kernel
theorem dX11_findMeets_34 : decode cX11_findMeets 34 = .ok (.getfield 32, 3) := by decide +kernel
theorem dX11_findMeets_37 : decode cX11_findMeets 37 = .ok (.iload 4, 2) := by decide +kernel
theorem dX11_findMeets_39 : decode cX11_findMeets 39 = .ok (.iconst 0, 1) := by decide +kernel
theorem dX11_findMeets_40 : decode cX11_findMeets 40 = .ok (.iastore, 1) := by decide +kernel
theorem dX11_findMeets_41 : decode cX11_findMeets 41 = .ok (.aload_n 0, 1) := by decide +kernel
theorem dX11_findMeets_42 : decode cX11_findMeets 42 = .ok (.getfield 23, 3) := by decide +kernel
theorem dX11_findMeets_45 : decode cX11_findMeets 45 = .ok (.iload 4, 2) := by decide +kernel
theorem dX11_findMeets_47 : decode cX11_findMeets 47 = .ok (.baload, 1) := by decide +kernel
theorem dX11_findMeets_48 : decode cX11_findMeets 48 = .ok (.ifCond .eq 156, 3) := by decide +kernel
theorem dX11_findMeets_204 : decode cX11_findMeets 204 = .ok (.iinc 4 1, 3) := by decide +kernel
theorem dX11_findMeets_207 : decode cX11_findMeets 207 = .ok (.goto (-197), 3) := by decide +kernel
theorem dX11_findMeets_51 : decode cX11_findMeets 51 = .ok (.aload_n 0, 1) := by decide +kernel
theorem dX11_findMeets_52 : decode cX11_findMeets 52 = .ok (.iload_n 1, 1) := by decide +kernel
theorem dX11_findMeets_53 : decode cX11_findMeets 53 = .ok (.iload 4, 2) := by decide +kernel
theorem dX11_findMeets_55 : decode cX11_findMeets 55 = .ok (.invokevirtual 101, 3) := by decide +kernel
theorem dX11_findMeets_58 : decode cX11_findMeets 58 = .ok (.iconst 0, 1) := by decide +kernel
theorem dX11_findMeets_59 : decode cX11_findMeets 59 = .ok (.istore 5, 2) := by decide +kernel
theorem dX11_findMeets_61 : decode cX11_findMeets 61 = .ok (.iload 5, 2) := by decide +kernel
theorem dX11_findMeets_63 : decode cX11_findMeets 63 = .ok (.aload_n 0, 1) := by decide +kernel
set_option maxRecDepth 20000 in
theorem ggX11_findMeets_X11_people : GoodIn wsX11_findMeets wsX11_people := goodIn_r _ [27, 8, 79, 80, 81, 82, 83, 84, 85, 86, 87, 88, 89, 90, 91, 92, 93, 94, 95, 96, 97] (by decide +kernel) (by decide +kernel)
set_option maxRecDepth 20000 in
theorem gX11_findMeets_X11_people : GoodIn wsX11_findMeets (wsV RX11 53 RX11 yX11_people wsX11_people) := goodIn_app (goodIn_of _ (by decide +kernel)) ggX11_findMeets_X11_people
theorem dX11_findMeets_64 : decode cX11_findMeets 64 = .ok (.invokevirtual 53, 3) := by decide +kernel
theorem dX11_findMeets_67 : decode cX11_findMeets 67 = .ok (.if_icmp .ge 137, 3) := by decide +kernel
theorem dX11_findMeets_70 : decode cX11_findMeets 70 = .ok (.iload 5, 2) := by decide +kernel
theorem dX11_findMeets_72 : decode cX11_findMeets 72 = .ok (.iload_n 1, 1) := by decide +kernel
theorem dX11_findMeets_108 : decode cX11_findMeets 108 = .ok (.istore 6, 2) := by decide +kernel
theorem dX11_findMeets_110 : decode cX11_findMeets 110 = .ok (.aload_n 0, 1) := by decide +kernel
theorem dX11_findMeets_111 : decode cX11_findMeets 111 = .ok (.getfield 32, 3) := by decide +kernel
theorem dX11_findMeets_114 : decode cX11_findMeets 114 = .ok (.iload 4, 2) := by decide +kernel
theorem dX11_findMeets_116 : decode cX11_findMeets 116 = .ok (.dup2, 1) := by decide +kernel
theorem dX11_findMeets_117 : decode cX11_findMeets 117 = .ok (.iaload, 1) := by decide +kernel
theorem dX11_findMeets_118 : decode cX11_findMeets 118 = .ok (.iload 6, 2) := by decide +kernel
theorem dX11_findMeets_120 : decode cX11_findMeets 120 = .ok (.ifCond .eq 10, 3) := by decide +kernel
theorem dX11_findMeets_130 : decode cX11_findMeets 130 = .ok (.iconst 0, 1) := by decide +kernel
theorem dX11_findMeets_131 : decode cX11_findMeets 131 = .ok (.ior, 1) := by decide +kernel
theorem dX11_findMeets_132 : decode cX11_findMeets 132 = .ok (.iastore, 1) := by decide +kernel
theorem dX11_findMeets_133 : decode cX11_findMeets 133 = .ok (.iload 5, 2) := by decide +kernel
theorem dX11_findMeets_135 : decode cX11_findMeets 135 = .ok (.iload_n 1, 1) := by decide +kernel
theorem dX11_findMeets_165 : decode cX11_findMeets 165 = .ok (.istore 7, 2) := by decide +kernel
theorem dX11_findMeets_167 : decode cX11_findMeets 167 = .ok (.aload_n 0, 1) := by decide +kernel
theorem dX11_findMeets_168 : decode cX11_findMeets 168 = .ok (.getfield 23, 3) := by decide +kernel
theorem dX11_findMeets_171 : decode cX11_findMeets 171 = .ok (.iload 4, 2) := by decide +kernel
theorem dX11_findMeets_173 : decode cX11_findMeets 173 = .ok (.aload_n 0, 1) := by decide +kernel
theorem dX11_findMeets_174 : decode cX11_findMeets 174 = .ok (.getfield 23, 3) := by decide +kernel
theorem dX11_findMeets_177 : decode cX11_findMeets 177 = .ok (.iload 4, 2) := by decide +kernel
theorem dX11_findMeets_179 : decode cX11_findMeets 179 = .ok (.baload, 1) := by decide +kernel
theorem dX11_findMeets_180 : decode cX11_findMeets 180 = .ok (.ifCond .eq 16, 3) := by decide +kernel
theorem dX11_findMeets_196 : decode cX11_findMeets 196 = .ok (.iconst 0, 1) := by decide +kernel
theorem dX11_findMeets_197 : decode cX11_findMeets 197 = .ok (.bastore, 1) := by decide +kernel
theorem dX11_findMeets_198 : decode cX11_findMeets 198 = .ok (.iinc 5 1, 3) := by decide +kernel
theorem dX11_findMeets_201 : decode cX11_findMeets 201 = .ok (.goto (-140), 3) := by decide +kernel
theorem dX11_findMeets_183 : decode cX11_findMeets 183 = .ok (.iload_n 2, 1) := by decide +kernel
theorem dX11_findMeets_184 : decode cX11_findMeets 184 = .ok (.ifCond .eq 8, 3) := by decide +kernel
theorem dX11_findMeets_192 : decode cX11_findMeets 192 = .ok (.iconst 1, 1) := by decide +kernel
theorem dX11_findMeets_193 : decode cX11_findMeets 193 = .ok (.goto 4, 3) := by decide +kernel
theorem dX11_findMeets_187 : decode cX11_findMeets 187 = .ok (.iload 7, 2) := by decide +kernel
theorem dX11_findMeets_189 : decode cX11_findMeets 189 = .ok (.ifCond .ne 7, 3) := by decide +kernel
theorem dX11_findMeets_136 : decode cX11_findMeets 136 = .ok (.if_icmp .eq 28, 3) := by decide +kernel
theorem dX11_findMeets_164 : decode cX11_findMeets 164 = .ok (.iconst 0, 1) := by decide +kernel
theorem dX11_findMeets_139 : decode cX11_findMeets 139 = .ok (.aload_n 0, 1) := by decide +kernel
theorem dX11_findMeets_140 : decode cX11_findMeets 140 = .ok (.iload 5, 2) := by decide +kernel
theorem dX11_findMeets_142 : decode cX11_findMeets 142 = .ok (.iconst 0, 1) := by decide +kernel
theorem dX11_findMeets_143 : decode cX11_findMeets 143 = .ok (.invokevirtual 97, 3) := by decide +kernel
theorem dX11_findMeets_146 : decode cX11_findMeets 146 = .ok (.iconst 5, 1) := by decide +kernel
theorem dX11_findMeets_147 : decode cX11_findMeets 147 = .ok (.if_icmp .eq 17, 3) := by decide +kernel
theorem dX11_findMeets_150 : decode cX11_findMeets 150 = .ok (.aload_n 0, 1) := by decide +kernel
theorem dX11_findMeets_151 : decode cX11_findMeets 151 = .ok (.iload 5, 2) := by decide +kernel
theorem dX11_findMeets_153 : decode cX11_findMeets 153 = .ok (.iload_n 1, 1) := by decide +kernel
set_option maxRecDepth 20000 in
theorem ggX11_findMeets_X11_sees : GoodIn wsX11_findMeets wsX11_sees := goodIn_r _ [31, 3, 4, 5, 6, 7, 8, 32, 33, 34, 35, 36, 37, 38, 39, 40, 41, 42, 43, 9, 10, 11, 12, 44, 45, 46, 47, 48, 49, 50, 51, 52, 53, 54, 55, 56, 57, 58, 59, 60, 61, 62, 79, 80, 81, 82, 83, 84, 85, 86, 87, 88, 89, 90, 91, 92, 93, 94, 95, 96, 97] (by decide +kernel) (by decide +kernel)
set_option maxRecDepth 20000 in
theorem gX11_findMeets_X11_sees : GoodIn wsX11_findMeets (wsV RX11 148 RX11 yX11_sees wsX11_sees) := goodIn_app (goodIn_of _ (by decide +kernel)) ggX11_findMeets_X11_sees
theorem dX11_findMeets_154 : decode cX11_findMeets 154 = .ok (.invokevirtual 148, 3) := by decide +kernel
theorem dX11_findMeets_157 : decode cX11_findMeets 157 = .ok (.ifCond .eq 7, 3) := by decide +kernel
theorem dX11_findMeets_160 : decode cX11_findMeets 160 = .ok (.iconst 1, 1) := by decide +kernel
theorem dX11_findMeets_161 : decode cX11_findMeets 161 = .ok (.goto 4, 3) := by decide +kernel
theorem dX11_findMeets_123 : decode cX11_findMeets 123 = .ok (.iconst 1, 1) := by decide +kernel
theorem dX11_findMeets_124 : decode cX11_findMeets 124 = .ok (.iload 5, 2) := by decide +kernel
theorem dX11_findMeets_126 : decode cX11_findMeets 126 = .ok (.ishl, 1) := by decide +kernel
theorem dX11_findMeets_127 : decode cX11_findMeets 127 = .ok (.goto 4, 3) := by decide +kernel
theorem dX11_findMeets_73 : decode cX11_findMeets 73 = .ok (.if_icmp .eq 34, 3) := by decide +kernel
theorem dX11_findMeets_107 : decode cX11_findMeets 107 = .ok (.iconst 0, 1) := by decide +kernel
theorem dX11_findMeets_76 : decode cX11_findMeets 76 = .ok (.iload_n 2, 1) := by decide +kernel
theorem dX11_findMeets_77 : decode cX11_findMeets 77 = .ok (.ifCond .ne 16, 3) := by decide +kernel
theorem dX11_findMeets_93 : decode cX11_findMeets 93 = .ok (.aload_n 0, 1) := by decide +kernel
theorem dX11_findMeets_94 : decode cX11_findMeets 94 = .ok (.iload 5, 2) := by decide +kernel
theorem dX11_findMeets_96 : decode cX11_findMeets 96 = .ok (.iload_n 1, 1) := by decide +kernel
set_option maxRecDepth 20000 in
theorem ggX11_findMeets_X11_hears : GoodIn wsX11_findMeets wsX11_hears := goodIn_r _ [66, 3, 4, 5, 6, 7, 8, 67, 68, 69, 70, 52, 53, 54, 55, 36, 37, 38, 39, 56, 57, 58, 32, 33, 34, 35, 71, 72, 73, 74, 75, 76, 77, 78, 9, 10, 11, 12, 79, 80, 81, 82, 83, 84, 85, 86, 87, 88, 89, 90, 91, 92, 93, 94, 95, 96, 97] (by decide +kernel) (by decide +kernel)
set_option maxRecDepth 20000 in
theorem gX11_findMeets_X11_hears : GoodIn wsX11_findMeets (wsV RX11 151 RX11 yX11_hears wsX11_hears) := goodIn_app (goodIn_of _ (by decide +kernel)) ggX11_findMeets_X11_hears
theorem dX11_findMeets_97 : decode cX11_findMeets 97 = .ok (.invokevirtual 151, 3) := by decide +kernel
theorem dX11_findMeets_100 : decode cX11_findMeets 100 = .ok (.ifCond .eq 7, 3) := by decide +kernel
theorem dX11_findMeets_103 : decode cX11_findMeets 103 = .ok (.iconst 1, 1) := by decide +kernel
theorem dX11_findMeets_104 : decode cX11_findMeets 104 = .ok (.goto 4, 3) := by decide +kernel
theorem dX11_findMeets_80 : decode cX11_findMeets 80 = .ok (.aload_n 0, 1) := by decide +kernel
theorem dX11_findMeets_81 : decode cX11_findMeets 81 = .ok (.iload 5, 2) := by decide +kernel
theorem dX11_findMeets_83 : decode cX11_findMeets 83 = .ok (.iload_n 1, 1) := by decide +kernel
theorem dX11_findMeets_84 : decode cX11_findMeets 84 = .ok (.invokevirtual 148, 3) := by decide +kernel
theorem dX11_findMeets_87 : decode cX11_findMeets 87 = .ok (.ifCond .eq 20, 3) := by decide +kernel
theorem dX11_findMeets_90 : decode cX11_findMeets 90 = .ok (.goto 13, 3) := by decide +kernel
theorem dX11_parade_0 : decode cX11_parade 0 = .ok (.aload_n 0, 1) := by decide +kernel
theorem dX11_parade_1 : decode cX11_parade 1 = .ok (.iload_n 1, 1) := by decide +kernel
set_option maxRecDepth 20000 in
theorem ggX11_parade_X11_isOne : GoodIn wsX11_parade wsX11_isOne := goodIn_r _ [11, 12, 13, 14, 10, 15, 16, 17, 18, 19, 102, 103, 104, 105, 106, 107, 108, 109, 110, 111, 112, 113, 114, 115, 116, 117, 118, 119, 120] (by decide +kernel) (by decide +kernel)
set_option maxRecDepth 20000 in
theorem gX11_parade_X11_isOne : GoodIn wsX11_parade (wsV RX11 94 RX11 yX11_isOne wsX11_isOne) := goodIn_app (goodIn_of _ (by decide +kernel)) ggX11_parade_X11_isOne
theorem dX11_parade_2 : decode cX11_parade 2 = .ok (.invokevirtual 94, 3) := by decide +kernel
theorem dX11_parade_5 : decode cX11_parade 5 = .ok (.ifCond .eq 13, 3) := by decide +kernel
theorem dX11_parade_18 : decode cX11_parade 18 = .ok (.aload_n 0, 1) := by decide +kernel
theorem dX11_parade_19 : decode cX11_parade 19 = .ok (.bipush (-2), 2) := by decide +kernel
set_option maxRecDepth 20000 in
theorem ggX11_parade_X11_bad : GoodIn wsX11_parade wsX11_bad := goodIn_r _ [23, 24, 102, 103, 104, 105, 106, 107, 108, 109, 110, 111, 112, 113, 114, 115, 116, 117, 118, 119, 120] (by decide +kernel) (by decide +kernel)
set_option maxRecDepth 20000 in
theorem gX11_parade_X11_bad : GoodIn wsX11_parade (wsV RX11 60 RX11 yX11_bad wsX11_bad) := goodIn_app (goodIn_of _ (by decide +kernel)) ggX11_parade_X11_bad
theorem dX11_parade_21 : decode cX11_parade 21 = .ok (.invokevirtual 60, 3) := by decide +kernel
theorem dX11_parade_24 : decode cX11_parade 24 = .ok (.ireturn, 1) := by decide +kernel
theorem dX11_parade_8 : decode cX11_parade 8 = .ok (.iload_n 2, 1) := by decide +kernel
theorem dX11_parade_9 : decode cX11_parade 9 = .ok (.i2l, 1) := by decide +kernel
theorem dX11_parade_10 : decode cX11_parade 10 = .ok (.lconst 0, 1) := by decide +kernel
theorem dX11_parade_11 : decode cX11_parade 11 = .ok (.lconst 1, 1) := by decide +kernel
set_option maxRecDepth 20000 in
theorem ggX11_parade_X11_in : GoodIn wsX11_parade wsX11_in := goodIn_r _ [19] (by decide +kernel) (by decide +kernel)
set_option maxRecDepth 20000 in
theorem gX11_parade_X11_in : GoodIn wsX11_parade (va_wsS RX11 49 yX11_in wsX11_in) := goodIn_app (goodIn_of _ (by decide +kernel)) ggX11_parade_X11_in
theorem dX11_parade_12 : decode cX11_parade 12 = .ok (.invokestatic 49, 3) := by decide +kernel
theorem dX11_parade_15 : decode cX11_parade 15 = .ok (.ifCond .ne 10, 3) := by decide +kernel
theorem dX11_parade_25 : decode cX11_parade 25 = .ok (.aload_n 0, 1) := by decide +kernel
theorem dX11_parade_26 : decode cX11_parade 26 = .ok (.iload_n 1, 1) := by decide +kernel
theorem dX11_parade_27 : decode cX11_parade 27 = .ok (.iload_n 2, 1) := by decide +kernel
set_option maxRecDepth 20000 in
theorem ggX11_parade_X11_findMeets : GoodIn wsX11_parade wsX11_findMeets := goodIn_r _ [28, 4, 6, 29, 30, 31, 10, 32, 16, 33, 34, 35, 36, 37, 38, 39, 40, 41, 42, 43, 44, 45, 46, 47, 12, 13, 14, 15, 48, 49, 50, 51, 52, 53, 54, 55, 56, 57, 58, 59, 60, 61, 62, 63, 64, 65, 66, 67, 68, 69, 2, 70, 71, 72, 73, 74, 75, 76, 77, 78, 79, 80, 81, 82, 83, 84, 85, 86, 87, 88, 89, 90, 91, 92, 93, 94, 95, 96, 97, 102, 103, 104, 105, 106, 107, 108, 109, 110, 111, 112, 113, 114, 115, 116, 117, 118, 119, 120] (by decide +kernel) (by decide +kernel)
set_option maxRecDepth 20000 in
theorem gX11_parade_X11_findMeets : GoodIn wsX11_parade (wsV RX11 182 RX11 yX11_findMeets wsX11_findMeets) := goodIn_app (goodIn_of _ (by decide +kernel)) ggX11_parade_X11_findMeets
theorem dX11_parade_28 : decode cX11_parade 28 = .ok (.invokevirtual 182, 3) := by decide +kernel
theorem dX11_parade_31 : decode cX11_parade 31 = .ok (.iconst 1, 1) := by decide +kernel
theorem dX11_parade_32 : decode cX11_parade 32 = .ok (.aload_n 0, 1) := by decide +kernel
set_option maxRecDepth 20000 in
theorem ggX11_parade_X11_people : GoodIn wsX11_parade wsX11_people := goodIn_r _ [15, 16, 102, 103, 104, 105, 106, 107, 108, 109, 110, 111, 112, 113, 114, 115, 116, 117, 118, 119, 120] (by decide +kernel) (by decide +kernel)
set_option maxRecDepth 20000 in
theorem gX11_parade_X11_people : GoodIn wsX11_parade (wsV RX11 53 RX11 yX11_people wsX11_people) := goodIn_app (goodIn_of _ (by decide +kernel)) ggX11_parade_X11_people
theorem dX11_parade_33 : decode cX11_parade 33 = .ok (.invokevirtual 53, 3) := by decide +kernel
theorem dX11_parade_36 : decode cX11_parade 36 = .ok (.ishl, 1) := by decide +kernel
theorem dX11_parade_37 : decode cX11_parade 37 = .ok (.iconst 1, 1) := by decide +kernel
theorem dX11_parade_38 : decode cX11_parade 38 = .ok (.isub, 1) := by decide +kernel
theorem dX11_parade_39 : decode cX11_parade 39 = .ok (.iconst 1, 1) := by decide +kernel
theorem dX11_parade_40 : decode cX11_parade 40 = .ok (.iload_n 1, 1) := by decide +kernel
theorem dX11_parade_41 : decode cX11_parade 41 = .ok (.ishl, 1) := by decide +kernel
theorem dX11_parade_42 : decode cX11_parade 42 = .ok (.iconst (-1), 1) := by decide +kernel
theorem dX11_parade_43 : decode cX11_parade 43 = .ok (.ixor, 1) := by decide +kernel
theorem dX11_parade_44 : decode cX11_parade 44 = .ok (.iand, 1) := by decide +kernel
theorem dX11_parade_45 : decode cX11_parade 45 = .ok (.istore_n 3, 1) := by decide +kernel
theorem dX11_parade_46 : decode cX11_parade 46 = .ok (.iconst 0, 1) := by decide +kernel
theorem dX11_parade_47 : decode cX11_parade 47 = .ok (.istore 4, 2) := by decide +kernel
theorem dX11_parade_49 : decode cX11_parade 49 = .ok (.iload 4, 2) := by decide +kernel
theorem dX11_parade_51 : decode cX11_parade 51 = .ok (.sipush 1152, 3) := by decide +kernel
theorem dX11_parade_54 : decode cX11_parade 54 = .ok (.if_icmp .ge 18, 3) := by decide +kernel
theorem dX11_parade_72 : decode cX11_parade 72 = .ok (.aload_n 0, 1) := by decide +kernel
theorem dX11_parade_73 : decode cX11_parade 73 = .ok (.iload_n 1, 1) := by decide +kernel
theorem dX11_parade_74 : decode cX11_parade 74 = .ok (.iconst 1, 1) := by decide +kernel
set_option maxRecDepth 20000 in
theorem ggX11_parade_X11_of : GoodIn wsX11_parade wsX11_of := goodIn_r _ [32, 16, 102, 103, 104, 105, 106, 107, 108, 109, 110, 111, 112, 113, 114, 115, 116, 117, 118, 119, 120] (by decide +kernel) (by decide +kernel)
set_option maxRecDepth 20000 in
theorem gX11_parade_X11_of : GoodIn wsX11_parade (wsV RX11 97 RX11 yX11_of wsX11_of) := goodIn_app (goodIn_of _ (by decide +kernel)) ggX11_parade_X11_of
theorem dX11_parade_75 : decode cX11_parade 75 = .ok (.invokevirtual 97, 3) := by decide +kernel
theorem dX11_parade_78 : decode cX11_parade 78 = .ok (.istore 4, 2) := by decide +kernel
theorem dX11_parade_80 : decode cX11_parade 80 = .ok (.aload_n 0, 1) := by decide +kernel
theorem dX11_parade_81 : decode cX11_parade 81 = .ok (.iconst 0, 1) := by decide +kernel
theorem dX11_parade_82 : decode cX11_parade 82 = .ok (.putfield 169, 3) := by decide +kernel
theorem dX11_parade_85 : decode cX11_parade 85 = .ok (.aload_n 0, 1) := by decide +kernel
theorem dX11_parade_86 : decode cX11_parade 86 = .ok (.getfield 23, 3) := by decide +kernel
theorem dX11_parade_89 : decode cX11_parade 89 = .ok (.iload 4, 2) := by decide +kernel
theorem dX11_parade_91 : decode cX11_parade 91 = .ok (.baload, 1) := by decide +kernel
theorem dX11_parade_131 : decode cX11_parade 131 = .ok (.iconst 0, 1) := by decide +kernel
theorem dX11_parade_132 : decode cX11_parade 132 = .ok (.istore 5, 2) := by decide +kernel
theorem dX11_parade_134 : decode cX11_parade 134 = .ok (.iload 5, 2) := by decide +kernel
theorem dX11_parade_136 : decode cX11_parade 136 = .ok (.aload_n 0, 1) := by decide +kernel
theorem dX11_parade_137 : decode cX11_parade 137 = .ok (.getfield 169, 3) := by decide +kernel
theorem dX11_parade_140 : decode cX11_parade 140 = .ok (.if_icmp .ge 159, 3) := by decide +kernel
theorem dX11_parade_299 : decode cX11_parade 299 = .ok (.iconst (-1), 1) := by decide +kernel
theorem dX11_parade_300 : decode cX11_parade 300 = .ok (.ireturn, 1) := by decide +kernel
theorem dX11_parade_143 : decode cX11_parade 143 = .ok (.aload_n 0, 1) := by decide +kernel
theorem dX11_parade_144 : decode cX11_parade 144 = .ok (.getfield 29, 3) := by decide +kernel
theorem dX11_parade_147 : decode cX11_parade 147 = .ok (.iload 5, 2) := by decide +kernel
theorem dX11_parade_149 : decode cX11_parade 149 = .ok (.iaload, 1) := by decide +kernel
theorem dX11_parade_150 : decode cX11_parade 150 = .ok (.istore 6, 2) := by decide +kernel
theorem dX11_parade_152 : decode cX11_parade 152 = .ok (.iload 6, 2) := by decide +kernel
theorem dX11_parade_154 : decode cX11_parade 154 = .ok (.bipush 32, 2) := by decide +kernel
theorem dX11_parade_156 : decode cX11_parade 156 = .ok (.irem, 1) := by decide +kernel
theorem dX11_parade_157 : decode cX11_parade 157 = .ok (.iload_n 3, 1) := by decide +kernel
theorem dX11_parade_158 : decode cX11_parade 158 = .ok (.if_icmp .ne 11, 3) := by decide +kernel
theorem dX11_parade_169 : decode cX11_parade 169 = .ok (.iconst 0, 1) := by decide +kernel
theorem dX11_parade_170 : decode cX11_parade 170 = .ok (.istore 7, 2) := by decide +kernel
theorem dX11_parade_172 : decode cX11_parade 172 = .ok (.iload 7, 2) := by decide +kernel
theorem dX11_parade_174 : decode cX11_parade 174 = .ok (.iconst 4, 1) := by decide +kernel
theorem dX11_parade_175 : decode cX11_parade 175 = .ok (.if_icmp .ge 118, 3) := by decide +kernel
theorem dX11_parade_293 : decode cX11_parade 293 = .ok (.iinc 5 1, 3) := by decide +kernel
theorem dX11_parade_296 : decode cX11_parade 296 = .ok (.goto (-162), 3) := by decide +kernel
theorem dX11_parade_178 : decode cX11_parade 178 = .ok (.aload_n 0, 1) := by decide +kernel
theorem dX11_parade_179 : decode cX11_parade 179 = .ok (.iload 6, 2) := by decide +kernel
theorem dX11_parade_181 : decode cX11_parade 181 = .ok (.bipush 32, 2) := by decide +kernel
theorem dX11_parade_183 : decode cX11_parade 183 = .ok (.idiv, 1) := by decide +kernel
theorem dX11_parade_184 : decode cX11_parade 184 = .ok (.iload 7, 2) := by decide +kernel
set_option maxRecDepth 20000 in
theorem ggX11_parade_X11_beside : GoodIn wsX11_parade wsX11_beside := goodIn_r _ [101, 16, 71, 72, 73, 10, 74, 56, 57, 58, 59, 52, 53, 54, 55, 17, 18, 19, 102, 103, 104, 105, 106, 107, 108, 109, 110, 111, 112, 113, 114, 115, 116, 117, 118, 119, 120] (by decide +kernel) (by decide +kernel)
set_option maxRecDepth 20000 in
theorem gX11_parade_X11_beside : GoodIn wsX11_parade (wsV RX11 172 RX11 yX11_beside wsX11_beside) := goodIn_app (goodIn_of _ (by decide +kernel)) ggX11_parade_X11_beside
theorem dX11_parade_186 : decode cX11_parade 186 = .ok (.invokevirtual 172, 3) := by decide +kernel
theorem dX11_parade_189 : decode cX11_parade 189 = .ok (.istore 8, 2) := by decide +kernel
theorem dX11_parade_191 : decode cX11_parade 191 = .ok (.iload 8, 2) := by decide +kernel
theorem dX11_parade_193 : decode cX11_parade 193 = .ok (.iconst (-1), 1) := by decide +kernel
theorem dX11_parade_194 : decode cX11_parade 194 = .ok (.if_icmp .ne 7, 3) := by decide +kernel
theorem dX11_parade_197 : decode cX11_parade 197 = .ok (.iconst 0, 1) := by decide +kernel
theorem dX11_parade_198 : decode cX11_parade 198 = .ok (.goto 22, 3) := by decide +kernel
theorem dX11_parade_220 : decode cX11_parade 220 = .ok (.istore 9, 2) := by decide +kernel
theorem dX11_parade_222 : decode cX11_parade 222 = .ok (.iload 8, 2) := by decide +kernel
theorem dX11_parade_224 : decode cX11_parade 224 = .ok (.iconst (-1), 1) := by decide +kernel
theorem dX11_parade_225 : decode cX11_parade 225 = .ok (.if_icmp .eq 62, 3) := by decide +kernel
theorem dX11_parade_287 : decode cX11_parade 287 = .ok (.iinc 7 1, 3) := by decide +kernel
theorem dX11_parade_290 : decode cX11_parade 290 = .ok (.goto (-118), 3) := by decide +kernel
theorem dX11_parade_201 : decode cX11_parade 201 = .ok (.bipush 32, 2) := by decide +kernel
theorem dX11_parade_203 : decode cX11_parade 203 = .ok (.iload 8, 2) := by decide +kernel
theorem dX11_parade_205 : decode cX11_parade 205 = .ok (.imul, 1) := by decide +kernel
theorem dX11_parade_206 : decode cX11_parade 206 = .ok (.iload 6, 2) := by decide +kernel
theorem dX11_parade_208 : decode cX11_parade 208 = .ok (.bipush 32, 2) := by decide +kernel
theorem dX11_parade_210 : decode cX11_parade 210 = .ok (.irem, 1) := by decide +kernel
theorem dX11_parade_211 : decode cX11_parade 211 = .ok (.aload_n 0, 1) := by decide +kernel
theorem dX11_parade_212 : decode cX11_parade 212 = .ok (.getfield 32, 3) := by decide +kernel
theorem dX11_parade_215 : decode cX11_parade 215 = .ok (.iload 8, 2) := by decide +kernel
theorem dX11_parade_217 : decode cX11_parade 217 = .ok (.iaload, 1) := by decide +kernel
theorem dX11_parade_218 : decode cX11_parade 218 = .ok (.ior, 1) := by decide +kernel
theorem dX11_parade_219 : decode cX11_parade 219 = .ok (.iadd, 1) := by decide +kernel
theorem dX11_parade_228 : decode cX11_parade 228 = .ok (.aload_n 0, 1) := by decide +kernel
theorem dX11_parade_229 : decode cX11_parade 229 = .ok (.getfield 23, 3) := by decide +kernel
theorem dX11_parade_232 : decode cX11_parade 232 = .ok (.iload 8, 2) := by decide +kernel
theorem dX11_parade_234 : decode cX11_parade 234 = .ok (.baload, 1) := by decide +kernel
theorem dX11_parade_235 : decode cX11_parade 235 = .ok (.ifCond .eq 52, 3) := by decide +kernel
theorem dX11_parade_238 : decode cX11_parade 238 = .ok (.aload_n 0, 1) := by decide +kernel
theorem dX11_parade_239 : decode cX11_parade 239 = .ok (.getfield 26, 3) := by decide +kernel
theorem dX11_parade_242 : decode cX11_parade 242 = .ok (.iload 9, 2) := by decide +kernel
theorem dX11_parade_244 : decode cX11_parade 244 = .ok (.iaload, 1) := by decide +kernel
theorem dX11_parade_245 : decode cX11_parade 245 = .ok (.ldc 127, 2) := by decide +kernel
theorem dX11_parade_247 : decode cX11_parade 247 = .ok (.if_icmp .ne 40, 3) := by decide +kernel
theorem dX11_parade_250 : decode cX11_parade 250 = .ok (.aload_n 0, 1) := by decide +kernel
theorem dX11_parade_251 : decode cX11_parade 251 = .ok (.getfield 26, 3) := by decide +kernel
theorem dX11_parade_254 : decode cX11_parade 254 = .ok (.iload 9, 2) := by decide +kernel
theorem dX11_parade_256 : decode cX11_parade 256 = .ok (.aload_n 0, 1) := by decide +kernel
theorem dX11_parade_257 : decode cX11_parade 257 = .ok (.getfield 26, 3) := by decide +kernel
theorem dX11_parade_260 : decode cX11_parade 260 = .ok (.iload 6, 2) := by decide +kernel
theorem dX11_parade_262 : decode cX11_parade 262 = .ok (.iaload, 1) := by decide +kernel
theorem dX11_parade_263 : decode cX11_parade 263 = .ok (.iconst 1, 1) := by decide +kernel
theorem dX11_parade_264 : decode cX11_parade 264 = .ok (.iadd, 1) := by decide +kernel
theorem dX11_parade_265 : decode cX11_parade 265 = .ok (.iastore, 1) := by decide +kernel
theorem dX11_parade_266 : decode cX11_parade 266 = .ok (.aload_n 0, 1) := by decide +kernel
theorem dX11_parade_267 : decode cX11_parade 267 = .ok (.getfield 29, 3) := by decide +kernel
theorem dX11_parade_270 : decode cX11_parade 270 = .ok (.aload_n 0, 1) := by decide +kernel
theorem dX11_parade_271 : decode cX11_parade 271 = .ok (.getfield 169, 3) := by decide +kernel
theorem dX11_parade_274 : decode cX11_parade 274 = .ok (.iload 9, 2) := by decide +kernel
theorem dX11_parade_276 : decode cX11_parade 276 = .ok (.iastore, 1) := by decide +kernel
theorem dX11_parade_277 : decode cX11_parade 277 = .ok (.aload_n 0, 1) := by decide +kernel
theorem dX11_parade_278 : decode cX11_parade 278 = .ok (.dup, 1) := by decide +kernel
theorem dX11_parade_279 : decode cX11_parade 279 = .ok (.getfield 169, 3) := by decide +kernel
theorem dX11_parade_282 : decode cX11_parade 282 = .ok (.iconst 1, 1) := by decide +kernel
theorem dX11_parade_283 : decode cX11_parade 283 = .ok (.iadd, 1) := by decide +kernel
theorem dX11_parade_284 : decode cX11_parade 284 = .ok (.putfield 169, 3) := by decide +kernel
theorem dX11_parade_161 : decode cX11_parade 161 = .ok (.aload_n 0, 1) := by decide +kernel
theorem dX11_parade_162 : decode cX11_parade 162 = .ok (.getfield 26, 3) := by decide +kernel
theorem dX11_parade_165 : decode cX11_parade 165 = .ok (.iload 6, 2) := by decide +kernel
theorem dX11_parade_167 : decode cX11_parade 167 = .ok (.iaload, 1) := by decide +kernel
theorem dX11_parade_168 : decode cX11_parade 168 = .ok (.ireturn, 1) := by decide +kernel
theorem dX11_parade_92 : decode cX11_parade 92 = .ok (.ifCond .eq 39, 3) := by decide +kernel
theorem dX11_parade_95 : decode cX11_parade 95 = .ok (.aload_n 0, 1) := by decide +kernel
theorem dX11_parade_96 : decode cX11_parade 96 = .ok (.getfield 29, 3) := by decide +kernel
theorem dX11_parade_99 : decode cX11_parade 99 = .ok (.iconst 0, 1) := by decide +kernel
theorem dX11_parade_100 : decode cX11_parade 100 = .ok (.bipush 32, 2) := by decide +kernel
theorem dX11_parade_102 : decode cX11_parade 102 = .ok (.iload 4, 2) := by decide +kernel
theorem dX11_parade_104 : decode cX11_parade 104 = .ok (.imul, 1) := by decide +kernel
theorem dX11_parade_105 : decode cX11_parade 105 = .ok (.aload_n 0, 1) := by decide +kernel
theorem dX11_parade_106 : decode cX11_parade 106 = .ok (.getfield 32, 3) := by decide +kernel
theorem dX11_parade_109 : decode cX11_parade 109 = .ok (.iload 4, 2) := by decide +kernel
theorem dX11_parade_111 : decode cX11_parade 111 = .ok (.iaload, 1) := by decide +kernel
theorem dX11_parade_112 : decode cX11_parade 112 = .ok (.iadd, 1) := by decide +kernel
theorem dX11_parade_113 : decode cX11_parade 113 = .ok (.iastore, 1) := by decide +kernel
theorem dX11_parade_114 : decode cX11_parade 114 = .ok (.aload_n 0, 1) := by decide +kernel
theorem dX11_parade_115 : decode cX11_parade 115 = .ok (.getfield 26, 3) := by decide +kernel
theorem dX11_parade_118 : decode cX11_parade 118 = .ok (.aload_n 0, 1) := by decide +kernel
theorem dX11_parade_119 : decode cX11_parade 119 = .ok (.getfield 29, 3) := by decide +kernel
theorem dX11_parade_122 : decode cX11_parade 122 = .ok (.iconst 0, 1) := by decide +kernel
theorem dX11_parade_123 : decode cX11_parade 123 = .ok (.iaload, 1) := by decide +kernel
theorem dX11_parade_124 : decode cX11_parade 124 = .ok (.iconst 0, 1) := by decide +kernel
theorem dX11_parade_125 : decode cX11_parade 125 = .ok (.iastore, 1) := by decide +kernel
theorem dX11_parade_126 : decode cX11_parade 126 = .ok (.aload_n 0, 1) := by decide +kernel
theorem dX11_parade_127 : decode cX11_parade 127 = .ok (.iconst 1, 1) := by decide +kernel
theorem dX11_parade_128 : decode cX11_parade 128 = .ok (.putfield 169, 3) := by decide +kernel
theorem dX11_parade_57 : decode cX11_parade 57 = .ok (.aload_n 0, 1) := by decide +kernel
theorem dX11_parade_58 : decode cX11_parade 58 = .ok (.getfield 26, 3) := by decide +kernel
theorem dX11_parade_61 : decode cX11_parade 61 = .ok (.iload 4, 2) := by decide +kernel
theorem dX11_parade_63 : decode cX11_parade 63 = .ok (.ldc 127, 2) := by decide +kernel
theorem dX11_parade_65 : decode cX11_parade 65 = .ok (.iastore, 1) := by decide +kernel
theorem dX11_parade_66 : decode cX11_parade 66 = .ok (.iinc 4 1, 3) := by decide +kernel
theorem dX11_parade_69 : decode cX11_parade 69 = .ok (.goto (-20), 3) := by decide +kernel
set_option maxHeartbeats 4000000 in
set_option maxRecDepth 100000 in
theorem n_X11_walk (l : Launch) (D : va_G) (cy : Nat → ClassId) (mm : Nat) (mm_now : Nat) (mm_kept : Nat) (mm_isKept : Nat) (mm_refused : Nat) (mm_lineFrom : Int32) (mm_lineTo : Int32) (mm_stands : Nat) (mm_far : Nat) (mm_queue : Nat) (mm_queued : Int32) (mm_meets : Nat) (mm_bytes : Nat) (bl : Nat) (ta : Nat) (tl : Nat) (mm_token : Int32) (mm_value : Int32) (mm_next : Nat) (tk : Nat) (mm_now_f : Nat → Int32) (mm_refused_f : Nat → Int32) (mm_stands_f : Nat → Int32) (mm_far_f : Nat → Int32) (mm_queue_f : Nat → Int32) (px : Int32) (py : Int32) (pz : Int32) (pt : Int32) (sz : Nat) (hN : mN mm_now_f) : Met l yX11_walk wsX11_walk ({ frames := 9, cells := 0, slots := 0, locals := 203 }) (va_Pc [.ref mm, .int px, .int py, .int pz, .int pt] (kPre D cy [(mm, .inr (11, [.ref mm_now, .ref mm_kept, .ref mm_isKept, .ref mm_refused, .int mm_lineFrom, .int mm_lineTo, .ref mm_stands, .ref mm_far, .ref mm_queue, .int mm_queued, .ref mm_meets, .ref mm_bytes, .int (nI bl), .int (nI ta), .int (nI tl), .int mm_token, .int mm_value, .ref mm_next, .int (nI tk)])), (mm_now, .inl (cy 1, 122, .inl mm_now_f)), (mm_refused, .inl (cy 1, 3, .inl mm_refused_f)), (mm_stands, .inl (cy 2, 36, .inl mm_stands_f)), (mm_far, .inl (cy 1, 1152, .inl mm_far_f)), (mm_queue, .inl (cy 1, 1152, .inl mm_queue_f))] sz)) (va_Qi (fun (r : Int32) (u : Int32 × Int32 × Int32 × (Nat → Int32) × (Nat → Int32) × (Nat → Int32) × (Nat → Int32) × (Nat → Int32)) => mN u.2.2.2.1) (fun (u : Int32 × Int32 × Int32 × (Nat → Int32) × (Nat → Int32) × (Nat → Int32) × (Nat → Int32) × (Nat → Int32)) t => va_P D vwCl ([(mm, .inr (11, [.ref mm_now, .ref mm_kept, .ref mm_isKept, .ref mm_refused, .int u.1, .int u.2.1, .ref mm_stands, .ref mm_far, .ref mm_queue, .int u.2.2.1, .ref mm_meets, .ref mm_bytes, .int (nI bl), .int (nI ta), .int (nI tl), .int mm_token, .int mm_value, .ref mm_next, .int (nI tk)])), (mm_now, .inl (cy 1, 122, .inl u.2.2.2.1)), (mm_refused, .inl (cy 1, 3, .inl u.2.2.2.2.1)), (mm_stands, .inl (cy 2, 36, .inl u.2.2.2.2.2.1)), (mm_far, .inl (cy 1, 1152, .inl u.2.2.2.2.2.2.1)), (mm_queue, .inl (cy 1, 1152, .inl u.2.2.2.2.2.2.2))]) t.heap ∧ va_D (va_A [(mm, .inr (11, [.ref mm_now, .ref mm_kept, .ref mm_isKept, .ref mm_refused, .int mm_lineFrom, .int mm_lineTo, .ref mm_stands, .ref mm_far, .ref mm_queue, .int mm_queued, .ref mm_meets, .ref mm_bytes, .int (nI bl), .int (nI ta), .int (nI tl), .int mm_token, .int mm_value, .ref mm_next, .int (nI tk)])), (mm_now, .inl (cy 1, 122, .inl mm_now_f)), (mm_refused, .inl (cy 1, 3, .inl mm_refused_f)), (mm_stands, .inl (cy 2, 36, .inl mm_stands_f)), (mm_far, .inl (cy 1, 1152, .inl mm_far_f)), (mm_queue, .inl (cy 1, 1152, .inl mm_queue_f))] sz) ([(mm, .inr (11, [.ref mm_now, .ref mm_kept, .ref mm_isKept, .ref mm_refused, .int u.1, .int u.2.1, .ref mm_stands, .ref mm_far, .ref mm_queue, .int u.2.2.1, .ref mm_meets, .ref mm_bytes, .int (nI bl), .int (nI ta), .int (nI tl), .int mm_token, .int mm_value, .ref mm_next, .int (nI tk)])), (mm_now, .inl (cy 1, 122, .inl u.2.2.2.1)), (mm_refused, .inl (cy 1, 3, .inl u.2.2.2.2.1)), (mm_stands, .inl (cy 2, 36, .inl u.2.2.2.2.2.1)), (mm_far, .inl (cy 1, 1152, .inl u.2.2.2.2.2.2.1)), (mm_queue, .inl (cy 1, 1152, .inl u.2.2.2.2.2.2.2))])) (va_A [(mm, .inr (11, [.ref mm_now, .ref mm_kept, .ref mm_isKept, .ref mm_refused, .int mm_lineFrom, .int mm_lineTo, .ref mm_stands, .ref mm_far, .ref mm_queue, .int mm_queued, .ref mm_meets, .ref mm_bytes, .int (nI bl), .int (nI ta), .int (nI tl), .int mm_token, .int mm_value, .ref mm_next, .int (nI tk)])), (mm_now, .inl (cy 1, 122, .inl mm_now_f)), (mm_refused, .inl (cy 1, 3, .inl mm_refused_f)), (mm_stands, .inl (cy 2, 36, .inl mm_stands_f)), (mm_far, .inl (cy 1, 1152, .inl mm_far_f)), (mm_queue, .inl (cy 1, 1152, .inl mm_queue_f))] sz)) 0 0 (va_A [(mm, .inr (11, [.ref mm_now, .ref mm_kept, .ref mm_isKept, .ref mm_refused, .int mm_lineFrom, .int mm_lineTo, .ref mm_stands, .ref mm_far, .ref mm_queue, .int mm_queued, .ref mm_meets, .ref mm_bytes, .int (nI bl), .int (nI ta), .int (nI tl), .int mm_token, .int mm_value, .ref mm_next, .int (nI tk)])), (mm_now, .inl (cy 1, 122, .inl mm_now_f)), (mm_refused, .inl (cy 1, 3, .inl mm_refused_f)), (mm_stands, .inl (cy 2, 36, .inl mm_stands_f)), (mm_far, .inl (cy 1, 1152, .inl mm_far_f)), (mm_queue, .inl (cy 1, 1152, .inl mm_queue_f))] sz) := by
  refine Met.ofW (cc := cX11_walk) (maxL := 9) (ret := (some .int)) (by decide) rfl ?_
  intro p e s m args below meth c s₁ B hml hv
  obtain ⟨rfl, hsz, hP, hKA, hD0⟩ := hv
  have hx := B.exec
  have hb := B.bytes
  have hr := B.returns
  have hts := atoms_spec (ws := wsX11_walk) B.pre
  have hown : s.vm.findClass RX11 = some m.cls := findClass_of_methodNamed B.named
  have hlocks := B.notSynchronized
  subst hsz
  have hK := hKA.1
  have hD := hD0.self (sz := s.heap.size)
  generalize hAe : va_A [(mm, .inr (11, [.ref mm_now, .ref mm_kept, .ref mm_isKept, .ref mm_refused, .int mm_lineFrom, .int mm_lineTo, .ref mm_stands, .ref mm_far, .ref mm_queue, .int mm_queued, .ref mm_meets, .ref mm_bytes, .int (nI bl), .int (nI ta), .int (nI tl), .int mm_token, .int mm_value, .ref mm_next, .int (nI tk)])), (mm_now, .inl (cy 1, 122, .inl mm_now_f)), (mm_refused, .inl (cy 1, 3, .inl mm_refused_f)), (mm_stands, .inl (cy 2, 36, .inl mm_stands_f)), (mm_far, .inl (cy 1, 1152, .inl mm_far_f)), (mm_queue, .inl (cy 1, 1152, .inl mm_queue_f))] s.heap.size = A at hD ⊢
  have hA : ∀ q : Nat, s.heap.size ≤ q → A q := fun q h => by rw [← hAe]; exact Or.inr h
  have hS : va_S A s.heap s.heap [] := va_S.rf
  have hP : va_P D vwCl [(mm, .inr (11, [.ref mm_now, .ref mm_kept, .ref mm_isKept, .ref mm_refused, .int mm_lineFrom, .int mm_lineTo, .ref mm_stands, .ref mm_far, .ref mm_queue, .int mm_queued, .ref mm_meets, .ref mm_bytes, .int (nI bl), .int (nI ta), .int (nI tl), .int mm_token, .int mm_value, .ref mm_next, .int (nI tk)])), (mm_now, .inl (cy 1, 122, .inl mm_now_f)), (mm_refused, .inl (cy 1, 3, .inl mm_refused_f)), (mm_stands, .inl (cy 2, 36, .inl mm_stands_f)), (mm_far, .inl (cy 1, 1152, .inl mm_far_f)), (mm_queue, .inl (cy 1, 1152, .inl mm_queue_f))] s.heap := hP
  have hl := lv_entry ([.ref mm, .int px, .int py, .int pz, .int pt]) (n := 9) (Nat.le_of_ble_eq_true rfl)
  rw [lg_entry_eq]
  generalize (lg_sl ([.ref mm, .int px, .int py, .int pz, .int pt]) ++ List.replicate (9 - (lg_sl ([.ref mm, .int px, .int py, .int pz, .int pt])).length) Slot.unset).toArray = ls at hl ⊢
  have hl : lv_has ls 9 [(0, .ref mm), (1, .int px), (2, .int py), (3, .int pz), (4, .int pt)] := hl
  refine qW (fun QF hQF => ?_)
  have z0_ := hts (.fieldLink RX11 26 "HeardSeenModel" "far" "[I") (by decide +kernel)
  have zi11_ : ∀ w ∈ u_ws RX11 TX11 19, w ∈ wsX11_walk := by decide +kernel
  have z2_ := hts (.constant RX11 127 100000) (by decide +kernel)
  obtain ⟨mW, mH, mS, mP, hF⟩ := hN
  obtain ⟨hW2, hW6, hH2, hH6, hSe, hS4, hS6, hP5⟩ := hF.rng
  refine lv_aload_n hx hb dX11_walk_0 rfl (lv_at hl 0 rfl) ?_
  refine lv_iload_n hx hb dX11_walk_1 rfl (lv_at hl 1 rfl) ?_
  refine rd_i (va_runV (As := [.int px]) (rest := []) ⟨hx, hb, hml, hown, hts⟩ (n_X11_isOne l D cy mW mH mS mP mm mm_now mm_kept mm_isKept mm_refused mm_lineFrom mm_lineTo mm_stands mm_far mm_queue mm_queued mm_meets mm_bytes bl ta tl mm_token mm_value mm_next tk mm_now_f px _ (by first | assumption | omega)) (cwV 1 hts gX11_walk_X11_isOne rfl rfl rfl (by decide +kernel) ⟨Nat.le_of_ble_eq_true rfl, Nat.le_of_ble_eq_true rfl⟩) (pV (ci := 11) (k := 0) hKA (hP.sub (ws' := [(mm, .inr (11, [.ref mm_now, .ref mm_kept, .ref mm_isKept, .ref mm_refused, .int mm_lineFrom, .int mm_lineTo, .ref mm_stands, .ref mm_far, .ref mm_queue, .int mm_queued, .ref mm_meets, .ref mm_bytes, .int (nI bl), .int (nI ta), .int (nI tl), .int mm_token, .int mm_value, .ref mm_next, .int (nI tk)])), (mm_now, .inl (cy 1, 122, .inl mm_now_f))]) [0, 1] rfl) (hD.sub (ws' := [(mm, .inr (11, [.ref mm_now, .ref mm_kept, .ref mm_isKept, .ref mm_refused, .int mm_lineFrom, .int mm_lineTo, .ref mm_stands, .ref mm_far, .ref mm_queue, .int mm_queued, .ref mm_meets, .ref mm_bytes, .int (nI bl), .int (nI ta), .int (nI tl), .int mm_token, .int mm_value, .ref mm_next, .int (nI tk)])), (mm_now, .inl (cy 1, 122, .inl mm_now_f))]) [0, 1] (by decide) rfl) rfl rfl) rfl rfl hl.1 rfl (lv_room (Nat.le_of_ble_eq_true rfl)) dX11_walk_2 ⟨Nat.le_of_ble_eq_true rfl, Nat.le_of_ble_eq_true rfl⟩) hP hS hA (fun r1 H locs hwr1 hP hS => ?_)
  have hwr1 : (r1 = 1 ∧ (∃ j : Nat, j < mP ∧ px = nI j)) ∨ (r1 = 0 ∧ True) := hwr1
  refine lv_if_eq (tgt := 30) hx hb dX11_walk_5 (by decide) (fun c2 => ?_) (fun c2 => ?_)
  · skip
    refine lv_aload_n hx hb dX11_walk_30 rfl (lv_at hl 0 rfl) ?_
    refine lv_bipush (v := (-10)) hx hb dX11_walk_31 (by decide) ?_
    refine wr_i (wr := [(mm_now, .inl (cy 1, 122, .inl mm_now_f)), (mm_stands, .inl (cy 2, 36, .inl mm_stands_f)), (mm_far, .inl (cy 1, 1152, .inl mm_far_f)), (mm_queue, .inl (cy 1, 1152, .inl mm_queue_f))]) (va_runV (As := [.int (-10)]) (rest := []) ⟨hx, hb, hml, hown, hts⟩ (n_X11_bad l D cy mm mm_now mm_kept mm_isKept mm_refused mm_lineFrom mm_lineTo mm_stands mm_far mm_queue mm_queued mm_meets mm_bytes bl ta tl mm_token mm_value mm_next tk mm_refused_f (-10) _ ) (cwV 1 hts gX11_walk_X11_bad rfl rfl rfl (by decide +kernel) ⟨Nat.le_of_ble_eq_true rfl, Nat.le_of_ble_eq_true rfl⟩) (pV (ci := 11) (k := 0) hKA (hP.sub (ws' := [(mm, .inr (11, [.ref mm_now, .ref mm_kept, .ref mm_isKept, .ref mm_refused, .int mm_lineFrom, .int mm_lineTo, .ref mm_stands, .ref mm_far, .ref mm_queue, .int mm_queued, .ref mm_meets, .ref mm_bytes, .int (nI bl), .int (nI ta), .int (nI tl), .int mm_token, .int mm_value, .ref mm_next, .int (nI tk)])), (mm_refused, .inl (cy 1, 3, .inl mm_refused_f))]) [0, 2] rfl) (hD.sub (ws' := [(mm, .inr (11, [.ref mm_now, .ref mm_kept, .ref mm_isKept, .ref mm_refused, .int mm_lineFrom, .int mm_lineTo, .ref mm_stands, .ref mm_far, .ref mm_queue, .int mm_queued, .ref mm_meets, .ref mm_bytes, .int (nI bl), .int (nI ta), .int (nI tl), .int mm_token, .int mm_value, .ref mm_next, .int (nI tk)])), (mm_refused, .inl (cy 1, 3, .inl mm_refused_f))]) [0, 2] (by decide) rfl) rfl rfl) rfl rfl hl.1 rfl (lv_room (Nat.le_of_ble_eq_true rfl)) dX11_walk_33 ⟨Nat.le_of_ble_eq_true rfl, Nat.le_of_ble_eq_true rfl⟩) hP hD hS hA [0, 2] [1, 3, 4, 5] rfl rfl (by decide +kernel) (by decide +kernel) (fun r3 ur3 H locs hwr3 hP hD hS => ?_)
    obtain ⟨z4, rfl⟩ : ∃ z, z = ur3 := ⟨_, rfl⟩
    have hP : va_P D vwCl [(mm_now, .inl (cy 1, 122, .inl mm_now_f)), (mm_stands, .inl (cy 2, 36, .inl mm_stands_f)), (mm_far, .inl (cy 1, 1152, .inl mm_far_f)), (mm_queue, .inl (cy 1, 1152, .inl mm_queue_f)), (mm, .inr (11, [.ref mm_now, .ref mm_kept, .ref mm_isKept, .ref mm_refused, .int mm_lineFrom, .int mm_lineTo, .ref mm_stands, .ref mm_far, .ref mm_queue, .int mm_queued, .ref mm_meets, .ref mm_bytes, .int (nI bl), .int (nI ta), .int (nI tl), .int mm_token, .int mm_value, .ref mm_next, .int (nI tk)])), (mm_refused, .inl (cy 1, 3, .inl z4))] H := hP
    have hD : va_D A [(mm_now, .inl (cy 1, 122, .inl mm_now_f)), (mm_stands, .inl (cy 2, 36, .inl mm_stands_f)), (mm_far, .inl (cy 1, 1152, .inl mm_far_f)), (mm_queue, .inl (cy 1, 1152, .inl mm_queue_f)), (mm, .inr (11, [.ref mm_now, .ref mm_kept, .ref mm_isKept, .ref mm_refused, .int mm_lineFrom, .int mm_lineTo, .ref mm_stands, .ref mm_far, .ref mm_queue, .int mm_queued, .ref mm_meets, .ref mm_bytes, .int (nI bl), .int (nI ta), .int (nI tl), .int mm_token, .int mm_value, .ref mm_next, .int (nI tk)])), (mm_refused, .inl (cy 1, 3, .inl z4))] := hD
    have hwr3 : r3 = (-10) := hwr3
    subst hwr3
    subst hQF
    have hP9 := hP.sub (ws' := [(mm, .inr (11, [.ref mm_now, .ref mm_kept, .ref mm_isKept, .ref mm_refused, .int mm_lineFrom, .int mm_lineTo, .ref mm_stands, .ref mm_far, .ref mm_queue, .int mm_queued, .ref mm_meets, .ref mm_bytes, .int (nI bl), .int (nI ta), .int (nI tl), .int mm_token, .int mm_value, .ref mm_next, .int (nI tk)])), (mm_now, .inl (cy 1, 122, .inl mm_now_f)), (mm_refused, .inl (cy 1, 3, .inl z4)), (mm_stands, .inl (cy 2, 36, .inl mm_stands_f)), (mm_far, .inl (cy 1, 1152, .inl mm_far_f)), (mm_queue, .inl (cy 1, 1152, .inl mm_queue_f))]) [4, 0, 5, 1, 2, 3] rfl
    have hD9 := hD.sub (ws' := [(mm, .inr (11, [.ref mm_now, .ref mm_kept, .ref mm_isKept, .ref mm_refused, .int mm_lineFrom, .int mm_lineTo, .ref mm_stands, .ref mm_far, .ref mm_queue, .int mm_queued, .ref mm_meets, .ref mm_bytes, .int (nI bl), .int (nI ta), .int (nI tl), .int mm_token, .int mm_value, .ref mm_next, .int (nI tk)])), (mm_now, .inl (cy 1, 122, .inl mm_now_f)), (mm_refused, .inl (cy 1, 3, .inl z4)), (mm_stands, .inl (cy 2, 36, .inl mm_stands_f)), (mm_far, .inl (cy 1, 1152, .inl mm_far_f)), (mm_queue, .inl (cy 1, 1152, .inl mm_queue_f))]) [4, 0, 5, 1, 2, 3] (by decide) rfl
    exact W.iret (v := (-10)) hx hb hr (fun t ht hW => ⟨⟨(-10), (mm_lineFrom, mm_lineTo, mm_queued, mm_now_f, z4, mm_stands_f, mm_far_f, mm_queue_f), rfl, ⟨_, _, _, _, hF⟩, by rw [ht]; exact hP9, hD9⟩, hS.F ht⟩) hS.2.2 dX11_walk_36
  · skip
    have hp5 := z_b1 hwr1 c2
    obtain ⟨j6, hj6, ej6⟩ := hp5
    refine lv_aload_n hx hb dX11_walk_8 rfl (lv_at hl 0 rfl) ?_
    refine lv_iload_n hx hb dX11_walk_9 rfl (lv_at hl 2 rfl) ?_
    refine rd_i (va_runV (As := [.int py]) (rest := []) ⟨hx, hb, hml, hown, hts⟩ (n_X11_isSquare l D cy mW mH mS mP mm mm_now mm_kept mm_isKept mm_refused mm_lineFrom mm_lineTo mm_stands mm_far mm_queue mm_queued mm_meets mm_bytes bl ta tl mm_token mm_value mm_next tk mm_now_f py _ (by first | assumption | omega)) (cwV 1 hts gX11_walk_X11_isSquare rfl rfl rfl (by decide +kernel) ⟨Nat.le_of_ble_eq_true rfl, Nat.le_of_ble_eq_true rfl⟩) (pV (ci := 11) (k := 0) hKA (hP.sub (ws' := [(mm, .inr (11, [.ref mm_now, .ref mm_kept, .ref mm_isKept, .ref mm_refused, .int mm_lineFrom, .int mm_lineTo, .ref mm_stands, .ref mm_far, .ref mm_queue, .int mm_queued, .ref mm_meets, .ref mm_bytes, .int (nI bl), .int (nI ta), .int (nI tl), .int mm_token, .int mm_value, .ref mm_next, .int (nI tk)])), (mm_now, .inl (cy 1, 122, .inl mm_now_f))]) [0, 1] rfl) (hD.sub (ws' := [(mm, .inr (11, [.ref mm_now, .ref mm_kept, .ref mm_isKept, .ref mm_refused, .int mm_lineFrom, .int mm_lineTo, .ref mm_stands, .ref mm_far, .ref mm_queue, .int mm_queued, .ref mm_meets, .ref mm_bytes, .int (nI bl), .int (nI ta), .int (nI tl), .int mm_token, .int mm_value, .ref mm_next, .int (nI tk)])), (mm_now, .inl (cy 1, 122, .inl mm_now_f))]) [0, 1] (by decide) rfl) rfl rfl) rfl rfl hl.1 rfl (lv_room (Nat.le_of_ble_eq_true rfl)) dX11_walk_10 ⟨Nat.le_of_ble_eq_true rfl, Nat.le_of_ble_eq_true rfl⟩) hP hS hA (fun r7 H locs hwr7 hP hS => ?_)
    have hwr7 : (r7 = 1 ∧ (∃ j : Nat, j < mS ∧ py = nI j)) ∨ (r7 = 0 ∧ True) := hwr7
    refine lv_if_eq (tgt := 30) hx hb dX11_walk_13 (by decide) (fun c8 => ?_) (fun c8 => ?_)
    · skip
      refine lv_aload_n hx hb dX11_walk_30 rfl (lv_at hl 0 rfl) ?_
      refine lv_bipush (v := (-10)) hx hb dX11_walk_31 (by decide) ?_
      refine wr_i (wr := [(mm_now, .inl (cy 1, 122, .inl mm_now_f)), (mm_stands, .inl (cy 2, 36, .inl mm_stands_f)), (mm_far, .inl (cy 1, 1152, .inl mm_far_f)), (mm_queue, .inl (cy 1, 1152, .inl mm_queue_f))]) (va_runV (As := [.int (-10)]) (rest := []) ⟨hx, hb, hml, hown, hts⟩ (n_X11_bad l D cy mm mm_now mm_kept mm_isKept mm_refused mm_lineFrom mm_lineTo mm_stands mm_far mm_queue mm_queued mm_meets mm_bytes bl ta tl mm_token mm_value mm_next tk mm_refused_f (-10) _ ) (cwV 1 hts gX11_walk_X11_bad rfl rfl rfl (by decide +kernel) ⟨Nat.le_of_ble_eq_true rfl, Nat.le_of_ble_eq_true rfl⟩) (pV (ci := 11) (k := 0) hKA (hP.sub (ws' := [(mm, .inr (11, [.ref mm_now, .ref mm_kept, .ref mm_isKept, .ref mm_refused, .int mm_lineFrom, .int mm_lineTo, .ref mm_stands, .ref mm_far, .ref mm_queue, .int mm_queued, .ref mm_meets, .ref mm_bytes, .int (nI bl), .int (nI ta), .int (nI tl), .int mm_token, .int mm_value, .ref mm_next, .int (nI tk)])), (mm_refused, .inl (cy 1, 3, .inl mm_refused_f))]) [0, 2] rfl) (hD.sub (ws' := [(mm, .inr (11, [.ref mm_now, .ref mm_kept, .ref mm_isKept, .ref mm_refused, .int mm_lineFrom, .int mm_lineTo, .ref mm_stands, .ref mm_far, .ref mm_queue, .int mm_queued, .ref mm_meets, .ref mm_bytes, .int (nI bl), .int (nI ta), .int (nI tl), .int mm_token, .int mm_value, .ref mm_next, .int (nI tk)])), (mm_refused, .inl (cy 1, 3, .inl mm_refused_f))]) [0, 2] (by decide) rfl) rfl rfl) rfl rfl hl.1 rfl (lv_room (Nat.le_of_ble_eq_true rfl)) dX11_walk_33 ⟨Nat.le_of_ble_eq_true rfl, Nat.le_of_ble_eq_true rfl⟩) hP hD hS hA [0, 2] [1, 3, 4, 5] rfl rfl (by decide +kernel) (by decide +kernel) (fun r9 ur9 H locs hwr9 hP hD hS => ?_)
      obtain ⟨z10, rfl⟩ : ∃ z, z = ur9 := ⟨_, rfl⟩
      have hP : va_P D vwCl [(mm_now, .inl (cy 1, 122, .inl mm_now_f)), (mm_stands, .inl (cy 2, 36, .inl mm_stands_f)), (mm_far, .inl (cy 1, 1152, .inl mm_far_f)), (mm_queue, .inl (cy 1, 1152, .inl mm_queue_f)), (mm, .inr (11, [.ref mm_now, .ref mm_kept, .ref mm_isKept, .ref mm_refused, .int mm_lineFrom, .int mm_lineTo, .ref mm_stands, .ref mm_far, .ref mm_queue, .int mm_queued, .ref mm_meets, .ref mm_bytes, .int (nI bl), .int (nI ta), .int (nI tl), .int mm_token, .int mm_value, .ref mm_next, .int (nI tk)])), (mm_refused, .inl (cy 1, 3, .inl z10))] H := hP
      have hD : va_D A [(mm_now, .inl (cy 1, 122, .inl mm_now_f)), (mm_stands, .inl (cy 2, 36, .inl mm_stands_f)), (mm_far, .inl (cy 1, 1152, .inl mm_far_f)), (mm_queue, .inl (cy 1, 1152, .inl mm_queue_f)), (mm, .inr (11, [.ref mm_now, .ref mm_kept, .ref mm_isKept, .ref mm_refused, .int mm_lineFrom, .int mm_lineTo, .ref mm_stands, .ref mm_far, .ref mm_queue, .int mm_queued, .ref mm_meets, .ref mm_bytes, .int (nI bl), .int (nI ta), .int (nI tl), .int mm_token, .int mm_value, .ref mm_next, .int (nI tk)])), (mm_refused, .inl (cy 1, 3, .inl z10))] := hD
      have hwr9 : r9 = (-10) := hwr9
      subst hwr9
      subst hQF
      have hP9 := hP.sub (ws' := [(mm, .inr (11, [.ref mm_now, .ref mm_kept, .ref mm_isKept, .ref mm_refused, .int mm_lineFrom, .int mm_lineTo, .ref mm_stands, .ref mm_far, .ref mm_queue, .int mm_queued, .ref mm_meets, .ref mm_bytes, .int (nI bl), .int (nI ta), .int (nI tl), .int mm_token, .int mm_value, .ref mm_next, .int (nI tk)])), (mm_now, .inl (cy 1, 122, .inl mm_now_f)), (mm_refused, .inl (cy 1, 3, .inl z10)), (mm_stands, .inl (cy 2, 36, .inl mm_stands_f)), (mm_far, .inl (cy 1, 1152, .inl mm_far_f)), (mm_queue, .inl (cy 1, 1152, .inl mm_queue_f))]) [4, 0, 5, 1, 2, 3] rfl
      have hD9 := hD.sub (ws' := [(mm, .inr (11, [.ref mm_now, .ref mm_kept, .ref mm_isKept, .ref mm_refused, .int mm_lineFrom, .int mm_lineTo, .ref mm_stands, .ref mm_far, .ref mm_queue, .int mm_queued, .ref mm_meets, .ref mm_bytes, .int (nI bl), .int (nI ta), .int (nI tl), .int mm_token, .int mm_value, .ref mm_next, .int (nI tk)])), (mm_now, .inl (cy 1, 122, .inl mm_now_f)), (mm_refused, .inl (cy 1, 3, .inl z10)), (mm_stands, .inl (cy 2, 36, .inl mm_stands_f)), (mm_far, .inl (cy 1, 1152, .inl mm_far_f)), (mm_queue, .inl (cy 1, 1152, .inl mm_queue_f))]) [4, 0, 5, 1, 2, 3] (by decide) rfl
      exact W.iret (v := (-10)) hx hb hr (fun t ht hW => ⟨⟨(-10), (mm_lineFrom, mm_lineTo, mm_queued, mm_now_f, z10, mm_stands_f, mm_far_f, mm_queue_f), rfl, ⟨_, _, _, _, hF⟩, by rw [ht]; exact hP9, hD9⟩, hS.F ht⟩) hS.2.2 dX11_walk_36
    · skip
      have hp11 := z_b1 hwr7 c8
      obtain ⟨j12, hj12, ej12⟩ := hp11
      refine lv_aload_n hx hb dX11_walk_16 rfl (lv_at hl 0 rfl) ?_
      refine lv_iload_n hx hb dX11_walk_17 rfl (lv_at hl 3 rfl) ?_
      refine rd_i (va_runV (As := [.int pz]) (rest := []) ⟨hx, hb, hml, hown, hts⟩ (n_X11_isSet l D cy mW mH mS mP mm mm_now mm_kept mm_isKept mm_refused mm_lineFrom mm_lineTo mm_stands mm_far mm_queue mm_queued mm_meets mm_bytes bl ta tl mm_token mm_value mm_next tk mm_now_f pz _ (by first | assumption | omega)) (cwV 1 hts gX11_walk_X11_isSet rfl rfl rfl (by decide +kernel) ⟨Nat.le_of_ble_eq_true rfl, Nat.le_of_ble_eq_true rfl⟩) (pV (ci := 11) (k := 0) hKA (hP.sub (ws' := [(mm, .inr (11, [.ref mm_now, .ref mm_kept, .ref mm_isKept, .ref mm_refused, .int mm_lineFrom, .int mm_lineTo, .ref mm_stands, .ref mm_far, .ref mm_queue, .int mm_queued, .ref mm_meets, .ref mm_bytes, .int (nI bl), .int (nI ta), .int (nI tl), .int mm_token, .int mm_value, .ref mm_next, .int (nI tk)])), (mm_now, .inl (cy 1, 122, .inl mm_now_f))]) [0, 1] rfl) (hD.sub (ws' := [(mm, .inr (11, [.ref mm_now, .ref mm_kept, .ref mm_isKept, .ref mm_refused, .int mm_lineFrom, .int mm_lineTo, .ref mm_stands, .ref mm_far, .ref mm_queue, .int mm_queued, .ref mm_meets, .ref mm_bytes, .int (nI bl), .int (nI ta), .int (nI tl), .int mm_token, .int mm_value, .ref mm_next, .int (nI tk)])), (mm_now, .inl (cy 1, 122, .inl mm_now_f))]) [0, 1] (by decide) rfl) rfl rfl) rfl rfl hl.1 rfl (lv_room (Nat.le_of_ble_eq_true rfl)) dX11_walk_18 ⟨Nat.le_of_ble_eq_true rfl, Nat.le_of_ble_eq_true rfl⟩) hP hS hA (fun r13 H locs hwr13 hP hS => ?_)
      have hwr13 : (r13 = 1 ∧ True) ∨ (r13 = 0 ∧ True) := hwr13
      refine lv_if_eq (tgt := 30) hx hb dX11_walk_21 (by decide) (fun c14 => ?_) (fun c14 => ?_)
      · skip
        refine lv_aload_n hx hb dX11_walk_30 rfl (lv_at hl 0 rfl) ?_
        refine lv_bipush (v := (-10)) hx hb dX11_walk_31 (by decide) ?_
        refine wr_i (wr := [(mm_now, .inl (cy 1, 122, .inl mm_now_f)), (mm_stands, .inl (cy 2, 36, .inl mm_stands_f)), (mm_far, .inl (cy 1, 1152, .inl mm_far_f)), (mm_queue, .inl (cy 1, 1152, .inl mm_queue_f))]) (va_runV (As := [.int (-10)]) (rest := []) ⟨hx, hb, hml, hown, hts⟩ (n_X11_bad l D cy mm mm_now mm_kept mm_isKept mm_refused mm_lineFrom mm_lineTo mm_stands mm_far mm_queue mm_queued mm_meets mm_bytes bl ta tl mm_token mm_value mm_next tk mm_refused_f (-10) _ ) (cwV 1 hts gX11_walk_X11_bad rfl rfl rfl (by decide +kernel) ⟨Nat.le_of_ble_eq_true rfl, Nat.le_of_ble_eq_true rfl⟩) (pV (ci := 11) (k := 0) hKA (hP.sub (ws' := [(mm, .inr (11, [.ref mm_now, .ref mm_kept, .ref mm_isKept, .ref mm_refused, .int mm_lineFrom, .int mm_lineTo, .ref mm_stands, .ref mm_far, .ref mm_queue, .int mm_queued, .ref mm_meets, .ref mm_bytes, .int (nI bl), .int (nI ta), .int (nI tl), .int mm_token, .int mm_value, .ref mm_next, .int (nI tk)])), (mm_refused, .inl (cy 1, 3, .inl mm_refused_f))]) [0, 2] rfl) (hD.sub (ws' := [(mm, .inr (11, [.ref mm_now, .ref mm_kept, .ref mm_isKept, .ref mm_refused, .int mm_lineFrom, .int mm_lineTo, .ref mm_stands, .ref mm_far, .ref mm_queue, .int mm_queued, .ref mm_meets, .ref mm_bytes, .int (nI bl), .int (nI ta), .int (nI tl), .int mm_token, .int mm_value, .ref mm_next, .int (nI tk)])), (mm_refused, .inl (cy 1, 3, .inl mm_refused_f))]) [0, 2] (by decide) rfl) rfl rfl) rfl rfl hl.1 rfl (lv_room (Nat.le_of_ble_eq_true rfl)) dX11_walk_33 ⟨Nat.le_of_ble_eq_true rfl, Nat.le_of_ble_eq_true rfl⟩) hP hD hS hA [0, 2] [1, 3, 4, 5] rfl rfl (by decide +kernel) (by decide +kernel) (fun r15 ur15 H locs hwr15 hP hD hS => ?_)
        obtain ⟨z16, rfl⟩ : ∃ z, z = ur15 := ⟨_, rfl⟩
        have hP : va_P D vwCl [(mm_now, .inl (cy 1, 122, .inl mm_now_f)), (mm_stands, .inl (cy 2, 36, .inl mm_stands_f)), (mm_far, .inl (cy 1, 1152, .inl mm_far_f)), (mm_queue, .inl (cy 1, 1152, .inl mm_queue_f)), (mm, .inr (11, [.ref mm_now, .ref mm_kept, .ref mm_isKept, .ref mm_refused, .int mm_lineFrom, .int mm_lineTo, .ref mm_stands, .ref mm_far, .ref mm_queue, .int mm_queued, .ref mm_meets, .ref mm_bytes, .int (nI bl), .int (nI ta), .int (nI tl), .int mm_token, .int mm_value, .ref mm_next, .int (nI tk)])), (mm_refused, .inl (cy 1, 3, .inl z16))] H := hP
        have hD : va_D A [(mm_now, .inl (cy 1, 122, .inl mm_now_f)), (mm_stands, .inl (cy 2, 36, .inl mm_stands_f)), (mm_far, .inl (cy 1, 1152, .inl mm_far_f)), (mm_queue, .inl (cy 1, 1152, .inl mm_queue_f)), (mm, .inr (11, [.ref mm_now, .ref mm_kept, .ref mm_isKept, .ref mm_refused, .int mm_lineFrom, .int mm_lineTo, .ref mm_stands, .ref mm_far, .ref mm_queue, .int mm_queued, .ref mm_meets, .ref mm_bytes, .int (nI bl), .int (nI ta), .int (nI tl), .int mm_token, .int mm_value, .ref mm_next, .int (nI tk)])), (mm_refused, .inl (cy 1, 3, .inl z16))] := hD
        have hwr15 : r15 = (-10) := hwr15
        subst hwr15
        subst hQF
        have hP9 := hP.sub (ws' := [(mm, .inr (11, [.ref mm_now, .ref mm_kept, .ref mm_isKept, .ref mm_refused, .int mm_lineFrom, .int mm_lineTo, .ref mm_stands, .ref mm_far, .ref mm_queue, .int mm_queued, .ref mm_meets, .ref mm_bytes, .int (nI bl), .int (nI ta), .int (nI tl), .int mm_token, .int mm_value, .ref mm_next, .int (nI tk)])), (mm_now, .inl (cy 1, 122, .inl mm_now_f)), (mm_refused, .inl (cy 1, 3, .inl z16)), (mm_stands, .inl (cy 2, 36, .inl mm_stands_f)), (mm_far, .inl (cy 1, 1152, .inl mm_far_f)), (mm_queue, .inl (cy 1, 1152, .inl mm_queue_f))]) [4, 0, 5, 1, 2, 3] rfl
        have hD9 := hD.sub (ws' := [(mm, .inr (11, [.ref mm_now, .ref mm_kept, .ref mm_isKept, .ref mm_refused, .int mm_lineFrom, .int mm_lineTo, .ref mm_stands, .ref mm_far, .ref mm_queue, .int mm_queued, .ref mm_meets, .ref mm_bytes, .int (nI bl), .int (nI ta), .int (nI tl), .int mm_token, .int mm_value, .ref mm_next, .int (nI tk)])), (mm_now, .inl (cy 1, 122, .inl mm_now_f)), (mm_refused, .inl (cy 1, 3, .inl z16)), (mm_stands, .inl (cy 2, 36, .inl mm_stands_f)), (mm_far, .inl (cy 1, 1152, .inl mm_far_f)), (mm_queue, .inl (cy 1, 1152, .inl mm_queue_f))]) [4, 0, 5, 1, 2, 3] (by decide) rfl
        exact W.iret (v := (-10)) hx hb hr (fun t ht hW => ⟨⟨(-10), (mm_lineFrom, mm_lineTo, mm_queued, mm_now_f, z16, mm_stands_f, mm_far_f, mm_queue_f), rfl, ⟨_, _, _, _, hF⟩, by rw [ht]; exact hP9, hD9⟩, hS.F ht⟩) hS.2.2 dX11_walk_36
      · skip
        refine lv_iload hx hb dX11_walk_24 (lv_at hl 4 rfl) ?_
        refine lv_iconst (v := (-1)) hx hb dX11_walk_26 (by decide) ?_
        refine lv_icmp_ge (tgt := 37) hx hb dX11_walk_27 (by decide) (fun c17 => ?_) (fun c17 => ?_)
        · skip
          refine lv_aload_n hx hb dX11_walk_37 rfl (lv_at hl 0 rfl) ?_
          refine lv_iload_n hx hb dX11_walk_38 rfl (lv_at hl 1 rfl) ?_
          refine W.eq (g2 := F0 m 39 ls [.int (nI j6), .ref mm]) (congrArg (fun v9 : Int32 => F0 m 39 ls [.int v9, .ref mm]) ej6) ?_
          refine lv_iload_n hx hb dX11_walk_39 rfl (lv_at hl 3 rfl) ?_
          refine wr_v (wr := [(mm_refused, .inl (cy 1, 3, .inl mm_refused_f)), (mm_far, .inl (cy 1, 1152, .inl mm_far_f)), (mm_queue, .inl (cy 1, 1152, .inl mm_queue_f))]) (va_runV (As := [.int (nI j6), .int pz]) (rest := []) ⟨hx, hb, hml, hown, hts⟩ (n_X11_findMay l D cy mW mH mS mP mm mm_now mm_kept mm_isKept mm_refused mm_lineFrom mm_lineTo mm_stands mm_far mm_queue mm_queued mm_meets mm_bytes bl ta tl mm_token mm_value mm_next tk mm_now_f mm_stands_f j6 pz _ (by first | assumption | omega) (by first | assumption | omega)) (cwV 2 hts gX11_walk_X11_findMay rfl rfl rfl (by decide +kernel) ⟨Nat.le_of_ble_eq_true rfl, Nat.le_of_ble_eq_true rfl⟩) (pV (ci := 11) (k := 0) hKA (hP.sub (ws' := [(mm, .inr (11, [.ref mm_now, .ref mm_kept, .ref mm_isKept, .ref mm_refused, .int mm_lineFrom, .int mm_lineTo, .ref mm_stands, .ref mm_far, .ref mm_queue, .int mm_queued, .ref mm_meets, .ref mm_bytes, .int (nI bl), .int (nI ta), .int (nI tl), .int mm_token, .int mm_value, .ref mm_next, .int (nI tk)])), (mm_now, .inl (cy 1, 122, .inl mm_now_f)), (mm_stands, .inl (cy 2, 36, .inl mm_stands_f))]) [0, 1, 3] rfl) (hD.sub (ws' := [(mm, .inr (11, [.ref mm_now, .ref mm_kept, .ref mm_isKept, .ref mm_refused, .int mm_lineFrom, .int mm_lineTo, .ref mm_stands, .ref mm_far, .ref mm_queue, .int mm_queued, .ref mm_meets, .ref mm_bytes, .int (nI bl), .int (nI ta), .int (nI tl), .int mm_token, .int mm_value, .ref mm_next, .int (nI tk)])), (mm_now, .inl (cy 1, 122, .inl mm_now_f)), (mm_stands, .inl (cy 2, 36, .inl mm_stands_f))]) [0, 1, 3] (by decide) rfl) rfl rfl) rfl rfl hl.1 rfl (lv_room (Nat.le_of_ble_eq_true rfl)) dX11_walk_40 ⟨Nat.le_of_ble_eq_true rfl, Nat.le_of_ble_eq_true rfl⟩) hP hD hS hA [0, 1, 3] [2, 4, 5] rfl rfl (by decide +kernel) (by decide +kernel) (fun ur18 H locs hwr18 hP hD hS => ?_)
          obtain ⟨z19, z20, z21, z22⟩ := ur18
          have hP : va_P D vwCl [(mm_refused, .inl (cy 1, 3, .inl mm_refused_f)), (mm_far, .inl (cy 1, 1152, .inl mm_far_f)), (mm_queue, .inl (cy 1, 1152, .inl mm_queue_f)), (mm, .inr (11, [.ref mm_now, .ref mm_kept, .ref mm_isKept, .ref mm_refused, .int z19, .int z20, .ref mm_stands, .ref mm_far, .ref mm_queue, .int mm_queued, .ref mm_meets, .ref mm_bytes, .int (nI bl), .int (nI ta), .int (nI tl), .int mm_token, .int mm_value, .ref mm_next, .int (nI tk)])), (mm_now, .inl (cy 1, 122, .inl z21)), (mm_stands, .inl (cy 2, 36, .inl z22))] H := hP
          have hD : va_D A [(mm_refused, .inl (cy 1, 3, .inl mm_refused_f)), (mm_far, .inl (cy 1, 1152, .inl mm_far_f)), (mm_queue, .inl (cy 1, 1152, .inl mm_queue_f)), (mm, .inr (11, [.ref mm_now, .ref mm_kept, .ref mm_isKept, .ref mm_refused, .int z19, .int z20, .ref mm_stands, .ref mm_far, .ref mm_queue, .int mm_queued, .ref mm_meets, .ref mm_bytes, .int (nI bl), .int (nI ta), .int (nI tl), .int mm_token, .int mm_value, .ref mm_next, .int (nI tk)])), (mm_now, .inl (cy 1, 122, .inl z21)), (mm_stands, .inl (cy 2, 36, .inl z22))] := hD
          have hwr18 : mV z21 mW mH mS mP := hwr18
          have hv23 := hwr18
          refine lv_aload_n hx hb dX11_walk_43 rfl (lv_at hl 0 rfl) ?_
          refine lv_iload_n hx hb dX11_walk_44 rfl (lv_at hl 2 rfl) ?_
          refine W.eq (g2 := F0 m 45 ls [.int (nI j12), .ref mm]) (congrArg (fun v9 : Int32 => F0 m 45 ls [.int v9, .ref mm]) ej12) ?_
          refine wr_v (wr := [(mm_refused, .inl (cy 1, 3, .inl mm_refused_f))]) (va_runV (As := [.int (nI j12)]) (rest := []) ⟨hx, hb, hml, hown, hts⟩ (n_X11_findFar l D cy mW mH mS mP mm_far mm_far_f mm mm_now mm_kept mm_isKept mm_refused z19 z20 mm_stands mm_queue mm_queued mm_meets mm_bytes bl ta tl mm_token mm_value mm_next tk z22 mm_queue_f z21 j12 _ (by first | assumption | omega) (by first | assumption | omega)) (cwV 1 hts gX11_walk_X11_findFar rfl rfl rfl (by decide +kernel) ⟨Nat.le_of_ble_eq_true rfl, Nat.le_of_ble_eq_true rfl⟩) (pV (ci := 11) (k := 1) hKA (hP.sub (ws' := [(mm_far, .inl (cy 1, 1152, .inl mm_far_f)), (mm, .inr (11, [.ref mm_now, .ref mm_kept, .ref mm_isKept, .ref mm_refused, .int z19, .int z20, .ref mm_stands, .ref mm_far, .ref mm_queue, .int mm_queued, .ref mm_meets, .ref mm_bytes, .int (nI bl), .int (nI ta), .int (nI tl), .int mm_token, .int mm_value, .ref mm_next, .int (nI tk)])), (mm_stands, .inl (cy 2, 36, .inl z22)), (mm_queue, .inl (cy 1, 1152, .inl mm_queue_f)), (mm_now, .inl (cy 1, 122, .inl z21))]) [1, 3, 5, 2, 4] rfl) (hD.sub (ws' := [(mm_far, .inl (cy 1, 1152, .inl mm_far_f)), (mm, .inr (11, [.ref mm_now, .ref mm_kept, .ref mm_isKept, .ref mm_refused, .int z19, .int z20, .ref mm_stands, .ref mm_far, .ref mm_queue, .int mm_queued, .ref mm_meets, .ref mm_bytes, .int (nI bl), .int (nI ta), .int (nI tl), .int mm_token, .int mm_value, .ref mm_next, .int (nI tk)])), (mm_stands, .inl (cy 2, 36, .inl z22)), (mm_queue, .inl (cy 1, 1152, .inl mm_queue_f)), (mm_now, .inl (cy 1, 122, .inl z21))]) [1, 3, 5, 2, 4] (by decide) rfl) rfl rfl) rfl rfl hl.1 rfl (lv_room (Nat.le_of_ble_eq_true rfl)) dX11_walk_45 ⟨Nat.le_of_ble_eq_true rfl, Nat.le_of_ble_eq_true rfl⟩) hP hD hS hA [1, 3, 5, 2, 4] [0] rfl rfl (by decide +kernel) (by decide +kernel) (fun ur24 H locs hwr24 hP hD hS => ?_)
          obtain ⟨z25, z26, z27⟩ := ur24
          have hP : va_P D vwCl [(mm_refused, .inl (cy 1, 3, .inl mm_refused_f)), (mm_far, .inl (cy 1, 1152, .inl z25)), (mm, .inr (11, [.ref mm_now, .ref mm_kept, .ref mm_isKept, .ref mm_refused, .int z19, .int z20, .ref mm_stands, .ref mm_far, .ref mm_queue, .int z26, .ref mm_meets, .ref mm_bytes, .int (nI bl), .int (nI ta), .int (nI tl), .int mm_token, .int mm_value, .ref mm_next, .int (nI tk)])), (mm_stands, .inl (cy 2, 36, .inl z22)), (mm_queue, .inl (cy 1, 1152, .inl z27)), (mm_now, .inl (cy 1, 122, .inl z21))] H := hP
          have hD : va_D A [(mm_refused, .inl (cy 1, 3, .inl mm_refused_f)), (mm_far, .inl (cy 1, 1152, .inl z25)), (mm, .inr (11, [.ref mm_now, .ref mm_kept, .ref mm_isKept, .ref mm_refused, .int z19, .int z20, .ref mm_stands, .ref mm_far, .ref mm_queue, .int z26, .ref mm_meets, .ref mm_bytes, .int (nI bl), .int (nI ta), .int (nI tl), .int mm_token, .int mm_value, .ref mm_next, .int (nI tk)])), (mm_stands, .inl (cy 2, 36, .inl z22)), (mm_queue, .inl (cy 1, 1152, .inl z27)), (mm_now, .inl (cy 1, 122, .inl z21))] := hD
          have hwr24 : labI mW mH mS z25 := hwr24
          have hlab := hwr24
          refine lv_aload_n hx hb dX11_walk_48 rfl (lv_at hl 0 rfl) ?_
          refine lv_iload_n hx hb dX11_walk_49 rfl (lv_at hl 1 rfl) ?_
          refine W.eq (g2 := F0 m 50 ls [.int (nI j6), .ref mm]) (congrArg (fun v9 : Int32 => F0 m 50 ls [.int v9, .ref mm]) ej6) ?_
          refine lv_iconst (v := 1) hx hb dX11_walk_50 (by decide) ?_
          refine rd_i (va_runV (As := [.int (nI j6), .int 1]) (rest := []) ⟨hx, hb, hml, hown, hts⟩ (n_X11_of l D cy mW mH mS mP mm mm_now mm_kept mm_isKept mm_refused z19 z20 mm_stands mm_far mm_queue z26 mm_meets mm_bytes bl ta tl mm_token mm_value mm_next tk z21 j6 1 _ (by first | assumption | omega) (by first | assumption | omega) (by first | assumption | omega)) (cwV 2 hts gX11_walk_X11_of rfl rfl rfl (by decide +kernel) ⟨Nat.le_of_ble_eq_true rfl, Nat.le_of_ble_eq_true rfl⟩) (pV (ci := 11) (k := 0) hKA (hP.sub (ws' := [(mm, .inr (11, [.ref mm_now, .ref mm_kept, .ref mm_isKept, .ref mm_refused, .int z19, .int z20, .ref mm_stands, .ref mm_far, .ref mm_queue, .int z26, .ref mm_meets, .ref mm_bytes, .int (nI bl), .int (nI ta), .int (nI tl), .int mm_token, .int mm_value, .ref mm_next, .int (nI tk)])), (mm_now, .inl (cy 1, 122, .inl z21))]) [2, 5] rfl) (hD.sub (ws' := [(mm, .inr (11, [.ref mm_now, .ref mm_kept, .ref mm_isKept, .ref mm_refused, .int z19, .int z20, .ref mm_stands, .ref mm_far, .ref mm_queue, .int z26, .ref mm_meets, .ref mm_bytes, .int (nI bl), .int (nI ta), .int (nI tl), .int mm_token, .int mm_value, .ref mm_next, .int (nI tk)])), (mm_now, .inl (cy 1, 122, .inl z21))]) [2, 5] (by decide) rfl) rfl rfl) rfl rfl hl.1 rfl (lv_room (Nat.le_of_ble_eq_true rfl)) dX11_walk_51 ⟨Nat.le_of_ble_eq_true rfl, Nat.le_of_ble_eq_true rfl⟩) hP hS hA (fun r28 H locs hwr28 hP hS => ?_)
          have hwr28 : r28 = z21 (5 + 3 * j6 + 1) := hwr28
          subst hwr28
          obtain ⟨ja, eja, hja⟩ := mV.get hv23 (5 + 3 * j6 + 1) 35 (by omega) (by omega) (by unfold mHi; (repeat' split) <;> omega)
          refine W.eq (g2 := F0 m 54 ls [.int (nI ja)]) (congrArg (fun v9 : Int32 => F0 m 54 ls [.int v9]) eja) ?_
          refine lv_istore (lv' := [(5, .int (nI ja)), (0, .ref mm), (1, .int px), (2, .int py), (3, .int pz), (4, .int pt)]) hx hb dX11_walk_54 hl (by decide) rfl (fun ls hl => ?_)
          refine lv_aload_n hx hb dX11_walk_56 rfl (lv_at hl 1 rfl) ?_
          refine va_get (D := D) (ci := 11) (v := .ref mm_far) (C := RX11) (T := TX11) (N := 19) hx hb hts zi11_ hown hK hP 2 rfl rfl 7 (by decide) z0_ (fun _ h9 => h9) rfl dX11_walk_57 ?_
          refine lv_iload hx hb dX11_walk_60 (lv_at hl 0 rfl) ?_
          refine my_iald hx hb hK hP 1 1 rfl rfl (by first | exact in_ge (N := 1152) (by decide) (by omega) (by assumption) | exact vp_in_nI (by omega) (by omega)) (nI_clamp (by omega)) dX11_walk_62 ?_
          refine lv_ldc hx hb hown z2_ dX11_walk_63 ?_
          refine lv_icmp_ne (tgt := 70) hx hb dX11_walk_65 (by decide) (fun c29 => ?_) (fun c29 => ?_)
          · skip
            obtain ⟨d0, hd0, ed0, hp0⟩ := (hlab ja (by omega)).resolve_left (by assumption)
            refine lv_iload hx hb dX11_walk_70 (lv_at hl 5 rfl) ?_
            refine lv_iconst (v := (-1)) hx hb dX11_walk_72 (by decide) ?_
            refine lv_icmp_ne (tgt := 84) hx hb dX11_walk_73 (by decide) (fun c30 => ?_) (fun c30 => ?_)
            · skip
              refine lv_iload hx hb dX11_walk_84 (lv_at hl 5 rfl) ?_
              refine lv_aload_n hx hb dX11_walk_86 rfl (lv_at hl 1 rfl) ?_
              refine va_get (D := D) (ci := 11) (v := .ref mm_far) (C := RX11) (T := TX11) (N := 19) hx hb hts zi11_ hown hK hP 2 rfl rfl 7 (by decide) z0_ (fun _ h9 => h9) rfl dX11_walk_87 ?_
              refine lv_iload hx hb dX11_walk_90 (lv_at hl 0 rfl) ?_
              refine my_iald hx hb hK hP 1 1 rfl rfl (by first | exact in_ge (N := 1152) (by decide) (by omega) (by assumption) | exact vp_in_nI (by omega) (by omega)) (nI_clamp (by omega)) dX11_walk_92 ?_
              refine W.eq (g2 := F0 m 93 ls [.int (nI d0), .int pt]) (congrArg (fun v9 : Int32 => F0 m 93 ls [.int v9, .int pt]) ed0) ?_
              refine lv_icmp_le (tgt := 99) hx hb dX11_walk_93 (by decide) (fun c31 => ?_) (fun c31 => ?_)
              · skip
                obtain ⟨ni, hni, eni⟩ := z_ni (by assumption) (by assumption) (by assumption) hd0
                refine lv_iconst (v := 0) hx hb dX11_walk_99 (by decide) ?_
                refine lv_istore (lv' := [(6, .int 0), (5, .int (nI ja)), (0, .ref mm), (1, .int px), (2, .int py), (3, .int pz), (4, .int pt)]) hx hb dX11_walk_100 hl (by decide) rfl (fun ls hl => ?_)
                have lp102 : ∀ (n102 : Nat) (v6_102 : Nat) (v5_102 : Nat) (hv6_102 : v6_102 < 2147483648) (hat : v5_102 < 36) (hfa : z25 v5_102 = nI (d0 - v6_102)) (hkn : v6_102 ≤ ni), 2147483648 - v6_102 < n102 → ∀ (H : Heap) (locs : List Loc), va_P D vwCl [(mm_refused, .inl (cy 1, 3, .inl mm_refused_f)), (mm_far, .inl (cy 1, 1152, .inl z25)), (mm, .inr (11, [.ref mm_now, .ref mm_kept, .ref mm_isKept, .ref mm_refused, .int z19, .int z20, .ref mm_stands, .ref mm_far, .ref mm_queue, .int z26, .ref mm_meets, .ref mm_bytes, .int (nI bl), .int (nI ta), .int (nI tl), .int mm_token, .int mm_value, .ref mm_next, .int (nI tk)])), (mm_stands, .inl (cy 2, 36, .inl z22)), (mm_queue, .inl (cy 1, 1152, .inl z27)), (mm_now, .inl (cy 1, 122, .inl z21))] H → va_D A [(mm_refused, .inl (cy 1, 3, .inl mm_refused_f)), (mm_far, .inl (cy 1, 1152, .inl z25)), (mm, .inr (11, [.ref mm_now, .ref mm_kept, .ref mm_isKept, .ref mm_refused, .int z19, .int z20, .ref mm_stands, .ref mm_far, .ref mm_queue, .int z26, .ref mm_meets, .ref mm_bytes, .int (nI bl), .int (nI ta), .int (nI tl), .int mm_token, .int mm_value, .ref mm_next, .int (nI tk)])), (mm_stands, .inl (cy 2, 36, .inl z22)), (mm_queue, .inl (cy 1, 1152, .inl z27)), (mm_now, .inl (cy 1, 122, .inl z21))] → va_S A s.heap H locs → ∀ ls : Array Slot, lv_has ls 9 [(6, .int (nI v6_102)), (5, .int (nI v5_102)), (0, .ref mm), (1, .int px), (2, .int py), (3, .int pz), (4, .int pt)] → W p l e (headSpec wsX11_walk ({ frames := 9, cells := 0, slots := 0, locals := 203 })).room s m [.ref mm, .int px, .int py, .int pz, .int pt].toArray below meth c H locs 0 0 QF (F0 m 102 ls []) := by
                  intro n102
                  induction n102 with
                  | zero => intro v6_102 v5_102 hv6_102 hat hfa hkn hm; exact absurd hm (Nat.not_lt_zero _)
                  | succ n102 ih102 =>
                    intro v6_102 v5_102 hv6_102 hat hfa hkn hm102 H locs hP hD hS ls hl
                    refine lv_iload hx hb dX11_walk_102 (lv_at hl 0 rfl) ?_
                    refine lv_iload hx hb dX11_walk_104 (lv_at hl 6 rfl) ?_
                    refine W.eq (g2 := F0 m 106 ls [.int (nI ni), .int (nI v6_102)]) (congrArg (fun v9 : Int32 => F0 m 106 ls [.int v9, .int (nI v6_102)]) eni) ?_
                    refine lv_icmp_ge (tgt := 173) hx hb dX11_walk_106 (by decide) (fun c32 => ?_) (fun c32 => ?_)
                    · skip
                      refine lv_iload hx hb dX11_walk_173 (lv_at hl 1 rfl) ?_
                      subst hQF
                      have hP9 := hP.sub (ws' := [(mm, .inr (11, [.ref mm_now, .ref mm_kept, .ref mm_isKept, .ref mm_refused, .int z19, .int z20, .ref mm_stands, .ref mm_far, .ref mm_queue, .int z26, .ref mm_meets, .ref mm_bytes, .int (nI bl), .int (nI ta), .int (nI tl), .int mm_token, .int mm_value, .ref mm_next, .int (nI tk)])), (mm_now, .inl (cy 1, 122, .inl z21)), (mm_refused, .inl (cy 1, 3, .inl mm_refused_f)), (mm_stands, .inl (cy 2, 36, .inl z22)), (mm_far, .inl (cy 1, 1152, .inl z25)), (mm_queue, .inl (cy 1, 1152, .inl z27))]) [2, 5, 0, 3, 1, 4] rfl
                      have hD9 := hD.sub (ws' := [(mm, .inr (11, [.ref mm_now, .ref mm_kept, .ref mm_isKept, .ref mm_refused, .int z19, .int z20, .ref mm_stands, .ref mm_far, .ref mm_queue, .int z26, .ref mm_meets, .ref mm_bytes, .int (nI bl), .int (nI ta), .int (nI tl), .int mm_token, .int mm_value, .ref mm_next, .int (nI tk)])), (mm_now, .inl (cy 1, 122, .inl z21)), (mm_refused, .inl (cy 1, 3, .inl mm_refused_f)), (mm_stands, .inl (cy 2, 36, .inl z22)), (mm_far, .inl (cy 1, 1152, .inl z25)), (mm_queue, .inl (cy 1, 1152, .inl z27))]) [2, 5, 0, 3, 1, 4] (by decide) rfl
                      exact W.iret (v := nI v5_102) hx hb hr (fun t ht hW => ⟨⟨nI v5_102, (z19, z20, z26, z21, mm_refused_f, z22, z25, z27), rfl, ⟨_, _, _, _, hv23⟩, by rw [ht]; exact hP9, hD9⟩, hS.F ht⟩) hS.2.2 dX11_walk_175
                    · skip
                      have hk106 := ltM (n := ni) (k := v6_102) (by omega) (by assumption) (by assumption)
                      obtain ⟨s0, j0, hs0, hj0, hb0, hf0⟩ := lab_step hlab (q := v5_102) (d := d0 - v6_102) (by omega) hfa (by omega) (by omega)
                      refine lv_iconst (v := 0) hx hb dX11_walk_109 (by decide) ?_
                      refine lv_istore (lv' := [(7, .int 0), (6, .int (nI v6_102)), (5, .int (nI v5_102)), (0, .ref mm), (1, .int px), (2, .int py), (3, .int pz), (4, .int pt)]) hx hb dX11_walk_110 hl (by decide) rfl (fun ls hl => ?_)
                      refine lv_aload_n hx hb dX11_walk_112 rfl (lv_at hl 3 rfl) ?_
                      refine lv_iload hx hb dX11_walk_113 (lv_at hl 2 rfl) ?_
                      refine lv_iload hx hb dX11_walk_115 (lv_at hl 0 rfl) ?_
                      refine rd_i (va_runV (As := [.int (nI v5_102), .int 0]) (rest := []) ⟨hx, hb, hml, hown, hts⟩ (n_X11_beside l D cy mW mH mS mP mm mm_now mm_kept mm_isKept mm_refused z19 z20 mm_stands mm_far mm_queue z26 mm_meets mm_bytes bl ta tl mm_token mm_value mm_next tk z21 v5_102 0 _ (by first | assumption | omega) (by first | assumption | omega) (by first | assumption | omega)) (cwV 2 hts gX11_walk_X11_beside rfl rfl rfl (by decide +kernel) ⟨Nat.le_of_ble_eq_true rfl, Nat.le_of_ble_eq_true rfl⟩) (pV (ci := 11) (k := 0) hKA (hP.sub (ws' := [(mm, .inr (11, [.ref mm_now, .ref mm_kept, .ref mm_isKept, .ref mm_refused, .int z19, .int z20, .ref mm_stands, .ref mm_far, .ref mm_queue, .int z26, .ref mm_meets, .ref mm_bytes, .int (nI bl), .int (nI ta), .int (nI tl), .int mm_token, .int mm_value, .ref mm_next, .int (nI tk)])), (mm_now, .inl (cy 1, 122, .inl z21))]) [2, 5] rfl) (hD.sub (ws' := [(mm, .inr (11, [.ref mm_now, .ref mm_kept, .ref mm_isKept, .ref mm_refused, .int z19, .int z20, .ref mm_stands, .ref mm_far, .ref mm_queue, .int z26, .ref mm_meets, .ref mm_bytes, .int (nI bl), .int (nI ta), .int (nI tl), .int mm_token, .int mm_value, .ref mm_next, .int (nI tk)])), (mm_now, .inl (cy 1, 122, .inl z21))]) [2, 5] (by decide) rfl) rfl rfl) rfl rfl hl.1 rfl (lv_room (Nat.le_of_ble_eq_true rfl)) dX11_walk_117 ⟨Nat.le_of_ble_eq_true rfl, Nat.le_of_ble_eq_true rfl⟩) hP hS hA (fun r33 H locs hwr33 hP hS => ?_)
                      have hwr33 : (r33 = -1 ∧ bsN mW mH v5_102 0 = none) ∨ ∃ j : Nat, r33 = nI j ∧ bsN mW mH v5_102 0 = some j := hwr33
                      refine lv_istore (lv' := [(8, .int r33), (7, .int 0), (6, .int (nI v6_102)), (5, .int (nI v5_102)), (0, .ref mm), (1, .int px), (2, .int py), (3, .int pz), (4, .int pt)]) hx hb dX11_walk_120 hl (by decide) rfl (fun ls hl => ?_)
                      have lp122 : ∀ (n122 : Nat) (v7_122 : Nat) (v8_122 : Int32) (hq8 : (v8_122 = -1 ∧ bsN mW mH v5_102 v7_122 = none) ∨ ∃ j : Nat, v8_122 = nI j ∧ bsN mW mH v5_102 v7_122 = some j) (hsl : v7_122 ≤ s0), 4 - v7_122 < n122 → ∀ (H : Heap) (locs : List Loc), va_P D vwCl [(mm_refused, .inl (cy 1, 3, .inl mm_refused_f)), (mm_far, .inl (cy 1, 1152, .inl z25)), (mm, .inr (11, [.ref mm_now, .ref mm_kept, .ref mm_isKept, .ref mm_refused, .int z19, .int z20, .ref mm_stands, .ref mm_far, .ref mm_queue, .int z26, .ref mm_meets, .ref mm_bytes, .int (nI bl), .int (nI ta), .int (nI tl), .int mm_token, .int mm_value, .ref mm_next, .int (nI tk)])), (mm_stands, .inl (cy 2, 36, .inl z22)), (mm_queue, .inl (cy 1, 1152, .inl z27)), (mm_now, .inl (cy 1, 122, .inl z21))] H → va_D A [(mm_refused, .inl (cy 1, 3, .inl mm_refused_f)), (mm_far, .inl (cy 1, 1152, .inl z25)), (mm, .inr (11, [.ref mm_now, .ref mm_kept, .ref mm_isKept, .ref mm_refused, .int z19, .int z20, .ref mm_stands, .ref mm_far, .ref mm_queue, .int z26, .ref mm_meets, .ref mm_bytes, .int (nI bl), .int (nI ta), .int (nI tl), .int mm_token, .int mm_value, .ref mm_next, .int (nI tk)])), (mm_stands, .inl (cy 2, 36, .inl z22)), (mm_queue, .inl (cy 1, 1152, .inl z27)), (mm_now, .inl (cy 1, 122, .inl z21))] → va_S A s.heap H locs → ∀ ls : Array Slot, lv_has ls 9 [(8, .int v8_122), (7, .int (nI v7_122)), (6, .int (nI v6_102)), (5, .int (nI v5_102)), (0, .ref mm), (1, .int px), (2, .int py), (3, .int pz), (4, .int pt)] → W p l e (headSpec wsX11_walk ({ frames := 9, cells := 0, slots := 0, locals := 203 })).room s m [.ref mm, .int px, .int py, .int pz, .int pt].toArray below meth c H locs 0 0 QF (F0 m 122 ls []) := by
                        intro n122
                        induction n122 with
                        | zero => intro v7_122 v8_122 hq8 hsl hm; exact absurd hm (Nat.not_lt_zero _)
                        | succ n122 ih122 =>
                          intro v7_122 v8_122 hq8 hsl hm122 H locs hP hD hS ls hl
                          refine lv_iload hx hb dX11_walk_122 (lv_at hl 0 rfl) ?_
                          refine lv_iconst (v := (-1)) hx hb dX11_walk_124 (by decide) ?_
                          refine lv_icmp_eq (tgt := 147) hx hb dX11_walk_125 (by decide) (fun c34 => ?_) (fun c34 => ?_)
                          · skip
                            have hne := (by first | exact bes_neA hq8 hb0 (by omega) (by assumption) | exact bes_neB hbb hb0 hf0 (by assumption) : v7_122 ≠ s0)
                            refine lv_iinc (v := nI (v7_122 + 1)) (lv' := [(7, .int (nI (v7_122 + 1))), (8, .int v8_122), (6, .int (nI v6_102)), (5, .int (nI v5_102)), (0, .ref mm), (1, .int px), (2, .int py), (3, .int pz), (4, .int pt)]) hx hb dX11_walk_147 hl (k := 1) rfl (nI_1 _) (by decide) rfl (fun ls hl => ?_)
                            refine lv_aload_n hx hb dX11_walk_150 rfl (lv_at hl 4 rfl) ?_
                            refine lv_iload hx hb dX11_walk_151 (lv_at hl 3 rfl) ?_
                            refine lv_iload hx hb dX11_walk_153 (lv_at hl 0 rfl) ?_
                            refine rd_i (va_runV (As := [.int (nI v5_102), .int (nI (v7_122 + 1))]) (rest := []) ⟨hx, hb, hml, hown, hts⟩ (n_X11_beside l D cy mW mH mS mP mm mm_now mm_kept mm_isKept mm_refused z19 z20 mm_stands mm_far mm_queue z26 mm_meets mm_bytes bl ta tl mm_token mm_value mm_next tk z21 v5_102 (v7_122 + 1) _ (by first | assumption | omega) (by first | assumption | omega) (by first | assumption | omega)) (cwV 2 hts gX11_walk_X11_beside rfl rfl rfl (by decide +kernel) ⟨Nat.le_of_ble_eq_true rfl, Nat.le_of_ble_eq_true rfl⟩) (pV (ci := 11) (k := 0) hKA (hP.sub (ws' := [(mm, .inr (11, [.ref mm_now, .ref mm_kept, .ref mm_isKept, .ref mm_refused, .int z19, .int z20, .ref mm_stands, .ref mm_far, .ref mm_queue, .int z26, .ref mm_meets, .ref mm_bytes, .int (nI bl), .int (nI ta), .int (nI tl), .int mm_token, .int mm_value, .ref mm_next, .int (nI tk)])), (mm_now, .inl (cy 1, 122, .inl z21))]) [2, 5] rfl) (hD.sub (ws' := [(mm, .inr (11, [.ref mm_now, .ref mm_kept, .ref mm_isKept, .ref mm_refused, .int z19, .int z20, .ref mm_stands, .ref mm_far, .ref mm_queue, .int z26, .ref mm_meets, .ref mm_bytes, .int (nI bl), .int (nI ta), .int (nI tl), .int mm_token, .int mm_value, .ref mm_next, .int (nI tk)])), (mm_now, .inl (cy 1, 122, .inl z21))]) [2, 5] (by decide) rfl) rfl rfl) rfl rfl hl.1 rfl (lv_room (Nat.le_of_ble_eq_true rfl)) dX11_walk_155 ⟨Nat.le_of_ble_eq_true rfl, Nat.le_of_ble_eq_true rfl⟩) hP hS hA (fun r35 H locs hwr35 hP hS => ?_)
                            have hwr35 : (r35 = -1 ∧ bsN mW mH v5_102 (v7_122 + 1) = none) ∨ ∃ j : Nat, r35 = nI j ∧ bsN mW mH v5_102 (v7_122 + 1) = some j := hwr35
                            refine lv_istore (lv' := [(8, .int r35), (7, .int (nI (v7_122 + 1))), (6, .int (nI v6_102)), (5, .int (nI v5_102)), (0, .ref mm), (1, .int px), (2, .int py), (3, .int pz), (4, .int pt)]) hx hb dX11_walk_158 hl (by decide) rfl (fun ls hl => ?_)
                            refine lv_goto (tgt := 122) hx hb dX11_walk_160 (by decide) ?_
                            exact ih122 (v7_122 + 1) r35 hwr35 (by omega) (by omega) _ _ hP hD hS ls hl
                          · skip
                            obtain ⟨jb, ejb, hbb⟩ := bes_nat hq8 (by assumption)
                            have hjb : jb < mS := by rw [hSe]; exact bs_lt ⟨hW2, hW6⟩ ⟨hH2, hH6⟩ (by omega) (by omega) hbb
                            refine lv_aload_n hx hb dX11_walk_128 rfl (lv_at hl 4 rfl) ?_
                            refine va_get (D := D) (ci := 11) (v := .ref mm_far) (C := RX11) (T := TX11) (N := 19) hx hb hts zi11_ hown hK hP 2 rfl rfl 7 (by decide) z0_ (fun _ h9 => h9) rfl dX11_walk_129 ?_
                            refine lv_iload hx hb dX11_walk_132 (lv_at hl 0 rfl) ?_
                            refine W.eq (g2 := F0 m 134 ls [.int (nI jb), .ref mm_far]) (congrArg (fun v9 : Int32 => F0 m 134 ls [.int v9, .ref mm_far]) ejb) ?_
                            refine my_iald hx hb hK hP 1 1 rfl rfl (by first | exact in_ge (N := 1152) (by decide) (by omega) (by assumption) | exact vp_in_nI (by omega) (by omega)) (nI_clamp (by omega)) dX11_walk_134 ?_
                            refine lv_aload_n hx hb dX11_walk_135 rfl (lv_at hl 4 rfl) ?_
                            refine va_get (D := D) (ci := 11) (v := .ref mm_far) (C := RX11) (T := TX11) (N := 19) hx hb hts zi11_ hown hK hP 2 rfl rfl 7 (by decide) z0_ (fun _ h9 => h9) rfl dX11_walk_136 ?_
                            refine lv_iload hx hb dX11_walk_139 (lv_at hl 3 rfl) ?_
                            refine my_iald hx hb hK hP 1 1 rfl rfl (by first | exact in_ge (N := 1152) (by decide) (by omega) (by assumption) | exact vp_in_nI (by omega) (by omega)) (nI_clamp (by omega)) dX11_walk_141 ?_
                            refine W.eq (g2 := F0 m 142 ls [.int (nI (d0 - v6_102)), .int (z25 jb)]) (congrArg (fun v9 : Int32 => F0 m 142 ls [.int v9, .int (z25 jb)]) hfa) ?_
                            refine lv_iconst (v := 1) hx hb dX11_walk_142 (by decide) ?_
                            refine lv_isub hx hb dX11_walk_143 ?_
                            refine lv_topi (fun x36 ex36 => ?_)
                            obtain rfl : x36 = nI ((d0 - v6_102) - 1) := by rw [ex36]; exact pk_sub (a := d0 - v6_102) (b := 1) (by omega)
                            refine lv_icmp_eq (tgt := 163) hx hb dX11_walk_144 (by decide) (fun c37 => ?_) (fun c37 => ?_)
                            · skip
                              refine lv_iload hx hb dX11_walk_163 (lv_at hl 0 rfl) ?_
                              refine W.eq (g2 := F0 m 165 ls [.int (nI jb)]) (congrArg (fun v9 : Int32 => F0 m 165 ls [.int v9]) ejb) ?_
                              refine lv_istore (lv' := [(5, .int (nI jb)), (8, .int v8_122), (7, .int (nI v7_122)), (6, .int (nI v6_102)), (0, .ref mm), (1, .int px), (2, .int py), (3, .int pz), (4, .int pt)]) hx hb dX11_walk_165 hl (by decide) rfl (fun ls hl => ?_)
                              refine lv_iinc (v := nI (v6_102 + 1)) (lv' := [(6, .int (nI (v6_102 + 1))), (5, .int (nI jb)), (8, .int v8_122), (7, .int (nI v7_122)), (0, .ref mm), (1, .int px), (2, .int py), (3, .int pz), (4, .int pt)]) hx hb dX11_walk_167 hl (k := 3) rfl (nI_1 _) (by decide) rfl (fun ls hl => ?_)
                              refine lv_goto (tgt := 102) hx hb dX11_walk_170 (by decide) ?_
                              exact ih102 (v6_102 + 1) jb (by first | omega | exact nlt_max hv6_102 (by assumption)) (by omega) (Eq.trans (by assumption) (congrArg nI (by omega))) (by omega) (by first | omega | (have := nlt_max hv6_102 (by assumption); omega)) _ _ hP hD hS ls (lv_sub hl [0, 1, 4, 5, 6, 7, 8] rfl)
                            · skip
                              have hne := (by first | exact bes_neA hq8 hb0 (by omega) (by assumption) | exact bes_neB hbb hb0 hf0 (by assumption) : v7_122 ≠ s0)
                              refine lv_iinc (v := nI (v7_122 + 1)) (lv' := [(7, .int (nI (v7_122 + 1))), (8, .int v8_122), (6, .int (nI v6_102)), (5, .int (nI v5_102)), (0, .ref mm), (1, .int px), (2, .int py), (3, .int pz), (4, .int pt)]) hx hb dX11_walk_147 hl (k := 1) rfl (nI_1 _) (by decide) rfl (fun ls hl => ?_)
                              refine lv_aload_n hx hb dX11_walk_150 rfl (lv_at hl 4 rfl) ?_
                              refine lv_iload hx hb dX11_walk_151 (lv_at hl 3 rfl) ?_
                              refine lv_iload hx hb dX11_walk_153 (lv_at hl 0 rfl) ?_
                              refine rd_i (va_runV (As := [.int (nI v5_102), .int (nI (v7_122 + 1))]) (rest := []) ⟨hx, hb, hml, hown, hts⟩ (n_X11_beside l D cy mW mH mS mP mm mm_now mm_kept mm_isKept mm_refused z19 z20 mm_stands mm_far mm_queue z26 mm_meets mm_bytes bl ta tl mm_token mm_value mm_next tk z21 v5_102 (v7_122 + 1) _ (by first | assumption | omega) (by first | assumption | omega) (by first | assumption | omega)) (cwV 2 hts gX11_walk_X11_beside rfl rfl rfl (by decide +kernel) ⟨Nat.le_of_ble_eq_true rfl, Nat.le_of_ble_eq_true rfl⟩) (pV (ci := 11) (k := 0) hKA (hP.sub (ws' := [(mm, .inr (11, [.ref mm_now, .ref mm_kept, .ref mm_isKept, .ref mm_refused, .int z19, .int z20, .ref mm_stands, .ref mm_far, .ref mm_queue, .int z26, .ref mm_meets, .ref mm_bytes, .int (nI bl), .int (nI ta), .int (nI tl), .int mm_token, .int mm_value, .ref mm_next, .int (nI tk)])), (mm_now, .inl (cy 1, 122, .inl z21))]) [2, 5] rfl) (hD.sub (ws' := [(mm, .inr (11, [.ref mm_now, .ref mm_kept, .ref mm_isKept, .ref mm_refused, .int z19, .int z20, .ref mm_stands, .ref mm_far, .ref mm_queue, .int z26, .ref mm_meets, .ref mm_bytes, .int (nI bl), .int (nI ta), .int (nI tl), .int mm_token, .int mm_value, .ref mm_next, .int (nI tk)])), (mm_now, .inl (cy 1, 122, .inl z21))]) [2, 5] (by decide) rfl) rfl rfl) rfl rfl hl.1 rfl (lv_room (Nat.le_of_ble_eq_true rfl)) dX11_walk_155 ⟨Nat.le_of_ble_eq_true rfl, Nat.le_of_ble_eq_true rfl⟩) hP hS hA (fun r38 H locs hwr38 hP hS => ?_)
                              have hwr38 : (r38 = -1 ∧ bsN mW mH v5_102 (v7_122 + 1) = none) ∨ ∃ j : Nat, r38 = nI j ∧ bsN mW mH v5_102 (v7_122 + 1) = some j := hwr38
                              refine lv_istore (lv' := [(8, .int r38), (7, .int (nI (v7_122 + 1))), (6, .int (nI v6_102)), (5, .int (nI v5_102)), (0, .ref mm), (1, .int px), (2, .int py), (3, .int pz), (4, .int pt)]) hx hb dX11_walk_158 hl (by decide) rfl (fun ls hl => ?_)
                              refine lv_goto (tgt := 122) hx hb dX11_walk_160 (by decide) ?_
                              exact ih122 (v7_122 + 1) r38 hwr38 (by omega) (by omega) _ _ hP hD hS ls hl
                      exact lp122 (4 - 0 + 1) 0 r33 hwr33 (by omega) (Nat.lt_succ_self _) _ _ hP hD hS ls hl
                exact lp102 (2147483648 - 0 + 1) 0 ja (by first | omega | exact nlt_max (by assumption) (by assumption)) (by omega) ed0 (by omega) (Nat.lt_succ_self _) _ _ hP hD hS ls hl
              · skip
                refine lv_bipush (v := (-5)) hx hb dX11_walk_96 (by decide) ?_
                subst hQF
                have hP9 := hP.sub (ws' := [(mm, .inr (11, [.ref mm_now, .ref mm_kept, .ref mm_isKept, .ref mm_refused, .int z19, .int z20, .ref mm_stands, .ref mm_far, .ref mm_queue, .int z26, .ref mm_meets, .ref mm_bytes, .int (nI bl), .int (nI ta), .int (nI tl), .int mm_token, .int mm_value, .ref mm_next, .int (nI tk)])), (mm_now, .inl (cy 1, 122, .inl z21)), (mm_refused, .inl (cy 1, 3, .inl mm_refused_f)), (mm_stands, .inl (cy 2, 36, .inl z22)), (mm_far, .inl (cy 1, 1152, .inl z25)), (mm_queue, .inl (cy 1, 1152, .inl z27))]) [2, 5, 0, 3, 1, 4] rfl
                have hD9 := hD.sub (ws' := [(mm, .inr (11, [.ref mm_now, .ref mm_kept, .ref mm_isKept, .ref mm_refused, .int z19, .int z20, .ref mm_stands, .ref mm_far, .ref mm_queue, .int z26, .ref mm_meets, .ref mm_bytes, .int (nI bl), .int (nI ta), .int (nI tl), .int mm_token, .int mm_value, .ref mm_next, .int (nI tk)])), (mm_now, .inl (cy 1, 122, .inl z21)), (mm_refused, .inl (cy 1, 3, .inl mm_refused_f)), (mm_stands, .inl (cy 2, 36, .inl z22)), (mm_far, .inl (cy 1, 1152, .inl z25)), (mm_queue, .inl (cy 1, 1152, .inl z27))]) [2, 5, 0, 3, 1, 4] (by decide) rfl
                exact W.iret (v := (-5)) hx hb hr (fun t ht hW => ⟨⟨(-5), (z19, z20, z26, z21, mm_refused_f, z22, z25, z27), rfl, ⟨_, _, _, _, hv23⟩, by rw [ht]; exact hP9, hD9⟩, hS.F ht⟩) hS.2.2 dX11_walk_98
            · skip
              refine lv_aload_n hx hb dX11_walk_76 rfl (lv_at hl 1 rfl) ?_
              refine va_get (D := D) (ci := 11) (v := .ref mm_far) (C := RX11) (T := TX11) (N := 19) hx hb hts zi11_ hown hK hP 2 rfl rfl 7 (by decide) z0_ (fun _ h9 => h9) rfl dX11_walk_77 ?_
              refine lv_iload hx hb dX11_walk_80 (lv_at hl 0 rfl) ?_
              refine my_iald hx hb hK hP 1 1 rfl rfl (by first | exact in_ge (N := 1152) (by decide) (by omega) (by assumption) | exact vp_in_nI (by omega) (by omega)) (nI_clamp (by omega)) dX11_walk_82 ?_
              refine W.eq (g2 := F0 m 83 ls [.int (nI d0)]) (congrArg (fun v9 : Int32 => F0 m 83 ls [.int v9]) ed0) ?_
              subst hQF
              have hP9 := hP.sub (ws' := [(mm, .inr (11, [.ref mm_now, .ref mm_kept, .ref mm_isKept, .ref mm_refused, .int z19, .int z20, .ref mm_stands, .ref mm_far, .ref mm_queue, .int z26, .ref mm_meets, .ref mm_bytes, .int (nI bl), .int (nI ta), .int (nI tl), .int mm_token, .int mm_value, .ref mm_next, .int (nI tk)])), (mm_now, .inl (cy 1, 122, .inl z21)), (mm_refused, .inl (cy 1, 3, .inl mm_refused_f)), (mm_stands, .inl (cy 2, 36, .inl z22)), (mm_far, .inl (cy 1, 1152, .inl z25)), (mm_queue, .inl (cy 1, 1152, .inl z27))]) [2, 5, 0, 3, 1, 4] rfl
              have hD9 := hD.sub (ws' := [(mm, .inr (11, [.ref mm_now, .ref mm_kept, .ref mm_isKept, .ref mm_refused, .int z19, .int z20, .ref mm_stands, .ref mm_far, .ref mm_queue, .int z26, .ref mm_meets, .ref mm_bytes, .int (nI bl), .int (nI ta), .int (nI tl), .int mm_token, .int mm_value, .ref mm_next, .int (nI tk)])), (mm_now, .inl (cy 1, 122, .inl z21)), (mm_refused, .inl (cy 1, 3, .inl mm_refused_f)), (mm_stands, .inl (cy 2, 36, .inl z22)), (mm_far, .inl (cy 1, 1152, .inl z25)), (mm_queue, .inl (cy 1, 1152, .inl z27))]) [2, 5, 0, 3, 1, 4] (by decide) rfl
              exact W.iret (v := nI d0) hx hb hr (fun t ht hW => ⟨⟨nI d0, (z19, z20, z26, z21, mm_refused_f, z22, z25, z27), rfl, ⟨_, _, _, _, hv23⟩, by rw [ht]; exact hP9, hD9⟩, hS.F ht⟩) hS.2.2 dX11_walk_83
          · skip
            refine lv_iconst (v := (-1)) hx hb dX11_walk_68 (by decide) ?_
            subst hQF
            have hP9 := hP.sub (ws' := [(mm, .inr (11, [.ref mm_now, .ref mm_kept, .ref mm_isKept, .ref mm_refused, .int z19, .int z20, .ref mm_stands, .ref mm_far, .ref mm_queue, .int z26, .ref mm_meets, .ref mm_bytes, .int (nI bl), .int (nI ta), .int (nI tl), .int mm_token, .int mm_value, .ref mm_next, .int (nI tk)])), (mm_now, .inl (cy 1, 122, .inl z21)), (mm_refused, .inl (cy 1, 3, .inl mm_refused_f)), (mm_stands, .inl (cy 2, 36, .inl z22)), (mm_far, .inl (cy 1, 1152, .inl z25)), (mm_queue, .inl (cy 1, 1152, .inl z27))]) [2, 5, 0, 3, 1, 4] rfl
            have hD9 := hD.sub (ws' := [(mm, .inr (11, [.ref mm_now, .ref mm_kept, .ref mm_isKept, .ref mm_refused, .int z19, .int z20, .ref mm_stands, .ref mm_far, .ref mm_queue, .int z26, .ref mm_meets, .ref mm_bytes, .int (nI bl), .int (nI ta), .int (nI tl), .int mm_token, .int mm_value, .ref mm_next, .int (nI tk)])), (mm_now, .inl (cy 1, 122, .inl z21)), (mm_refused, .inl (cy 1, 3, .inl mm_refused_f)), (mm_stands, .inl (cy 2, 36, .inl z22)), (mm_far, .inl (cy 1, 1152, .inl z25)), (mm_queue, .inl (cy 1, 1152, .inl z27))]) [2, 5, 0, 3, 1, 4] (by decide) rfl
            exact W.iret (v := (-1)) hx hb hr (fun t ht hW => ⟨⟨(-1), (z19, z20, z26, z21, mm_refused_f, z22, z25, z27), rfl, ⟨_, _, _, _, hv23⟩, by rw [ht]; exact hP9, hD9⟩, hS.F ht⟩) hS.2.2 dX11_walk_69
        · skip
          refine lv_aload_n hx hb dX11_walk_30 rfl (lv_at hl 0 rfl) ?_
          refine lv_bipush (v := (-10)) hx hb dX11_walk_31 (by decide) ?_
          refine wr_i (wr := [(mm_now, .inl (cy 1, 122, .inl mm_now_f)), (mm_stands, .inl (cy 2, 36, .inl mm_stands_f)), (mm_far, .inl (cy 1, 1152, .inl mm_far_f)), (mm_queue, .inl (cy 1, 1152, .inl mm_queue_f))]) (va_runV (As := [.int (-10)]) (rest := []) ⟨hx, hb, hml, hown, hts⟩ (n_X11_bad l D cy mm mm_now mm_kept mm_isKept mm_refused mm_lineFrom mm_lineTo mm_stands mm_far mm_queue mm_queued mm_meets mm_bytes bl ta tl mm_token mm_value mm_next tk mm_refused_f (-10) _ ) (cwV 1 hts gX11_walk_X11_bad rfl rfl rfl (by decide +kernel) ⟨Nat.le_of_ble_eq_true rfl, Nat.le_of_ble_eq_true rfl⟩) (pV (ci := 11) (k := 0) hKA (hP.sub (ws' := [(mm, .inr (11, [.ref mm_now, .ref mm_kept, .ref mm_isKept, .ref mm_refused, .int mm_lineFrom, .int mm_lineTo, .ref mm_stands, .ref mm_far, .ref mm_queue, .int mm_queued, .ref mm_meets, .ref mm_bytes, .int (nI bl), .int (nI ta), .int (nI tl), .int mm_token, .int mm_value, .ref mm_next, .int (nI tk)])), (mm_refused, .inl (cy 1, 3, .inl mm_refused_f))]) [0, 2] rfl) (hD.sub (ws' := [(mm, .inr (11, [.ref mm_now, .ref mm_kept, .ref mm_isKept, .ref mm_refused, .int mm_lineFrom, .int mm_lineTo, .ref mm_stands, .ref mm_far, .ref mm_queue, .int mm_queued, .ref mm_meets, .ref mm_bytes, .int (nI bl), .int (nI ta), .int (nI tl), .int mm_token, .int mm_value, .ref mm_next, .int (nI tk)])), (mm_refused, .inl (cy 1, 3, .inl mm_refused_f))]) [0, 2] (by decide) rfl) rfl rfl) rfl rfl hl.1 rfl (lv_room (Nat.le_of_ble_eq_true rfl)) dX11_walk_33 ⟨Nat.le_of_ble_eq_true rfl, Nat.le_of_ble_eq_true rfl⟩) hP hD hS hA [0, 2] [1, 3, 4, 5] rfl rfl (by decide +kernel) (by decide +kernel) (fun r39 ur39 H locs hwr39 hP hD hS => ?_)
          obtain ⟨z40, rfl⟩ : ∃ z, z = ur39 := ⟨_, rfl⟩
          have hP : va_P D vwCl [(mm_now, .inl (cy 1, 122, .inl mm_now_f)), (mm_stands, .inl (cy 2, 36, .inl mm_stands_f)), (mm_far, .inl (cy 1, 1152, .inl mm_far_f)), (mm_queue, .inl (cy 1, 1152, .inl mm_queue_f)), (mm, .inr (11, [.ref mm_now, .ref mm_kept, .ref mm_isKept, .ref mm_refused, .int mm_lineFrom, .int mm_lineTo, .ref mm_stands, .ref mm_far, .ref mm_queue, .int mm_queued, .ref mm_meets, .ref mm_bytes, .int (nI bl), .int (nI ta), .int (nI tl), .int mm_token, .int mm_value, .ref mm_next, .int (nI tk)])), (mm_refused, .inl (cy 1, 3, .inl z40))] H := hP
          have hD : va_D A [(mm_now, .inl (cy 1, 122, .inl mm_now_f)), (mm_stands, .inl (cy 2, 36, .inl mm_stands_f)), (mm_far, .inl (cy 1, 1152, .inl mm_far_f)), (mm_queue, .inl (cy 1, 1152, .inl mm_queue_f)), (mm, .inr (11, [.ref mm_now, .ref mm_kept, .ref mm_isKept, .ref mm_refused, .int mm_lineFrom, .int mm_lineTo, .ref mm_stands, .ref mm_far, .ref mm_queue, .int mm_queued, .ref mm_meets, .ref mm_bytes, .int (nI bl), .int (nI ta), .int (nI tl), .int mm_token, .int mm_value, .ref mm_next, .int (nI tk)])), (mm_refused, .inl (cy 1, 3, .inl z40))] := hD
          have hwr39 : r39 = (-10) := hwr39
          subst hwr39
          subst hQF
          have hP9 := hP.sub (ws' := [(mm, .inr (11, [.ref mm_now, .ref mm_kept, .ref mm_isKept, .ref mm_refused, .int mm_lineFrom, .int mm_lineTo, .ref mm_stands, .ref mm_far, .ref mm_queue, .int mm_queued, .ref mm_meets, .ref mm_bytes, .int (nI bl), .int (nI ta), .int (nI tl), .int mm_token, .int mm_value, .ref mm_next, .int (nI tk)])), (mm_now, .inl (cy 1, 122, .inl mm_now_f)), (mm_refused, .inl (cy 1, 3, .inl z40)), (mm_stands, .inl (cy 2, 36, .inl mm_stands_f)), (mm_far, .inl (cy 1, 1152, .inl mm_far_f)), (mm_queue, .inl (cy 1, 1152, .inl mm_queue_f))]) [4, 0, 5, 1, 2, 3] rfl
          have hD9 := hD.sub (ws' := [(mm, .inr (11, [.ref mm_now, .ref mm_kept, .ref mm_isKept, .ref mm_refused, .int mm_lineFrom, .int mm_lineTo, .ref mm_stands, .ref mm_far, .ref mm_queue, .int mm_queued, .ref mm_meets, .ref mm_bytes, .int (nI bl), .int (nI ta), .int (nI tl), .int mm_token, .int mm_value, .ref mm_next, .int (nI tk)])), (mm_now, .inl (cy 1, 122, .inl mm_now_f)), (mm_refused, .inl (cy 1, 3, .inl z40)), (mm_stands, .inl (cy 2, 36, .inl mm_stands_f)), (mm_far, .inl (cy 1, 1152, .inl mm_far_f)), (mm_queue, .inl (cy 1, 1152, .inl mm_queue_f))]) [4, 0, 5, 1, 2, 3] (by decide) rfl
          exact W.iret (v := (-10)) hx hb hr (fun t ht hW => ⟨⟨(-10), (mm_lineFrom, mm_lineTo, mm_queued, mm_now_f, z40, mm_stands_f, mm_far_f, mm_queue_f), rfl, ⟨_, _, _, _, hF⟩, by rw [ht]; exact hP9, hD9⟩, hS.F ht⟩) hS.2.2 dX11_walk_36

set_option maxHeartbeats 4000000 in
set_option maxRecDepth 100000 in
theorem n_X11_findMeets (l : Launch) (D : va_G) (cy : Nat → ClassId) (mW : Nat) (mH : Nat) (mS : Nat) (mP : Nat) (mm : Nat) (mm_now : Nat) (mm_kept : Nat) (mm_isKept : Nat) (mm_refused : Nat) (mm_lineFrom : Int32) (mm_lineTo : Int32) (mm_stands : Nat) (mm_far : Nat) (mm_queue : Nat) (mm_queued : Int32) (mm_meets : Nat) (mm_bytes : Nat) (bl : Nat) (ta : Nat) (tl : Nat) (mm_token : Int32) (mm_value : Int32) (mm_next : Nat) (tk : Nat) (mm_now_f : Nat → Int32) (mm_meets_f : Nat → Int32) (mm_stands_f : Nat → Int32) (pp : Nat) (pz : Int32) (sz : Nat) (hF : mV mm_now_f mW mH mS mP) (hpp : pp < 5) (hme : meI mm_meets_f) : Met l yX11_findMeets wsX11_findMeets ({ frames := 6, cells := 0, slots := 0, locals := 134 }) (va_Pc [.ref mm, .int (nI pp), .int pz] (kPre D cy [(mm, .inr (11, [.ref mm_now, .ref mm_kept, .ref mm_isKept, .ref mm_refused, .int mm_lineFrom, .int mm_lineTo, .ref mm_stands, .ref mm_far, .ref mm_queue, .int mm_queued, .ref mm_meets, .ref mm_bytes, .int (nI bl), .int (nI ta), .int (nI tl), .int mm_token, .int mm_value, .ref mm_next, .int (nI tk)])), (mm_now, .inl (cy 1, 122, .inl mm_now_f)), (mm_meets, .inl (cy 1, 36, .inl mm_meets_f)), (mm_stands, .inl (cy 2, 36, .inl mm_stands_f))] sz)) (va_Qv (fun (u : Int32 × Int32 × (Nat → Int32) × (Nat → Int32) × (Nat → Int32)) => mV u.2.2.1 mW mH mS mP ∧ meI u.2.2.2.1) (fun (u : Int32 × Int32 × (Nat → Int32) × (Nat → Int32) × (Nat → Int32)) t => va_P D vwCl ([(mm, .inr (11, [.ref mm_now, .ref mm_kept, .ref mm_isKept, .ref mm_refused, .int u.1, .int u.2.1, .ref mm_stands, .ref mm_far, .ref mm_queue, .int mm_queued, .ref mm_meets, .ref mm_bytes, .int (nI bl), .int (nI ta), .int (nI tl), .int mm_token, .int mm_value, .ref mm_next, .int (nI tk)])), (mm_now, .inl (cy 1, 122, .inl u.2.2.1)), (mm_meets, .inl (cy 1, 36, .inl u.2.2.2.1)), (mm_stands, .inl (cy 2, 36, .inl u.2.2.2.2))]) t.heap ∧ va_D (va_A [(mm, .inr (11, [.ref mm_now, .ref mm_kept, .ref mm_isKept, .ref mm_refused, .int mm_lineFrom, .int mm_lineTo, .ref mm_stands, .ref mm_far, .ref mm_queue, .int mm_queued, .ref mm_meets, .ref mm_bytes, .int (nI bl), .int (nI ta), .int (nI tl), .int mm_token, .int mm_value, .ref mm_next, .int (nI tk)])), (mm_now, .inl (cy 1, 122, .inl mm_now_f)), (mm_meets, .inl (cy 1, 36, .inl mm_meets_f)), (mm_stands, .inl (cy 2, 36, .inl mm_stands_f))] sz) ([(mm, .inr (11, [.ref mm_now, .ref mm_kept, .ref mm_isKept, .ref mm_refused, .int u.1, .int u.2.1, .ref mm_stands, .ref mm_far, .ref mm_queue, .int mm_queued, .ref mm_meets, .ref mm_bytes, .int (nI bl), .int (nI ta), .int (nI tl), .int mm_token, .int mm_value, .ref mm_next, .int (nI tk)])), (mm_now, .inl (cy 1, 122, .inl u.2.2.1)), (mm_meets, .inl (cy 1, 36, .inl u.2.2.2.1)), (mm_stands, .inl (cy 2, 36, .inl u.2.2.2.2))])) (va_A [(mm, .inr (11, [.ref mm_now, .ref mm_kept, .ref mm_isKept, .ref mm_refused, .int mm_lineFrom, .int mm_lineTo, .ref mm_stands, .ref mm_far, .ref mm_queue, .int mm_queued, .ref mm_meets, .ref mm_bytes, .int (nI bl), .int (nI ta), .int (nI tl), .int mm_token, .int mm_value, .ref mm_next, .int (nI tk)])), (mm_now, .inl (cy 1, 122, .inl mm_now_f)), (mm_meets, .inl (cy 1, 36, .inl mm_meets_f)), (mm_stands, .inl (cy 2, 36, .inl mm_stands_f))] sz)) 0 0 (va_A [(mm, .inr (11, [.ref mm_now, .ref mm_kept, .ref mm_isKept, .ref mm_refused, .int mm_lineFrom, .int mm_lineTo, .ref mm_stands, .ref mm_far, .ref mm_queue, .int mm_queued, .ref mm_meets, .ref mm_bytes, .int (nI bl), .int (nI ta), .int (nI tl), .int mm_token, .int mm_value, .ref mm_next, .int (nI tk)])), (mm_now, .inl (cy 1, 122, .inl mm_now_f)), (mm_meets, .inl (cy 1, 36, .inl mm_meets_f)), (mm_stands, .inl (cy 2, 36, .inl mm_stands_f))] sz) := by
  refine Met.ofW (cc := cX11_findMeets) (maxL := 8) (ret := none) (by decide) rfl ?_
  intro p e s m args below meth c s₁ B hml hv
  obtain ⟨rfl, hsz, hP, hKA, hD0⟩ := hv
  have hx := B.exec
  have hb := B.bytes
  have hr := B.returns
  have hts := atoms_spec (ws := wsX11_findMeets) B.pre
  have hown : s.vm.findClass RX11 = some m.cls := findClass_of_methodNamed B.named
  have hlocks := B.notSynchronized
  subst hsz
  have hK := hKA.1
  have hD := hD0.self (sz := s.heap.size)
  generalize hAe : va_A [(mm, .inr (11, [.ref mm_now, .ref mm_kept, .ref mm_isKept, .ref mm_refused, .int mm_lineFrom, .int mm_lineTo, .ref mm_stands, .ref mm_far, .ref mm_queue, .int mm_queued, .ref mm_meets, .ref mm_bytes, .int (nI bl), .int (nI ta), .int (nI tl), .int mm_token, .int mm_value, .ref mm_next, .int (nI tk)])), (mm_now, .inl (cy 1, 122, .inl mm_now_f)), (mm_meets, .inl (cy 1, 36, .inl mm_meets_f)), (mm_stands, .inl (cy 2, 36, .inl mm_stands_f))] s.heap.size = A at hD ⊢
  have hA : ∀ q : Nat, s.heap.size ≤ q → A q := fun q h => by rw [← hAe]; exact Or.inr h
  have hS : va_S A s.heap s.heap [] := va_S.rf
  have hP : va_P D vwCl [(mm, .inr (11, [.ref mm_now, .ref mm_kept, .ref mm_isKept, .ref mm_refused, .int mm_lineFrom, .int mm_lineTo, .ref mm_stands, .ref mm_far, .ref mm_queue, .int mm_queued, .ref mm_meets, .ref mm_bytes, .int (nI bl), .int (nI ta), .int (nI tl), .int mm_token, .int mm_value, .ref mm_next, .int (nI tk)])), (mm_now, .inl (cy 1, 122, .inl mm_now_f)), (mm_meets, .inl (cy 1, 36, .inl mm_meets_f)), (mm_stands, .inl (cy 2, 36, .inl mm_stands_f))] s.heap := hP
  have hl := lv_entry ([.ref mm, .int (nI pp), .int pz]) (n := 8) (Nat.le_of_ble_eq_true rfl)
  rw [lg_entry_eq]
  generalize (lg_sl ([.ref mm, .int (nI pp), .int pz]) ++ List.replicate (8 - (lg_sl ([.ref mm, .int (nI pp), .int pz])).length) Slot.unset).toArray = ls at hl ⊢
  have hl : lv_has ls 8 [(0, .ref mm), (1, .int (nI pp)), (2, .int pz)] := hl
  refine qW (fun QF hQF => ?_)
  have z0_ := hts (.fieldLink RX11 23 "HeardSeenModel" "stands" "[Z") (by decide +kernel)
  have zi11_ : ∀ w ∈ u_ws RX11 TX11 19, w ∈ wsX11_findMeets := by decide +kernel
  have z2_ := hts (.fieldLink RX11 32 "HeardSeenModel" "meets" "[I") (by decide +kernel)
  obtain ⟨hW2, hW6, hH2, hH6, hSe, hS4, hS6, hP5⟩ := hF.rng
  refine lv_aload_n hx hb dX11_findMeets_0 rfl (lv_at hl 0 rfl) ?_
  refine lv_iload_n hx hb dX11_findMeets_1 rfl (lv_at hl 1 rfl) ?_
  refine lv_iconst (v := 1) hx hb dX11_findMeets_2 (by decide) ?_
  refine rd_i (va_runV (As := [.int (nI pp), .int 1]) (rest := []) ⟨hx, hb, hml, hown, hts⟩ (n_X11_of l D cy mW mH mS mP mm mm_now mm_kept mm_isKept mm_refused mm_lineFrom mm_lineTo mm_stands mm_far mm_queue mm_queued mm_meets mm_bytes bl ta tl mm_token mm_value mm_next tk mm_now_f pp 1 _ (by first | assumption | omega) (by first | assumption | omega) (by first | assumption | omega)) (cwV 2 hts gX11_findMeets_X11_of rfl rfl rfl (by decide +kernel) ⟨Nat.le_of_ble_eq_true rfl, Nat.le_of_ble_eq_true rfl⟩) (pV (ci := 11) (k := 0) hKA (hP.sub (ws' := [(mm, .inr (11, [.ref mm_now, .ref mm_kept, .ref mm_isKept, .ref mm_refused, .int mm_lineFrom, .int mm_lineTo, .ref mm_stands, .ref mm_far, .ref mm_queue, .int mm_queued, .ref mm_meets, .ref mm_bytes, .int (nI bl), .int (nI ta), .int (nI tl), .int mm_token, .int mm_value, .ref mm_next, .int (nI tk)])), (mm_now, .inl (cy 1, 122, .inl mm_now_f))]) [0, 1] rfl) (hD.sub (ws' := [(mm, .inr (11, [.ref mm_now, .ref mm_kept, .ref mm_isKept, .ref mm_refused, .int mm_lineFrom, .int mm_lineTo, .ref mm_stands, .ref mm_far, .ref mm_queue, .int mm_queued, .ref mm_meets, .ref mm_bytes, .int (nI bl), .int (nI ta), .int (nI tl), .int mm_token, .int mm_value, .ref mm_next, .int (nI tk)])), (mm_now, .inl (cy 1, 122, .inl mm_now_f))]) [0, 1] (by decide) rfl) rfl rfl) rfl rfl hl.1 rfl (lv_room (Nat.le_of_ble_eq_true rfl)) dX11_findMeets_3 ⟨Nat.le_of_ble_eq_true rfl, Nat.le_of_ble_eq_true rfl⟩) hP hS hA (fun r1 H locs hwr1 hP hS => ?_)
  have hwr1 : r1 = mm_now_f (5 + 3 * pp + 1) := hwr1
  subst hwr1
  obtain ⟨jh, ejh, hjh⟩ := mV.get hF (5 + 3 * pp + 1) 35 (by omega) (by omega) (by unfold mHi; (repeat' split) <;> omega)
  refine W.eq (g2 := F0 m 6 ls [.int (nI jh)]) (congrArg (fun v9 : Int32 => F0 m 6 ls [.int v9]) ejh) ?_
  refine lv_istore_n (lv' := [(3, .int (nI jh)), (0, .ref mm), (1, .int (nI pp)), (2, .int pz)]) hx hb dX11_findMeets_6 rfl hl (by decide) rfl (fun ls hl => ?_)
  refine lv_iconst (v := 0) hx hb dX11_findMeets_7 (by decide) ?_
  refine lv_istore (lv' := [(4, .int 0), (3, .int (nI jh)), (0, .ref mm), (1, .int (nI pp)), (2, .int pz)]) hx hb dX11_findMeets_8 hl (by decide) rfl (fun ls hl => ?_)
  have lp10 : ∀ (n10 : Nat) (v4_10 : Nat) (y_mm_meets_10 : Nat → Int32) (y_mm_stands_10 : Nat → Int32) (y_mm_now_10 : Nat → Int32) (u_mm_4_10 : Int32) (u_mm_5_10 : Int32) (hi_y_mm_meets_10 : meI y_mm_meets_10) (hi_y_mm_now_10 : mV y_mm_now_10 mW mH mS mP) (hv4_10 : v4_10 < 2147483648), 2147483648 - v4_10 < n10 → ∀ (H : Heap) (locs : List Loc), va_P D vwCl [(mm, .inr (11, [.ref mm_now, .ref mm_kept, .ref mm_isKept, .ref mm_refused, .int u_mm_4_10, .int u_mm_5_10, .ref mm_stands, .ref mm_far, .ref mm_queue, .int mm_queued, .ref mm_meets, .ref mm_bytes, .int (nI bl), .int (nI ta), .int (nI tl), .int mm_token, .int mm_value, .ref mm_next, .int (nI tk)])), (mm_now, .inl (cy 1, 122, .inl y_mm_now_10)), (mm_meets, .inl (cy 1, 36, .inl y_mm_meets_10)), (mm_stands, .inl (cy 2, 36, .inl y_mm_stands_10))] H → va_D A [(mm, .inr (11, [.ref mm_now, .ref mm_kept, .ref mm_isKept, .ref mm_refused, .int u_mm_4_10, .int u_mm_5_10, .ref mm_stands, .ref mm_far, .ref mm_queue, .int mm_queued, .ref mm_meets, .ref mm_bytes, .int (nI bl), .int (nI ta), .int (nI tl), .int mm_token, .int mm_value, .ref mm_next, .int (nI tk)])), (mm_now, .inl (cy 1, 122, .inl y_mm_now_10)), (mm_meets, .inl (cy 1, 36, .inl y_mm_meets_10)), (mm_stands, .inl (cy 2, 36, .inl y_mm_stands_10))] → va_S A s.heap H locs → ∀ ls : Array Slot, lv_has ls 8 [(4, .int (nI v4_10)), (3, .int (nI jh)), (0, .ref mm), (1, .int (nI pp)), (2, .int pz)] → W p l e (headSpec wsX11_findMeets ({ frames := 6, cells := 0, slots := 0, locals := 134 })).room s m [.ref mm, .int (nI pp), .int pz].toArray below meth c H locs 0 0 QF (F0 m 10 ls []) := by
    intro n10
    induction n10 with
    | zero => intro v4_10 y_mm_meets_10 y_mm_stands_10 y_mm_now_10 u_mm_4_10 u_mm_5_10 hi_y_mm_meets_10 hi_y_mm_now_10 hv4_10 hm; exact absurd hm (Nat.not_lt_zero _)
    | succ n10 ih10 =>
      intro v4_10 y_mm_meets_10 y_mm_stands_10 y_mm_now_10 u_mm_4_10 u_mm_5_10 hi_y_mm_meets_10 hi_y_mm_now_10 hv4_10 hm10 H locs hP hD hS ls hl
      refine lv_iload hx hb dX11_findMeets_10 (lv_at hl 0 rfl) ?_
      refine lv_aload_n hx hb dX11_findMeets_12 rfl (lv_at hl 2 rfl) ?_
      refine rd_i (va_runV (As := []) (rest := [.int (nI v4_10)]) ⟨hx, hb, hml, hown, hts⟩ (n_X11_squares l D cy mW mH mS mP mm mm_now mm_kept mm_isKept mm_refused u_mm_4_10 u_mm_5_10 mm_stands mm_far mm_queue mm_queued mm_meets mm_bytes bl ta tl mm_token mm_value mm_next tk y_mm_now_10 _ (by first | assumption | omega)) (cwV 0 hts gX11_findMeets_X11_squares rfl rfl rfl (by decide +kernel) ⟨Nat.le_of_ble_eq_true rfl, Nat.le_of_ble_eq_true rfl⟩) (pV (ci := 11) (k := 0) hKA (hP.sub (ws' := [(mm, .inr (11, [.ref mm_now, .ref mm_kept, .ref mm_isKept, .ref mm_refused, .int u_mm_4_10, .int u_mm_5_10, .ref mm_stands, .ref mm_far, .ref mm_queue, .int mm_queued, .ref mm_meets, .ref mm_bytes, .int (nI bl), .int (nI ta), .int (nI tl), .int mm_token, .int mm_value, .ref mm_next, .int (nI tk)])), (mm_now, .inl (cy 1, 122, .inl y_mm_now_10))]) [0, 1] rfl) (hD.sub (ws' := [(mm, .inr (11, [.ref mm_now, .ref mm_kept, .ref mm_isKept, .ref mm_refused, .int u_mm_4_10, .int u_mm_5_10, .ref mm_stands, .ref mm_far, .ref mm_queue, .int mm_queued, .ref mm_meets, .ref mm_bytes, .int (nI bl), .int (nI ta), .int (nI tl), .int mm_token, .int mm_value, .ref mm_next, .int (nI tk)])), (mm_now, .inl (cy 1, 122, .inl y_mm_now_10))]) [0, 1] (by decide) rfl) rfl rfl) rfl rfl hl.1 rfl (lv_room (Nat.le_of_ble_eq_true rfl)) dX11_findMeets_13 ⟨Nat.le_of_ble_eq_true rfl, Nat.le_of_ble_eq_true rfl⟩) hP hS hA (fun r2 H locs hwr2 hP hS => ?_)
      have hwr2 : r2 = nI mS := hwr2
      subst hwr2
      refine lv_icmp_ge (tgt := 210) hx hb dX11_findMeets_16 (by decide) (fun c3 => ?_) (fun c3 => ?_)
      · skip
        refine lv_aload_n hx hb dX11_findMeets_210 rfl (lv_at hl 2 rfl) ?_
        refine lv_iload_n hx hb dX11_findMeets_211 rfl (lv_at hl 3 rfl) ?_
        refine lv_iload_n hx hb dX11_findMeets_212 rfl (lv_at hl 1 rfl) ?_
        refine wr_v (wr := [(mm_meets, .inl (cy 1, 36, .inl y_mm_meets_10)), (mm_stands, .inl (cy 2, 36, .inl y_mm_stands_10))]) (va_runV (As := [.int (nI pp), .int (nI jh)]) (rest := []) ⟨hx, hb, hml, hown, hts⟩ (n_X11_stand l D cy mW mH mS mP mm mm_now mm_kept mm_isKept mm_refused u_mm_4_10 u_mm_5_10 mm_stands mm_far mm_queue mm_queued mm_meets mm_bytes bl ta tl mm_token mm_value mm_next tk y_mm_now_10 pp jh _ (by first | assumption | omega) (by first | assumption | omega) (by first | assumption | omega)) (cwV 2 hts gX11_findMeets_X11_stand rfl rfl rfl (by decide +kernel) ⟨Nat.le_of_ble_eq_true rfl, Nat.le_of_ble_eq_true rfl⟩) (pV (ci := 11) (k := 0) hKA (hP.sub (ws' := [(mm, .inr (11, [.ref mm_now, .ref mm_kept, .ref mm_isKept, .ref mm_refused, .int u_mm_4_10, .int u_mm_5_10, .ref mm_stands, .ref mm_far, .ref mm_queue, .int mm_queued, .ref mm_meets, .ref mm_bytes, .int (nI bl), .int (nI ta), .int (nI tl), .int mm_token, .int mm_value, .ref mm_next, .int (nI tk)])), (mm_now, .inl (cy 1, 122, .inl y_mm_now_10))]) [0, 1] rfl) (hD.sub (ws' := [(mm, .inr (11, [.ref mm_now, .ref mm_kept, .ref mm_isKept, .ref mm_refused, .int u_mm_4_10, .int u_mm_5_10, .ref mm_stands, .ref mm_far, .ref mm_queue, .int mm_queued, .ref mm_meets, .ref mm_bytes, .int (nI bl), .int (nI ta), .int (nI tl), .int mm_token, .int mm_value, .ref mm_next, .int (nI tk)])), (mm_now, .inl (cy 1, 122, .inl y_mm_now_10))]) [0, 1] (by decide) rfl) rfl rfl) rfl rfl hl.1 rfl (lv_room (Nat.le_of_ble_eq_true rfl)) dX11_findMeets_213 ⟨Nat.le_of_ble_eq_true rfl, Nat.le_of_ble_eq_true rfl⟩) hP hD hS hA [0, 1] [2, 3] rfl rfl (by decide +kernel) (by decide +kernel) (fun ur4 H locs hwr4 hP hD hS => ?_)
        obtain ⟨z5, rfl⟩ : ∃ z, z = ur4 := ⟨_, rfl⟩
        have hP : va_P D vwCl [(mm_meets, .inl (cy 1, 36, .inl y_mm_meets_10)), (mm_stands, .inl (cy 2, 36, .inl y_mm_stands_10)), (mm, .inr (11, [.ref mm_now, .ref mm_kept, .ref mm_isKept, .ref mm_refused, .int u_mm_4_10, .int u_mm_5_10, .ref mm_stands, .ref mm_far, .ref mm_queue, .int mm_queued, .ref mm_meets, .ref mm_bytes, .int (nI bl), .int (nI ta), .int (nI tl), .int mm_token, .int mm_value, .ref mm_next, .int (nI tk)])), (mm_now, .inl (cy 1, 122, .inl z5))] H := hP
        have hD : va_D A [(mm_meets, .inl (cy 1, 36, .inl y_mm_meets_10)), (mm_stands, .inl (cy 2, 36, .inl y_mm_stands_10)), (mm, .inr (11, [.ref mm_now, .ref mm_kept, .ref mm_isKept, .ref mm_refused, .int u_mm_4_10, .int u_mm_5_10, .ref mm_stands, .ref mm_far, .ref mm_queue, .int mm_queued, .ref mm_meets, .ref mm_bytes, .int (nI bl), .int (nI ta), .int (nI tl), .int mm_token, .int mm_value, .ref mm_next, .int (nI tk)])), (mm_now, .inl (cy 1, 122, .inl z5))] := hD
        have hwr4 : mV z5 mW mH mS mP := hwr4
        have hv6 := hwr4
        subst hQF
        have hP9 := hP.sub (ws' := [(mm, .inr (11, [.ref mm_now, .ref mm_kept, .ref mm_isKept, .ref mm_refused, .int u_mm_4_10, .int u_mm_5_10, .ref mm_stands, .ref mm_far, .ref mm_queue, .int mm_queued, .ref mm_meets, .ref mm_bytes, .int (nI bl), .int (nI ta), .int (nI tl), .int mm_token, .int mm_value, .ref mm_next, .int (nI tk)])), (mm_now, .inl (cy 1, 122, .inl z5)), (mm_meets, .inl (cy 1, 36, .inl y_mm_meets_10)), (mm_stands, .inl (cy 2, 36, .inl y_mm_stands_10))]) [2, 3, 0, 1] rfl
        have hD9 := hD.sub (ws' := [(mm, .inr (11, [.ref mm_now, .ref mm_kept, .ref mm_isKept, .ref mm_refused, .int u_mm_4_10, .int u_mm_5_10, .ref mm_stands, .ref mm_far, .ref mm_queue, .int mm_queued, .ref mm_meets, .ref mm_bytes, .int (nI bl), .int (nI ta), .int (nI tl), .int mm_token, .int mm_value, .ref mm_next, .int (nI tk)])), (mm_now, .inl (cy 1, 122, .inl z5)), (mm_meets, .inl (cy 1, 36, .inl y_mm_meets_10)), (mm_stands, .inl (cy 2, 36, .inl y_mm_stands_10))]) [2, 3, 0, 1] (by decide) rfl
        exact W.vret hx hb hr (fun t ht hW => ⟨⟨(u_mm_4_10, u_mm_5_10, z5, y_mm_meets_10, y_mm_stands_10), rfl, ⟨hv6, hi_y_mm_meets_10⟩, by rw [ht]; exact hP9, hD9⟩, hS.F ht⟩) hS.2.2 dX11_findMeets_216
      · skip
        have hk16 := ltM (n := mS) (k := v4_10) (by omega) (by assumption) (by assumption)
        refine lv_aload_n hx hb dX11_findMeets_19 rfl (lv_at hl 2 rfl) ?_
        refine va_get (D := D) (ci := 11) (v := .ref mm_stands) (C := RX11) (T := TX11) (N := 19) hx hb hts zi11_ hown hK hP 0 rfl rfl 6 (by decide) z0_ (fun _ h9 => h9) rfl dX11_findMeets_20 ?_
        refine lv_iload hx hb dX11_findMeets_23 (lv_at hl 0 rfl) ?_
        refine lv_aload_n hx hb dX11_findMeets_25 rfl (lv_at hl 2 rfl) ?_
        refine lv_iload hx hb dX11_findMeets_26 (lv_at hl 0 rfl) ?_
        refine lv_iload_n hx hb dX11_findMeets_28 rfl (lv_at hl 3 rfl) ?_
        refine rd_i (va_runV (As := [.int (nI v4_10), .int (nI pp)]) (rest := [.int (nI v4_10), .ref mm_stands]) ⟨hx, hb, hml, hown, hts⟩ (n_X11_isFree l D cy mW mH mS mP mm mm_now mm_kept mm_isKept mm_refused u_mm_4_10 u_mm_5_10 mm_stands mm_far mm_queue mm_queued mm_meets mm_bytes bl ta tl mm_token mm_value mm_next tk y_mm_now_10 v4_10 (nI pp) _ (by first | assumption | omega) (by first | assumption | omega)) (cwV 2 hts gX11_findMeets_X11_isFree rfl rfl rfl (by decide +kernel) ⟨Nat.le_of_ble_eq_true rfl, Nat.le_of_ble_eq_true rfl⟩) (pV (ci := 11) (k := 0) hKA (hP.sub (ws' := [(mm, .inr (11, [.ref mm_now, .ref mm_kept, .ref mm_isKept, .ref mm_refused, .int u_mm_4_10, .int u_mm_5_10, .ref mm_stands, .ref mm_far, .ref mm_queue, .int mm_queued, .ref mm_meets, .ref mm_bytes, .int (nI bl), .int (nI ta), .int (nI tl), .int mm_token, .int mm_value, .ref mm_next, .int (nI tk)])), (mm_now, .inl (cy 1, 122, .inl y_mm_now_10))]) [0, 1] rfl) (hD.sub (ws' := [(mm, .inr (11, [.ref mm_now, .ref mm_kept, .ref mm_isKept, .ref mm_refused, .int u_mm_4_10, .int u_mm_5_10, .ref mm_stands, .ref mm_far, .ref mm_queue, .int mm_queued, .ref mm_meets, .ref mm_bytes, .int (nI bl), .int (nI ta), .int (nI tl), .int mm_token, .int mm_value, .ref mm_next, .int (nI tk)])), (mm_now, .inl (cy 1, 122, .inl y_mm_now_10))]) [0, 1] (by decide) rfl) rfl rfl) rfl rfl hl.1 rfl (lv_room (Nat.le_of_ble_eq_true rfl)) dX11_findMeets_29 ⟨Nat.le_of_ble_eq_true rfl, Nat.le_of_ble_eq_true rfl⟩) hP hS hA (fun r7 H locs hwr7 hP hS => ?_)
        have hwr7 : (r7 = 1 ∧ True) ∨ (r7 = 0 ∧ True) := hwr7
        refine my_zast hx hb hK hP hD hS 3 2 rfl rfl (by first | exact in_ge (N := 36) (by decide) (by omega) (by assumption) | exact vp_in_nI (by omega) (by omega)) (nI_clamp (by omega)) dX11_findMeets_32 (fun H locs hP hD hS => ?_)
        have hP : va_P D vwCl [(mm, .inr (11, [.ref mm_now, .ref mm_kept, .ref mm_isKept, .ref mm_refused, .int u_mm_4_10, .int u_mm_5_10, .ref mm_stands, .ref mm_far, .ref mm_queue, .int mm_queued, .ref mm_meets, .ref mm_bytes, .int (nI bl), .int (nI ta), .int (nI tl), .int mm_token, .int mm_value, .ref mm_next, .int (nI tk)])), (mm_now, .inl (cy 1, 122, .inl y_mm_now_10)), (mm_meets, .inl (cy 1, 36, .inl y_mm_meets_10)), (mm_stands, .inl (cy 2, 36, .inl (upd y_mm_stands_10 v4_10 (vp_nar .boolean r7))))] H := hP
        have hD : va_D A [(mm, .inr (11, [.ref mm_now, .ref mm_kept, .ref mm_isKept, .ref mm_refused, .int u_mm_4_10, .int u_mm_5_10, .ref mm_stands, .ref mm_far, .ref mm_queue, .int mm_queued, .ref mm_meets, .ref mm_bytes, .int (nI bl), .int (nI ta), .int (nI tl), .int mm_token, .int mm_value, .ref mm_next, .int (nI tk)])), (mm_now, .inl (cy 1, 122, .inl y_mm_now_10)), (mm_meets, .inl (cy 1, 36, .inl y_mm_meets_10)), (mm_stands, .inl (cy 2, 36, .inl (upd y_mm_stands_10 v4_10 (vp_nar .boolean r7))))] := hD
        refine lv_aload_n hx hb dX11_findMeets_33 rfl (lv_at hl 2 rfl) ?_
        refine va_get (D := D) (ci := 11) (v := .ref mm_meets) (C := RX11) (T := TX11) (N := 19) hx hb hts zi11_ hown hK hP 0 rfl rfl 10 (by decide) z2_ (fun _ h9 => h9) rfl dX11_findMeets_34 ?_
        refine lv_iload hx hb dX11_findMeets_37 (lv_at hl 0 rfl) ?_
        refine lv_iconst (v := 0) hx hb dX11_findMeets_39 (by decide) ?_
        refine my_iast hx hb hK hP hD hS 2 1 rfl rfl (by first | exact in_ge (N := 36) (by decide) (by omega) (by assumption) | exact vp_in_nI (by omega) (by omega)) (nI_clamp (by omega)) dX11_findMeets_40 (fun H locs hP hD hS => ?_)
        have hP : va_P D vwCl [(mm, .inr (11, [.ref mm_now, .ref mm_kept, .ref mm_isKept, .ref mm_refused, .int u_mm_4_10, .int u_mm_5_10, .ref mm_stands, .ref mm_far, .ref mm_queue, .int mm_queued, .ref mm_meets, .ref mm_bytes, .int (nI bl), .int (nI ta), .int (nI tl), .int mm_token, .int mm_value, .ref mm_next, .int (nI tk)])), (mm_now, .inl (cy 1, 122, .inl y_mm_now_10)), (mm_meets, .inl (cy 1, 36, .inl (upd y_mm_meets_10 v4_10 0))), (mm_stands, .inl (cy 2, 36, .inl (upd y_mm_stands_10 v4_10 (vp_nar .boolean r7))))] H := hP
        have hD : va_D A [(mm, .inr (11, [.ref mm_now, .ref mm_kept, .ref mm_isKept, .ref mm_refused, .int u_mm_4_10, .int u_mm_5_10, .ref mm_stands, .ref mm_far, .ref mm_queue, .int mm_queued, .ref mm_meets, .ref mm_bytes, .int (nI bl), .int (nI ta), .int (nI tl), .int mm_token, .int mm_value, .ref mm_next, .int (nI tk)])), (mm_now, .inl (cy 1, 122, .inl y_mm_now_10)), (mm_meets, .inl (cy 1, 36, .inl (upd y_mm_meets_10 v4_10 0))), (mm_stands, .inl (cy 2, 36, .inl (upd y_mm_stands_10 v4_10 (vp_nar .boolean r7))))] := hD
        obtain ⟨f8, ef8⟩ : ∃ y : Nat → Int32, y = upd y_mm_meets_10 v4_10 0 := ⟨_, rfl⟩
        rw [← ef8] at hP hD
        have hf8 : meI f8 := by rw [ef8]; exact meI.put hi_y_mm_meets_10 v4_10 0 rfl (by first | omega | exact or32 (by assumption) (p32 _ (by omega)) | exact or32 (by assumption) (by omega))
        have hP : va_P D vwCl [(mm, .inr (11, [.ref mm_now, .ref mm_kept, .ref mm_isKept, .ref mm_refused, .int u_mm_4_10, .int u_mm_5_10, .ref mm_stands, .ref mm_far, .ref mm_queue, .int mm_queued, .ref mm_meets, .ref mm_bytes, .int (nI bl), .int (nI ta), .int (nI tl), .int mm_token, .int mm_value, .ref mm_next, .int (nI tk)])), (mm_now, .inl (cy 1, 122, .inl y_mm_now_10)), (mm_meets, .inl (cy 1, 36, .inl f8)), (mm_stands, .inl (cy 2, 36, .inl (upd y_mm_stands_10 v4_10 (vp_nar .boolean r7))))] H := hP
        have hD : va_D A [(mm, .inr (11, [.ref mm_now, .ref mm_kept, .ref mm_isKept, .ref mm_refused, .int u_mm_4_10, .int u_mm_5_10, .ref mm_stands, .ref mm_far, .ref mm_queue, .int mm_queued, .ref mm_meets, .ref mm_bytes, .int (nI bl), .int (nI ta), .int (nI tl), .int mm_token, .int mm_value, .ref mm_next, .int (nI tk)])), (mm_now, .inl (cy 1, 122, .inl y_mm_now_10)), (mm_meets, .inl (cy 1, 36, .inl f8)), (mm_stands, .inl (cy 2, 36, .inl (upd y_mm_stands_10 v4_10 (vp_nar .boolean r7))))] := hD
        refine lv_aload_n hx hb dX11_findMeets_41 rfl (lv_at hl 2 rfl) ?_
        refine va_get (D := D) (ci := 11) (v := .ref mm_stands) (C := RX11) (T := TX11) (N := 19) hx hb hts zi11_ hown hK hP 0 rfl rfl 6 (by decide) z0_ (fun _ h9 => h9) rfl dX11_findMeets_42 ?_
        refine lv_iload hx hb dX11_findMeets_45 (lv_at hl 0 rfl) ?_
        refine my_zald hx hb hK hP 3 2 rfl rfl (by first | exact in_ge (N := 36) (by decide) (by omega) (by assumption) | exact vp_in_nI (by omega) (by omega)) (nI_clamp (by omega)) dX11_findMeets_47 ?_
        refine lv_if_eq (tgt := 204) hx hb dX11_findMeets_48 (by decide) (fun c9 => ?_) (fun c9 => ?_)
        · skip
          refine lv_iinc (v := nI (v4_10 + 1)) (lv' := [(4, .int (nI (v4_10 + 1))), (3, .int (nI jh)), (0, .ref mm), (1, .int (nI pp)), (2, .int pz)]) hx hb dX11_findMeets_204 hl (k := 0) rfl (nI_1 _) (by decide) rfl (fun ls hl => ?_)
          refine lv_goto (tgt := 10) hx hb dX11_findMeets_207 (by decide) ?_
          exact ih10 (v4_10 + 1) f8 (upd y_mm_stands_10 v4_10 (vp_nar .boolean r7)) y_mm_now_10 u_mm_4_10 u_mm_5_10 hf8 hi_y_mm_now_10 (by first | omega | exact nlt_max hv4_10 (by assumption)) (by first | omega | (have := nlt_max hv4_10 (by assumption); omega)) _ _ hP hD hS ls hl
        · skip
          refine lv_aload_n hx hb dX11_findMeets_51 rfl (lv_at hl 2 rfl) ?_
          refine lv_iload_n hx hb dX11_findMeets_52 rfl (lv_at hl 3 rfl) ?_
          refine lv_iload hx hb dX11_findMeets_53 (lv_at hl 0 rfl) ?_
          refine wr_v (wr := [(mm_meets, .inl (cy 1, 36, .inl f8)), (mm_stands, .inl (cy 2, 36, .inl (upd y_mm_stands_10 v4_10 (vp_nar .boolean r7))))]) (va_runV (As := [.int (nI pp), .int (nI v4_10)]) (rest := []) ⟨hx, hb, hml, hown, hts⟩ (n_X11_stand l D cy mW mH mS mP mm mm_now mm_kept mm_isKept mm_refused u_mm_4_10 u_mm_5_10 mm_stands mm_far mm_queue mm_queued mm_meets mm_bytes bl ta tl mm_token mm_value mm_next tk y_mm_now_10 pp v4_10 _ (by first | assumption | omega) (by first | assumption | omega) (by first | assumption | omega)) (cwV 2 hts gX11_findMeets_X11_stand rfl rfl rfl (by decide +kernel) ⟨Nat.le_of_ble_eq_true rfl, Nat.le_of_ble_eq_true rfl⟩) (pV (ci := 11) (k := 0) hKA (hP.sub (ws' := [(mm, .inr (11, [.ref mm_now, .ref mm_kept, .ref mm_isKept, .ref mm_refused, .int u_mm_4_10, .int u_mm_5_10, .ref mm_stands, .ref mm_far, .ref mm_queue, .int mm_queued, .ref mm_meets, .ref mm_bytes, .int (nI bl), .int (nI ta), .int (nI tl), .int mm_token, .int mm_value, .ref mm_next, .int (nI tk)])), (mm_now, .inl (cy 1, 122, .inl y_mm_now_10))]) [0, 1] rfl) (hD.sub (ws' := [(mm, .inr (11, [.ref mm_now, .ref mm_kept, .ref mm_isKept, .ref mm_refused, .int u_mm_4_10, .int u_mm_5_10, .ref mm_stands, .ref mm_far, .ref mm_queue, .int mm_queued, .ref mm_meets, .ref mm_bytes, .int (nI bl), .int (nI ta), .int (nI tl), .int mm_token, .int mm_value, .ref mm_next, .int (nI tk)])), (mm_now, .inl (cy 1, 122, .inl y_mm_now_10))]) [0, 1] (by decide) rfl) rfl rfl) rfl rfl hl.1 rfl (lv_room (Nat.le_of_ble_eq_true rfl)) dX11_findMeets_55 ⟨Nat.le_of_ble_eq_true rfl, Nat.le_of_ble_eq_true rfl⟩) hP hD hS hA [0, 1] [2, 3] rfl rfl (by decide +kernel) (by decide +kernel) (fun ur10 H locs hwr10 hP hD hS => ?_)
          obtain ⟨z11, rfl⟩ : ∃ z, z = ur10 := ⟨_, rfl⟩
          have hP : va_P D vwCl [(mm_meets, .inl (cy 1, 36, .inl f8)), (mm_stands, .inl (cy 2, 36, .inl (upd y_mm_stands_10 v4_10 (vp_nar .boolean r7)))), (mm, .inr (11, [.ref mm_now, .ref mm_kept, .ref mm_isKept, .ref mm_refused, .int u_mm_4_10, .int u_mm_5_10, .ref mm_stands, .ref mm_far, .ref mm_queue, .int mm_queued, .ref mm_meets, .ref mm_bytes, .int (nI bl), .int (nI ta), .int (nI tl), .int mm_token, .int mm_value, .ref mm_next, .int (nI tk)])), (mm_now, .inl (cy 1, 122, .inl z11))] H := hP
          have hD : va_D A [(mm_meets, .inl (cy 1, 36, .inl f8)), (mm_stands, .inl (cy 2, 36, .inl (upd y_mm_stands_10 v4_10 (vp_nar .boolean r7)))), (mm, .inr (11, [.ref mm_now, .ref mm_kept, .ref mm_isKept, .ref mm_refused, .int u_mm_4_10, .int u_mm_5_10, .ref mm_stands, .ref mm_far, .ref mm_queue, .int mm_queued, .ref mm_meets, .ref mm_bytes, .int (nI bl), .int (nI ta), .int (nI tl), .int mm_token, .int mm_value, .ref mm_next, .int (nI tk)])), (mm_now, .inl (cy 1, 122, .inl z11))] := hD
          have hwr10 : mV z11 mW mH mS mP := hwr10
          have hv12 := hwr10
          refine lv_iconst (v := 0) hx hb dX11_findMeets_58 (by decide) ?_
          refine lv_istore (lv' := [(5, .int 0), (4, .int (nI v4_10)), (3, .int (nI jh)), (0, .ref mm), (1, .int (nI pp)), (2, .int pz)]) hx hb dX11_findMeets_59 hl (by decide) rfl (fun ls hl => ?_)
          have lp61 : ∀ (n61 : Nat) (v5_61 : Nat) (y_mm_meets_61 : Nat → Int32) (y_mm_stands_61 : Nat → Int32) (u_mm_4_61 : Int32) (u_mm_5_61 : Int32) (hi_y_mm_meets_61 : meI y_mm_meets_61) (hv5_61 : v5_61 < 2147483648), 2147483648 - v5_61 < n61 → ∀ (H : Heap) (locs : List Loc), va_P D vwCl [(mm_meets, .inl (cy 1, 36, .inl y_mm_meets_61)), (mm_stands, .inl (cy 2, 36, .inl y_mm_stands_61)), (mm, .inr (11, [.ref mm_now, .ref mm_kept, .ref mm_isKept, .ref mm_refused, .int u_mm_4_61, .int u_mm_5_61, .ref mm_stands, .ref mm_far, .ref mm_queue, .int mm_queued, .ref mm_meets, .ref mm_bytes, .int (nI bl), .int (nI ta), .int (nI tl), .int mm_token, .int mm_value, .ref mm_next, .int (nI tk)])), (mm_now, .inl (cy 1, 122, .inl z11))] H → va_D A [(mm_meets, .inl (cy 1, 36, .inl y_mm_meets_61)), (mm_stands, .inl (cy 2, 36, .inl y_mm_stands_61)), (mm, .inr (11, [.ref mm_now, .ref mm_kept, .ref mm_isKept, .ref mm_refused, .int u_mm_4_61, .int u_mm_5_61, .ref mm_stands, .ref mm_far, .ref mm_queue, .int mm_queued, .ref mm_meets, .ref mm_bytes, .int (nI bl), .int (nI ta), .int (nI tl), .int mm_token, .int mm_value, .ref mm_next, .int (nI tk)])), (mm_now, .inl (cy 1, 122, .inl z11))] → va_S A s.heap H locs → ∀ ls : Array Slot, lv_has ls 8 [(5, .int (nI v5_61)), (4, .int (nI v4_10)), (3, .int (nI jh)), (0, .ref mm), (1, .int (nI pp)), (2, .int pz)] → W p l e (headSpec wsX11_findMeets ({ frames := 6, cells := 0, slots := 0, locals := 134 })).room s m [.ref mm, .int (nI pp), .int pz].toArray below meth c H locs 0 0 QF (F0 m 61 ls []) := by
            intro n61
            induction n61 with
            | zero => intro v5_61 y_mm_meets_61 y_mm_stands_61 u_mm_4_61 u_mm_5_61 hi_y_mm_meets_61 hv5_61 hm; exact absurd hm (Nat.not_lt_zero _)
            | succ n61 ih61 =>
              intro v5_61 y_mm_meets_61 y_mm_stands_61 u_mm_4_61 u_mm_5_61 hi_y_mm_meets_61 hv5_61 hm61 H locs hP hD hS ls hl
              refine lv_iload hx hb dX11_findMeets_61 (lv_at hl 0 rfl) ?_
              refine lv_aload_n hx hb dX11_findMeets_63 rfl (lv_at hl 3 rfl) ?_
              refine rd_i (va_runV (As := []) (rest := [.int (nI v5_61)]) ⟨hx, hb, hml, hown, hts⟩ (n_X11_people l D cy mW mH mS mP mm mm_now mm_kept mm_isKept mm_refused u_mm_4_61 u_mm_5_61 mm_stands mm_far mm_queue mm_queued mm_meets mm_bytes bl ta tl mm_token mm_value mm_next tk z11 _ (by first | assumption | omega)) (cwV 0 hts gX11_findMeets_X11_people rfl rfl rfl (by decide +kernel) ⟨Nat.le_of_ble_eq_true rfl, Nat.le_of_ble_eq_true rfl⟩) (pV (ci := 11) (k := 0) hKA (hP.sub (ws' := [(mm, .inr (11, [.ref mm_now, .ref mm_kept, .ref mm_isKept, .ref mm_refused, .int u_mm_4_61, .int u_mm_5_61, .ref mm_stands, .ref mm_far, .ref mm_queue, .int mm_queued, .ref mm_meets, .ref mm_bytes, .int (nI bl), .int (nI ta), .int (nI tl), .int mm_token, .int mm_value, .ref mm_next, .int (nI tk)])), (mm_now, .inl (cy 1, 122, .inl z11))]) [2, 3] rfl) (hD.sub (ws' := [(mm, .inr (11, [.ref mm_now, .ref mm_kept, .ref mm_isKept, .ref mm_refused, .int u_mm_4_61, .int u_mm_5_61, .ref mm_stands, .ref mm_far, .ref mm_queue, .int mm_queued, .ref mm_meets, .ref mm_bytes, .int (nI bl), .int (nI ta), .int (nI tl), .int mm_token, .int mm_value, .ref mm_next, .int (nI tk)])), (mm_now, .inl (cy 1, 122, .inl z11))]) [2, 3] (by decide) rfl) rfl rfl) rfl rfl hl.1 rfl (lv_room (Nat.le_of_ble_eq_true rfl)) dX11_findMeets_64 ⟨Nat.le_of_ble_eq_true rfl, Nat.le_of_ble_eq_true rfl⟩) hP hS hA (fun r13 H locs hwr13 hP hS => ?_)
              have hwr13 : r13 = nI mP := hwr13
              subst hwr13
              refine lv_icmp_ge (tgt := 204) hx hb dX11_findMeets_67 (by decide) (fun c14 => ?_) (fun c14 => ?_)
              · skip
                refine lv_iinc (v := nI (v4_10 + 1)) (lv' := [(4, .int (nI (v4_10 + 1))), (5, .int (nI v5_61)), (3, .int (nI jh)), (0, .ref mm), (1, .int (nI pp)), (2, .int pz)]) hx hb dX11_findMeets_204 hl (k := 1) rfl (nI_1 _) (by decide) rfl (fun ls hl => ?_)
                refine lv_goto (tgt := 10) hx hb dX11_findMeets_207 (by decide) ?_
                exact ih10 (v4_10 + 1) y_mm_meets_61 y_mm_stands_61 z11 u_mm_4_61 u_mm_5_61 hi_y_mm_meets_61 hv12 (by first | omega | exact nlt_max hv4_10 (by assumption)) (by first | omega | (have := nlt_max hv4_10 (by assumption); omega)) _ _ (hP.sub (ws' := [(mm, .inr (11, [.ref mm_now, .ref mm_kept, .ref mm_isKept, .ref mm_refused, .int u_mm_4_61, .int u_mm_5_61, .ref mm_stands, .ref mm_far, .ref mm_queue, .int mm_queued, .ref mm_meets, .ref mm_bytes, .int (nI bl), .int (nI ta), .int (nI tl), .int mm_token, .int mm_value, .ref mm_next, .int (nI tk)])), (mm_now, .inl (cy 1, 122, .inl z11)), (mm_meets, .inl (cy 1, 36, .inl y_mm_meets_61)), (mm_stands, .inl (cy 2, 36, .inl y_mm_stands_61))]) [2, 3, 0, 1] rfl) (hD.sub (ws' := [(mm, .inr (11, [.ref mm_now, .ref mm_kept, .ref mm_isKept, .ref mm_refused, .int u_mm_4_61, .int u_mm_5_61, .ref mm_stands, .ref mm_far, .ref mm_queue, .int mm_queued, .ref mm_meets, .ref mm_bytes, .int (nI bl), .int (nI ta), .int (nI tl), .int mm_token, .int mm_value, .ref mm_next, .int (nI tk)])), (mm_now, .inl (cy 1, 122, .inl z11)), (mm_meets, .inl (cy 1, 36, .inl y_mm_meets_61)), (mm_stands, .inl (cy 2, 36, .inl y_mm_stands_61))]) [2, 3, 0, 1] (by decide) rfl) hS ls (lv_sub hl [0, 2, 3, 4, 5] rfl)
              · skip
                have hk67 := ltM (n := mP) (k := v5_61) (by omega) (by assumption) (by assumption)
                refine lv_iload hx hb dX11_findMeets_70 (lv_at hl 0 rfl) ?_
                refine lv_iload_n hx hb dX11_findMeets_72 rfl (lv_at hl 4 rfl) ?_
                have j108 : ∀ (s1_108 : Int32) (u_mm_4_108 : Int32) (u_mm_5_108 : Int32) (bs1_108 : s1_108 = 1 ∨ s1_108 = 0) (H : Heap) (locs : List Loc), va_P D vwCl [(mm_meets, .inl (cy 1, 36, .inl y_mm_meets_61)), (mm_stands, .inl (cy 2, 36, .inl y_mm_stands_61)), (mm, .inr (11, [.ref mm_now, .ref mm_kept, .ref mm_isKept, .ref mm_refused, .int u_mm_4_108, .int u_mm_5_108, .ref mm_stands, .ref mm_far, .ref mm_queue, .int mm_queued, .ref mm_meets, .ref mm_bytes, .int (nI bl), .int (nI ta), .int (nI tl), .int mm_token, .int mm_value, .ref mm_next, .int (nI tk)])), (mm_now, .inl (cy 1, 122, .inl z11))] H → va_D A [(mm_meets, .inl (cy 1, 36, .inl y_mm_meets_61)), (mm_stands, .inl (cy 2, 36, .inl y_mm_stands_61)), (mm, .inr (11, [.ref mm_now, .ref mm_kept, .ref mm_isKept, .ref mm_refused, .int u_mm_4_108, .int u_mm_5_108, .ref mm_stands, .ref mm_far, .ref mm_queue, .int mm_queued, .ref mm_meets, .ref mm_bytes, .int (nI bl), .int (nI ta), .int (nI tl), .int mm_token, .int mm_value, .ref mm_next, .int (nI tk)])), (mm_now, .inl (cy 1, 122, .inl z11))] → va_S A s.heap H locs → ∀ ls : Array Slot, lv_has ls 8 [(5, .int (nI v5_61)), (4, .int (nI v4_10)), (3, .int (nI jh)), (0, .ref mm), (1, .int (nI pp)), (2, .int pz)] → W p l e (headSpec wsX11_findMeets ({ frames := 6, cells := 0, slots := 0, locals := 134 })).room s m [.ref mm, .int (nI pp), .int pz].toArray below meth c H locs 0 0 QF (F0 m 108 ls [.int s1_108]) := by
                  intro s1_108 u_mm_4_108 u_mm_5_108 bs1_108 H locs hP hD hS ls hl
                  refine lv_istore (lv' := [(6, .int s1_108), (5, .int (nI v5_61)), (4, .int (nI v4_10)), (3, .int (nI jh)), (0, .ref mm), (1, .int (nI pp)), (2, .int pz)]) hx hb dX11_findMeets_108 hl (by decide) rfl (fun ls hl => ?_)
                  refine lv_aload_n hx hb dX11_findMeets_110 rfl (lv_at hl 4 rfl) ?_
                  refine va_get (D := D) (ci := 11) (v := .ref mm_meets) (C := RX11) (T := TX11) (N := 19) hx hb hts zi11_ hown hK hP 2 rfl rfl 10 (by decide) z2_ (fun _ h9 => h9) rfl dX11_findMeets_111 ?_
                  refine lv_iload hx hb dX11_findMeets_114 (lv_at hl 2 rfl) ?_
                  refine lv_dup2_11 hx hb dX11_findMeets_116 rfl rfl ?_
                  refine my_iald hx hb hK hP 0 1 rfl rfl (by first | exact in_ge (N := 36) (by decide) (by omega) (by assumption) | exact vp_in_nI (by omega) (by omega)) (nI_clamp (by omega)) dX11_findMeets_117 ?_
                  obtain ⟨jm, ejm, hjm⟩ := hi_y_mm_meets_61 v4_10 (by omega)
                  refine W.eq (g2 := F0 m 118 ls [.int (nI jm), .int (nI v4_10), .ref mm_meets]) (congrArg (fun v9 : Int32 => F0 m 118 ls [.int v9, .int (nI v4_10), .ref mm_meets]) ejm) ?_
                  refine lv_iload hx hb dX11_findMeets_118 (lv_at hl 0 rfl) ?_
                  refine lv_if_eq (tgt := 130) hx hb dX11_findMeets_120 (by decide) (fun c15 => ?_) (fun c15 => ?_)
                  · skip
                    refine lv_iconst (v := 0) hx hb dX11_findMeets_130 (by decide) ?_
                    refine lv_ior hx hb dX11_findMeets_131 ?_
                    refine W.eq (g2 := F0 m 132 ls [.int (nI (jm ||| 0)), .int (nI v4_10), .ref mm_meets]) (congrArg (fun v9 : Int32 => F0 m 132 ls [.int v9, .int (nI v4_10), .ref mm_meets]) (fa_or jm 0)) ?_
                    refine my_iast hx hb hK hP hD hS 0 1 rfl rfl (by first | exact in_ge (N := 36) (by decide) (by omega) (by assumption) | exact vp_in_nI (by omega) (by omega)) (nI_clamp (by omega)) dX11_findMeets_132 (fun H locs hP hD hS => ?_)
                    have hP : va_P D vwCl [(mm_meets, .inl (cy 1, 36, .inl (upd y_mm_meets_61 v4_10 (nI (jm ||| 0))))), (mm_stands, .inl (cy 2, 36, .inl y_mm_stands_61)), (mm, .inr (11, [.ref mm_now, .ref mm_kept, .ref mm_isKept, .ref mm_refused, .int u_mm_4_108, .int u_mm_5_108, .ref mm_stands, .ref mm_far, .ref mm_queue, .int mm_queued, .ref mm_meets, .ref mm_bytes, .int (nI bl), .int (nI ta), .int (nI tl), .int mm_token, .int mm_value, .ref mm_next, .int (nI tk)])), (mm_now, .inl (cy 1, 122, .inl z11))] H := hP
                    have hD : va_D A [(mm_meets, .inl (cy 1, 36, .inl (upd y_mm_meets_61 v4_10 (nI (jm ||| 0))))), (mm_stands, .inl (cy 2, 36, .inl y_mm_stands_61)), (mm, .inr (11, [.ref mm_now, .ref mm_kept, .ref mm_isKept, .ref mm_refused, .int u_mm_4_108, .int u_mm_5_108, .ref mm_stands, .ref mm_far, .ref mm_queue, .int mm_queued, .ref mm_meets, .ref mm_bytes, .int (nI bl), .int (nI ta), .int (nI tl), .int mm_token, .int mm_value, .ref mm_next, .int (nI tk)])), (mm_now, .inl (cy 1, 122, .inl z11))] := hD
                    obtain ⟨f16, ef16⟩ : ∃ y : Nat → Int32, y = upd y_mm_meets_61 v4_10 (nI (jm ||| 0)) := ⟨_, rfl⟩
                    rw [← ef16] at hP hD
                    have hf16 : meI f16 := by rw [ef16]; exact meI.put hi_y_mm_meets_61 v4_10 (jm ||| 0) rfl (by first | omega | exact or32 (by assumption) (p32 _ (by omega)) | exact or32 (by assumption) (by omega))
                    have hP : va_P D vwCl [(mm_meets, .inl (cy 1, 36, .inl f16)), (mm_stands, .inl (cy 2, 36, .inl y_mm_stands_61)), (mm, .inr (11, [.ref mm_now, .ref mm_kept, .ref mm_isKept, .ref mm_refused, .int u_mm_4_108, .int u_mm_5_108, .ref mm_stands, .ref mm_far, .ref mm_queue, .int mm_queued, .ref mm_meets, .ref mm_bytes, .int (nI bl), .int (nI ta), .int (nI tl), .int mm_token, .int mm_value, .ref mm_next, .int (nI tk)])), (mm_now, .inl (cy 1, 122, .inl z11))] H := hP
                    have hD : va_D A [(mm_meets, .inl (cy 1, 36, .inl f16)), (mm_stands, .inl (cy 2, 36, .inl y_mm_stands_61)), (mm, .inr (11, [.ref mm_now, .ref mm_kept, .ref mm_isKept, .ref mm_refused, .int u_mm_4_108, .int u_mm_5_108, .ref mm_stands, .ref mm_far, .ref mm_queue, .int mm_queued, .ref mm_meets, .ref mm_bytes, .int (nI bl), .int (nI ta), .int (nI tl), .int mm_token, .int mm_value, .ref mm_next, .int (nI tk)])), (mm_now, .inl (cy 1, 122, .inl z11))] := hD
                    refine lv_iload hx hb dX11_findMeets_133 (lv_at hl 1 rfl) ?_
                    refine lv_iload_n hx hb dX11_findMeets_135 rfl (lv_at hl 5 rfl) ?_
                    have j165 : ∀ (s1_165 : Int32) (u_mm_4_165 : Int32) (u_mm_5_165 : Int32) (bs1_165 : s1_165 = 1 ∨ s1_165 = 0) (H : Heap) (locs : List Loc), va_P D vwCl [(mm_meets, .inl (cy 1, 36, .inl f16)), (mm_stands, .inl (cy 2, 36, .inl y_mm_stands_61)), (mm, .inr (11, [.ref mm_now, .ref mm_kept, .ref mm_isKept, .ref mm_refused, .int u_mm_4_165, .int u_mm_5_165, .ref mm_stands, .ref mm_far, .ref mm_queue, .int mm_queued, .ref mm_meets, .ref mm_bytes, .int (nI bl), .int (nI ta), .int (nI tl), .int mm_token, .int mm_value, .ref mm_next, .int (nI tk)])), (mm_now, .inl (cy 1, 122, .inl z11))] H → va_D A [(mm_meets, .inl (cy 1, 36, .inl f16)), (mm_stands, .inl (cy 2, 36, .inl y_mm_stands_61)), (mm, .inr (11, [.ref mm_now, .ref mm_kept, .ref mm_isKept, .ref mm_refused, .int u_mm_4_165, .int u_mm_5_165, .ref mm_stands, .ref mm_far, .ref mm_queue, .int mm_queued, .ref mm_meets, .ref mm_bytes, .int (nI bl), .int (nI ta), .int (nI tl), .int mm_token, .int mm_value, .ref mm_next, .int (nI tk)])), (mm_now, .inl (cy 1, 122, .inl z11))] → va_S A s.heap H locs → ∀ ls : Array Slot, lv_has ls 8 [(6, .int s1_108), (5, .int (nI v5_61)), (4, .int (nI v4_10)), (3, .int (nI jh)), (0, .ref mm), (1, .int (nI pp)), (2, .int pz)] → W p l e (headSpec wsX11_findMeets ({ frames := 6, cells := 0, slots := 0, locals := 134 })).room s m [.ref mm, .int (nI pp), .int pz].toArray below meth c H locs 0 0 QF (F0 m 165 ls [.int s1_165]) := by
                      intro s1_165 u_mm_4_165 u_mm_5_165 bs1_165 H locs hP hD hS ls hl
                      refine lv_istore (lv' := [(7, .int s1_165), (6, .int s1_108), (5, .int (nI v5_61)), (4, .int (nI v4_10)), (3, .int (nI jh)), (0, .ref mm), (1, .int (nI pp)), (2, .int pz)]) hx hb dX11_findMeets_165 hl (by decide) rfl (fun ls hl => ?_)
                      refine lv_aload_n hx hb dX11_findMeets_167 rfl (lv_at hl 5 rfl) ?_
                      refine va_get (D := D) (ci := 11) (v := .ref mm_stands) (C := RX11) (T := TX11) (N := 19) hx hb hts zi11_ hown hK hP 2 rfl rfl 6 (by decide) z0_ (fun _ h9 => h9) rfl dX11_findMeets_168 ?_
                      refine lv_iload hx hb dX11_findMeets_171 (lv_at hl 3 rfl) ?_
                      refine lv_aload_n hx hb dX11_findMeets_173 rfl (lv_at hl 5 rfl) ?_
                      refine va_get (D := D) (ci := 11) (v := .ref mm_stands) (C := RX11) (T := TX11) (N := 19) hx hb hts zi11_ hown hK hP 2 rfl rfl 6 (by decide) z0_ (fun _ h9 => h9) rfl dX11_findMeets_174 ?_
                      refine lv_iload hx hb dX11_findMeets_177 (lv_at hl 3 rfl) ?_
                      refine my_zald hx hb hK hP 1 2 rfl rfl (by first | exact in_ge (N := 36) (by decide) (by omega) (by assumption) | exact vp_in_nI (by omega) (by omega)) (nI_clamp (by omega)) dX11_findMeets_179 ?_
                      refine lv_if_eq (tgt := 196) hx hb dX11_findMeets_180 (by decide) (fun c17 => ?_) (fun c17 => ?_)
                      · skip
                        refine lv_iconst (v := 0) hx hb dX11_findMeets_196 (by decide) ?_
                        refine my_zast hx hb hK hP hD hS 1 2 rfl rfl (by first | exact in_ge (N := 36) (by decide) (by omega) (by assumption) | exact vp_in_nI (by omega) (by omega)) (nI_clamp (by omega)) dX11_findMeets_197 (fun H locs hP hD hS => ?_)
                        have hP : va_P D vwCl [(mm_meets, .inl (cy 1, 36, .inl f16)), (mm_stands, .inl (cy 2, 36, .inl (upd y_mm_stands_61 v4_10 (vp_nar .boolean 0)))), (mm, .inr (11, [.ref mm_now, .ref mm_kept, .ref mm_isKept, .ref mm_refused, .int u_mm_4_165, .int u_mm_5_165, .ref mm_stands, .ref mm_far, .ref mm_queue, .int mm_queued, .ref mm_meets, .ref mm_bytes, .int (nI bl), .int (nI ta), .int (nI tl), .int mm_token, .int mm_value, .ref mm_next, .int (nI tk)])), (mm_now, .inl (cy 1, 122, .inl z11))] H := hP
                        have hD : va_D A [(mm_meets, .inl (cy 1, 36, .inl f16)), (mm_stands, .inl (cy 2, 36, .inl (upd y_mm_stands_61 v4_10 (vp_nar .boolean 0)))), (mm, .inr (11, [.ref mm_now, .ref mm_kept, .ref mm_isKept, .ref mm_refused, .int u_mm_4_165, .int u_mm_5_165, .ref mm_stands, .ref mm_far, .ref mm_queue, .int mm_queued, .ref mm_meets, .ref mm_bytes, .int (nI bl), .int (nI ta), .int (nI tl), .int mm_token, .int mm_value, .ref mm_next, .int (nI tk)])), (mm_now, .inl (cy 1, 122, .inl z11))] := hD
                        refine lv_iinc (v := nI (v5_61 + 1)) (lv' := [(5, .int (nI (v5_61 + 1))), (7, .int s1_165), (6, .int s1_108), (4, .int (nI v4_10)), (3, .int (nI jh)), (0, .ref mm), (1, .int (nI pp)), (2, .int pz)]) hx hb dX11_findMeets_198 hl (k := 2) rfl (nI_1 _) (by decide) rfl (fun ls hl => ?_)
                        refine lv_goto (tgt := 61) hx hb dX11_findMeets_201 (by decide) ?_
                        exact ih61 (v5_61 + 1) f16 (upd y_mm_stands_61 v4_10 (vp_nar .boolean 0)) u_mm_4_165 u_mm_5_165 hf16 (by first | omega | exact nlt_max hv5_61 (by assumption)) (by first | omega | (have := nlt_max hv5_61 (by assumption); omega)) _ _ hP hD hS ls (lv_sub hl [0, 3, 4, 5, 6, 7] rfl)
                      · skip
                        refine lv_iload_n hx hb dX11_findMeets_183 rfl (lv_at hl 7 rfl) ?_
                        refine lv_if_eq (tgt := 192) hx hb dX11_findMeets_184 (by decide) (fun c18 => ?_) (fun c18 => ?_)
                        · skip
                          refine lv_iconst (v := 1) hx hb dX11_findMeets_192 (by decide) ?_
                          refine lv_goto (tgt := 197) hx hb dX11_findMeets_193 (by decide) ?_
                          refine my_zast hx hb hK hP hD hS 1 2 rfl rfl (by first | exact in_ge (N := 36) (by decide) (by omega) (by assumption) | exact vp_in_nI (by omega) (by omega)) (nI_clamp (by omega)) dX11_findMeets_197 (fun H locs hP hD hS => ?_)
                          have hP : va_P D vwCl [(mm_meets, .inl (cy 1, 36, .inl f16)), (mm_stands, .inl (cy 2, 36, .inl (upd y_mm_stands_61 v4_10 (vp_nar .boolean 1)))), (mm, .inr (11, [.ref mm_now, .ref mm_kept, .ref mm_isKept, .ref mm_refused, .int u_mm_4_165, .int u_mm_5_165, .ref mm_stands, .ref mm_far, .ref mm_queue, .int mm_queued, .ref mm_meets, .ref mm_bytes, .int (nI bl), .int (nI ta), .int (nI tl), .int mm_token, .int mm_value, .ref mm_next, .int (nI tk)])), (mm_now, .inl (cy 1, 122, .inl z11))] H := hP
                          have hD : va_D A [(mm_meets, .inl (cy 1, 36, .inl f16)), (mm_stands, .inl (cy 2, 36, .inl (upd y_mm_stands_61 v4_10 (vp_nar .boolean 1)))), (mm, .inr (11, [.ref mm_now, .ref mm_kept, .ref mm_isKept, .ref mm_refused, .int u_mm_4_165, .int u_mm_5_165, .ref mm_stands, .ref mm_far, .ref mm_queue, .int mm_queued, .ref mm_meets, .ref mm_bytes, .int (nI bl), .int (nI ta), .int (nI tl), .int mm_token, .int mm_value, .ref mm_next, .int (nI tk)])), (mm_now, .inl (cy 1, 122, .inl z11))] := hD
                          refine lv_iinc (v := nI (v5_61 + 1)) (lv' := [(5, .int (nI (v5_61 + 1))), (7, .int s1_165), (6, .int s1_108), (4, .int (nI v4_10)), (3, .int (nI jh)), (0, .ref mm), (1, .int (nI pp)), (2, .int pz)]) hx hb dX11_findMeets_198 hl (k := 2) rfl (nI_1 _) (by decide) rfl (fun ls hl => ?_)
                          refine lv_goto (tgt := 61) hx hb dX11_findMeets_201 (by decide) ?_
                          exact ih61 (v5_61 + 1) f16 (upd y_mm_stands_61 v4_10 (vp_nar .boolean 1)) u_mm_4_165 u_mm_5_165 hf16 (by first | omega | exact nlt_max hv5_61 (by assumption)) (by first | omega | (have := nlt_max hv5_61 (by assumption); omega)) _ _ hP hD hS ls (lv_sub hl [0, 3, 4, 5, 6, 7] rfl)
                        · skip
                          refine lv_iload hx hb dX11_findMeets_187 (lv_at hl 0 rfl) ?_
                          refine lv_if_ne (tgt := 196) hx hb dX11_findMeets_189 (by decide) (fun c19 => ?_) (fun c19 => ?_)
                          · skip
                            refine lv_iconst (v := 0) hx hb dX11_findMeets_196 (by decide) ?_
                            refine my_zast hx hb hK hP hD hS 1 2 rfl rfl (by first | exact in_ge (N := 36) (by decide) (by omega) (by assumption) | exact vp_in_nI (by omega) (by omega)) (nI_clamp (by omega)) dX11_findMeets_197 (fun H locs hP hD hS => ?_)
                            have hP : va_P D vwCl [(mm_meets, .inl (cy 1, 36, .inl f16)), (mm_stands, .inl (cy 2, 36, .inl (upd y_mm_stands_61 v4_10 (vp_nar .boolean 0)))), (mm, .inr (11, [.ref mm_now, .ref mm_kept, .ref mm_isKept, .ref mm_refused, .int u_mm_4_165, .int u_mm_5_165, .ref mm_stands, .ref mm_far, .ref mm_queue, .int mm_queued, .ref mm_meets, .ref mm_bytes, .int (nI bl), .int (nI ta), .int (nI tl), .int mm_token, .int mm_value, .ref mm_next, .int (nI tk)])), (mm_now, .inl (cy 1, 122, .inl z11))] H := hP
                            have hD : va_D A [(mm_meets, .inl (cy 1, 36, .inl f16)), (mm_stands, .inl (cy 2, 36, .inl (upd y_mm_stands_61 v4_10 (vp_nar .boolean 0)))), (mm, .inr (11, [.ref mm_now, .ref mm_kept, .ref mm_isKept, .ref mm_refused, .int u_mm_4_165, .int u_mm_5_165, .ref mm_stands, .ref mm_far, .ref mm_queue, .int mm_queued, .ref mm_meets, .ref mm_bytes, .int (nI bl), .int (nI ta), .int (nI tl), .int mm_token, .int mm_value, .ref mm_next, .int (nI tk)])), (mm_now, .inl (cy 1, 122, .inl z11))] := hD
                            refine lv_iinc (v := nI (v5_61 + 1)) (lv' := [(5, .int (nI (v5_61 + 1))), (7, .int s1_165), (6, .int s1_108), (4, .int (nI v4_10)), (3, .int (nI jh)), (0, .ref mm), (1, .int (nI pp)), (2, .int pz)]) hx hb dX11_findMeets_198 hl (k := 2) rfl (nI_1 _) (by decide) rfl (fun ls hl => ?_)
                            refine lv_goto (tgt := 61) hx hb dX11_findMeets_201 (by decide) ?_
                            exact ih61 (v5_61 + 1) f16 (upd y_mm_stands_61 v4_10 (vp_nar .boolean 0)) u_mm_4_165 u_mm_5_165 hf16 (by first | omega | exact nlt_max hv5_61 (by assumption)) (by first | omega | (have := nlt_max hv5_61 (by assumption); omega)) _ _ hP hD hS ls (lv_sub hl [0, 3, 4, 5, 6, 7] rfl)
                          · skip
                            refine lv_iconst (v := 1) hx hb dX11_findMeets_192 (by decide) ?_
                            refine lv_goto (tgt := 197) hx hb dX11_findMeets_193 (by decide) ?_
                            refine my_zast hx hb hK hP hD hS 1 2 rfl rfl (by first | exact in_ge (N := 36) (by decide) (by omega) (by assumption) | exact vp_in_nI (by omega) (by omega)) (nI_clamp (by omega)) dX11_findMeets_197 (fun H locs hP hD hS => ?_)
                            have hP : va_P D vwCl [(mm_meets, .inl (cy 1, 36, .inl f16)), (mm_stands, .inl (cy 2, 36, .inl (upd y_mm_stands_61 v4_10 (vp_nar .boolean 1)))), (mm, .inr (11, [.ref mm_now, .ref mm_kept, .ref mm_isKept, .ref mm_refused, .int u_mm_4_165, .int u_mm_5_165, .ref mm_stands, .ref mm_far, .ref mm_queue, .int mm_queued, .ref mm_meets, .ref mm_bytes, .int (nI bl), .int (nI ta), .int (nI tl), .int mm_token, .int mm_value, .ref mm_next, .int (nI tk)])), (mm_now, .inl (cy 1, 122, .inl z11))] H := hP
                            have hD : va_D A [(mm_meets, .inl (cy 1, 36, .inl f16)), (mm_stands, .inl (cy 2, 36, .inl (upd y_mm_stands_61 v4_10 (vp_nar .boolean 1)))), (mm, .inr (11, [.ref mm_now, .ref mm_kept, .ref mm_isKept, .ref mm_refused, .int u_mm_4_165, .int u_mm_5_165, .ref mm_stands, .ref mm_far, .ref mm_queue, .int mm_queued, .ref mm_meets, .ref mm_bytes, .int (nI bl), .int (nI ta), .int (nI tl), .int mm_token, .int mm_value, .ref mm_next, .int (nI tk)])), (mm_now, .inl (cy 1, 122, .inl z11))] := hD
                            refine lv_iinc (v := nI (v5_61 + 1)) (lv' := [(5, .int (nI (v5_61 + 1))), (7, .int s1_165), (6, .int s1_108), (4, .int (nI v4_10)), (3, .int (nI jh)), (0, .ref mm), (1, .int (nI pp)), (2, .int pz)]) hx hb dX11_findMeets_198 hl (k := 2) rfl (nI_1 _) (by decide) rfl (fun ls hl => ?_)
                            refine lv_goto (tgt := 61) hx hb dX11_findMeets_201 (by decide) ?_
                            exact ih61 (v5_61 + 1) f16 (upd y_mm_stands_61 v4_10 (vp_nar .boolean 1)) u_mm_4_165 u_mm_5_165 hf16 (by first | omega | exact nlt_max hv5_61 (by assumption)) (by first | omega | (have := nlt_max hv5_61 (by assumption); omega)) _ _ hP hD hS ls (lv_sub hl [0, 3, 4, 5, 6, 7] rfl)
                    refine lv_icmp_eq (tgt := 164) hx hb dX11_findMeets_136 (by decide) (fun c20 => ?_) (fun c20 => ?_)
                    · skip
                      refine lv_iconst (v := 0) hx hb dX11_findMeets_164 (by decide) ?_
                      exact j165 0 u_mm_4_108 u_mm_5_108 (Or.inr rfl) _ _ hP hD hS ls hl
                    · skip
                      refine lv_aload_n hx hb dX11_findMeets_139 rfl (lv_at hl 4 rfl) ?_
                      refine lv_iload hx hb dX11_findMeets_140 (lv_at hl 1 rfl) ?_
                      refine lv_iconst (v := 0) hx hb dX11_findMeets_142 (by decide) ?_
                      refine rd_i (va_runV (As := [.int (nI v5_61), .int 0]) (rest := []) ⟨hx, hb, hml, hown, hts⟩ (n_X11_of l D cy mW mH mS mP mm mm_now mm_kept mm_isKept mm_refused u_mm_4_108 u_mm_5_108 mm_stands mm_far mm_queue mm_queued mm_meets mm_bytes bl ta tl mm_token mm_value mm_next tk z11 v5_61 0 _ (by first | assumption | omega) (by first | assumption | omega) (by first | assumption | omega)) (cwV 2 hts gX11_findMeets_X11_of rfl rfl rfl (by decide +kernel) ⟨Nat.le_of_ble_eq_true rfl, Nat.le_of_ble_eq_true rfl⟩) (pV (ci := 11) (k := 0) hKA (hP.sub (ws' := [(mm, .inr (11, [.ref mm_now, .ref mm_kept, .ref mm_isKept, .ref mm_refused, .int u_mm_4_108, .int u_mm_5_108, .ref mm_stands, .ref mm_far, .ref mm_queue, .int mm_queued, .ref mm_meets, .ref mm_bytes, .int (nI bl), .int (nI ta), .int (nI tl), .int mm_token, .int mm_value, .ref mm_next, .int (nI tk)])), (mm_now, .inl (cy 1, 122, .inl z11))]) [2, 3] rfl) (hD.sub (ws' := [(mm, .inr (11, [.ref mm_now, .ref mm_kept, .ref mm_isKept, .ref mm_refused, .int u_mm_4_108, .int u_mm_5_108, .ref mm_stands, .ref mm_far, .ref mm_queue, .int mm_queued, .ref mm_meets, .ref mm_bytes, .int (nI bl), .int (nI ta), .int (nI tl), .int mm_token, .int mm_value, .ref mm_next, .int (nI tk)])), (mm_now, .inl (cy 1, 122, .inl z11))]) [2, 3] (by decide) rfl) rfl rfl) rfl rfl hl.1 rfl (lv_room (Nat.le_of_ble_eq_true rfl)) dX11_findMeets_143 ⟨Nat.le_of_ble_eq_true rfl, Nat.le_of_ble_eq_true rfl⟩) hP hS hA (fun r21 H locs hwr21 hP hS => ?_)
                      have hwr21 : r21 = z11 (5 + 3 * v5_61 + 0) := hwr21
                      subst hwr21
                      refine lv_iconst (v := 5) hx hb dX11_findMeets_146 (by decide) ?_
                      refine lv_icmp_eq (tgt := 164) hx hb dX11_findMeets_147 (by decide) (fun c22 => ?_) (fun c22 => ?_)
                      · skip
                        refine lv_iconst (v := 0) hx hb dX11_findMeets_164 (by decide) ?_
                        exact j165 0 u_mm_4_108 u_mm_5_108 (Or.inr rfl) _ _ hP hD hS ls hl
                      · skip
                        refine lv_aload_n hx hb dX11_findMeets_150 rfl (lv_at hl 4 rfl) ?_
                        refine lv_iload hx hb dX11_findMeets_151 (lv_at hl 1 rfl) ?_
                        refine lv_iload_n hx hb dX11_findMeets_153 rfl (lv_at hl 5 rfl) ?_
                        refine wr_i (wr := [(mm_meets, .inl (cy 1, 36, .inl f16)), (mm_stands, .inl (cy 2, 36, .inl y_mm_stands_61))]) (va_runV (As := [.int (nI v5_61), .int (nI pp)]) (rest := []) ⟨hx, hb, hml, hown, hts⟩ (n_X11_sees l D cy mW mH mS mP mm mm_now mm_kept mm_isKept mm_refused u_mm_4_108 u_mm_5_108 mm_stands mm_far mm_queue mm_queued mm_meets mm_bytes bl ta tl mm_token mm_value mm_next tk z11 v5_61 pp _ (by first | assumption | omega) (by first | assumption | omega) (by first | assumption | omega)) (cwV 2 hts gX11_findMeets_X11_sees rfl rfl rfl (by decide +kernel) ⟨Nat.le_of_ble_eq_true rfl, Nat.le_of_ble_eq_true rfl⟩) (pV (ci := 11) (k := 0) hKA (hP.sub (ws' := [(mm, .inr (11, [.ref mm_now, .ref mm_kept, .ref mm_isKept, .ref mm_refused, .int u_mm_4_108, .int u_mm_5_108, .ref mm_stands, .ref mm_far, .ref mm_queue, .int mm_queued, .ref mm_meets, .ref mm_bytes, .int (nI bl), .int (nI ta), .int (nI tl), .int mm_token, .int mm_value, .ref mm_next, .int (nI tk)])), (mm_now, .inl (cy 1, 122, .inl z11))]) [2, 3] rfl) (hD.sub (ws' := [(mm, .inr (11, [.ref mm_now, .ref mm_kept, .ref mm_isKept, .ref mm_refused, .int u_mm_4_108, .int u_mm_5_108, .ref mm_stands, .ref mm_far, .ref mm_queue, .int mm_queued, .ref mm_meets, .ref mm_bytes, .int (nI bl), .int (nI ta), .int (nI tl), .int mm_token, .int mm_value, .ref mm_next, .int (nI tk)])), (mm_now, .inl (cy 1, 122, .inl z11))]) [2, 3] (by decide) rfl) rfl rfl) rfl rfl hl.1 rfl (lv_room (Nat.le_of_ble_eq_true rfl)) dX11_findMeets_154 ⟨Nat.le_of_ble_eq_true rfl, Nat.le_of_ble_eq_true rfl⟩) hP hD hS hA [2, 3] [0, 1] rfl rfl (by decide +kernel) (by decide +kernel) (fun r23 ur23 H locs hwr23 hP hD hS => ?_)
                        obtain ⟨z24, z25⟩ := ur23
                        have hP : va_P D vwCl [(mm_meets, .inl (cy 1, 36, .inl f16)), (mm_stands, .inl (cy 2, 36, .inl y_mm_stands_61)), (mm, .inr (11, [.ref mm_now, .ref mm_kept, .ref mm_isKept, .ref mm_refused, .int z24, .int z25, .ref mm_stands, .ref mm_far, .ref mm_queue, .int mm_queued, .ref mm_meets, .ref mm_bytes, .int (nI bl), .int (nI ta), .int (nI tl), .int mm_token, .int mm_value, .ref mm_next, .int (nI tk)])), (mm_now, .inl (cy 1, 122, .inl z11))] H := hP
                        have hD : va_D A [(mm_meets, .inl (cy 1, 36, .inl f16)), (mm_stands, .inl (cy 2, 36, .inl y_mm_stands_61)), (mm, .inr (11, [.ref mm_now, .ref mm_kept, .ref mm_isKept, .ref mm_refused, .int z24, .int z25, .ref mm_stands, .ref mm_far, .ref mm_queue, .int mm_queued, .ref mm_meets, .ref mm_bytes, .int (nI bl), .int (nI ta), .int (nI tl), .int mm_token, .int mm_value, .ref mm_next, .int (nI tk)])), (mm_now, .inl (cy 1, 122, .inl z11))] := hD
                        have hwr23 : (r23 = 1 ∧ True) ∨ (r23 = 0 ∧ True) := hwr23
                        refine lv_if_eq (tgt := 164) hx hb dX11_findMeets_157 (by decide) (fun c26 => ?_) (fun c26 => ?_)
                        · skip
                          refine lv_iconst (v := 0) hx hb dX11_findMeets_164 (by decide) ?_
                          exact j165 0 z24 z25 (Or.inr rfl) _ _ hP hD hS ls hl
                        · skip
                          refine lv_iconst (v := 1) hx hb dX11_findMeets_160 (by decide) ?_
                          refine lv_goto (tgt := 165) hx hb dX11_findMeets_161 (by decide) ?_
                          exact j165 1 z24 z25 (Or.inl rfl) _ _ hP hD hS ls hl
                  · skip
                    refine lv_iconst (v := 1) hx hb dX11_findMeets_123 (by decide) ?_
                    refine lv_iload hx hb dX11_findMeets_124 (lv_at hl 1 rfl) ?_
                    refine lv_ishl hx hb dX11_findMeets_126 ?_
                    refine W.eq (g2 := F0 m 127 ls [.int (nI (2 ^ v5_61)), .int (nI jm), .int (nI v4_10), .ref mm_meets]) (congrArg (fun v9 : Int32 => F0 m 127 ls [.int v9, .int (nI jm), .int (nI v4_10), .ref mm_meets]) (sh1 v5_61 (by omega))) ?_
                    refine lv_goto (tgt := 131) hx hb dX11_findMeets_127 (by decide) ?_
                    refine lv_ior hx hb dX11_findMeets_131 ?_
                    refine W.eq (g2 := F0 m 132 ls [.int (nI (jm ||| (2 ^ v5_61))), .int (nI v4_10), .ref mm_meets]) (congrArg (fun v9 : Int32 => F0 m 132 ls [.int v9, .int (nI v4_10), .ref mm_meets]) (fa_or jm (2 ^ v5_61))) ?_
                    refine my_iast hx hb hK hP hD hS 0 1 rfl rfl (by first | exact in_ge (N := 36) (by decide) (by omega) (by assumption) | exact vp_in_nI (by omega) (by omega)) (nI_clamp (by omega)) dX11_findMeets_132 (fun H locs hP hD hS => ?_)
                    have hP : va_P D vwCl [(mm_meets, .inl (cy 1, 36, .inl (upd y_mm_meets_61 v4_10 (nI (jm ||| (2 ^ v5_61)))))), (mm_stands, .inl (cy 2, 36, .inl y_mm_stands_61)), (mm, .inr (11, [.ref mm_now, .ref mm_kept, .ref mm_isKept, .ref mm_refused, .int u_mm_4_108, .int u_mm_5_108, .ref mm_stands, .ref mm_far, .ref mm_queue, .int mm_queued, .ref mm_meets, .ref mm_bytes, .int (nI bl), .int (nI ta), .int (nI tl), .int mm_token, .int mm_value, .ref mm_next, .int (nI tk)])), (mm_now, .inl (cy 1, 122, .inl z11))] H := hP
                    have hD : va_D A [(mm_meets, .inl (cy 1, 36, .inl (upd y_mm_meets_61 v4_10 (nI (jm ||| (2 ^ v5_61)))))), (mm_stands, .inl (cy 2, 36, .inl y_mm_stands_61)), (mm, .inr (11, [.ref mm_now, .ref mm_kept, .ref mm_isKept, .ref mm_refused, .int u_mm_4_108, .int u_mm_5_108, .ref mm_stands, .ref mm_far, .ref mm_queue, .int mm_queued, .ref mm_meets, .ref mm_bytes, .int (nI bl), .int (nI ta), .int (nI tl), .int mm_token, .int mm_value, .ref mm_next, .int (nI tk)])), (mm_now, .inl (cy 1, 122, .inl z11))] := hD
                    obtain ⟨f27, ef27⟩ : ∃ y : Nat → Int32, y = upd y_mm_meets_61 v4_10 (nI (jm ||| (2 ^ v5_61))) := ⟨_, rfl⟩
                    rw [← ef27] at hP hD
                    have hf27 : meI f27 := by rw [ef27]; exact meI.put hi_y_mm_meets_61 v4_10 (jm ||| (2 ^ v5_61)) rfl (by first | omega | exact or32 (by assumption) (p32 _ (by omega)) | exact or32 (by assumption) (by omega))
                    have hP : va_P D vwCl [(mm_meets, .inl (cy 1, 36, .inl f27)), (mm_stands, .inl (cy 2, 36, .inl y_mm_stands_61)), (mm, .inr (11, [.ref mm_now, .ref mm_kept, .ref mm_isKept, .ref mm_refused, .int u_mm_4_108, .int u_mm_5_108, .ref mm_stands, .ref mm_far, .ref mm_queue, .int mm_queued, .ref mm_meets, .ref mm_bytes, .int (nI bl), .int (nI ta), .int (nI tl), .int mm_token, .int mm_value, .ref mm_next, .int (nI tk)])), (mm_now, .inl (cy 1, 122, .inl z11))] H := hP
                    have hD : va_D A [(mm_meets, .inl (cy 1, 36, .inl f27)), (mm_stands, .inl (cy 2, 36, .inl y_mm_stands_61)), (mm, .inr (11, [.ref mm_now, .ref mm_kept, .ref mm_isKept, .ref mm_refused, .int u_mm_4_108, .int u_mm_5_108, .ref mm_stands, .ref mm_far, .ref mm_queue, .int mm_queued, .ref mm_meets, .ref mm_bytes, .int (nI bl), .int (nI ta), .int (nI tl), .int mm_token, .int mm_value, .ref mm_next, .int (nI tk)])), (mm_now, .inl (cy 1, 122, .inl z11))] := hD
                    refine lv_iload hx hb dX11_findMeets_133 (lv_at hl 1 rfl) ?_
                    refine lv_iload_n hx hb dX11_findMeets_135 rfl (lv_at hl 5 rfl) ?_
                    have j165 : ∀ (s1_165 : Int32) (u_mm_4_165 : Int32) (u_mm_5_165 : Int32) (bs1_165 : s1_165 = 1 ∨ s1_165 = 0) (H : Heap) (locs : List Loc), va_P D vwCl [(mm_meets, .inl (cy 1, 36, .inl f27)), (mm_stands, .inl (cy 2, 36, .inl y_mm_stands_61)), (mm, .inr (11, [.ref mm_now, .ref mm_kept, .ref mm_isKept, .ref mm_refused, .int u_mm_4_165, .int u_mm_5_165, .ref mm_stands, .ref mm_far, .ref mm_queue, .int mm_queued, .ref mm_meets, .ref mm_bytes, .int (nI bl), .int (nI ta), .int (nI tl), .int mm_token, .int mm_value, .ref mm_next, .int (nI tk)])), (mm_now, .inl (cy 1, 122, .inl z11))] H → va_D A [(mm_meets, .inl (cy 1, 36, .inl f27)), (mm_stands, .inl (cy 2, 36, .inl y_mm_stands_61)), (mm, .inr (11, [.ref mm_now, .ref mm_kept, .ref mm_isKept, .ref mm_refused, .int u_mm_4_165, .int u_mm_5_165, .ref mm_stands, .ref mm_far, .ref mm_queue, .int mm_queued, .ref mm_meets, .ref mm_bytes, .int (nI bl), .int (nI ta), .int (nI tl), .int mm_token, .int mm_value, .ref mm_next, .int (nI tk)])), (mm_now, .inl (cy 1, 122, .inl z11))] → va_S A s.heap H locs → ∀ ls : Array Slot, lv_has ls 8 [(6, .int s1_108), (5, .int (nI v5_61)), (4, .int (nI v4_10)), (3, .int (nI jh)), (0, .ref mm), (1, .int (nI pp)), (2, .int pz)] → W p l e (headSpec wsX11_findMeets ({ frames := 6, cells := 0, slots := 0, locals := 134 })).room s m [.ref mm, .int (nI pp), .int pz].toArray below meth c H locs 0 0 QF (F0 m 165 ls [.int s1_165]) := by
                      intro s1_165 u_mm_4_165 u_mm_5_165 bs1_165 H locs hP hD hS ls hl
                      refine lv_istore (lv' := [(7, .int s1_165), (6, .int s1_108), (5, .int (nI v5_61)), (4, .int (nI v4_10)), (3, .int (nI jh)), (0, .ref mm), (1, .int (nI pp)), (2, .int pz)]) hx hb dX11_findMeets_165 hl (by decide) rfl (fun ls hl => ?_)
                      refine lv_aload_n hx hb dX11_findMeets_167 rfl (lv_at hl 5 rfl) ?_
                      refine va_get (D := D) (ci := 11) (v := .ref mm_stands) (C := RX11) (T := TX11) (N := 19) hx hb hts zi11_ hown hK hP 2 rfl rfl 6 (by decide) z0_ (fun _ h9 => h9) rfl dX11_findMeets_168 ?_
                      refine lv_iload hx hb dX11_findMeets_171 (lv_at hl 3 rfl) ?_
                      refine lv_aload_n hx hb dX11_findMeets_173 rfl (lv_at hl 5 rfl) ?_
                      refine va_get (D := D) (ci := 11) (v := .ref mm_stands) (C := RX11) (T := TX11) (N := 19) hx hb hts zi11_ hown hK hP 2 rfl rfl 6 (by decide) z0_ (fun _ h9 => h9) rfl dX11_findMeets_174 ?_
                      refine lv_iload hx hb dX11_findMeets_177 (lv_at hl 3 rfl) ?_
                      refine my_zald hx hb hK hP 1 2 rfl rfl (by first | exact in_ge (N := 36) (by decide) (by omega) (by assumption) | exact vp_in_nI (by omega) (by omega)) (nI_clamp (by omega)) dX11_findMeets_179 ?_
                      refine lv_if_eq (tgt := 196) hx hb dX11_findMeets_180 (by decide) (fun c28 => ?_) (fun c28 => ?_)
                      · skip
                        refine lv_iconst (v := 0) hx hb dX11_findMeets_196 (by decide) ?_
                        refine my_zast hx hb hK hP hD hS 1 2 rfl rfl (by first | exact in_ge (N := 36) (by decide) (by omega) (by assumption) | exact vp_in_nI (by omega) (by omega)) (nI_clamp (by omega)) dX11_findMeets_197 (fun H locs hP hD hS => ?_)
                        have hP : va_P D vwCl [(mm_meets, .inl (cy 1, 36, .inl f27)), (mm_stands, .inl (cy 2, 36, .inl (upd y_mm_stands_61 v4_10 (vp_nar .boolean 0)))), (mm, .inr (11, [.ref mm_now, .ref mm_kept, .ref mm_isKept, .ref mm_refused, .int u_mm_4_165, .int u_mm_5_165, .ref mm_stands, .ref mm_far, .ref mm_queue, .int mm_queued, .ref mm_meets, .ref mm_bytes, .int (nI bl), .int (nI ta), .int (nI tl), .int mm_token, .int mm_value, .ref mm_next, .int (nI tk)])), (mm_now, .inl (cy 1, 122, .inl z11))] H := hP
                        have hD : va_D A [(mm_meets, .inl (cy 1, 36, .inl f27)), (mm_stands, .inl (cy 2, 36, .inl (upd y_mm_stands_61 v4_10 (vp_nar .boolean 0)))), (mm, .inr (11, [.ref mm_now, .ref mm_kept, .ref mm_isKept, .ref mm_refused, .int u_mm_4_165, .int u_mm_5_165, .ref mm_stands, .ref mm_far, .ref mm_queue, .int mm_queued, .ref mm_meets, .ref mm_bytes, .int (nI bl), .int (nI ta), .int (nI tl), .int mm_token, .int mm_value, .ref mm_next, .int (nI tk)])), (mm_now, .inl (cy 1, 122, .inl z11))] := hD
                        refine lv_iinc (v := nI (v5_61 + 1)) (lv' := [(5, .int (nI (v5_61 + 1))), (7, .int s1_165), (6, .int s1_108), (4, .int (nI v4_10)), (3, .int (nI jh)), (0, .ref mm), (1, .int (nI pp)), (2, .int pz)]) hx hb dX11_findMeets_198 hl (k := 2) rfl (nI_1 _) (by decide) rfl (fun ls hl => ?_)
                        refine lv_goto (tgt := 61) hx hb dX11_findMeets_201 (by decide) ?_
                        exact ih61 (v5_61 + 1) f27 (upd y_mm_stands_61 v4_10 (vp_nar .boolean 0)) u_mm_4_165 u_mm_5_165 hf27 (by first | omega | exact nlt_max hv5_61 (by assumption)) (by first | omega | (have := nlt_max hv5_61 (by assumption); omega)) _ _ hP hD hS ls (lv_sub hl [0, 3, 4, 5, 6, 7] rfl)
                      · skip
                        refine lv_iload_n hx hb dX11_findMeets_183 rfl (lv_at hl 7 rfl) ?_
                        refine lv_if_eq (tgt := 192) hx hb dX11_findMeets_184 (by decide) (fun c29 => ?_) (fun c29 => ?_)
                        · skip
                          refine lv_iconst (v := 1) hx hb dX11_findMeets_192 (by decide) ?_
                          refine lv_goto (tgt := 197) hx hb dX11_findMeets_193 (by decide) ?_
                          refine my_zast hx hb hK hP hD hS 1 2 rfl rfl (by first | exact in_ge (N := 36) (by decide) (by omega) (by assumption) | exact vp_in_nI (by omega) (by omega)) (nI_clamp (by omega)) dX11_findMeets_197 (fun H locs hP hD hS => ?_)
                          have hP : va_P D vwCl [(mm_meets, .inl (cy 1, 36, .inl f27)), (mm_stands, .inl (cy 2, 36, .inl (upd y_mm_stands_61 v4_10 (vp_nar .boolean 1)))), (mm, .inr (11, [.ref mm_now, .ref mm_kept, .ref mm_isKept, .ref mm_refused, .int u_mm_4_165, .int u_mm_5_165, .ref mm_stands, .ref mm_far, .ref mm_queue, .int mm_queued, .ref mm_meets, .ref mm_bytes, .int (nI bl), .int (nI ta), .int (nI tl), .int mm_token, .int mm_value, .ref mm_next, .int (nI tk)])), (mm_now, .inl (cy 1, 122, .inl z11))] H := hP
                          have hD : va_D A [(mm_meets, .inl (cy 1, 36, .inl f27)), (mm_stands, .inl (cy 2, 36, .inl (upd y_mm_stands_61 v4_10 (vp_nar .boolean 1)))), (mm, .inr (11, [.ref mm_now, .ref mm_kept, .ref mm_isKept, .ref mm_refused, .int u_mm_4_165, .int u_mm_5_165, .ref mm_stands, .ref mm_far, .ref mm_queue, .int mm_queued, .ref mm_meets, .ref mm_bytes, .int (nI bl), .int (nI ta), .int (nI tl), .int mm_token, .int mm_value, .ref mm_next, .int (nI tk)])), (mm_now, .inl (cy 1, 122, .inl z11))] := hD
                          refine lv_iinc (v := nI (v5_61 + 1)) (lv' := [(5, .int (nI (v5_61 + 1))), (7, .int s1_165), (6, .int s1_108), (4, .int (nI v4_10)), (3, .int (nI jh)), (0, .ref mm), (1, .int (nI pp)), (2, .int pz)]) hx hb dX11_findMeets_198 hl (k := 2) rfl (nI_1 _) (by decide) rfl (fun ls hl => ?_)
                          refine lv_goto (tgt := 61) hx hb dX11_findMeets_201 (by decide) ?_
                          exact ih61 (v5_61 + 1) f27 (upd y_mm_stands_61 v4_10 (vp_nar .boolean 1)) u_mm_4_165 u_mm_5_165 hf27 (by first | omega | exact nlt_max hv5_61 (by assumption)) (by first | omega | (have := nlt_max hv5_61 (by assumption); omega)) _ _ hP hD hS ls (lv_sub hl [0, 3, 4, 5, 6, 7] rfl)
                        · skip
                          refine lv_iload hx hb dX11_findMeets_187 (lv_at hl 0 rfl) ?_
                          refine lv_if_ne (tgt := 196) hx hb dX11_findMeets_189 (by decide) (fun c30 => ?_) (fun c30 => ?_)
                          · skip
                            refine lv_iconst (v := 0) hx hb dX11_findMeets_196 (by decide) ?_
                            refine my_zast hx hb hK hP hD hS 1 2 rfl rfl (by first | exact in_ge (N := 36) (by decide) (by omega) (by assumption) | exact vp_in_nI (by omega) (by omega)) (nI_clamp (by omega)) dX11_findMeets_197 (fun H locs hP hD hS => ?_)
                            have hP : va_P D vwCl [(mm_meets, .inl (cy 1, 36, .inl f27)), (mm_stands, .inl (cy 2, 36, .inl (upd y_mm_stands_61 v4_10 (vp_nar .boolean 0)))), (mm, .inr (11, [.ref mm_now, .ref mm_kept, .ref mm_isKept, .ref mm_refused, .int u_mm_4_165, .int u_mm_5_165, .ref mm_stands, .ref mm_far, .ref mm_queue, .int mm_queued, .ref mm_meets, .ref mm_bytes, .int (nI bl), .int (nI ta), .int (nI tl), .int mm_token, .int mm_value, .ref mm_next, .int (nI tk)])), (mm_now, .inl (cy 1, 122, .inl z11))] H := hP
                            have hD : va_D A [(mm_meets, .inl (cy 1, 36, .inl f27)), (mm_stands, .inl (cy 2, 36, .inl (upd y_mm_stands_61 v4_10 (vp_nar .boolean 0)))), (mm, .inr (11, [.ref mm_now, .ref mm_kept, .ref mm_isKept, .ref mm_refused, .int u_mm_4_165, .int u_mm_5_165, .ref mm_stands, .ref mm_far, .ref mm_queue, .int mm_queued, .ref mm_meets, .ref mm_bytes, .int (nI bl), .int (nI ta), .int (nI tl), .int mm_token, .int mm_value, .ref mm_next, .int (nI tk)])), (mm_now, .inl (cy 1, 122, .inl z11))] := hD
                            refine lv_iinc (v := nI (v5_61 + 1)) (lv' := [(5, .int (nI (v5_61 + 1))), (7, .int s1_165), (6, .int s1_108), (4, .int (nI v4_10)), (3, .int (nI jh)), (0, .ref mm), (1, .int (nI pp)), (2, .int pz)]) hx hb dX11_findMeets_198 hl (k := 2) rfl (nI_1 _) (by decide) rfl (fun ls hl => ?_)
                            refine lv_goto (tgt := 61) hx hb dX11_findMeets_201 (by decide) ?_
                            exact ih61 (v5_61 + 1) f27 (upd y_mm_stands_61 v4_10 (vp_nar .boolean 0)) u_mm_4_165 u_mm_5_165 hf27 (by first | omega | exact nlt_max hv5_61 (by assumption)) (by first | omega | (have := nlt_max hv5_61 (by assumption); omega)) _ _ hP hD hS ls (lv_sub hl [0, 3, 4, 5, 6, 7] rfl)
                          · skip
                            refine lv_iconst (v := 1) hx hb dX11_findMeets_192 (by decide) ?_
                            refine lv_goto (tgt := 197) hx hb dX11_findMeets_193 (by decide) ?_
                            refine my_zast hx hb hK hP hD hS 1 2 rfl rfl (by first | exact in_ge (N := 36) (by decide) (by omega) (by assumption) | exact vp_in_nI (by omega) (by omega)) (nI_clamp (by omega)) dX11_findMeets_197 (fun H locs hP hD hS => ?_)
                            have hP : va_P D vwCl [(mm_meets, .inl (cy 1, 36, .inl f27)), (mm_stands, .inl (cy 2, 36, .inl (upd y_mm_stands_61 v4_10 (vp_nar .boolean 1)))), (mm, .inr (11, [.ref mm_now, .ref mm_kept, .ref mm_isKept, .ref mm_refused, .int u_mm_4_165, .int u_mm_5_165, .ref mm_stands, .ref mm_far, .ref mm_queue, .int mm_queued, .ref mm_meets, .ref mm_bytes, .int (nI bl), .int (nI ta), .int (nI tl), .int mm_token, .int mm_value, .ref mm_next, .int (nI tk)])), (mm_now, .inl (cy 1, 122, .inl z11))] H := hP
                            have hD : va_D A [(mm_meets, .inl (cy 1, 36, .inl f27)), (mm_stands, .inl (cy 2, 36, .inl (upd y_mm_stands_61 v4_10 (vp_nar .boolean 1)))), (mm, .inr (11, [.ref mm_now, .ref mm_kept, .ref mm_isKept, .ref mm_refused, .int u_mm_4_165, .int u_mm_5_165, .ref mm_stands, .ref mm_far, .ref mm_queue, .int mm_queued, .ref mm_meets, .ref mm_bytes, .int (nI bl), .int (nI ta), .int (nI tl), .int mm_token, .int mm_value, .ref mm_next, .int (nI tk)])), (mm_now, .inl (cy 1, 122, .inl z11))] := hD
                            refine lv_iinc (v := nI (v5_61 + 1)) (lv' := [(5, .int (nI (v5_61 + 1))), (7, .int s1_165), (6, .int s1_108), (4, .int (nI v4_10)), (3, .int (nI jh)), (0, .ref mm), (1, .int (nI pp)), (2, .int pz)]) hx hb dX11_findMeets_198 hl (k := 2) rfl (nI_1 _) (by decide) rfl (fun ls hl => ?_)
                            refine lv_goto (tgt := 61) hx hb dX11_findMeets_201 (by decide) ?_
                            exact ih61 (v5_61 + 1) f27 (upd y_mm_stands_61 v4_10 (vp_nar .boolean 1)) u_mm_4_165 u_mm_5_165 hf27 (by first | omega | exact nlt_max hv5_61 (by assumption)) (by first | omega | (have := nlt_max hv5_61 (by assumption); omega)) _ _ hP hD hS ls (lv_sub hl [0, 3, 4, 5, 6, 7] rfl)
                    refine lv_icmp_eq (tgt := 164) hx hb dX11_findMeets_136 (by decide) (fun c31 => ?_) (fun c31 => ?_)
                    · skip
                      refine lv_iconst (v := 0) hx hb dX11_findMeets_164 (by decide) ?_
                      exact j165 0 u_mm_4_108 u_mm_5_108 (Or.inr rfl) _ _ hP hD hS ls hl
                    · skip
                      refine lv_aload_n hx hb dX11_findMeets_139 rfl (lv_at hl 4 rfl) ?_
                      refine lv_iload hx hb dX11_findMeets_140 (lv_at hl 1 rfl) ?_
                      refine lv_iconst (v := 0) hx hb dX11_findMeets_142 (by decide) ?_
                      refine rd_i (va_runV (As := [.int (nI v5_61), .int 0]) (rest := []) ⟨hx, hb, hml, hown, hts⟩ (n_X11_of l D cy mW mH mS mP mm mm_now mm_kept mm_isKept mm_refused u_mm_4_108 u_mm_5_108 mm_stands mm_far mm_queue mm_queued mm_meets mm_bytes bl ta tl mm_token mm_value mm_next tk z11 v5_61 0 _ (by first | assumption | omega) (by first | assumption | omega) (by first | assumption | omega)) (cwV 2 hts gX11_findMeets_X11_of rfl rfl rfl (by decide +kernel) ⟨Nat.le_of_ble_eq_true rfl, Nat.le_of_ble_eq_true rfl⟩) (pV (ci := 11) (k := 0) hKA (hP.sub (ws' := [(mm, .inr (11, [.ref mm_now, .ref mm_kept, .ref mm_isKept, .ref mm_refused, .int u_mm_4_108, .int u_mm_5_108, .ref mm_stands, .ref mm_far, .ref mm_queue, .int mm_queued, .ref mm_meets, .ref mm_bytes, .int (nI bl), .int (nI ta), .int (nI tl), .int mm_token, .int mm_value, .ref mm_next, .int (nI tk)])), (mm_now, .inl (cy 1, 122, .inl z11))]) [2, 3] rfl) (hD.sub (ws' := [(mm, .inr (11, [.ref mm_now, .ref mm_kept, .ref mm_isKept, .ref mm_refused, .int u_mm_4_108, .int u_mm_5_108, .ref mm_stands, .ref mm_far, .ref mm_queue, .int mm_queued, .ref mm_meets, .ref mm_bytes, .int (nI bl), .int (nI ta), .int (nI tl), .int mm_token, .int mm_value, .ref mm_next, .int (nI tk)])), (mm_now, .inl (cy 1, 122, .inl z11))]) [2, 3] (by decide) rfl) rfl rfl) rfl rfl hl.1 rfl (lv_room (Nat.le_of_ble_eq_true rfl)) dX11_findMeets_143 ⟨Nat.le_of_ble_eq_true rfl, Nat.le_of_ble_eq_true rfl⟩) hP hS hA (fun r32 H locs hwr32 hP hS => ?_)
                      have hwr32 : r32 = z11 (5 + 3 * v5_61 + 0) := hwr32
                      subst hwr32
                      refine lv_iconst (v := 5) hx hb dX11_findMeets_146 (by decide) ?_
                      refine lv_icmp_eq (tgt := 164) hx hb dX11_findMeets_147 (by decide) (fun c33 => ?_) (fun c33 => ?_)
                      · skip
                        refine lv_iconst (v := 0) hx hb dX11_findMeets_164 (by decide) ?_
                        exact j165 0 u_mm_4_108 u_mm_5_108 (Or.inr rfl) _ _ hP hD hS ls hl
                      · skip
                        refine lv_aload_n hx hb dX11_findMeets_150 rfl (lv_at hl 4 rfl) ?_
                        refine lv_iload hx hb dX11_findMeets_151 (lv_at hl 1 rfl) ?_
                        refine lv_iload_n hx hb dX11_findMeets_153 rfl (lv_at hl 5 rfl) ?_
                        refine wr_i (wr := [(mm_meets, .inl (cy 1, 36, .inl f27)), (mm_stands, .inl (cy 2, 36, .inl y_mm_stands_61))]) (va_runV (As := [.int (nI v5_61), .int (nI pp)]) (rest := []) ⟨hx, hb, hml, hown, hts⟩ (n_X11_sees l D cy mW mH mS mP mm mm_now mm_kept mm_isKept mm_refused u_mm_4_108 u_mm_5_108 mm_stands mm_far mm_queue mm_queued mm_meets mm_bytes bl ta tl mm_token mm_value mm_next tk z11 v5_61 pp _ (by first | assumption | omega) (by first | assumption | omega) (by first | assumption | omega)) (cwV 2 hts gX11_findMeets_X11_sees rfl rfl rfl (by decide +kernel) ⟨Nat.le_of_ble_eq_true rfl, Nat.le_of_ble_eq_true rfl⟩) (pV (ci := 11) (k := 0) hKA (hP.sub (ws' := [(mm, .inr (11, [.ref mm_now, .ref mm_kept, .ref mm_isKept, .ref mm_refused, .int u_mm_4_108, .int u_mm_5_108, .ref mm_stands, .ref mm_far, .ref mm_queue, .int mm_queued, .ref mm_meets, .ref mm_bytes, .int (nI bl), .int (nI ta), .int (nI tl), .int mm_token, .int mm_value, .ref mm_next, .int (nI tk)])), (mm_now, .inl (cy 1, 122, .inl z11))]) [2, 3] rfl) (hD.sub (ws' := [(mm, .inr (11, [.ref mm_now, .ref mm_kept, .ref mm_isKept, .ref mm_refused, .int u_mm_4_108, .int u_mm_5_108, .ref mm_stands, .ref mm_far, .ref mm_queue, .int mm_queued, .ref mm_meets, .ref mm_bytes, .int (nI bl), .int (nI ta), .int (nI tl), .int mm_token, .int mm_value, .ref mm_next, .int (nI tk)])), (mm_now, .inl (cy 1, 122, .inl z11))]) [2, 3] (by decide) rfl) rfl rfl) rfl rfl hl.1 rfl (lv_room (Nat.le_of_ble_eq_true rfl)) dX11_findMeets_154 ⟨Nat.le_of_ble_eq_true rfl, Nat.le_of_ble_eq_true rfl⟩) hP hD hS hA [2, 3] [0, 1] rfl rfl (by decide +kernel) (by decide +kernel) (fun r34 ur34 H locs hwr34 hP hD hS => ?_)
                        obtain ⟨z35, z36⟩ := ur34
                        have hP : va_P D vwCl [(mm_meets, .inl (cy 1, 36, .inl f27)), (mm_stands, .inl (cy 2, 36, .inl y_mm_stands_61)), (mm, .inr (11, [.ref mm_now, .ref mm_kept, .ref mm_isKept, .ref mm_refused, .int z35, .int z36, .ref mm_stands, .ref mm_far, .ref mm_queue, .int mm_queued, .ref mm_meets, .ref mm_bytes, .int (nI bl), .int (nI ta), .int (nI tl), .int mm_token, .int mm_value, .ref mm_next, .int (nI tk)])), (mm_now, .inl (cy 1, 122, .inl z11))] H := hP
                        have hD : va_D A [(mm_meets, .inl (cy 1, 36, .inl f27)), (mm_stands, .inl (cy 2, 36, .inl y_mm_stands_61)), (mm, .inr (11, [.ref mm_now, .ref mm_kept, .ref mm_isKept, .ref mm_refused, .int z35, .int z36, .ref mm_stands, .ref mm_far, .ref mm_queue, .int mm_queued, .ref mm_meets, .ref mm_bytes, .int (nI bl), .int (nI ta), .int (nI tl), .int mm_token, .int mm_value, .ref mm_next, .int (nI tk)])), (mm_now, .inl (cy 1, 122, .inl z11))] := hD
                        have hwr34 : (r34 = 1 ∧ True) ∨ (r34 = 0 ∧ True) := hwr34
                        refine lv_if_eq (tgt := 164) hx hb dX11_findMeets_157 (by decide) (fun c37 => ?_) (fun c37 => ?_)
                        · skip
                          refine lv_iconst (v := 0) hx hb dX11_findMeets_164 (by decide) ?_
                          exact j165 0 z35 z36 (Or.inr rfl) _ _ hP hD hS ls hl
                        · skip
                          refine lv_iconst (v := 1) hx hb dX11_findMeets_160 (by decide) ?_
                          refine lv_goto (tgt := 165) hx hb dX11_findMeets_161 (by decide) ?_
                          exact j165 1 z35 z36 (Or.inl rfl) _ _ hP hD hS ls hl
                refine lv_icmp_eq (tgt := 107) hx hb dX11_findMeets_73 (by decide) (fun c38 => ?_) (fun c38 => ?_)
                · skip
                  refine lv_iconst (v := 0) hx hb dX11_findMeets_107 (by decide) ?_
                  exact j108 0 u_mm_4_61 u_mm_5_61 (Or.inr rfl) _ _ hP hD hS ls hl
                · skip
                  refine lv_iload_n hx hb dX11_findMeets_76 rfl (lv_at hl 5 rfl) ?_
                  refine lv_if_ne (tgt := 93) hx hb dX11_findMeets_77 (by decide) (fun c39 => ?_) (fun c39 => ?_)
                  · skip
                    refine lv_aload_n hx hb dX11_findMeets_93 rfl (lv_at hl 3 rfl) ?_
                    refine lv_iload hx hb dX11_findMeets_94 (lv_at hl 0 rfl) ?_
                    refine lv_iload_n hx hb dX11_findMeets_96 rfl (lv_at hl 4 rfl) ?_
                    refine rd_i (va_runV (As := [.int (nI v5_61), .int (nI pp)]) (rest := []) ⟨hx, hb, hml, hown, hts⟩ (n_X11_hears l D cy mW mH mS mP mm mm_now mm_kept mm_isKept mm_refused u_mm_4_61 u_mm_5_61 mm_stands mm_far mm_queue mm_queued mm_meets mm_bytes bl ta tl mm_token mm_value mm_next tk z11 v5_61 pp _ (by first | assumption | omega) (by first | assumption | omega) (by first | assumption | omega)) (cwV 2 hts gX11_findMeets_X11_hears rfl rfl rfl (by decide +kernel) ⟨Nat.le_of_ble_eq_true rfl, Nat.le_of_ble_eq_true rfl⟩) (pV (ci := 11) (k := 0) hKA (hP.sub (ws' := [(mm, .inr (11, [.ref mm_now, .ref mm_kept, .ref mm_isKept, .ref mm_refused, .int u_mm_4_61, .int u_mm_5_61, .ref mm_stands, .ref mm_far, .ref mm_queue, .int mm_queued, .ref mm_meets, .ref mm_bytes, .int (nI bl), .int (nI ta), .int (nI tl), .int mm_token, .int mm_value, .ref mm_next, .int (nI tk)])), (mm_now, .inl (cy 1, 122, .inl z11))]) [2, 3] rfl) (hD.sub (ws' := [(mm, .inr (11, [.ref mm_now, .ref mm_kept, .ref mm_isKept, .ref mm_refused, .int u_mm_4_61, .int u_mm_5_61, .ref mm_stands, .ref mm_far, .ref mm_queue, .int mm_queued, .ref mm_meets, .ref mm_bytes, .int (nI bl), .int (nI ta), .int (nI tl), .int mm_token, .int mm_value, .ref mm_next, .int (nI tk)])), (mm_now, .inl (cy 1, 122, .inl z11))]) [2, 3] (by decide) rfl) rfl rfl) rfl rfl hl.1 rfl (lv_room (Nat.le_of_ble_eq_true rfl)) dX11_findMeets_97 ⟨Nat.le_of_ble_eq_true rfl, Nat.le_of_ble_eq_true rfl⟩) hP hS hA (fun r40 H locs hwr40 hP hS => ?_)
                    have hwr40 : (r40 = 1 ∧ True) ∨ (r40 = 0 ∧ True) := hwr40
                    refine lv_if_eq (tgt := 107) hx hb dX11_findMeets_100 (by decide) (fun c41 => ?_) (fun c41 => ?_)
                    · skip
                      refine lv_iconst (v := 0) hx hb dX11_findMeets_107 (by decide) ?_
                      exact j108 0 u_mm_4_61 u_mm_5_61 (Or.inr rfl) _ _ hP hD hS ls hl
                    · skip
                      refine lv_iconst (v := 1) hx hb dX11_findMeets_103 (by decide) ?_
                      refine lv_goto (tgt := 108) hx hb dX11_findMeets_104 (by decide) ?_
                      exact j108 1 u_mm_4_61 u_mm_5_61 (Or.inl rfl) _ _ hP hD hS ls hl
                  · skip
                    refine lv_aload_n hx hb dX11_findMeets_80 rfl (lv_at hl 3 rfl) ?_
                    refine lv_iload hx hb dX11_findMeets_81 (lv_at hl 0 rfl) ?_
                    refine lv_iload_n hx hb dX11_findMeets_83 rfl (lv_at hl 4 rfl) ?_
                    refine wr_i (wr := [(mm_meets, .inl (cy 1, 36, .inl y_mm_meets_61)), (mm_stands, .inl (cy 2, 36, .inl y_mm_stands_61))]) (va_runV (As := [.int (nI v5_61), .int (nI pp)]) (rest := []) ⟨hx, hb, hml, hown, hts⟩ (n_X11_sees l D cy mW mH mS mP mm mm_now mm_kept mm_isKept mm_refused u_mm_4_61 u_mm_5_61 mm_stands mm_far mm_queue mm_queued mm_meets mm_bytes bl ta tl mm_token mm_value mm_next tk z11 v5_61 pp _ (by first | assumption | omega) (by first | assumption | omega) (by first | assumption | omega)) (cwV 2 hts gX11_findMeets_X11_sees rfl rfl rfl (by decide +kernel) ⟨Nat.le_of_ble_eq_true rfl, Nat.le_of_ble_eq_true rfl⟩) (pV (ci := 11) (k := 0) hKA (hP.sub (ws' := [(mm, .inr (11, [.ref mm_now, .ref mm_kept, .ref mm_isKept, .ref mm_refused, .int u_mm_4_61, .int u_mm_5_61, .ref mm_stands, .ref mm_far, .ref mm_queue, .int mm_queued, .ref mm_meets, .ref mm_bytes, .int (nI bl), .int (nI ta), .int (nI tl), .int mm_token, .int mm_value, .ref mm_next, .int (nI tk)])), (mm_now, .inl (cy 1, 122, .inl z11))]) [2, 3] rfl) (hD.sub (ws' := [(mm, .inr (11, [.ref mm_now, .ref mm_kept, .ref mm_isKept, .ref mm_refused, .int u_mm_4_61, .int u_mm_5_61, .ref mm_stands, .ref mm_far, .ref mm_queue, .int mm_queued, .ref mm_meets, .ref mm_bytes, .int (nI bl), .int (nI ta), .int (nI tl), .int mm_token, .int mm_value, .ref mm_next, .int (nI tk)])), (mm_now, .inl (cy 1, 122, .inl z11))]) [2, 3] (by decide) rfl) rfl rfl) rfl rfl hl.1 rfl (lv_room (Nat.le_of_ble_eq_true rfl)) dX11_findMeets_84 ⟨Nat.le_of_ble_eq_true rfl, Nat.le_of_ble_eq_true rfl⟩) hP hD hS hA [2, 3] [0, 1] rfl rfl (by decide +kernel) (by decide +kernel) (fun r42 ur42 H locs hwr42 hP hD hS => ?_)
                    obtain ⟨z43, z44⟩ := ur42
                    have hP : va_P D vwCl [(mm_meets, .inl (cy 1, 36, .inl y_mm_meets_61)), (mm_stands, .inl (cy 2, 36, .inl y_mm_stands_61)), (mm, .inr (11, [.ref mm_now, .ref mm_kept, .ref mm_isKept, .ref mm_refused, .int z43, .int z44, .ref mm_stands, .ref mm_far, .ref mm_queue, .int mm_queued, .ref mm_meets, .ref mm_bytes, .int (nI bl), .int (nI ta), .int (nI tl), .int mm_token, .int mm_value, .ref mm_next, .int (nI tk)])), (mm_now, .inl (cy 1, 122, .inl z11))] H := hP
                    have hD : va_D A [(mm_meets, .inl (cy 1, 36, .inl y_mm_meets_61)), (mm_stands, .inl (cy 2, 36, .inl y_mm_stands_61)), (mm, .inr (11, [.ref mm_now, .ref mm_kept, .ref mm_isKept, .ref mm_refused, .int z43, .int z44, .ref mm_stands, .ref mm_far, .ref mm_queue, .int mm_queued, .ref mm_meets, .ref mm_bytes, .int (nI bl), .int (nI ta), .int (nI tl), .int mm_token, .int mm_value, .ref mm_next, .int (nI tk)])), (mm_now, .inl (cy 1, 122, .inl z11))] := hD
                    have hwr42 : (r42 = 1 ∧ True) ∨ (r42 = 0 ∧ True) := hwr42
                    refine lv_if_eq (tgt := 107) hx hb dX11_findMeets_87 (by decide) (fun c45 => ?_) (fun c45 => ?_)
                    · skip
                      refine lv_iconst (v := 0) hx hb dX11_findMeets_107 (by decide) ?_
                      exact j108 0 z43 z44 (Or.inr rfl) _ _ hP hD hS ls hl
                    · skip
                      refine lv_goto (tgt := 103) hx hb dX11_findMeets_90 (by decide) ?_
                      refine lv_iconst (v := 1) hx hb dX11_findMeets_103 (by decide) ?_
                      refine lv_goto (tgt := 108) hx hb dX11_findMeets_104 (by decide) ?_
                      exact j108 1 z43 z44 (Or.inl rfl) _ _ hP hD hS ls hl
          exact lp61 (2147483648 - 0 + 1) 0 f8 (upd y_mm_stands_10 v4_10 (vp_nar .boolean r7)) u_mm_4_10 u_mm_5_10 hf8 (by first | omega | exact nlt_max (by assumption) (by assumption)) (Nat.lt_succ_self _) _ _ hP hD hS ls hl
  exact lp10 (2147483648 - 0 + 1) 0 mm_meets_f mm_stands_f mm_now_f mm_lineFrom mm_lineTo hme hF (by first | omega | exact nlt_max (by assumption) (by assumption)) (Nat.lt_succ_self _) _ _ hP hD hS ls hl

set_option maxHeartbeats 4000000 in
set_option maxRecDepth 100000 in
theorem n_X11_parade (l : Launch) (D : va_G) (cy : Nat → ClassId) (mm : Nat) (mm_now : Nat) (mm_kept : Nat) (mm_isKept : Nat) (mm_refused : Nat) (mm_lineFrom : Int32) (mm_lineTo : Int32) (mm_stands : Nat) (mm_far : Nat) (mm_queue : Nat) (mm_queued : Int32) (mm_meets : Nat) (mm_bytes : Nat) (bl : Nat) (ta : Nat) (tl : Nat) (mm_token : Int32) (mm_value : Int32) (mm_next : Nat) (tk : Nat) (mm_now_f : Nat → Int32) (mm_refused_f : Nat → Int32) (mm_meets_f : Nat → Int32) (mm_stands_f : Nat → Int32) (mm_far_f : Nat → Int32) (mm_queue_f : Nat → Int32) (px : Int32) (py : Int32) (sz : Nat) (hN : mN mm_now_f) (hme : meI mm_meets_f) : Met l yX11_parade wsX11_parade ({ frames := 7, cells := 0, slots := 0, locals := 161 }) (va_Pc [.ref mm, .int px, .int py] (kPre D cy [(mm, .inr (11, [.ref mm_now, .ref mm_kept, .ref mm_isKept, .ref mm_refused, .int mm_lineFrom, .int mm_lineTo, .ref mm_stands, .ref mm_far, .ref mm_queue, .int mm_queued, .ref mm_meets, .ref mm_bytes, .int (nI bl), .int (nI ta), .int (nI tl), .int mm_token, .int mm_value, .ref mm_next, .int (nI tk)])), (mm_now, .inl (cy 1, 122, .inl mm_now_f)), (mm_refused, .inl (cy 1, 3, .inl mm_refused_f)), (mm_meets, .inl (cy 1, 36, .inl mm_meets_f)), (mm_stands, .inl (cy 2, 36, .inl mm_stands_f)), (mm_far, .inl (cy 1, 1152, .inl mm_far_f)), (mm_queue, .inl (cy 1, 1152, .inl mm_queue_f))] sz)) (va_Qi (fun (r : Int32) (u : Int32 × Int32 × Int32 × (Nat → Int32) × (Nat → Int32) × (Nat → Int32) × (Nat → Int32) × (Nat → Int32) × (Nat → Int32)) => mN u.2.2.2.1 ∧ meI u.2.2.2.2.2.1) (fun (u : Int32 × Int32 × Int32 × (Nat → Int32) × (Nat → Int32) × (Nat → Int32) × (Nat → Int32) × (Nat → Int32) × (Nat → Int32)) t => va_P D vwCl ([(mm, .inr (11, [.ref mm_now, .ref mm_kept, .ref mm_isKept, .ref mm_refused, .int u.1, .int u.2.1, .ref mm_stands, .ref mm_far, .ref mm_queue, .int u.2.2.1, .ref mm_meets, .ref mm_bytes, .int (nI bl), .int (nI ta), .int (nI tl), .int mm_token, .int mm_value, .ref mm_next, .int (nI tk)])), (mm_now, .inl (cy 1, 122, .inl u.2.2.2.1)), (mm_refused, .inl (cy 1, 3, .inl u.2.2.2.2.1)), (mm_meets, .inl (cy 1, 36, .inl u.2.2.2.2.2.1)), (mm_stands, .inl (cy 2, 36, .inl u.2.2.2.2.2.2.1)), (mm_far, .inl (cy 1, 1152, .inl u.2.2.2.2.2.2.2.1)), (mm_queue, .inl (cy 1, 1152, .inl u.2.2.2.2.2.2.2.2))]) t.heap ∧ va_D (va_A [(mm, .inr (11, [.ref mm_now, .ref mm_kept, .ref mm_isKept, .ref mm_refused, .int mm_lineFrom, .int mm_lineTo, .ref mm_stands, .ref mm_far, .ref mm_queue, .int mm_queued, .ref mm_meets, .ref mm_bytes, .int (nI bl), .int (nI ta), .int (nI tl), .int mm_token, .int mm_value, .ref mm_next, .int (nI tk)])), (mm_now, .inl (cy 1, 122, .inl mm_now_f)), (mm_refused, .inl (cy 1, 3, .inl mm_refused_f)), (mm_meets, .inl (cy 1, 36, .inl mm_meets_f)), (mm_stands, .inl (cy 2, 36, .inl mm_stands_f)), (mm_far, .inl (cy 1, 1152, .inl mm_far_f)), (mm_queue, .inl (cy 1, 1152, .inl mm_queue_f))] sz) ([(mm, .inr (11, [.ref mm_now, .ref mm_kept, .ref mm_isKept, .ref mm_refused, .int u.1, .int u.2.1, .ref mm_stands, .ref mm_far, .ref mm_queue, .int u.2.2.1, .ref mm_meets, .ref mm_bytes, .int (nI bl), .int (nI ta), .int (nI tl), .int mm_token, .int mm_value, .ref mm_next, .int (nI tk)])), (mm_now, .inl (cy 1, 122, .inl u.2.2.2.1)), (mm_refused, .inl (cy 1, 3, .inl u.2.2.2.2.1)), (mm_meets, .inl (cy 1, 36, .inl u.2.2.2.2.2.1)), (mm_stands, .inl (cy 2, 36, .inl u.2.2.2.2.2.2.1)), (mm_far, .inl (cy 1, 1152, .inl u.2.2.2.2.2.2.2.1)), (mm_queue, .inl (cy 1, 1152, .inl u.2.2.2.2.2.2.2.2))])) (va_A [(mm, .inr (11, [.ref mm_now, .ref mm_kept, .ref mm_isKept, .ref mm_refused, .int mm_lineFrom, .int mm_lineTo, .ref mm_stands, .ref mm_far, .ref mm_queue, .int mm_queued, .ref mm_meets, .ref mm_bytes, .int (nI bl), .int (nI ta), .int (nI tl), .int mm_token, .int mm_value, .ref mm_next, .int (nI tk)])), (mm_now, .inl (cy 1, 122, .inl mm_now_f)), (mm_refused, .inl (cy 1, 3, .inl mm_refused_f)), (mm_meets, .inl (cy 1, 36, .inl mm_meets_f)), (mm_stands, .inl (cy 2, 36, .inl mm_stands_f)), (mm_far, .inl (cy 1, 1152, .inl mm_far_f)), (mm_queue, .inl (cy 1, 1152, .inl mm_queue_f))] sz)) 0 0 (va_A [(mm, .inr (11, [.ref mm_now, .ref mm_kept, .ref mm_isKept, .ref mm_refused, .int mm_lineFrom, .int mm_lineTo, .ref mm_stands, .ref mm_far, .ref mm_queue, .int mm_queued, .ref mm_meets, .ref mm_bytes, .int (nI bl), .int (nI ta), .int (nI tl), .int mm_token, .int mm_value, .ref mm_next, .int (nI tk)])), (mm_now, .inl (cy 1, 122, .inl mm_now_f)), (mm_refused, .inl (cy 1, 3, .inl mm_refused_f)), (mm_meets, .inl (cy 1, 36, .inl mm_meets_f)), (mm_stands, .inl (cy 2, 36, .inl mm_stands_f)), (mm_far, .inl (cy 1, 1152, .inl mm_far_f)), (mm_queue, .inl (cy 1, 1152, .inl mm_queue_f))] sz) := by
  refine Met.ofW (cc := cX11_parade) (maxL := 10) (ret := (some .int)) (by decide) rfl ?_
  intro p e s m args below meth c s₁ B hml hv
  obtain ⟨rfl, hsz, hP, hKA, hD0⟩ := hv
  have hx := B.exec
  have hb := B.bytes
  have hr := B.returns
  have hts := atoms_spec (ws := wsX11_parade) B.pre
  have hown : s.vm.findClass RX11 = some m.cls := findClass_of_methodNamed B.named
  have hlocks := B.notSynchronized
  subst hsz
  have hK := hKA.1
  have hD := hD0.self (sz := s.heap.size)
  generalize hAe : va_A [(mm, .inr (11, [.ref mm_now, .ref mm_kept, .ref mm_isKept, .ref mm_refused, .int mm_lineFrom, .int mm_lineTo, .ref mm_stands, .ref mm_far, .ref mm_queue, .int mm_queued, .ref mm_meets, .ref mm_bytes, .int (nI bl), .int (nI ta), .int (nI tl), .int mm_token, .int mm_value, .ref mm_next, .int (nI tk)])), (mm_now, .inl (cy 1, 122, .inl mm_now_f)), (mm_refused, .inl (cy 1, 3, .inl mm_refused_f)), (mm_meets, .inl (cy 1, 36, .inl mm_meets_f)), (mm_stands, .inl (cy 2, 36, .inl mm_stands_f)), (mm_far, .inl (cy 1, 1152, .inl mm_far_f)), (mm_queue, .inl (cy 1, 1152, .inl mm_queue_f))] s.heap.size = A at hD ⊢
  have hA : ∀ q : Nat, s.heap.size ≤ q → A q := fun q h => by rw [← hAe]; exact Or.inr h
  have hS : va_S A s.heap s.heap [] := va_S.rf
  have hP : va_P D vwCl [(mm, .inr (11, [.ref mm_now, .ref mm_kept, .ref mm_isKept, .ref mm_refused, .int mm_lineFrom, .int mm_lineTo, .ref mm_stands, .ref mm_far, .ref mm_queue, .int mm_queued, .ref mm_meets, .ref mm_bytes, .int (nI bl), .int (nI ta), .int (nI tl), .int mm_token, .int mm_value, .ref mm_next, .int (nI tk)])), (mm_now, .inl (cy 1, 122, .inl mm_now_f)), (mm_refused, .inl (cy 1, 3, .inl mm_refused_f)), (mm_meets, .inl (cy 1, 36, .inl mm_meets_f)), (mm_stands, .inl (cy 2, 36, .inl mm_stands_f)), (mm_far, .inl (cy 1, 1152, .inl mm_far_f)), (mm_queue, .inl (cy 1, 1152, .inl mm_queue_f))] s.heap := hP
  have hl := lv_entry ([.ref mm, .int px, .int py]) (n := 10) (Nat.le_of_ble_eq_true rfl)
  rw [lg_entry_eq]
  generalize (lg_sl ([.ref mm, .int px, .int py]) ++ List.replicate (10 - (lg_sl ([.ref mm, .int px, .int py])).length) Slot.unset).toArray = ls at hl ⊢
  have hl : lv_has ls 10 [(0, .ref mm), (1, .int px), (2, .int py)] := hl
  refine qW (fun QF hQF => ?_)
  have z0_ := hts (.fieldLink RX11 26 "HeardSeenModel" "far" "[I") (by decide +kernel)
  have zi11_ : ∀ w ∈ u_ws RX11 TX11 19, w ∈ wsX11_parade := by decide +kernel
  have z2_ := hts (.constant RX11 127 100000) (by decide +kernel)
  have z3_ := hts (.fieldLink RX11 169 "HeardSeenModel" "queued" "I") (by decide +kernel)
  have z4_ := hts (.fieldLink RX11 23 "HeardSeenModel" "stands" "[Z") (by decide +kernel)
  have z5_ := hts (.fieldLink RX11 29 "HeardSeenModel" "queue" "[I") (by decide +kernel)
  have z6_ := hts (.fieldLink RX11 32 "HeardSeenModel" "meets" "[I") (by decide +kernel)
  obtain ⟨mW, mH, mS, mP, hF⟩ := hN
  obtain ⟨hW2, hW6, hH2, hH6, hSe, hS4, hS6, hP5⟩ := hF.rng
  refine lv_aload_n hx hb dX11_parade_0 rfl (lv_at hl 0 rfl) ?_
  refine lv_iload_n hx hb dX11_parade_1 rfl (lv_at hl 1 rfl) ?_
  refine rd_i (va_runV (As := [.int px]) (rest := []) ⟨hx, hb, hml, hown, hts⟩ (n_X11_isOne l D cy mW mH mS mP mm mm_now mm_kept mm_isKept mm_refused mm_lineFrom mm_lineTo mm_stands mm_far mm_queue mm_queued mm_meets mm_bytes bl ta tl mm_token mm_value mm_next tk mm_now_f px _ (by first | assumption | omega)) (cwV 1 hts gX11_parade_X11_isOne rfl rfl rfl (by decide +kernel) ⟨Nat.le_of_ble_eq_true rfl, Nat.le_of_ble_eq_true rfl⟩) (pV (ci := 11) (k := 0) hKA (hP.sub (ws' := [(mm, .inr (11, [.ref mm_now, .ref mm_kept, .ref mm_isKept, .ref mm_refused, .int mm_lineFrom, .int mm_lineTo, .ref mm_stands, .ref mm_far, .ref mm_queue, .int mm_queued, .ref mm_meets, .ref mm_bytes, .int (nI bl), .int (nI ta), .int (nI tl), .int mm_token, .int mm_value, .ref mm_next, .int (nI tk)])), (mm_now, .inl (cy 1, 122, .inl mm_now_f))]) [0, 1] rfl) (hD.sub (ws' := [(mm, .inr (11, [.ref mm_now, .ref mm_kept, .ref mm_isKept, .ref mm_refused, .int mm_lineFrom, .int mm_lineTo, .ref mm_stands, .ref mm_far, .ref mm_queue, .int mm_queued, .ref mm_meets, .ref mm_bytes, .int (nI bl), .int (nI ta), .int (nI tl), .int mm_token, .int mm_value, .ref mm_next, .int (nI tk)])), (mm_now, .inl (cy 1, 122, .inl mm_now_f))]) [0, 1] (by decide) rfl) rfl rfl) rfl rfl hl.1 rfl (lv_room (Nat.le_of_ble_eq_true rfl)) dX11_parade_2 ⟨Nat.le_of_ble_eq_true rfl, Nat.le_of_ble_eq_true rfl⟩) hP hS hA (fun r1 H locs hwr1 hP hS => ?_)
  have hwr1 : (r1 = 1 ∧ (∃ j : Nat, j < mP ∧ px = nI j)) ∨ (r1 = 0 ∧ True) := hwr1
  refine lv_if_eq (tgt := 18) hx hb dX11_parade_5 (by decide) (fun c2 => ?_) (fun c2 => ?_)
  · skip
    refine lv_aload_n hx hb dX11_parade_18 rfl (lv_at hl 0 rfl) ?_
    refine lv_bipush (v := (-2)) hx hb dX11_parade_19 (by decide) ?_
    refine wr_i (wr := [(mm_now, .inl (cy 1, 122, .inl mm_now_f)), (mm_meets, .inl (cy 1, 36, .inl mm_meets_f)), (mm_stands, .inl (cy 2, 36, .inl mm_stands_f)), (mm_far, .inl (cy 1, 1152, .inl mm_far_f)), (mm_queue, .inl (cy 1, 1152, .inl mm_queue_f))]) (va_runV (As := [.int (-2)]) (rest := []) ⟨hx, hb, hml, hown, hts⟩ (n_X11_bad l D cy mm mm_now mm_kept mm_isKept mm_refused mm_lineFrom mm_lineTo mm_stands mm_far mm_queue mm_queued mm_meets mm_bytes bl ta tl mm_token mm_value mm_next tk mm_refused_f (-2) _ ) (cwV 1 hts gX11_parade_X11_bad rfl rfl rfl (by decide +kernel) ⟨Nat.le_of_ble_eq_true rfl, Nat.le_of_ble_eq_true rfl⟩) (pV (ci := 11) (k := 0) hKA (hP.sub (ws' := [(mm, .inr (11, [.ref mm_now, .ref mm_kept, .ref mm_isKept, .ref mm_refused, .int mm_lineFrom, .int mm_lineTo, .ref mm_stands, .ref mm_far, .ref mm_queue, .int mm_queued, .ref mm_meets, .ref mm_bytes, .int (nI bl), .int (nI ta), .int (nI tl), .int mm_token, .int mm_value, .ref mm_next, .int (nI tk)])), (mm_refused, .inl (cy 1, 3, .inl mm_refused_f))]) [0, 2] rfl) (hD.sub (ws' := [(mm, .inr (11, [.ref mm_now, .ref mm_kept, .ref mm_isKept, .ref mm_refused, .int mm_lineFrom, .int mm_lineTo, .ref mm_stands, .ref mm_far, .ref mm_queue, .int mm_queued, .ref mm_meets, .ref mm_bytes, .int (nI bl), .int (nI ta), .int (nI tl), .int mm_token, .int mm_value, .ref mm_next, .int (nI tk)])), (mm_refused, .inl (cy 1, 3, .inl mm_refused_f))]) [0, 2] (by decide) rfl) rfl rfl) rfl rfl hl.1 rfl (lv_room (Nat.le_of_ble_eq_true rfl)) dX11_parade_21 ⟨Nat.le_of_ble_eq_true rfl, Nat.le_of_ble_eq_true rfl⟩) hP hD hS hA [0, 2] [1, 3, 4, 5, 6] rfl rfl (by decide +kernel) (by decide +kernel) (fun r3 ur3 H locs hwr3 hP hD hS => ?_)
    obtain ⟨z4, rfl⟩ : ∃ z, z = ur3 := ⟨_, rfl⟩
    have hP : va_P D vwCl [(mm_now, .inl (cy 1, 122, .inl mm_now_f)), (mm_meets, .inl (cy 1, 36, .inl mm_meets_f)), (mm_stands, .inl (cy 2, 36, .inl mm_stands_f)), (mm_far, .inl (cy 1, 1152, .inl mm_far_f)), (mm_queue, .inl (cy 1, 1152, .inl mm_queue_f)), (mm, .inr (11, [.ref mm_now, .ref mm_kept, .ref mm_isKept, .ref mm_refused, .int mm_lineFrom, .int mm_lineTo, .ref mm_stands, .ref mm_far, .ref mm_queue, .int mm_queued, .ref mm_meets, .ref mm_bytes, .int (nI bl), .int (nI ta), .int (nI tl), .int mm_token, .int mm_value, .ref mm_next, .int (nI tk)])), (mm_refused, .inl (cy 1, 3, .inl z4))] H := hP
    have hD : va_D A [(mm_now, .inl (cy 1, 122, .inl mm_now_f)), (mm_meets, .inl (cy 1, 36, .inl mm_meets_f)), (mm_stands, .inl (cy 2, 36, .inl mm_stands_f)), (mm_far, .inl (cy 1, 1152, .inl mm_far_f)), (mm_queue, .inl (cy 1, 1152, .inl mm_queue_f)), (mm, .inr (11, [.ref mm_now, .ref mm_kept, .ref mm_isKept, .ref mm_refused, .int mm_lineFrom, .int mm_lineTo, .ref mm_stands, .ref mm_far, .ref mm_queue, .int mm_queued, .ref mm_meets, .ref mm_bytes, .int (nI bl), .int (nI ta), .int (nI tl), .int mm_token, .int mm_value, .ref mm_next, .int (nI tk)])), (mm_refused, .inl (cy 1, 3, .inl z4))] := hD
    have hwr3 : r3 = (-2) := hwr3
    subst hwr3
    subst hQF
    have hP9 := hP.sub (ws' := [(mm, .inr (11, [.ref mm_now, .ref mm_kept, .ref mm_isKept, .ref mm_refused, .int mm_lineFrom, .int mm_lineTo, .ref mm_stands, .ref mm_far, .ref mm_queue, .int mm_queued, .ref mm_meets, .ref mm_bytes, .int (nI bl), .int (nI ta), .int (nI tl), .int mm_token, .int mm_value, .ref mm_next, .int (nI tk)])), (mm_now, .inl (cy 1, 122, .inl mm_now_f)), (mm_refused, .inl (cy 1, 3, .inl z4)), (mm_meets, .inl (cy 1, 36, .inl mm_meets_f)), (mm_stands, .inl (cy 2, 36, .inl mm_stands_f)), (mm_far, .inl (cy 1, 1152, .inl mm_far_f)), (mm_queue, .inl (cy 1, 1152, .inl mm_queue_f))]) [5, 0, 6, 1, 2, 3, 4] rfl
    have hD9 := hD.sub (ws' := [(mm, .inr (11, [.ref mm_now, .ref mm_kept, .ref mm_isKept, .ref mm_refused, .int mm_lineFrom, .int mm_lineTo, .ref mm_stands, .ref mm_far, .ref mm_queue, .int mm_queued, .ref mm_meets, .ref mm_bytes, .int (nI bl), .int (nI ta), .int (nI tl), .int mm_token, .int mm_value, .ref mm_next, .int (nI tk)])), (mm_now, .inl (cy 1, 122, .inl mm_now_f)), (mm_refused, .inl (cy 1, 3, .inl z4)), (mm_meets, .inl (cy 1, 36, .inl mm_meets_f)), (mm_stands, .inl (cy 2, 36, .inl mm_stands_f)), (mm_far, .inl (cy 1, 1152, .inl mm_far_f)), (mm_queue, .inl (cy 1, 1152, .inl mm_queue_f))]) [5, 0, 6, 1, 2, 3, 4] (by decide) rfl
    exact W.iret (v := (-2)) hx hb hr (fun t ht hW => ⟨⟨(-2), (mm_lineFrom, mm_lineTo, mm_queued, mm_now_f, z4, mm_meets_f, mm_stands_f, mm_far_f, mm_queue_f), rfl, ⟨⟨_, _, _, _, hF⟩, hme⟩, by rw [ht]; exact hP9, hD9⟩, hS.F ht⟩) hS.2.2 dX11_parade_24
  · skip
    have hp5 := z_b1 hwr1 c2
    obtain ⟨j6, hj6, ej6⟩ := hp5
    refine lv_iload_n hx hb dX11_parade_8 rfl (lv_at hl 2 rfl) ?_
    refine lv_i2l hx hb dX11_parade_9 rfl ?_
    refine lv_lconst (v := 0) hx hb dX11_parade_10 (by decide) ?_
    refine lv_lconst (v := 1) hx hb dX11_parade_11 (by decide) ?_
    refine rd_i (va_runS (As := [.long py.toInt64, .long 0, .long 1]) (rest := []) ⟨hx, hb, hml, hown, hts⟩ (n_X11_in l D cy py.toInt64 (0) (1) _ ) (va_cwS 3 hts gX11_parade_X11_in rfl rfl rfl (by decide +kernel) ⟨Nat.le_of_ble_eq_true rfl, Nat.le_of_ble_eq_true rfl⟩) (pS hKA pE (dE (A := A))) rfl rfl hl.1 rfl (lv_room (Nat.le_of_ble_eq_true rfl)) dX11_parade_12 ⟨Nat.le_of_ble_eq_true rfl, Nat.le_of_ble_eq_true rfl⟩) hP hS hA (fun r7 H locs hwr7 hP hS => ?_)
    have hwr7 : (r7 = 1 ∧ ((0) ≤ py.toInt64 ∧ py.toInt64 ≤ (1))) ∨ (r7 = 0 ∧ (¬ ((0) ≤ py.toInt64 ∧ py.toInt64 ≤ (1)))) := hwr7
    refine lv_if_ne (tgt := 25) hx hb dX11_parade_15 (by decide) (fun c8 => ?_) (fun c8 => ?_)
    · skip
      obtain ⟨hp9, hp10⟩ := z_b1 hwr7 c8
      obtain ⟨j11, gj11, hj11, ej11⟩ := z_rng (lo := 0) (hi := 1) (by decide) (by decide) hp9 hp10
      refine lv_aload_n hx hb dX11_parade_25 rfl (lv_at hl 0 rfl) ?_
      refine lv_iload_n hx hb dX11_parade_26 rfl (lv_at hl 1 rfl) ?_
      refine W.eq (g2 := F0 m 27 ls [.int (nI j6), .ref mm]) (congrArg (fun v9 : Int32 => F0 m 27 ls [.int v9, .ref mm]) ej6) ?_
      refine lv_iload_n hx hb dX11_parade_27 rfl (lv_at hl 2 rfl) ?_
      refine W.eq (g2 := F0 m 28 ls [.int (nI j11), .int (nI j6), .ref mm]) (congrArg (fun v9 : Int32 => F0 m 28 ls [.int v9, .int (nI j6), .ref mm]) ej11) ?_
      refine wr_v (wr := [(mm_refused, .inl (cy 1, 3, .inl mm_refused_f)), (mm_far, .inl (cy 1, 1152, .inl mm_far_f)), (mm_queue, .inl (cy 1, 1152, .inl mm_queue_f))]) (va_runV (As := [.int (nI j6), .int (nI j11)]) (rest := []) ⟨hx, hb, hml, hown, hts⟩ (n_X11_findMeets l D cy mW mH mS mP mm mm_now mm_kept mm_isKept mm_refused mm_lineFrom mm_lineTo mm_stands mm_far mm_queue mm_queued mm_meets mm_bytes bl ta tl mm_token mm_value mm_next tk mm_now_f mm_meets_f mm_stands_f j6 (nI j11) _ (by first | assumption | omega) (by first | assumption | omega) (by first | assumption | omega)) (cwV 2 hts gX11_parade_X11_findMeets rfl rfl rfl (by decide +kernel) ⟨Nat.le_of_ble_eq_true rfl, Nat.le_of_ble_eq_true rfl⟩) (pV (ci := 11) (k := 0) hKA (hP.sub (ws' := [(mm, .inr (11, [.ref mm_now, .ref mm_kept, .ref mm_isKept, .ref mm_refused, .int mm_lineFrom, .int mm_lineTo, .ref mm_stands, .ref mm_far, .ref mm_queue, .int mm_queued, .ref mm_meets, .ref mm_bytes, .int (nI bl), .int (nI ta), .int (nI tl), .int mm_token, .int mm_value, .ref mm_next, .int (nI tk)])), (mm_now, .inl (cy 1, 122, .inl mm_now_f)), (mm_meets, .inl (cy 1, 36, .inl mm_meets_f)), (mm_stands, .inl (cy 2, 36, .inl mm_stands_f))]) [0, 1, 3, 4] rfl) (hD.sub (ws' := [(mm, .inr (11, [.ref mm_now, .ref mm_kept, .ref mm_isKept, .ref mm_refused, .int mm_lineFrom, .int mm_lineTo, .ref mm_stands, .ref mm_far, .ref mm_queue, .int mm_queued, .ref mm_meets, .ref mm_bytes, .int (nI bl), .int (nI ta), .int (nI tl), .int mm_token, .int mm_value, .ref mm_next, .int (nI tk)])), (mm_now, .inl (cy 1, 122, .inl mm_now_f)), (mm_meets, .inl (cy 1, 36, .inl mm_meets_f)), (mm_stands, .inl (cy 2, 36, .inl mm_stands_f))]) [0, 1, 3, 4] (by decide) rfl) rfl rfl) rfl rfl hl.1 rfl (lv_room (Nat.le_of_ble_eq_true rfl)) dX11_parade_28 ⟨Nat.le_of_ble_eq_true rfl, Nat.le_of_ble_eq_true rfl⟩) hP hD hS hA [0, 1, 3, 4] [2, 5, 6] rfl rfl (by decide +kernel) (by decide +kernel) (fun ur12 H locs hwr12 hP hD hS => ?_)
      obtain ⟨z13, z14, z15, z16, z17⟩ := ur12
      have hP : va_P D vwCl [(mm_refused, .inl (cy 1, 3, .inl mm_refused_f)), (mm_far, .inl (cy 1, 1152, .inl mm_far_f)), (mm_queue, .inl (cy 1, 1152, .inl mm_queue_f)), (mm, .inr (11, [.ref mm_now, .ref mm_kept, .ref mm_isKept, .ref mm_refused, .int z13, .int z14, .ref mm_stands, .ref mm_far, .ref mm_queue, .int mm_queued, .ref mm_meets, .ref mm_bytes, .int (nI bl), .int (nI ta), .int (nI tl), .int mm_token, .int mm_value, .ref mm_next, .int (nI tk)])), (mm_now, .inl (cy 1, 122, .inl z15)), (mm_meets, .inl (cy 1, 36, .inl z16)), (mm_stands, .inl (cy 2, 36, .inl z17))] H := hP
      have hD : va_D A [(mm_refused, .inl (cy 1, 3, .inl mm_refused_f)), (mm_far, .inl (cy 1, 1152, .inl mm_far_f)), (mm_queue, .inl (cy 1, 1152, .inl mm_queue_f)), (mm, .inr (11, [.ref mm_now, .ref mm_kept, .ref mm_isKept, .ref mm_refused, .int z13, .int z14, .ref mm_stands, .ref mm_far, .ref mm_queue, .int mm_queued, .ref mm_meets, .ref mm_bytes, .int (nI bl), .int (nI ta), .int (nI tl), .int mm_token, .int mm_value, .ref mm_next, .int (nI tk)])), (mm_now, .inl (cy 1, 122, .inl z15)), (mm_meets, .inl (cy 1, 36, .inl z16)), (mm_stands, .inl (cy 2, 36, .inl z17))] := hD
      have hwr12 : mV z15 mW mH mS mP ∧ meI z16 := hwr12
      obtain ⟨hv18, hv19⟩ := hwr12
      refine lv_iconst (v := 1) hx hb dX11_parade_31 (by decide) ?_
      refine lv_aload_n hx hb dX11_parade_32 rfl (lv_at hl 0 rfl) ?_
      refine rd_i (va_runV (As := []) (rest := [.int 1]) ⟨hx, hb, hml, hown, hts⟩ (n_X11_people l D cy mW mH mS mP mm mm_now mm_kept mm_isKept mm_refused z13 z14 mm_stands mm_far mm_queue mm_queued mm_meets mm_bytes bl ta tl mm_token mm_value mm_next tk z15 _ (by first | assumption | omega)) (cwV 0 hts gX11_parade_X11_people rfl rfl rfl (by decide +kernel) ⟨Nat.le_of_ble_eq_true rfl, Nat.le_of_ble_eq_true rfl⟩) (pV (ci := 11) (k := 0) hKA (hP.sub (ws' := [(mm, .inr (11, [.ref mm_now, .ref mm_kept, .ref mm_isKept, .ref mm_refused, .int z13, .int z14, .ref mm_stands, .ref mm_far, .ref mm_queue, .int mm_queued, .ref mm_meets, .ref mm_bytes, .int (nI bl), .int (nI ta), .int (nI tl), .int mm_token, .int mm_value, .ref mm_next, .int (nI tk)])), (mm_now, .inl (cy 1, 122, .inl z15))]) [3, 4] rfl) (hD.sub (ws' := [(mm, .inr (11, [.ref mm_now, .ref mm_kept, .ref mm_isKept, .ref mm_refused, .int z13, .int z14, .ref mm_stands, .ref mm_far, .ref mm_queue, .int mm_queued, .ref mm_meets, .ref mm_bytes, .int (nI bl), .int (nI ta), .int (nI tl), .int mm_token, .int mm_value, .ref mm_next, .int (nI tk)])), (mm_now, .inl (cy 1, 122, .inl z15))]) [3, 4] (by decide) rfl) rfl rfl) rfl rfl hl.1 rfl (lv_room (Nat.le_of_ble_eq_true rfl)) dX11_parade_33 ⟨Nat.le_of_ble_eq_true rfl, Nat.le_of_ble_eq_true rfl⟩) hP hS hA (fun r20 H locs hwr20 hP hS => ?_)
      have hwr20 : r20 = nI mP := hwr20
      subst hwr20
      refine lv_ishl hx hb dX11_parade_36 ?_
      refine lv_iconst (v := 1) hx hb dX11_parade_37 (by decide) ?_
      refine lv_isub hx hb dX11_parade_38 ?_
      refine lv_iconst (v := 1) hx hb dX11_parade_39 (by decide) ?_
      refine lv_iload_n hx hb dX11_parade_40 rfl (lv_at hl 1 rfl) ?_
      refine W.eq (g2 := F0 m 41 ls [.int (nI j6), .int 1, .int ((1 <<< ((nI mP) &&& 31)) - 1)]) (congrArg (fun v9 : Int32 => F0 m 41 ls [.int v9, .int 1, .int ((1 <<< ((nI mP) &&& 31)) - 1)]) ej6) ?_
      refine lv_ishl hx hb dX11_parade_41 ?_
      refine lv_iconst (v := (-1)) hx hb dX11_parade_42 (by decide) ?_
      refine lv_ixor hx hb dX11_parade_43 ?_
      refine lv_iand hx hb dX11_parade_44 ?_
      refine lv_topi (fun x21 ex21 => ?_)
      refine lv_istore_n (lv' := [(3, .int x21), (0, .ref mm), (1, .int px), (2, .int py)]) hx hb dX11_parade_45 rfl hl (by decide) rfl (fun ls hl => ?_)
      refine lv_iconst (v := 0) hx hb dX11_parade_46 (by decide) ?_
      refine lv_istore (lv' := [(4, .int 0), (3, .int x21), (0, .ref mm), (1, .int px), (2, .int py)]) hx hb dX11_parade_47 hl (by decide) rfl (fun ls hl => ?_)
      have lp49 : ∀ (n49 : Nat) (v4_49 : Nat) (y_mm_far_49 : Nat → Int32) (hv4_49 : v4_49 < 2147483648) (hk : v4_49 ≤ 1152) (hzz : ∀ j, j < v4_49 → y_mm_far_49 j = 100000), 2147483648 - v4_49 < n49 → ∀ (H : Heap) (locs : List Loc), va_P D vwCl [(mm_refused, .inl (cy 1, 3, .inl mm_refused_f)), (mm_far, .inl (cy 1, 1152, .inl y_mm_far_49)), (mm_queue, .inl (cy 1, 1152, .inl mm_queue_f)), (mm, .inr (11, [.ref mm_now, .ref mm_kept, .ref mm_isKept, .ref mm_refused, .int z13, .int z14, .ref mm_stands, .ref mm_far, .ref mm_queue, .int mm_queued, .ref mm_meets, .ref mm_bytes, .int (nI bl), .int (nI ta), .int (nI tl), .int mm_token, .int mm_value, .ref mm_next, .int (nI tk)])), (mm_now, .inl (cy 1, 122, .inl z15)), (mm_meets, .inl (cy 1, 36, .inl z16)), (mm_stands, .inl (cy 2, 36, .inl z17))] H → va_D A [(mm_refused, .inl (cy 1, 3, .inl mm_refused_f)), (mm_far, .inl (cy 1, 1152, .inl y_mm_far_49)), (mm_queue, .inl (cy 1, 1152, .inl mm_queue_f)), (mm, .inr (11, [.ref mm_now, .ref mm_kept, .ref mm_isKept, .ref mm_refused, .int z13, .int z14, .ref mm_stands, .ref mm_far, .ref mm_queue, .int mm_queued, .ref mm_meets, .ref mm_bytes, .int (nI bl), .int (nI ta), .int (nI tl), .int mm_token, .int mm_value, .ref mm_next, .int (nI tk)])), (mm_now, .inl (cy 1, 122, .inl z15)), (mm_meets, .inl (cy 1, 36, .inl z16)), (mm_stands, .inl (cy 2, 36, .inl z17))] → va_S A s.heap H locs → ∀ ls : Array Slot, lv_has ls 10 [(4, .int (nI v4_49)), (3, .int x21), (0, .ref mm), (1, .int px), (2, .int py)] → W p l e (headSpec wsX11_parade ({ frames := 7, cells := 0, slots := 0, locals := 161 })).room s m [.ref mm, .int px, .int py].toArray below meth c H locs 0 0 QF (F0 m 49 ls []) := by
        intro n49
        induction n49 with
        | zero => intro v4_49 y_mm_far_49 hv4_49 hk hzz hm; exact absurd hm (Nat.not_lt_zero _)
        | succ n49 ih49 =>
          intro v4_49 y_mm_far_49 hv4_49 hk hzz hm49 H locs hP hD hS ls hl
          refine lv_iload hx hb dX11_parade_49 (lv_at hl 0 rfl) ?_
          refine lv_sipush (v := 1152) hx hb dX11_parade_51 (by decide) ?_
          refine lv_icmp_ge (tgt := 72) hx hb dX11_parade_54 (by decide) (fun c22 => ?_) (fun c22 => ?_)
          · skip
            have hall : ∀ j, j < 1152 → y_mm_far_49 j = 100000 := fun j hj => hzz j (by have q := nge_of (n := 1152) rfl hk (by decide) (by assumption); omega)
            refine lv_aload_n hx hb dX11_parade_72 rfl (lv_at hl 2 rfl) ?_
            refine lv_iload_n hx hb dX11_parade_73 rfl (lv_at hl 3 rfl) ?_
            refine W.eq (g2 := F0 m 74 ls [.int (nI j6), .ref mm]) (congrArg (fun v9 : Int32 => F0 m 74 ls [.int v9, .ref mm]) ej6) ?_
            refine lv_iconst (v := 1) hx hb dX11_parade_74 (by decide) ?_
            refine rd_i (va_runV (As := [.int (nI j6), .int 1]) (rest := []) ⟨hx, hb, hml, hown, hts⟩ (n_X11_of l D cy mW mH mS mP mm mm_now mm_kept mm_isKept mm_refused z13 z14 mm_stands mm_far mm_queue mm_queued mm_meets mm_bytes bl ta tl mm_token mm_value mm_next tk z15 j6 1 _ (by first | assumption | omega) (by first | assumption | omega) (by first | assumption | omega)) (cwV 2 hts gX11_parade_X11_of rfl rfl rfl (by decide +kernel) ⟨Nat.le_of_ble_eq_true rfl, Nat.le_of_ble_eq_true rfl⟩) (pV (ci := 11) (k := 0) hKA (hP.sub (ws' := [(mm, .inr (11, [.ref mm_now, .ref mm_kept, .ref mm_isKept, .ref mm_refused, .int z13, .int z14, .ref mm_stands, .ref mm_far, .ref mm_queue, .int mm_queued, .ref mm_meets, .ref mm_bytes, .int (nI bl), .int (nI ta), .int (nI tl), .int mm_token, .int mm_value, .ref mm_next, .int (nI tk)])), (mm_now, .inl (cy 1, 122, .inl z15))]) [3, 4] rfl) (hD.sub (ws' := [(mm, .inr (11, [.ref mm_now, .ref mm_kept, .ref mm_isKept, .ref mm_refused, .int z13, .int z14, .ref mm_stands, .ref mm_far, .ref mm_queue, .int mm_queued, .ref mm_meets, .ref mm_bytes, .int (nI bl), .int (nI ta), .int (nI tl), .int mm_token, .int mm_value, .ref mm_next, .int (nI tk)])), (mm_now, .inl (cy 1, 122, .inl z15))]) [3, 4] (by decide) rfl) rfl rfl) rfl rfl hl.1 rfl (lv_room (Nat.le_of_ble_eq_true rfl)) dX11_parade_75 ⟨Nat.le_of_ble_eq_true rfl, Nat.le_of_ble_eq_true rfl⟩) hP hS hA (fun r23 H locs hwr23 hP hS => ?_)
            have hwr23 : r23 = z15 (5 + 3 * j6 + 1) := hwr23
            subst hwr23
            obtain ⟨ja, eja, hja⟩ := mV.get hv18 (5 + 3 * j6 + 1) 35 (by omega) (by omega) (by unfold mHi; (repeat' split) <;> omega)
            refine W.eq (g2 := F0 m 78 ls [.int (nI ja)]) (congrArg (fun v9 : Int32 => F0 m 78 ls [.int v9]) eja) ?_
            refine lv_istore (lv' := [(4, .int (nI ja)), (3, .int x21), (0, .ref mm), (1, .int px), (2, .int py)]) hx hb dX11_parade_78 hl (by decide) rfl (fun ls hl => ?_)
            refine lv_aload_n hx hb dX11_parade_80 rfl (lv_at hl 2 rfl) ?_
            refine lv_iconst (v := 0) hx hb dX11_parade_81 (by decide) ?_
            refine va_put (D := D) (ci := 11) (v := .int 0) (ty := .int) (C := RX11) (T := TX11) (N := 19) hx hb hts zi11_ tyX11 tyX11_ok nmX11 hown hK hP hD hS 3 rfl rfl 9 (by decide) z3_ (fun _ h9 => h9) rfl (by decide +kernel) rfl rfl (Nat.le_of_ble_eq_true rfl) dX11_parade_82 (fun H locs hP hD hS => ?_)
            have hP : va_P D vwCl [(mm_refused, .inl (cy 1, 3, .inl mm_refused_f)), (mm_far, .inl (cy 1, 1152, .inl y_mm_far_49)), (mm_queue, .inl (cy 1, 1152, .inl mm_queue_f)), (mm, .inr (11, [.ref mm_now, .ref mm_kept, .ref mm_isKept, .ref mm_refused, .int z13, .int z14, .ref mm_stands, .ref mm_far, .ref mm_queue, .int 0, .ref mm_meets, .ref mm_bytes, .int (nI bl), .int (nI ta), .int (nI tl), .int mm_token, .int mm_value, .ref mm_next, .int (nI tk)])), (mm_now, .inl (cy 1, 122, .inl z15)), (mm_meets, .inl (cy 1, 36, .inl z16)), (mm_stands, .inl (cy 2, 36, .inl z17))] H := hP
            have hD : va_D A [(mm_refused, .inl (cy 1, 3, .inl mm_refused_f)), (mm_far, .inl (cy 1, 1152, .inl y_mm_far_49)), (mm_queue, .inl (cy 1, 1152, .inl mm_queue_f)), (mm, .inr (11, [.ref mm_now, .ref mm_kept, .ref mm_isKept, .ref mm_refused, .int z13, .int z14, .ref mm_stands, .ref mm_far, .ref mm_queue, .int 0, .ref mm_meets, .ref mm_bytes, .int (nI bl), .int (nI ta), .int (nI tl), .int mm_token, .int mm_value, .ref mm_next, .int (nI tk)])), (mm_now, .inl (cy 1, 122, .inl z15)), (mm_meets, .inl (cy 1, 36, .inl z16)), (mm_stands, .inl (cy 2, 36, .inl z17))] := hD
            refine lv_aload_n hx hb dX11_parade_85 rfl (lv_at hl 2 rfl) ?_
            refine va_get (D := D) (ci := 11) (v := .ref mm_stands) (C := RX11) (T := TX11) (N := 19) hx hb hts zi11_ hown hK hP 3 rfl rfl 6 (by decide) z4_ (fun _ h9 => h9) rfl dX11_parade_86 ?_
            refine lv_iload hx hb dX11_parade_89 (lv_at hl 0 rfl) ?_
            refine my_zald hx hb hK hP 6 2 rfl rfl (by first | exact in_ge (N := 36) (by decide) (by omega) (by assumption) | exact vp_in_nI (by omega) (by omega)) (nI_clamp (by omega)) dX11_parade_91 ?_
            have j131 : ∀ (y_mm_far_131 : Nat → Int32) (y_mm_queue_131 : Nat → Int32) (u_mm_9_131 : Nat) (hjq0 : quI 1152 y_mm_far_131 y_mm_queue_131 u_mm_9_131) (H : Heap) (locs : List Loc), va_P D vwCl [(mm_refused, .inl (cy 1, 3, .inl mm_refused_f)), (mm_far, .inl (cy 1, 1152, .inl y_mm_far_131)), (mm_queue, .inl (cy 1, 1152, .inl y_mm_queue_131)), (mm, .inr (11, [.ref mm_now, .ref mm_kept, .ref mm_isKept, .ref mm_refused, .int z13, .int z14, .ref mm_stands, .ref mm_far, .ref mm_queue, .int (nI u_mm_9_131), .ref mm_meets, .ref mm_bytes, .int (nI bl), .int (nI ta), .int (nI tl), .int mm_token, .int mm_value, .ref mm_next, .int (nI tk)])), (mm_now, .inl (cy 1, 122, .inl z15)), (mm_meets, .inl (cy 1, 36, .inl z16)), (mm_stands, .inl (cy 2, 36, .inl z17))] H → va_D A [(mm_refused, .inl (cy 1, 3, .inl mm_refused_f)), (mm_far, .inl (cy 1, 1152, .inl y_mm_far_131)), (mm_queue, .inl (cy 1, 1152, .inl y_mm_queue_131)), (mm, .inr (11, [.ref mm_now, .ref mm_kept, .ref mm_isKept, .ref mm_refused, .int z13, .int z14, .ref mm_stands, .ref mm_far, .ref mm_queue, .int (nI u_mm_9_131), .ref mm_meets, .ref mm_bytes, .int (nI bl), .int (nI ta), .int (nI tl), .int mm_token, .int mm_value, .ref mm_next, .int (nI tk)])), (mm_now, .inl (cy 1, 122, .inl z15)), (mm_meets, .inl (cy 1, 36, .inl z16)), (mm_stands, .inl (cy 2, 36, .inl z17))] → va_S A s.heap H locs → ∀ ls : Array Slot, lv_has ls 10 [(4, .int (nI ja)), (3, .int x21), (0, .ref mm), (1, .int px), (2, .int py)] → W p l e (headSpec wsX11_parade ({ frames := 7, cells := 0, slots := 0, locals := 161 })).room s m [.ref mm, .int px, .int py].toArray below meth c H locs 0 0 QF (F0 m 131 ls []) := by
              intro y_mm_far_131 y_mm_queue_131 u_mm_9_131 hjq0 H locs hP hD hS ls hl
              refine lv_iconst (v := 0) hx hb dX11_parade_131 (by decide) ?_
              refine lv_istore (lv' := [(5, .int 0), (4, .int (nI ja)), (3, .int x21), (0, .ref mm), (1, .int px), (2, .int py)]) hx hb dX11_parade_132 hl (by decide) rfl (fun ls hl => ?_)
              have lp134 : ∀ (n134 : Nat) (v5_134 : Nat) (u_mm_9_134 : Nat) (y_mm_far_134 : Nat → Int32) (y_mm_queue_134 : Nat → Int32) (hv5_134 : v5_134 < 2147483648) (hbq : quI 1152 y_mm_far_134 y_mm_queue_134 u_mm_9_134), 2147483648 - v5_134 < n134 → ∀ (H : Heap) (locs : List Loc), va_P D vwCl [(mm_refused, .inl (cy 1, 3, .inl mm_refused_f)), (mm_far, .inl (cy 1, 1152, .inl y_mm_far_134)), (mm_queue, .inl (cy 1, 1152, .inl y_mm_queue_134)), (mm, .inr (11, [.ref mm_now, .ref mm_kept, .ref mm_isKept, .ref mm_refused, .int z13, .int z14, .ref mm_stands, .ref mm_far, .ref mm_queue, .int (nI u_mm_9_134), .ref mm_meets, .ref mm_bytes, .int (nI bl), .int (nI ta), .int (nI tl), .int mm_token, .int mm_value, .ref mm_next, .int (nI tk)])), (mm_now, .inl (cy 1, 122, .inl z15)), (mm_meets, .inl (cy 1, 36, .inl z16)), (mm_stands, .inl (cy 2, 36, .inl z17))] H → va_D A [(mm_refused, .inl (cy 1, 3, .inl mm_refused_f)), (mm_far, .inl (cy 1, 1152, .inl y_mm_far_134)), (mm_queue, .inl (cy 1, 1152, .inl y_mm_queue_134)), (mm, .inr (11, [.ref mm_now, .ref mm_kept, .ref mm_isKept, .ref mm_refused, .int z13, .int z14, .ref mm_stands, .ref mm_far, .ref mm_queue, .int (nI u_mm_9_134), .ref mm_meets, .ref mm_bytes, .int (nI bl), .int (nI ta), .int (nI tl), .int mm_token, .int mm_value, .ref mm_next, .int (nI tk)])), (mm_now, .inl (cy 1, 122, .inl z15)), (mm_meets, .inl (cy 1, 36, .inl z16)), (mm_stands, .inl (cy 2, 36, .inl z17))] → va_S A s.heap H locs → ∀ ls : Array Slot, lv_has ls 10 [(5, .int (nI v5_134)), (4, .int (nI ja)), (3, .int x21), (0, .ref mm), (1, .int px), (2, .int py)] → W p l e (headSpec wsX11_parade ({ frames := 7, cells := 0, slots := 0, locals := 161 })).room s m [.ref mm, .int px, .int py].toArray below meth c H locs 0 0 QF (F0 m 134 ls []) := by
                intro n134
                induction n134 with
                | zero => intro v5_134 u_mm_9_134 y_mm_far_134 y_mm_queue_134 hv5_134 hbq hm; exact absurd hm (Nat.not_lt_zero _)
                | succ n134 ih134 =>
                  intro v5_134 u_mm_9_134 y_mm_far_134 y_mm_queue_134 hv5_134 hbq hm134 H locs hP hD hS ls hl
                  have hle := quI.le (by omega) hbq
                  refine lv_iload hx hb dX11_parade_134 (lv_at hl 0 rfl) ?_
                  refine lv_aload_n hx hb dX11_parade_136 rfl (lv_at hl 3 rfl) ?_
                  refine va_get (D := D) (ci := 11) (v := .int (nI u_mm_9_134)) (C := RX11) (T := TX11) (N := 19) hx hb hts zi11_ hown hK hP 3 rfl rfl 9 (by decide) z3_ (fun _ h9 => h9) rfl dX11_parade_137 ?_
                  refine lv_icmp_ge (tgt := 299) hx hb dX11_parade_140 (by decide) (fun c24 => ?_) (fun c24 => ?_)
                  · skip
                    refine lv_iconst (v := (-1)) hx hb dX11_parade_299 (by decide) ?_
                    subst hQF
                    have hP9 := hP.sub (ws' := [(mm, .inr (11, [.ref mm_now, .ref mm_kept, .ref mm_isKept, .ref mm_refused, .int z13, .int z14, .ref mm_stands, .ref mm_far, .ref mm_queue, .int (nI u_mm_9_134), .ref mm_meets, .ref mm_bytes, .int (nI bl), .int (nI ta), .int (nI tl), .int mm_token, .int mm_value, .ref mm_next, .int (nI tk)])), (mm_now, .inl (cy 1, 122, .inl z15)), (mm_refused, .inl (cy 1, 3, .inl mm_refused_f)), (mm_meets, .inl (cy 1, 36, .inl z16)), (mm_stands, .inl (cy 2, 36, .inl z17)), (mm_far, .inl (cy 1, 1152, .inl y_mm_far_134)), (mm_queue, .inl (cy 1, 1152, .inl y_mm_queue_134))]) [3, 4, 0, 5, 6, 1, 2] rfl
                    have hD9 := hD.sub (ws' := [(mm, .inr (11, [.ref mm_now, .ref mm_kept, .ref mm_isKept, .ref mm_refused, .int z13, .int z14, .ref mm_stands, .ref mm_far, .ref mm_queue, .int (nI u_mm_9_134), .ref mm_meets, .ref mm_bytes, .int (nI bl), .int (nI ta), .int (nI tl), .int mm_token, .int mm_value, .ref mm_next, .int (nI tk)])), (mm_now, .inl (cy 1, 122, .inl z15)), (mm_refused, .inl (cy 1, 3, .inl mm_refused_f)), (mm_meets, .inl (cy 1, 36, .inl z16)), (mm_stands, .inl (cy 2, 36, .inl z17)), (mm_far, .inl (cy 1, 1152, .inl y_mm_far_134)), (mm_queue, .inl (cy 1, 1152, .inl y_mm_queue_134))]) [3, 4, 0, 5, 6, 1, 2] (by decide) rfl
                    exact W.iret (v := (-1)) hx hb hr (fun t ht hW => ⟨⟨(-1), (z13, z14, nI u_mm_9_134, z15, mm_refused_f, z16, z17, y_mm_far_134, y_mm_queue_134), rfl, ⟨⟨_, _, _, _, hv18⟩, hv19⟩, by rw [ht]; exact hP9, hD9⟩, hS.F ht⟩) hS.2.2 dX11_parade_300
                  · skip
                    have hk140 := ltM (n := u_mm_9_134) (k := v5_134) (by omega) (by assumption) (by assumption)
                    refine lv_aload_n hx hb dX11_parade_143 rfl (lv_at hl 3 rfl) ?_
                    refine va_get (D := D) (ci := 11) (v := .ref mm_queue) (C := RX11) (T := TX11) (N := 19) hx hb hts zi11_ hown hK hP 3 rfl rfl 8 (by decide) z5_ (fun _ h9 => h9) rfl dX11_parade_144 ?_
                    refine lv_iload hx hb dX11_parade_147 (lv_at hl 0 rfl) ?_
                    refine my_iald hx hb hK hP 2 1 rfl rfl (by first | exact in_ge (N := 1152) (by decide) (by omega) (by assumption) | exact vp_in_nI (by omega) (by omega)) (nI_clamp (by omega)) dX11_parade_149 ?_
                    obtain ⟨jq, dq, hjq, hdq, ejq, edq⟩ := hbq.1 v5_134 (by omega)
                    refine W.eq (g2 := F0 m 150 ls [.int (nI jq)]) (congrArg (fun v9 : Int32 => F0 m 150 ls [.int v9]) ejq) ?_
                    refine lv_istore (lv' := [(6, .int (nI jq)), (5, .int (nI v5_134)), (4, .int (nI ja)), (3, .int x21), (0, .ref mm), (1, .int px), (2, .int py)]) hx hb dX11_parade_150 hl (by decide) rfl (fun ls hl => ?_)
                    refine lv_iload hx hb dX11_parade_152 (lv_at hl 0 rfl) ?_
                    refine lv_bipush (v := 32) hx hb dX11_parade_154 (by decide) ?_
                    refine lv_irem hx hb dX11_parade_156 (by decide) ?_
                    refine W.eq (g2 := F0 m 157 ls [.int (nI (jq % 32))]) (congrArg (fun v9 : Int32 => F0 m 157 ls [.int v9]) (rm32 (by omega))) ?_
                    refine lv_iload_n hx hb dX11_parade_157 rfl (lv_at hl 3 rfl) ?_
                    refine lv_icmp_ne (tgt := 169) hx hb dX11_parade_158 (by decide) (fun c25 => ?_) (fun c25 => ?_)
                    · skip
                      refine lv_iconst (v := 0) hx hb dX11_parade_169 (by decide) ?_
                      refine lv_istore (lv' := [(7, .int 0), (6, .int (nI jq)), (5, .int (nI v5_134)), (4, .int (nI ja)), (3, .int x21), (0, .ref mm), (1, .int px), (2, .int py)]) hx hb dX11_parade_170 hl (by decide) rfl (fun ls hl => ?_)
                      have lp172 : ∀ (n172 : Nat) (v7_172 : Nat) (u_mm_9_172 : Nat) (y_mm_far_172 : Nat → Int32) (y_mm_queue_172 : Nat → Int32) (hv7_172 : v7_172 < 2147483648) (hcq : quI 1152 y_mm_far_172 y_mm_queue_172 u_mm_9_172) (hkn : v5_134 < u_mm_9_172) (hqk : y_mm_queue_172 v5_134 = nI jq), 2147483648 - v7_172 < n172 → ∀ (H : Heap) (locs : List Loc), va_P D vwCl [(mm_refused, .inl (cy 1, 3, .inl mm_refused_f)), (mm_far, .inl (cy 1, 1152, .inl y_mm_far_172)), (mm_queue, .inl (cy 1, 1152, .inl y_mm_queue_172)), (mm, .inr (11, [.ref mm_now, .ref mm_kept, .ref mm_isKept, .ref mm_refused, .int z13, .int z14, .ref mm_stands, .ref mm_far, .ref mm_queue, .int (nI u_mm_9_172), .ref mm_meets, .ref mm_bytes, .int (nI bl), .int (nI ta), .int (nI tl), .int mm_token, .int mm_value, .ref mm_next, .int (nI tk)])), (mm_now, .inl (cy 1, 122, .inl z15)), (mm_meets, .inl (cy 1, 36, .inl z16)), (mm_stands, .inl (cy 2, 36, .inl z17))] H → va_D A [(mm_refused, .inl (cy 1, 3, .inl mm_refused_f)), (mm_far, .inl (cy 1, 1152, .inl y_mm_far_172)), (mm_queue, .inl (cy 1, 1152, .inl y_mm_queue_172)), (mm, .inr (11, [.ref mm_now, .ref mm_kept, .ref mm_isKept, .ref mm_refused, .int z13, .int z14, .ref mm_stands, .ref mm_far, .ref mm_queue, .int (nI u_mm_9_172), .ref mm_meets, .ref mm_bytes, .int (nI bl), .int (nI ta), .int (nI tl), .int mm_token, .int mm_value, .ref mm_next, .int (nI tk)])), (mm_now, .inl (cy 1, 122, .inl z15)), (mm_meets, .inl (cy 1, 36, .inl z16)), (mm_stands, .inl (cy 2, 36, .inl z17))] → va_S A s.heap H locs → ∀ ls : Array Slot, lv_has ls 10 [(7, .int (nI v7_172)), (6, .int (nI jq)), (5, .int (nI v5_134)), (4, .int (nI ja)), (3, .int x21), (0, .ref mm), (1, .int px), (2, .int py)] → W p l e (headSpec wsX11_parade ({ frames := 7, cells := 0, slots := 0, locals := 161 })).room s m [.ref mm, .int px, .int py].toArray below meth c H locs 0 0 QF (F0 m 172 ls []) := by
                        intro n172
                        induction n172 with
                        | zero => intro v7_172 u_mm_9_172 y_mm_far_172 y_mm_queue_172 hv7_172 hcq hkn hqk hm; exact absurd hm (Nat.not_lt_zero _)
                        | succ n172 ih172 =>
                          intro v7_172 u_mm_9_172 y_mm_far_172 y_mm_queue_172 hv7_172 hcq hkn hqk hm172 H locs hP hD hS ls hl
                          have hle2 := quI.le (by omega) hcq
                          refine lv_iload hx hb dX11_parade_172 (lv_at hl 0 rfl) ?_
                          refine lv_iconst (v := 4) hx hb dX11_parade_174 (by decide) ?_
                          refine lv_icmp_ge (tgt := 293) hx hb dX11_parade_175 (by decide) (fun c26 => ?_) (fun c26 => ?_)
                          · skip
                            refine lv_iinc (v := nI (v5_134 + 1)) (lv' := [(5, .int (nI (v5_134 + 1))), (7, .int (nI v7_172)), (6, .int (nI jq)), (4, .int (nI ja)), (3, .int x21), (0, .ref mm), (1, .int px), (2, .int py)]) hx hb dX11_parade_293 hl (k := 2) rfl (nI_1 _) (by decide) rfl (fun ls hl => ?_)
                            refine lv_goto (tgt := 134) hx hb dX11_parade_296 (by decide) ?_
                            exact ih134 (v5_134 + 1) u_mm_9_172 y_mm_far_172 y_mm_queue_172 (by first | omega | exact nlt_max hv5_134 (by assumption)) hcq (by first | omega | (have := nlt_max hv5_134 (by assumption); omega)) _ _ hP hD hS ls (lv_sub hl [0, 3, 4, 5, 6, 7] rfl)
                          · skip
                            have hk175 := ltN (n := 4) (x := 4) (k := v7_172) (by decide) (by assumption) (by assumption)
                            refine lv_aload_n hx hb dX11_parade_178 rfl (lv_at hl 5 rfl) ?_
                            refine lv_iload hx hb dX11_parade_179 (lv_at hl 1 rfl) ?_
                            refine lv_bipush (v := 32) hx hb dX11_parade_181 (by decide) ?_
                            refine lv_idiv hx hb dX11_parade_183 (by decide) ?_
                            refine W.eq (g2 := F0 m 184 ls [.int (nI (jq / 32)), .ref mm]) (congrArg (fun v9 : Int32 => F0 m 184 ls [.int v9, .ref mm]) (dv32 (by omega))) ?_
                            refine lv_iload hx hb dX11_parade_184 (lv_at hl 0 rfl) ?_
                            refine rd_i (va_runV (As := [.int (nI (jq / 32)), .int (nI v7_172)]) (rest := []) ⟨hx, hb, hml, hown, hts⟩ (n_X11_beside l D cy mW mH mS mP mm mm_now mm_kept mm_isKept mm_refused z13 z14 mm_stands mm_far mm_queue (nI u_mm_9_172) mm_meets mm_bytes bl ta tl mm_token mm_value mm_next tk z15 (jq / 32) v7_172 _ (by first | assumption | omega) (by first | assumption | omega) (by first | assumption | omega)) (cwV 2 hts gX11_parade_X11_beside rfl rfl rfl (by decide +kernel) ⟨Nat.le_of_ble_eq_true rfl, Nat.le_of_ble_eq_true rfl⟩) (pV (ci := 11) (k := 0) hKA (hP.sub (ws' := [(mm, .inr (11, [.ref mm_now, .ref mm_kept, .ref mm_isKept, .ref mm_refused, .int z13, .int z14, .ref mm_stands, .ref mm_far, .ref mm_queue, .int (nI u_mm_9_172), .ref mm_meets, .ref mm_bytes, .int (nI bl), .int (nI ta), .int (nI tl), .int mm_token, .int mm_value, .ref mm_next, .int (nI tk)])), (mm_now, .inl (cy 1, 122, .inl z15))]) [3, 4] rfl) (hD.sub (ws' := [(mm, .inr (11, [.ref mm_now, .ref mm_kept, .ref mm_isKept, .ref mm_refused, .int z13, .int z14, .ref mm_stands, .ref mm_far, .ref mm_queue, .int (nI u_mm_9_172), .ref mm_meets, .ref mm_bytes, .int (nI bl), .int (nI ta), .int (nI tl), .int mm_token, .int mm_value, .ref mm_next, .int (nI tk)])), (mm_now, .inl (cy 1, 122, .inl z15))]) [3, 4] (by decide) rfl) rfl rfl) rfl rfl hl.1 rfl (lv_room (Nat.le_of_ble_eq_true rfl)) dX11_parade_186 ⟨Nat.le_of_ble_eq_true rfl, Nat.le_of_ble_eq_true rfl⟩) hP hS hA (fun r27 H locs hwr27 hP hS => ?_)
                            have hwr27 : (r27 = -1 ∧ bsN mW mH (jq / 32) v7_172 = none) ∨ ∃ j : Nat, r27 = nI j ∧ bsN mW mH (jq / 32) v7_172 = some j := hwr27
                            rcases hwr27 with ⟨e9, hbs⟩ | ⟨jb, e9, hbs⟩
                            · skip
                              refine W.eq (g2 := F0 m 189 ls [.int (-1)]) (congrArg (fun v9 : Int32 => F0 m 189 ls [.int v9]) e9) ?_
                              refine lv_istore (lv' := [(8, .int (-1)), (7, .int (nI v7_172)), (6, .int (nI jq)), (5, .int (nI v5_134)), (4, .int (nI ja)), (3, .int x21), (0, .ref mm), (1, .int px), (2, .int py)]) hx hb dX11_parade_189 hl (by decide) rfl (fun ls hl => ?_)
                              refine lv_iload hx hb dX11_parade_191 (lv_at hl 0 rfl) ?_
                              refine lv_iconst (v := (-1)) hx hb dX11_parade_193 (by decide) ?_
                              refine lv_icmp_ne (tgt := 201) hx hb dX11_parade_194 (by decide) (fun c28 => absurd c28 (by decide)) (fun c28 => ?_)
                              refine lv_iconst (v := 0) hx hb dX11_parade_197 (by decide) ?_
                              refine lv_goto (tgt := 220) hx hb dX11_parade_198 (by decide) ?_
                              refine lv_istore (lv' := [(9, .int 0), (8, .int (-1)), (7, .int (nI v7_172)), (6, .int (nI jq)), (5, .int (nI v5_134)), (4, .int (nI ja)), (3, .int x21), (0, .ref mm), (1, .int px), (2, .int py)]) hx hb dX11_parade_220 hl (by decide) rfl (fun ls hl => ?_)
                              refine lv_iload hx hb dX11_parade_222 (lv_at hl 1 rfl) ?_
                              refine lv_iconst (v := (-1)) hx hb dX11_parade_224 (by decide) ?_
                              refine lv_icmp_eq (tgt := 287) hx hb dX11_parade_225 (by decide) (fun c29 => ?_) (fun c29 => absurd c29 (by decide))
                              refine lv_iinc (v := nI (v7_172 + 1)) (lv' := [(7, .int (nI (v7_172 + 1))), (9, .int 0), (8, .int (-1)), (6, .int (nI jq)), (5, .int (nI v5_134)), (4, .int (nI ja)), (3, .int x21), (0, .ref mm), (1, .int px), (2, .int py)]) hx hb dX11_parade_287 hl (k := 2) rfl (nI_1 _) (by decide) rfl (fun ls hl => ?_)
                              refine lv_goto (tgt := 172) hx hb dX11_parade_290 (by decide) ?_
                              exact ih172 (v7_172 + 1) u_mm_9_172 y_mm_far_172 y_mm_queue_172 (by first | omega | exact nlt_max hv7_172 (by assumption)) hcq (by omega) hqk (by first | omega | (have := nlt_max hv7_172 (by assumption); omega)) _ _ hP hD hS ls (lv_sub hl [0, 3, 4, 5, 6, 7, 8, 9] rfl)
                            · skip
                              have hjb : jb < mS := by rw [hSe]; exact bs_lt ⟨hW2, hW6⟩ ⟨hH2, hH6⟩ (by omega) (by omega) hbs
                              refine W.eq (g2 := F0 m 189 ls [.int (nI jb)]) (congrArg (fun v9 : Int32 => F0 m 189 ls [.int v9]) e9) ?_
                              refine lv_istore (lv' := [(8, .int (nI jb)), (7, .int (nI v7_172)), (6, .int (nI jq)), (5, .int (nI v5_134)), (4, .int (nI ja)), (3, .int x21), (0, .ref mm), (1, .int px), (2, .int py)]) hx hb dX11_parade_189 hl (by decide) rfl (fun ls hl => ?_)
                              refine lv_iload hx hb dX11_parade_191 (lv_at hl 0 rfl) ?_
                              refine lv_iconst (v := (-1)) hx hb dX11_parade_193 (by decide) ?_
                              refine lv_icmp_ne (tgt := 201) hx hb dX11_parade_194 (by decide) (fun c30 => ?_) (fun c30 => absurd c30 (nI_m1 (by omega)))
                              refine lv_bipush (v := 32) hx hb dX11_parade_201 (by decide) ?_
                              refine lv_iload hx hb dX11_parade_203 (lv_at hl 0 rfl) ?_
                              refine lv_imul hx hb dX11_parade_205 ?_
                              refine lv_topi (fun x31 ex31 => ?_)
                              obtain rfl : x31 = nI (32 * jb) := by rw [ex31]; exact pk_mul _ _
                              refine lv_iload hx hb dX11_parade_206 (lv_at hl 2 rfl) ?_
                              refine lv_bipush (v := 32) hx hb dX11_parade_208 (by decide) ?_
                              refine lv_irem hx hb dX11_parade_210 (by decide) ?_
                              refine W.eq (g2 := F0 m 211 ls [.int (nI (jq % 32)), .int (nI (32 * jb))]) (congrArg (fun v9 : Int32 => F0 m 211 ls [.int v9, .int (nI (32 * jb))]) (rm32 (by omega))) ?_
                              refine lv_aload_n hx hb dX11_parade_211 rfl (lv_at hl 6 rfl) ?_
                              refine va_get (D := D) (ci := 11) (v := .ref mm_meets) (C := RX11) (T := TX11) (N := 19) hx hb hts zi11_ hown hK hP 3 rfl rfl 10 (by decide) z6_ (fun _ h9 => h9) rfl dX11_parade_212 ?_
                              refine lv_iload hx hb dX11_parade_215 (lv_at hl 0 rfl) ?_
                              refine my_iald hx hb hK hP 5 1 rfl rfl (by first | exact in_ge (N := 36) (by decide) (by omega) (by assumption) | exact vp_in_nI (by omega) (by omega)) (nI_clamp (by omega)) dX11_parade_217 ?_
                              obtain ⟨jm2, ejm2, hjm2⟩ := hv19 jb (by omega)
                              refine W.eq (g2 := F0 m 218 ls [.int (nI jm2), .int (nI (jq % 32)), .int (nI (32 * jb))]) (congrArg (fun v9 : Int32 => F0 m 218 ls [.int v9, .int (nI (jq % 32)), .int (nI (32 * jb))]) ejm2) ?_
                              refine lv_ior hx hb dX11_parade_218 ?_
                              refine W.eq (g2 := F0 m 219 ls [.int (nI ((jq % 32) ||| jm2)), .int (nI (32 * jb))]) (congrArg (fun v9 : Int32 => F0 m 219 ls [.int v9, .int (nI (32 * jb))]) (fa_or (jq % 32) jm2)) ?_
                              have hor := or32 (a := jq % 32) (b := jm2) (by omega) hjm2
                              refine lv_iadd hx hb dX11_parade_219 ?_
                              refine lv_topi (fun x32 ex32 => ?_)
                              obtain rfl : x32 = nI ((32 * jb) + ((jq % 32) ||| jm2)) := by rw [ex32]; exact nI_add _ _
                              refine lv_istore (lv' := [(9, .int (nI ((32 * jb) + ((jq % 32) ||| jm2)))), (8, .int (nI jb)), (7, .int (nI v7_172)), (6, .int (nI jq)), (5, .int (nI v5_134)), (4, .int (nI ja)), (3, .int x21), (0, .ref mm), (1, .int px), (2, .int py)]) hx hb dX11_parade_220 hl (by decide) rfl (fun ls hl => ?_)
                              refine lv_iload hx hb dX11_parade_222 (lv_at hl 1 rfl) ?_
                              refine lv_iconst (v := (-1)) hx hb dX11_parade_224 (by decide) ?_
                              refine lv_icmp_eq (tgt := 287) hx hb dX11_parade_225 (by decide) (fun c33 => absurd c33 (nI_m1 (by omega))) (fun c33 => ?_)
                              refine lv_aload_n hx hb dX11_parade_228 rfl (lv_at hl 7 rfl) ?_
                              refine va_get (D := D) (ci := 11) (v := .ref mm_stands) (C := RX11) (T := TX11) (N := 19) hx hb hts zi11_ hown hK hP 3 rfl rfl 6 (by decide) z4_ (fun _ h9 => h9) rfl dX11_parade_229 ?_
                              refine lv_iload hx hb dX11_parade_232 (lv_at hl 1 rfl) ?_
                              refine my_zald hx hb hK hP 6 2 rfl rfl (by first | exact in_ge (N := 36) (by decide) (by omega) (by assumption) | exact vp_in_nI (by omega) (by omega)) (nI_clamp (by omega)) dX11_parade_234 ?_
                              refine lv_if_eq (tgt := 287) hx hb dX11_parade_235 (by decide) (fun c34 => ?_) (fun c34 => ?_)
                              · skip
                                refine lv_iinc (v := nI (v7_172 + 1)) (lv' := [(7, .int (nI (v7_172 + 1))), (9, .int (nI ((32 * jb) + ((jq % 32) ||| jm2)))), (8, .int (nI jb)), (6, .int (nI jq)), (5, .int (nI v5_134)), (4, .int (nI ja)), (3, .int x21), (0, .ref mm), (1, .int px), (2, .int py)]) hx hb dX11_parade_287 hl (k := 2) rfl (nI_1 _) (by decide) rfl (fun ls hl => ?_)
                                refine lv_goto (tgt := 172) hx hb dX11_parade_290 (by decide) ?_
                                exact ih172 (v7_172 + 1) u_mm_9_172 y_mm_far_172 y_mm_queue_172 (by first | omega | exact nlt_max hv7_172 (by assumption)) hcq (by omega) hqk (by first | omega | (have := nlt_max hv7_172 (by assumption); omega)) _ _ hP hD hS ls (lv_sub hl [0, 3, 4, 5, 6, 7, 8, 9] rfl)
                              · skip
                                refine lv_aload_n hx hb dX11_parade_238 rfl (lv_at hl 7 rfl) ?_
                                refine va_get (D := D) (ci := 11) (v := .ref mm_far) (C := RX11) (T := TX11) (N := 19) hx hb hts zi11_ hown hK hP 3 rfl rfl 7 (by decide) z0_ (fun _ h9 => h9) rfl dX11_parade_239 ?_
                                refine lv_iload hx hb dX11_parade_242 (lv_at hl 0 rfl) ?_
                                refine my_iald hx hb hK hP 1 1 rfl rfl (by first | exact in_ge (N := 1152) (by decide) (by omega) (by assumption) | exact vp_in_nI (by omega) (by omega)) (nI_clamp (by omega)) dX11_parade_244 ?_
                                refine lv_ldc hx hb hown z2_ dX11_parade_245 ?_
                                refine lv_icmp_ne (tgt := 287) hx hb dX11_parade_247 (by decide) (fun c35 => ?_) (fun c35 => ?_)
                                · skip
                                  refine lv_iinc (v := nI (v7_172 + 1)) (lv' := [(7, .int (nI (v7_172 + 1))), (9, .int (nI ((32 * jb) + ((jq % 32) ||| jm2)))), (8, .int (nI jb)), (6, .int (nI jq)), (5, .int (nI v5_134)), (4, .int (nI ja)), (3, .int x21), (0, .ref mm), (1, .int px), (2, .int py)]) hx hb dX11_parade_287 hl (k := 2) rfl (nI_1 _) (by decide) rfl (fun ls hl => ?_)
                                  refine lv_goto (tgt := 172) hx hb dX11_parade_290 (by decide) ?_
                                  exact ih172 (v7_172 + 1) u_mm_9_172 y_mm_far_172 y_mm_queue_172 (by first | omega | exact nlt_max hv7_172 (by assumption)) hcq (by omega) hqk (by first | omega | (have := nlt_max hv7_172 (by assumption); omega)) _ _ hP hD hS ls (lv_sub hl [0, 3, 4, 5, 6, 7, 8, 9] rfl)
                                · skip
                                  have hroom := quI.room hcq (by omega) (q := (32 * jb) + ((jq % 32) ||| jm2)) (by omega) (by assumption)
                                  refine lv_aload_n hx hb dX11_parade_250 rfl (lv_at hl 7 rfl) ?_
                                  refine va_get (D := D) (ci := 11) (v := .ref mm_far) (C := RX11) (T := TX11) (N := 19) hx hb hts zi11_ hown hK hP 3 rfl rfl 7 (by decide) z0_ (fun _ h9 => h9) rfl dX11_parade_251 ?_
                                  refine lv_iload hx hb dX11_parade_254 (lv_at hl 0 rfl) ?_
                                  refine lv_aload_n hx hb dX11_parade_256 rfl (lv_at hl 7 rfl) ?_
                                  refine va_get (D := D) (ci := 11) (v := .ref mm_far) (C := RX11) (T := TX11) (N := 19) hx hb hts zi11_ hown hK hP 3 rfl rfl 7 (by decide) z0_ (fun _ h9 => h9) rfl dX11_parade_257 ?_
                                  refine lv_iload hx hb dX11_parade_260 (lv_at hl 3 rfl) ?_
                                  refine my_iald hx hb hK hP 1 1 rfl rfl (by first | exact in_ge (N := 1152) (by decide) (by omega) (by assumption) | exact vp_in_nI (by omega) (by omega)) (nI_clamp (by omega)) dX11_parade_262 ?_
                                  obtain ⟨d2, ed2, hd2⟩ := quI.at hcq (k := v5_134) (j := jq) (by omega) (by omega) (by omega) hqk
                                  refine W.eq (g2 := F0 m 263 ls [.int (nI d2), .int (nI ((32 * jb) + ((jq % 32) ||| jm2))), .ref mm_far]) (congrArg (fun v9 : Int32 => F0 m 263 ls [.int v9, .int (nI ((32 * jb) + ((jq % 32) ||| jm2))), .ref mm_far]) ed2) ?_
                                  refine lv_iconst (v := 1) hx hb dX11_parade_263 (by decide) ?_
                                  refine lv_iadd hx hb dX11_parade_264 ?_
                                  refine lv_topi (fun x36 ex36 => ?_)
                                  obtain rfl : x36 = nI (d2 + 1) := by rw [ex36]; exact nI_add _ _
                                  refine my_iast hx hb hK hP hD hS 1 1 rfl rfl (by first | exact in_ge (N := 1152) (by decide) (by omega) (by assumption) | exact vp_in_nI (by omega) (by omega)) (nI_clamp (by omega)) dX11_parade_265 (fun H locs hP hD hS => ?_)
                                  have hP : va_P D vwCl [(mm_refused, .inl (cy 1, 3, .inl mm_refused_f)), (mm_far, .inl (cy 1, 1152, .inl (upd y_mm_far_172 ((32 * jb) + ((jq % 32) ||| jm2)) (nI (d2 + 1))))), (mm_queue, .inl (cy 1, 1152, .inl y_mm_queue_172)), (mm, .inr (11, [.ref mm_now, .ref mm_kept, .ref mm_isKept, .ref mm_refused, .int z13, .int z14, .ref mm_stands, .ref mm_far, .ref mm_queue, .int (nI u_mm_9_172), .ref mm_meets, .ref mm_bytes, .int (nI bl), .int (nI ta), .int (nI tl), .int mm_token, .int mm_value, .ref mm_next, .int (nI tk)])), (mm_now, .inl (cy 1, 122, .inl z15)), (mm_meets, .inl (cy 1, 36, .inl z16)), (mm_stands, .inl (cy 2, 36, .inl z17))] H := hP
                                  have hD : va_D A [(mm_refused, .inl (cy 1, 3, .inl mm_refused_f)), (mm_far, .inl (cy 1, 1152, .inl (upd y_mm_far_172 ((32 * jb) + ((jq % 32) ||| jm2)) (nI (d2 + 1))))), (mm_queue, .inl (cy 1, 1152, .inl y_mm_queue_172)), (mm, .inr (11, [.ref mm_now, .ref mm_kept, .ref mm_isKept, .ref mm_refused, .int z13, .int z14, .ref mm_stands, .ref mm_far, .ref mm_queue, .int (nI u_mm_9_172), .ref mm_meets, .ref mm_bytes, .int (nI bl), .int (nI ta), .int (nI tl), .int mm_token, .int mm_value, .ref mm_next, .int (nI tk)])), (mm_now, .inl (cy 1, 122, .inl z15)), (mm_meets, .inl (cy 1, 36, .inl z16)), (mm_stands, .inl (cy 2, 36, .inl z17))] := hD
                                  refine lv_aload_n hx hb dX11_parade_266 rfl (lv_at hl 7 rfl) ?_
                                  refine va_get (D := D) (ci := 11) (v := .ref mm_queue) (C := RX11) (T := TX11) (N := 19) hx hb hts zi11_ hown hK hP 3 rfl rfl 8 (by decide) z5_ (fun _ h9 => h9) rfl dX11_parade_267 ?_
                                  refine lv_aload_n hx hb dX11_parade_270 rfl (lv_at hl 7 rfl) ?_
                                  refine va_get (D := D) (ci := 11) (v := .int (nI u_mm_9_172)) (C := RX11) (T := TX11) (N := 19) hx hb hts zi11_ hown hK hP 3 rfl rfl 9 (by decide) z3_ (fun _ h9 => h9) rfl dX11_parade_271 ?_
                                  refine lv_iload hx hb dX11_parade_274 (lv_at hl 0 rfl) ?_
                                  refine my_iast hx hb hK hP hD hS 2 1 rfl rfl (by first | exact in_ge (N := 1152) (by decide) (by omega) (by assumption) | exact vp_in_nI (by omega) (by omega)) (nI_clamp (by omega)) dX11_parade_276 (fun H locs hP hD hS => ?_)
                                  have hP : va_P D vwCl [(mm_refused, .inl (cy 1, 3, .inl mm_refused_f)), (mm_far, .inl (cy 1, 1152, .inl (upd y_mm_far_172 ((32 * jb) + ((jq % 32) ||| jm2)) (nI (d2 + 1))))), (mm_queue, .inl (cy 1, 1152, .inl (upd y_mm_queue_172 u_mm_9_172 (nI ((32 * jb) + ((jq % 32) ||| jm2)))))), (mm, .inr (11, [.ref mm_now, .ref mm_kept, .ref mm_isKept, .ref mm_refused, .int z13, .int z14, .ref mm_stands, .ref mm_far, .ref mm_queue, .int (nI u_mm_9_172), .ref mm_meets, .ref mm_bytes, .int (nI bl), .int (nI ta), .int (nI tl), .int mm_token, .int mm_value, .ref mm_next, .int (nI tk)])), (mm_now, .inl (cy 1, 122, .inl z15)), (mm_meets, .inl (cy 1, 36, .inl z16)), (mm_stands, .inl (cy 2, 36, .inl z17))] H := hP
                                  have hD : va_D A [(mm_refused, .inl (cy 1, 3, .inl mm_refused_f)), (mm_far, .inl (cy 1, 1152, .inl (upd y_mm_far_172 ((32 * jb) + ((jq % 32) ||| jm2)) (nI (d2 + 1))))), (mm_queue, .inl (cy 1, 1152, .inl (upd y_mm_queue_172 u_mm_9_172 (nI ((32 * jb) + ((jq % 32) ||| jm2)))))), (mm, .inr (11, [.ref mm_now, .ref mm_kept, .ref mm_isKept, .ref mm_refused, .int z13, .int z14, .ref mm_stands, .ref mm_far, .ref mm_queue, .int (nI u_mm_9_172), .ref mm_meets, .ref mm_bytes, .int (nI bl), .int (nI ta), .int (nI tl), .int mm_token, .int mm_value, .ref mm_next, .int (nI tk)])), (mm_now, .inl (cy 1, 122, .inl z15)), (mm_meets, .inl (cy 1, 36, .inl z16)), (mm_stands, .inl (cy 2, 36, .inl z17))] := hD
                                  refine lv_aload_n hx hb dX11_parade_277 rfl (lv_at hl 7 rfl) ?_
                                  refine lv_dup hx hb dX11_parade_278 rfl ?_
                                  refine va_get (D := D) (ci := 11) (v := .int (nI u_mm_9_172)) (C := RX11) (T := TX11) (N := 19) hx hb hts zi11_ hown hK hP 3 rfl rfl 9 (by decide) z3_ (fun _ h9 => h9) rfl dX11_parade_279 ?_
                                  refine lv_iconst (v := 1) hx hb dX11_parade_282 (by decide) ?_
                                  refine lv_iadd hx hb dX11_parade_283 ?_
                                  refine lv_topi (fun x37 ex37 => ?_)
                                  obtain rfl : x37 = nI (u_mm_9_172 + 1) := by rw [ex37]; exact nI_add _ _
                                  refine va_put (D := D) (ci := 11) (v := .int (nI (u_mm_9_172 + 1))) (ty := .int) (C := RX11) (T := TX11) (N := 19) hx hb hts zi11_ tyX11 tyX11_ok nmX11 hown hK hP hD hS 3 rfl rfl 9 (by decide) z3_ (fun _ h9 => h9) rfl (by decide +kernel) rfl rfl (Nat.le_of_ble_eq_true rfl) dX11_parade_284 (fun H locs hP hD hS => ?_)
                                  have hP : va_P D vwCl [(mm_refused, .inl (cy 1, 3, .inl mm_refused_f)), (mm_far, .inl (cy 1, 1152, .inl (upd y_mm_far_172 ((32 * jb) + ((jq % 32) ||| jm2)) (nI (d2 + 1))))), (mm_queue, .inl (cy 1, 1152, .inl (upd y_mm_queue_172 u_mm_9_172 (nI ((32 * jb) + ((jq % 32) ||| jm2)))))), (mm, .inr (11, [.ref mm_now, .ref mm_kept, .ref mm_isKept, .ref mm_refused, .int z13, .int z14, .ref mm_stands, .ref mm_far, .ref mm_queue, .int (nI (u_mm_9_172 + 1)), .ref mm_meets, .ref mm_bytes, .int (nI bl), .int (nI ta), .int (nI tl), .int mm_token, .int mm_value, .ref mm_next, .int (nI tk)])), (mm_now, .inl (cy 1, 122, .inl z15)), (mm_meets, .inl (cy 1, 36, .inl z16)), (mm_stands, .inl (cy 2, 36, .inl z17))] H := hP
                                  have hD : va_D A [(mm_refused, .inl (cy 1, 3, .inl mm_refused_f)), (mm_far, .inl (cy 1, 1152, .inl (upd y_mm_far_172 ((32 * jb) + ((jq % 32) ||| jm2)) (nI (d2 + 1))))), (mm_queue, .inl (cy 1, 1152, .inl (upd y_mm_queue_172 u_mm_9_172 (nI ((32 * jb) + ((jq % 32) ||| jm2)))))), (mm, .inr (11, [.ref mm_now, .ref mm_kept, .ref mm_isKept, .ref mm_refused, .int z13, .int z14, .ref mm_stands, .ref mm_far, .ref mm_queue, .int (nI (u_mm_9_172 + 1)), .ref mm_meets, .ref mm_bytes, .int (nI bl), .int (nI ta), .int (nI tl), .int mm_token, .int mm_value, .ref mm_next, .int (nI tk)])), (mm_now, .inl (cy 1, 122, .inl z15)), (mm_meets, .inl (cy 1, 36, .inl z16)), (mm_stands, .inl (cy 2, 36, .inl z17))] := hD
                                  refine lv_iinc (v := nI (v7_172 + 1)) (lv' := [(7, .int (nI (v7_172 + 1))), (9, .int (nI ((32 * jb) + ((jq % 32) ||| jm2)))), (8, .int (nI jb)), (6, .int (nI jq)), (5, .int (nI v5_134)), (4, .int (nI ja)), (3, .int x21), (0, .ref mm), (1, .int px), (2, .int py)]) hx hb dX11_parade_287 hl (k := 2) rfl (nI_1 _) (by decide) rfl (fun ls hl => ?_)
                                  refine lv_goto (tgt := 172) hx hb dX11_parade_290 (by decide) ?_
                                  exact ih172 (v7_172 + 1) (u_mm_9_172 + 1) (upd y_mm_far_172 ((32 * jb) + ((jq % 32) ||| jm2)) (nI (d2 + 1))) (upd y_mm_queue_172 u_mm_9_172 (nI ((32 * jb) + ((jq % 32) ||| jm2)))) (by first | omega | exact nlt_max hv7_172 (by assumption)) (quI.push hcq (by omega) (by omega) (by omega) (by omega) (by assumption) rfl rfl) (by omega) (by rw [ur_ne _ _ (by omega)]; exact hqk) (by first | omega | (have := nlt_max hv7_172 (by assumption); omega)) _ _ hP hD hS ls (lv_sub hl [0, 3, 4, 5, 6, 7, 8, 9] rfl)
                      exact lp172 (2147483648 - 0 + 1) 0 u_mm_9_134 y_mm_far_134 y_mm_queue_134 (by first | omega | exact nlt_max (by assumption) (by assumption)) hbq (by omega) ejq (Nat.lt_succ_self _) _ _ hP hD hS ls hl
                    · skip
                      refine lv_aload_n hx hb dX11_parade_161 rfl (lv_at hl 4 rfl) ?_
                      refine va_get (D := D) (ci := 11) (v := .ref mm_far) (C := RX11) (T := TX11) (N := 19) hx hb hts zi11_ hown hK hP 3 rfl rfl 7 (by decide) z0_ (fun _ h9 => h9) rfl dX11_parade_162 ?_
                      refine lv_iload hx hb dX11_parade_165 (lv_at hl 0 rfl) ?_
                      refine my_iald hx hb hK hP 1 1 rfl rfl (by first | exact in_ge (N := 1152) (by decide) (by omega) (by assumption) | exact vp_in_nI (by omega) (by omega)) (nI_clamp (by omega)) dX11_parade_167 ?_
                      refine lv_topi (fun x38 ex38 => ?_)
                      subst hQF
                      have hP9 := hP.sub (ws' := [(mm, .inr (11, [.ref mm_now, .ref mm_kept, .ref mm_isKept, .ref mm_refused, .int z13, .int z14, .ref mm_stands, .ref mm_far, .ref mm_queue, .int (nI u_mm_9_134), .ref mm_meets, .ref mm_bytes, .int (nI bl), .int (nI ta), .int (nI tl), .int mm_token, .int mm_value, .ref mm_next, .int (nI tk)])), (mm_now, .inl (cy 1, 122, .inl z15)), (mm_refused, .inl (cy 1, 3, .inl mm_refused_f)), (mm_meets, .inl (cy 1, 36, .inl z16)), (mm_stands, .inl (cy 2, 36, .inl z17)), (mm_far, .inl (cy 1, 1152, .inl y_mm_far_134)), (mm_queue, .inl (cy 1, 1152, .inl y_mm_queue_134))]) [3, 4, 0, 5, 6, 1, 2] rfl
                      have hD9 := hD.sub (ws' := [(mm, .inr (11, [.ref mm_now, .ref mm_kept, .ref mm_isKept, .ref mm_refused, .int z13, .int z14, .ref mm_stands, .ref mm_far, .ref mm_queue, .int (nI u_mm_9_134), .ref mm_meets, .ref mm_bytes, .int (nI bl), .int (nI ta), .int (nI tl), .int mm_token, .int mm_value, .ref mm_next, .int (nI tk)])), (mm_now, .inl (cy 1, 122, .inl z15)), (mm_refused, .inl (cy 1, 3, .inl mm_refused_f)), (mm_meets, .inl (cy 1, 36, .inl z16)), (mm_stands, .inl (cy 2, 36, .inl z17)), (mm_far, .inl (cy 1, 1152, .inl y_mm_far_134)), (mm_queue, .inl (cy 1, 1152, .inl y_mm_queue_134))]) [3, 4, 0, 5, 6, 1, 2] (by decide) rfl
                      exact W.iret (v := x38) hx hb hr (fun t ht hW => ⟨⟨x38, (z13, z14, nI u_mm_9_134, z15, mm_refused_f, z16, z17, y_mm_far_134, y_mm_queue_134), rfl, ⟨⟨_, _, _, _, hv18⟩, hv19⟩, by rw [ht]; exact hP9, hD9⟩, hS.F ht⟩) hS.2.2 dX11_parade_168
              exact lp134 (2147483648 - 0 + 1) 0 u_mm_9_131 y_mm_far_131 y_mm_queue_131 (by first | omega | exact nlt_max (by assumption) (by assumption)) hjq0 (Nat.lt_succ_self _) _ _ hP hD hS ls hl
            refine lv_if_eq (tgt := 131) hx hb dX11_parade_92 (by decide) (fun c39 => ?_) (fun c39 => ?_)
            · skip
              exact j131 y_mm_far_49 mm_queue_f 0 quI.zero _ _ hP hD hS ls hl
            · skip
              refine lv_aload_n hx hb dX11_parade_95 rfl (lv_at hl 2 rfl) ?_
              refine va_get (D := D) (ci := 11) (v := .ref mm_queue) (C := RX11) (T := TX11) (N := 19) hx hb hts zi11_ hown hK hP 3 rfl rfl 8 (by decide) z5_ (fun _ h9 => h9) rfl dX11_parade_96 ?_
              refine lv_iconst (v := 0) hx hb dX11_parade_99 (by decide) ?_
              refine lv_bipush (v := 32) hx hb dX11_parade_100 (by decide) ?_
              refine lv_iload hx hb dX11_parade_102 (lv_at hl 0 rfl) ?_
              refine lv_imul hx hb dX11_parade_104 ?_
              refine lv_topi (fun x40 ex40 => ?_)
              obtain rfl : x40 = nI (32 * ja) := by rw [ex40]; exact pk_mul _ _
              refine lv_aload_n hx hb dX11_parade_105 rfl (lv_at hl 2 rfl) ?_
              refine va_get (D := D) (ci := 11) (v := .ref mm_meets) (C := RX11) (T := TX11) (N := 19) hx hb hts zi11_ hown hK hP 3 rfl rfl 10 (by decide) z6_ (fun _ h9 => h9) rfl dX11_parade_106 ?_
              refine lv_iload hx hb dX11_parade_109 (lv_at hl 0 rfl) ?_
              refine my_iald hx hb hK hP 5 1 rfl rfl (by first | exact in_ge (N := 36) (by decide) (by omega) (by assumption) | exact vp_in_nI (by omega) (by omega)) (nI_clamp (by omega)) dX11_parade_111 ?_
              obtain ⟨jm, ejm, hjm⟩ := hv19 ja (by omega)
              refine W.eq (g2 := F0 m 112 ls [.int (nI jm), .int (nI (32 * ja)), .int 0, .ref mm_queue]) (congrArg (fun v9 : Int32 => F0 m 112 ls [.int v9, .int (nI (32 * ja)), .int 0, .ref mm_queue]) ejm) ?_
              refine lv_iadd hx hb dX11_parade_112 ?_
              refine lv_topi (fun x41 ex41 => ?_)
              obtain rfl : x41 = nI ((32 * ja) + jm) := by rw [ex41]; exact nI_add _ _
              refine my_iast hx hb hK hP hD hS 2 1 rfl rfl (by rw [vp_in_iff]; decide +kernel) (k := 0) (by decide +kernel) dX11_parade_113 (fun H locs hP hD hS => ?_)
              have hP : va_P D vwCl [(mm_refused, .inl (cy 1, 3, .inl mm_refused_f)), (mm_far, .inl (cy 1, 1152, .inl y_mm_far_49)), (mm_queue, .inl (cy 1, 1152, .inl (upd mm_queue_f 0 (nI ((32 * ja) + jm))))), (mm, .inr (11, [.ref mm_now, .ref mm_kept, .ref mm_isKept, .ref mm_refused, .int z13, .int z14, .ref mm_stands, .ref mm_far, .ref mm_queue, .int 0, .ref mm_meets, .ref mm_bytes, .int (nI bl), .int (nI ta), .int (nI tl), .int mm_token, .int mm_value, .ref mm_next, .int (nI tk)])), (mm_now, .inl (cy 1, 122, .inl z15)), (mm_meets, .inl (cy 1, 36, .inl z16)), (mm_stands, .inl (cy 2, 36, .inl z17))] H := hP
              have hD : va_D A [(mm_refused, .inl (cy 1, 3, .inl mm_refused_f)), (mm_far, .inl (cy 1, 1152, .inl y_mm_far_49)), (mm_queue, .inl (cy 1, 1152, .inl (upd mm_queue_f 0 (nI ((32 * ja) + jm))))), (mm, .inr (11, [.ref mm_now, .ref mm_kept, .ref mm_isKept, .ref mm_refused, .int z13, .int z14, .ref mm_stands, .ref mm_far, .ref mm_queue, .int 0, .ref mm_meets, .ref mm_bytes, .int (nI bl), .int (nI ta), .int (nI tl), .int mm_token, .int mm_value, .ref mm_next, .int (nI tk)])), (mm_now, .inl (cy 1, 122, .inl z15)), (mm_meets, .inl (cy 1, 36, .inl z16)), (mm_stands, .inl (cy 2, 36, .inl z17))] := hD
              refine lv_aload_n hx hb dX11_parade_114 rfl (lv_at hl 2 rfl) ?_
              refine va_get (D := D) (ci := 11) (v := .ref mm_far) (C := RX11) (T := TX11) (N := 19) hx hb hts zi11_ hown hK hP 3 rfl rfl 7 (by decide) z0_ (fun _ h9 => h9) rfl dX11_parade_115 ?_
              refine lv_aload_n hx hb dX11_parade_118 rfl (lv_at hl 2 rfl) ?_
              refine va_get (D := D) (ci := 11) (v := .ref mm_queue) (C := RX11) (T := TX11) (N := 19) hx hb hts zi11_ hown hK hP 3 rfl rfl 8 (by decide) z5_ (fun _ h9 => h9) rfl dX11_parade_119 ?_
              refine lv_iconst (v := 0) hx hb dX11_parade_122 (by decide) ?_
              refine my_iald hx hb hK hP 2 1 rfl rfl (by rw [vp_in_iff]; decide +kernel) (k := 0) (by decide +kernel) dX11_parade_123 ?_
              refine W.eq (g2 := F0 m 124 ls [.int (nI (32 * ja + jm)), .ref mm_far]) (congrArg (fun v9 : Int32 => F0 m 124 ls [.int v9, .ref mm_far]) (ur_eq _ _ _)) ?_
              refine lv_iconst (v := 0) hx hb dX11_parade_124 (by decide) ?_
              refine my_iast hx hb hK hP hD hS 1 1 rfl rfl (by first | exact in_ge (N := 1152) (by decide) (by omega) (by assumption) | exact vp_in_nI (by omega) (by omega)) (nI_clamp (by omega)) dX11_parade_125 (fun H locs hP hD hS => ?_)
              have hP : va_P D vwCl [(mm_refused, .inl (cy 1, 3, .inl mm_refused_f)), (mm_far, .inl (cy 1, 1152, .inl (upd y_mm_far_49 (32 * ja + jm) 0))), (mm_queue, .inl (cy 1, 1152, .inl (upd mm_queue_f 0 (nI ((32 * ja) + jm))))), (mm, .inr (11, [.ref mm_now, .ref mm_kept, .ref mm_isKept, .ref mm_refused, .int z13, .int z14, .ref mm_stands, .ref mm_far, .ref mm_queue, .int 0, .ref mm_meets, .ref mm_bytes, .int (nI bl), .int (nI ta), .int (nI tl), .int mm_token, .int mm_value, .ref mm_next, .int (nI tk)])), (mm_now, .inl (cy 1, 122, .inl z15)), (mm_meets, .inl (cy 1, 36, .inl z16)), (mm_stands, .inl (cy 2, 36, .inl z17))] H := hP
              have hD : va_D A [(mm_refused, .inl (cy 1, 3, .inl mm_refused_f)), (mm_far, .inl (cy 1, 1152, .inl (upd y_mm_far_49 (32 * ja + jm) 0))), (mm_queue, .inl (cy 1, 1152, .inl (upd mm_queue_f 0 (nI ((32 * ja) + jm))))), (mm, .inr (11, [.ref mm_now, .ref mm_kept, .ref mm_isKept, .ref mm_refused, .int z13, .int z14, .ref mm_stands, .ref mm_far, .ref mm_queue, .int 0, .ref mm_meets, .ref mm_bytes, .int (nI bl), .int (nI ta), .int (nI tl), .int mm_token, .int mm_value, .ref mm_next, .int (nI tk)])), (mm_now, .inl (cy 1, 122, .inl z15)), (mm_meets, .inl (cy 1, 36, .inl z16)), (mm_stands, .inl (cy 2, 36, .inl z17))] := hD
              refine lv_aload_n hx hb dX11_parade_126 rfl (lv_at hl 2 rfl) ?_
              refine lv_iconst (v := 1) hx hb dX11_parade_127 (by decide) ?_
              refine va_put (D := D) (ci := 11) (v := .int 1) (ty := .int) (C := RX11) (T := TX11) (N := 19) hx hb hts zi11_ tyX11 tyX11_ok nmX11 hown hK hP hD hS 3 rfl rfl 9 (by decide) z3_ (fun _ h9 => h9) rfl (by decide +kernel) rfl rfl (Nat.le_of_ble_eq_true rfl) dX11_parade_128 (fun H locs hP hD hS => ?_)
              have hP : va_P D vwCl [(mm_refused, .inl (cy 1, 3, .inl mm_refused_f)), (mm_far, .inl (cy 1, 1152, .inl (upd y_mm_far_49 (32 * ja + jm) 0))), (mm_queue, .inl (cy 1, 1152, .inl (upd mm_queue_f 0 (nI ((32 * ja) + jm))))), (mm, .inr (11, [.ref mm_now, .ref mm_kept, .ref mm_isKept, .ref mm_refused, .int z13, .int z14, .ref mm_stands, .ref mm_far, .ref mm_queue, .int 1, .ref mm_meets, .ref mm_bytes, .int (nI bl), .int (nI ta), .int (nI tl), .int mm_token, .int mm_value, .ref mm_next, .int (nI tk)])), (mm_now, .inl (cy 1, 122, .inl z15)), (mm_meets, .inl (cy 1, 36, .inl z16)), (mm_stands, .inl (cy 2, 36, .inl z17))] H := hP
              have hD : va_D A [(mm_refused, .inl (cy 1, 3, .inl mm_refused_f)), (mm_far, .inl (cy 1, 1152, .inl (upd y_mm_far_49 (32 * ja + jm) 0))), (mm_queue, .inl (cy 1, 1152, .inl (upd mm_queue_f 0 (nI ((32 * ja) + jm))))), (mm, .inr (11, [.ref mm_now, .ref mm_kept, .ref mm_isKept, .ref mm_refused, .int z13, .int z14, .ref mm_stands, .ref mm_far, .ref mm_queue, .int 1, .ref mm_meets, .ref mm_bytes, .int (nI bl), .int (nI ta), .int (nI tl), .int mm_token, .int mm_value, .ref mm_next, .int (nI tk)])), (mm_now, .inl (cy 1, 122, .inl z15)), (mm_meets, .inl (cy 1, 36, .inl z16)), (mm_stands, .inl (cy 2, 36, .inl z17))] := hD
              exact j131 (upd y_mm_far_49 (32 * ja + jm) 0) (upd mm_queue_f 0 (nI ((32 * ja) + jm))) 1 (quI.one (by omega) rfl rfl) _ _ hP hD hS ls hl
          · skip
            have hk54 := ltN (n := 1152) (x := 1152) (k := v4_49) (by decide) (by assumption) (by assumption)
            refine lv_aload_n hx hb dX11_parade_57 rfl (lv_at hl 2 rfl) ?_
            refine va_get (D := D) (ci := 11) (v := .ref mm_far) (C := RX11) (T := TX11) (N := 19) hx hb hts zi11_ hown hK hP 3 rfl rfl 7 (by decide) z0_ (fun _ h9 => h9) rfl dX11_parade_58 ?_
            refine lv_iload hx hb dX11_parade_61 (lv_at hl 0 rfl) ?_
            refine lv_ldc hx hb hown z2_ dX11_parade_63 ?_
            refine my_iast hx hb hK hP hD hS 1 1 rfl rfl (by first | exact in_ge (N := 1152) (by decide) (by omega) (by assumption) | exact vp_in_nI (by omega) (by omega)) (nI_clamp (by omega)) dX11_parade_65 (fun H locs hP hD hS => ?_)
            have hP : va_P D vwCl [(mm_refused, .inl (cy 1, 3, .inl mm_refused_f)), (mm_far, .inl (cy 1, 1152, .inl (upd y_mm_far_49 v4_49 100000))), (mm_queue, .inl (cy 1, 1152, .inl mm_queue_f)), (mm, .inr (11, [.ref mm_now, .ref mm_kept, .ref mm_isKept, .ref mm_refused, .int z13, .int z14, .ref mm_stands, .ref mm_far, .ref mm_queue, .int mm_queued, .ref mm_meets, .ref mm_bytes, .int (nI bl), .int (nI ta), .int (nI tl), .int mm_token, .int mm_value, .ref mm_next, .int (nI tk)])), (mm_now, .inl (cy 1, 122, .inl z15)), (mm_meets, .inl (cy 1, 36, .inl z16)), (mm_stands, .inl (cy 2, 36, .inl z17))] H := hP
            have hD : va_D A [(mm_refused, .inl (cy 1, 3, .inl mm_refused_f)), (mm_far, .inl (cy 1, 1152, .inl (upd y_mm_far_49 v4_49 100000))), (mm_queue, .inl (cy 1, 1152, .inl mm_queue_f)), (mm, .inr (11, [.ref mm_now, .ref mm_kept, .ref mm_isKept, .ref mm_refused, .int z13, .int z14, .ref mm_stands, .ref mm_far, .ref mm_queue, .int mm_queued, .ref mm_meets, .ref mm_bytes, .int (nI bl), .int (nI ta), .int (nI tl), .int mm_token, .int mm_value, .ref mm_next, .int (nI tk)])), (mm_now, .inl (cy 1, 122, .inl z15)), (mm_meets, .inl (cy 1, 36, .inl z16)), (mm_stands, .inl (cy 2, 36, .inl z17))] := hD
            refine lv_iinc (v := nI (v4_49 + 1)) (lv' := [(4, .int (nI (v4_49 + 1))), (3, .int x21), (0, .ref mm), (1, .int px), (2, .int py)]) hx hb dX11_parade_66 hl (k := 0) rfl (nI_1 _) (by decide) rfl (fun ls hl => ?_)
            refine lv_goto (tgt := 49) hx hb dX11_parade_69 (by decide) ?_
            exact ih49 (v4_49 + 1) (upd y_mm_far_49 v4_49 100000) (by first | omega | exact nlt_max hv4_49 (by assumption)) (by omega) (fun j hj => if q : j = v4_49 then (by subst q; exact ur_eq _ _ _) else (by rw [ur_ne _ _ q]; exact hzz j (by omega))) (by first | omega | (have := nlt_max hv4_49 (by assumption); omega)) _ _ hP hD hS ls hl
      exact lp49 (2147483648 - 0 + 1) 0 mm_far_f (by first | omega | exact nlt_max (by assumption) (by assumption)) (by omega) (fun j hj => absurd hj (Nat.not_lt_zero j)) (Nat.lt_succ_self _) _ _ hP hD hS ls hl
    · skip
      have hq42 := z_b0 hwr7 c8
      refine lv_aload_n hx hb dX11_parade_18 rfl (lv_at hl 0 rfl) ?_
      refine lv_bipush (v := (-2)) hx hb dX11_parade_19 (by decide) ?_
      refine wr_i (wr := [(mm_now, .inl (cy 1, 122, .inl mm_now_f)), (mm_meets, .inl (cy 1, 36, .inl mm_meets_f)), (mm_stands, .inl (cy 2, 36, .inl mm_stands_f)), (mm_far, .inl (cy 1, 1152, .inl mm_far_f)), (mm_queue, .inl (cy 1, 1152, .inl mm_queue_f))]) (va_runV (As := [.int (-2)]) (rest := []) ⟨hx, hb, hml, hown, hts⟩ (n_X11_bad l D cy mm mm_now mm_kept mm_isKept mm_refused mm_lineFrom mm_lineTo mm_stands mm_far mm_queue mm_queued mm_meets mm_bytes bl ta tl mm_token mm_value mm_next tk mm_refused_f (-2) _ ) (cwV 1 hts gX11_parade_X11_bad rfl rfl rfl (by decide +kernel) ⟨Nat.le_of_ble_eq_true rfl, Nat.le_of_ble_eq_true rfl⟩) (pV (ci := 11) (k := 0) hKA (hP.sub (ws' := [(mm, .inr (11, [.ref mm_now, .ref mm_kept, .ref mm_isKept, .ref mm_refused, .int mm_lineFrom, .int mm_lineTo, .ref mm_stands, .ref mm_far, .ref mm_queue, .int mm_queued, .ref mm_meets, .ref mm_bytes, .int (nI bl), .int (nI ta), .int (nI tl), .int mm_token, .int mm_value, .ref mm_next, .int (nI tk)])), (mm_refused, .inl (cy 1, 3, .inl mm_refused_f))]) [0, 2] rfl) (hD.sub (ws' := [(mm, .inr (11, [.ref mm_now, .ref mm_kept, .ref mm_isKept, .ref mm_refused, .int mm_lineFrom, .int mm_lineTo, .ref mm_stands, .ref mm_far, .ref mm_queue, .int mm_queued, .ref mm_meets, .ref mm_bytes, .int (nI bl), .int (nI ta), .int (nI tl), .int mm_token, .int mm_value, .ref mm_next, .int (nI tk)])), (mm_refused, .inl (cy 1, 3, .inl mm_refused_f))]) [0, 2] (by decide) rfl) rfl rfl) rfl rfl hl.1 rfl (lv_room (Nat.le_of_ble_eq_true rfl)) dX11_parade_21 ⟨Nat.le_of_ble_eq_true rfl, Nat.le_of_ble_eq_true rfl⟩) hP hD hS hA [0, 2] [1, 3, 4, 5, 6] rfl rfl (by decide +kernel) (by decide +kernel) (fun r43 ur43 H locs hwr43 hP hD hS => ?_)
      obtain ⟨z44, rfl⟩ : ∃ z, z = ur43 := ⟨_, rfl⟩
      have hP : va_P D vwCl [(mm_now, .inl (cy 1, 122, .inl mm_now_f)), (mm_meets, .inl (cy 1, 36, .inl mm_meets_f)), (mm_stands, .inl (cy 2, 36, .inl mm_stands_f)), (mm_far, .inl (cy 1, 1152, .inl mm_far_f)), (mm_queue, .inl (cy 1, 1152, .inl mm_queue_f)), (mm, .inr (11, [.ref mm_now, .ref mm_kept, .ref mm_isKept, .ref mm_refused, .int mm_lineFrom, .int mm_lineTo, .ref mm_stands, .ref mm_far, .ref mm_queue, .int mm_queued, .ref mm_meets, .ref mm_bytes, .int (nI bl), .int (nI ta), .int (nI tl), .int mm_token, .int mm_value, .ref mm_next, .int (nI tk)])), (mm_refused, .inl (cy 1, 3, .inl z44))] H := hP
      have hD : va_D A [(mm_now, .inl (cy 1, 122, .inl mm_now_f)), (mm_meets, .inl (cy 1, 36, .inl mm_meets_f)), (mm_stands, .inl (cy 2, 36, .inl mm_stands_f)), (mm_far, .inl (cy 1, 1152, .inl mm_far_f)), (mm_queue, .inl (cy 1, 1152, .inl mm_queue_f)), (mm, .inr (11, [.ref mm_now, .ref mm_kept, .ref mm_isKept, .ref mm_refused, .int mm_lineFrom, .int mm_lineTo, .ref mm_stands, .ref mm_far, .ref mm_queue, .int mm_queued, .ref mm_meets, .ref mm_bytes, .int (nI bl), .int (nI ta), .int (nI tl), .int mm_token, .int mm_value, .ref mm_next, .int (nI tk)])), (mm_refused, .inl (cy 1, 3, .inl z44))] := hD
      have hwr43 : r43 = (-2) := hwr43
      subst hwr43
      subst hQF
      have hP9 := hP.sub (ws' := [(mm, .inr (11, [.ref mm_now, .ref mm_kept, .ref mm_isKept, .ref mm_refused, .int mm_lineFrom, .int mm_lineTo, .ref mm_stands, .ref mm_far, .ref mm_queue, .int mm_queued, .ref mm_meets, .ref mm_bytes, .int (nI bl), .int (nI ta), .int (nI tl), .int mm_token, .int mm_value, .ref mm_next, .int (nI tk)])), (mm_now, .inl (cy 1, 122, .inl mm_now_f)), (mm_refused, .inl (cy 1, 3, .inl z44)), (mm_meets, .inl (cy 1, 36, .inl mm_meets_f)), (mm_stands, .inl (cy 2, 36, .inl mm_stands_f)), (mm_far, .inl (cy 1, 1152, .inl mm_far_f)), (mm_queue, .inl (cy 1, 1152, .inl mm_queue_f))]) [5, 0, 6, 1, 2, 3, 4] rfl
      have hD9 := hD.sub (ws' := [(mm, .inr (11, [.ref mm_now, .ref mm_kept, .ref mm_isKept, .ref mm_refused, .int mm_lineFrom, .int mm_lineTo, .ref mm_stands, .ref mm_far, .ref mm_queue, .int mm_queued, .ref mm_meets, .ref mm_bytes, .int (nI bl), .int (nI ta), .int (nI tl), .int mm_token, .int mm_value, .ref mm_next, .int (nI tk)])), (mm_now, .inl (cy 1, 122, .inl mm_now_f)), (mm_refused, .inl (cy 1, 3, .inl z44)), (mm_meets, .inl (cy 1, 36, .inl mm_meets_f)), (mm_stands, .inl (cy 2, 36, .inl mm_stands_f)), (mm_far, .inl (cy 1, 1152, .inl mm_far_f)), (mm_queue, .inl (cy 1, 1152, .inl mm_queue_f))]) [5, 0, 6, 1, 2, 3, 4] (by decide) rfl
      exact W.iret (v := (-2)) hx hb hr (fun t ht hW => ⟨⟨(-2), (mm_lineFrom, mm_lineTo, mm_queued, mm_now_f, z44, mm_meets_f, mm_stands_f, mm_far_f, mm_queue_f), rfl, ⟨⟨_, _, _, _, hF⟩, hme⟩, by rw [ht]; exact hP9, hD9⟩, hS.F ht⟩) hS.2.2 dX11_parade_24
