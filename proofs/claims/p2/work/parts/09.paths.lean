theorem dX6_farOf_0 : decode cX6_farOf 0 = .ok (.iload_n 1, 1) := by decide +kernel
theorem dX6_farOf_1 : decode cX6_farOf 1 = .ok (.ifCond .lt 21, 3) := by decide +kernel
theorem dX6_farOf_22 : decode cX6_farOf 22 = .ok (.iconst (-1), 1) := by decide +kernel
theorem dX6_farOf_23 : decode cX6_farOf 23 = .ok (.ireturn, 1) := by decide +kernel
theorem dX6_farOf_4 : decode cX6_farOf 4 = .ok (.iload_n 1, 1) := by decide +kernel
theorem dX6_farOf_5 : decode cX6_farOf 5 = .ok (.aload_n 0, 1) := by decide +kernel
theorem dX6_farOf_6 : decode cX6_farOf 6 = .ok (.getfield 11, 3) := by decide +kernel
theorem dX6_farOf_9 : decode cX6_farOf 9 = .ok (.arraylength, 1) := by decide +kernel
theorem dX6_farOf_10 : decode cX6_farOf 10 = .ok (.if_icmp .ge 12, 3) := by decide +kernel
theorem dX6_farOf_13 : decode cX6_farOf 13 = .ok (.aload_n 0, 1) := by decide +kernel
theorem dX6_farOf_14 : decode cX6_farOf 14 = .ok (.getfield 11, 3) := by decide +kernel
theorem dX6_farOf_17 : decode cX6_farOf 17 = .ok (.iload_n 1, 1) := by decide +kernel
theorem dX6_farOf_18 : decode cX6_farOf 18 = .ok (.iaload, 1) := by decide +kernel
theorem dX6_farOf_19 : decode cX6_farOf 19 = .ok (.goto 4, 3) := by decide +kernel
theorem dX6_beside_0 : decode cX6_beside 0 = .ok (.aload_n 0, 1) := by decide +kernel
theorem dX6_beside_1 : decode cX6_beside 1 = .ok (.getfield 21, 3) := by decide +kernel
theorem dX6_beside_4 : decode cX6_beside 4 = .ok (.iload_n 1, 1) := by decide +kernel
set_option maxRecDepth 20000 in
theorem ggX6_beside_X3_xOf : GoodIn wsX6_beside wsX3_xOf := goodIn_r _ [7, 8, 19, 20, 21, 22, 23, 24, 25, 26, 27, 28, 29, 30, 31, 32, 33, 34] (by decide +kernel) (by decide +kernel)
set_option maxRecDepth 20000 in
theorem gX6_beside_X3_xOf : GoodIn wsX6_beside (wsV RX6 41 RX3 yX3_xOf wsX3_xOf) := goodIn_app (goodIn_of _ (by decide +kernel)) ggX6_beside_X3_xOf
theorem dX6_beside_5 : decode cX6_beside 5 = .ok (.invokevirtual 41, 3) := by decide +kernel
theorem dX6_beside_8 : decode cX6_beside 8 = .ok (.istore_n 3, 1) := by decide +kernel
theorem dX6_beside_9 : decode cX6_beside 9 = .ok (.iload_n 2, 1) := by decide +kernel
theorem dX6_beside_10 : decode cX6_beside 10 = .ok (.tableswitch 84 0 2 #[26, 51, 63], 26) := by decide +kernel
theorem dX6_beside_36 : decode cX6_beside 36 = .ok (.iload_n 1, 1) := by decide +kernel
theorem dX6_beside_37 : decode cX6_beside 37 = .ok (.aload_n 0, 1) := by decide +kernel
theorem dX6_beside_38 : decode cX6_beside 38 = .ok (.getfield 21, 3) := by decide +kernel
theorem dX6_beside_41 : decode cX6_beside 41 = .ok (.getfield 46, 3) := by decide +kernel
theorem dX6_beside_44 : decode cX6_beside 44 = .ok (.if_icmp .lt 15, 3) := by decide +kernel
theorem dX6_beside_59 : decode cX6_beside 59 = .ok (.iconst (-1), 1) := by decide +kernel
theorem dX6_beside_60 : decode cX6_beside 60 = .ok (.ireturn, 1) := by decide +kernel
theorem dX6_beside_47 : decode cX6_beside 47 = .ok (.iload_n 1, 1) := by decide +kernel
theorem dX6_beside_48 : decode cX6_beside 48 = .ok (.aload_n 0, 1) := by decide +kernel
theorem dX6_beside_49 : decode cX6_beside 49 = .ok (.getfield 21, 3) := by decide +kernel
theorem dX6_beside_52 : decode cX6_beside 52 = .ok (.getfield 46, 3) := by decide +kernel
theorem dX6_beside_55 : decode cX6_beside 55 = .ok (.isub, 1) := by decide +kernel
theorem dX6_beside_56 : decode cX6_beside 56 = .ok (.goto 4, 3) := by decide +kernel
theorem dX6_beside_61 : decode cX6_beside 61 = .ok (.iload_n 3, 1) := by decide +kernel
theorem dX6_beside_62 : decode cX6_beside 62 = .ok (.ifCond .le 9, 3) := by decide +kernel
theorem dX6_beside_71 : decode cX6_beside 71 = .ok (.iconst (-1), 1) := by decide +kernel
theorem dX6_beside_72 : decode cX6_beside 72 = .ok (.ireturn, 1) := by decide +kernel
theorem dX6_beside_65 : decode cX6_beside 65 = .ok (.iload_n 1, 1) := by decide +kernel
theorem dX6_beside_66 : decode cX6_beside 66 = .ok (.iconst 1, 1) := by decide +kernel
theorem dX6_beside_67 : decode cX6_beside 67 = .ok (.isub, 1) := by decide +kernel
theorem dX6_beside_68 : decode cX6_beside 68 = .ok (.goto 4, 3) := by decide +kernel
theorem dX6_beside_73 : decode cX6_beside 73 = .ok (.iload_n 3, 1) := by decide +kernel
theorem dX6_beside_74 : decode cX6_beside 74 = .ok (.aload_n 0, 1) := by decide +kernel
theorem dX6_beside_75 : decode cX6_beside 75 = .ok (.getfield 21, 3) := by decide +kernel
theorem dX6_beside_78 : decode cX6_beside 78 = .ok (.getfield 46, 3) := by decide +kernel
theorem dX6_beside_81 : decode cX6_beside 81 = .ok (.iconst 1, 1) := by decide +kernel
theorem dX6_beside_82 : decode cX6_beside 82 = .ok (.isub, 1) := by decide +kernel
theorem dX6_beside_83 : decode cX6_beside 83 = .ok (.if_icmp .ge 9, 3) := by decide +kernel
theorem dX6_beside_92 : decode cX6_beside 92 = .ok (.iconst (-1), 1) := by decide +kernel
theorem dX6_beside_93 : decode cX6_beside 93 = .ok (.ireturn, 1) := by decide +kernel
theorem dX6_beside_86 : decode cX6_beside 86 = .ok (.iload_n 1, 1) := by decide +kernel
theorem dX6_beside_87 : decode cX6_beside 87 = .ok (.iconst 1, 1) := by decide +kernel
theorem dX6_beside_88 : decode cX6_beside 88 = .ok (.iadd, 1) := by decide +kernel
theorem dX6_beside_89 : decode cX6_beside 89 = .ok (.goto 4, 3) := by decide +kernel
theorem dX6_beside_94 : decode cX6_beside 94 = .ok (.iload_n 1, 1) := by decide +kernel
theorem dX6_beside_95 : decode cX6_beside 95 = .ok (.aload_n 0, 1) := by decide +kernel
theorem dX6_beside_96 : decode cX6_beside 96 = .ok (.getfield 21, 3) := by decide +kernel
theorem dX6_beside_99 : decode cX6_beside 99 = .ok (.getfield 46, 3) := by decide +kernel
theorem dX6_beside_102 : decode cX6_beside 102 = .ok (.iadd, 1) := by decide +kernel
theorem dX6_beside_103 : decode cX6_beside 103 = .ok (.aload_n 0, 1) := by decide +kernel
theorem dX6_beside_104 : decode cX6_beside 104 = .ok (.getfield 21, 3) := by decide +kernel
set_option maxRecDepth 20000 in
theorem ggX6_beside_X3_squareCount : GoodIn wsX6_beside wsX3_squareCount := goodIn_r _ [12, 8, 13, 19, 20, 21, 22, 23, 24, 25, 26, 27, 28, 29, 30, 31, 32, 33, 34] (by decide +kernel) (by decide +kernel)
set_option maxRecDepth 20000 in
theorem gX6_beside_X3_squareCount : GoodIn wsX6_beside (wsV RX6 50 RX3 yX3_squareCount wsX3_squareCount) := goodIn_app (goodIn_of _ (by decide +kernel)) ggX6_beside_X3_squareCount
theorem dX6_beside_107 : decode cX6_beside 107 = .ok (.invokevirtual 50, 3) := by decide +kernel
theorem dX6_beside_110 : decode cX6_beside 110 = .ok (.if_icmp .ge 15, 3) := by decide +kernel
theorem dX6_beside_125 : decode cX6_beside 125 = .ok (.iconst (-1), 1) := by decide +kernel
theorem dX6_beside_126 : decode cX6_beside 126 = .ok (.ireturn, 1) := by decide +kernel
theorem dX6_beside_113 : decode cX6_beside 113 = .ok (.iload_n 1, 1) := by decide +kernel
theorem dX6_beside_114 : decode cX6_beside 114 = .ok (.aload_n 0, 1) := by decide +kernel
theorem dX6_beside_115 : decode cX6_beside 115 = .ok (.getfield 21, 3) := by decide +kernel
theorem dX6_beside_118 : decode cX6_beside 118 = .ok (.getfield 46, 3) := by decide +kernel
theorem dX6_beside_121 : decode cX6_beside 121 = .ok (.iadd, 1) := by decide +kernel
theorem dX6_beside_122 : decode cX6_beside 122 = .ok (.goto 4, 3) := by decide +kernel
theorem dX6_measure_0 : decode cX6_measure 0 = .ok (.iconst 0, 1) := by decide +kernel
theorem dX6_measure_1 : decode cX6_measure 1 = .ok (.istore 4, 2) := by decide +kernel
theorem dX6_measure_3 : decode cX6_measure 3 = .ok (.iload 4, 2) := by decide +kernel
theorem dX6_measure_5 : decode cX6_measure 5 = .ok (.aload_n 0, 1) := by decide +kernel
theorem dX6_measure_6 : decode cX6_measure 6 = .ok (.getfield 11, 3) := by decide +kernel
theorem dX6_measure_9 : decode cX6_measure 9 = .ok (.arraylength, 1) := by decide +kernel
theorem dX6_measure_10 : decode cX6_measure 10 = .ok (.if_icmp .ge 17, 3) := by decide +kernel
theorem dX6_measure_27 : decode cX6_measure 27 = .ok (.iload_n 1, 1) := by decide +kernel
theorem dX6_measure_28 : decode cX6_measure 28 = .ok (.ifCond .lt 20, 3) := by decide +kernel
theorem dX6_measure_48 : decode cX6_measure 48 = .ok (.return_, 1) := by decide +kernel
theorem dX6_measure_31 : decode cX6_measure 31 = .ok (.iload_n 1, 1) := by decide +kernel
theorem dX6_measure_32 : decode cX6_measure 32 = .ok (.aload_n 0, 1) := by decide +kernel
theorem dX6_measure_33 : decode cX6_measure 33 = .ok (.getfield 11, 3) := by decide +kernel
theorem dX6_measure_36 : decode cX6_measure 36 = .ok (.arraylength, 1) := by decide +kernel
theorem dX6_measure_37 : decode cX6_measure 37 = .ok (.if_icmp .ge 11, 3) := by decide +kernel
theorem dX6_measure_40 : decode cX6_measure 40 = .ok (.lload_n 2, 1) := by decide +kernel
theorem dX6_measure_41 : decode cX6_measure 41 = .ok (.iload_n 1, 1) := by decide +kernel
set_option maxRecDepth 20000 in
theorem ggX6_measure_X10_isOn : GoodIn wsX6_measure wsX10_isOn := goodIn_r _ [5] (by decide +kernel) (by decide +kernel)
set_option maxRecDepth 20000 in
theorem gX6_measure_X10_isOn_n54 : GoodIn wsX6_measure (wsX10_isOn) := ggX6_measure_X10_isOn
theorem dX6_measure_42 : decode cX6_measure 42 = .ok (.invokestatic 54, 3) := by decide +kernel
theorem dX6_measure_45 : decode cX6_measure 45 = .ok (.ifCond .ne 4, 3) := by decide +kernel
theorem dX6_measure_49 : decode cX6_measure 49 = .ok (.aload_n 0, 1) := by decide +kernel
theorem dX6_measure_50 : decode cX6_measure 50 = .ok (.getfield 11, 3) := by decide +kernel
theorem dX6_measure_53 : decode cX6_measure 53 = .ok (.iload_n 1, 1) := by decide +kernel
theorem dX6_measure_54 : decode cX6_measure 54 = .ok (.iconst 0, 1) := by decide +kernel
theorem dX6_measure_55 : decode cX6_measure 55 = .ok (.iastore, 1) := by decide +kernel
theorem dX6_measure_56 : decode cX6_measure 56 = .ok (.aload_n 0, 1) := by decide +kernel
theorem dX6_measure_57 : decode cX6_measure 57 = .ok (.getfield 18, 3) := by decide +kernel
theorem dX6_measure_60 : decode cX6_measure 60 = .ok (.iconst 0, 1) := by decide +kernel
theorem dX6_measure_61 : decode cX6_measure 61 = .ok (.iload_n 1, 1) := by decide +kernel
theorem dX6_measure_62 : decode cX6_measure 62 = .ok (.iastore, 1) := by decide +kernel
theorem dX6_measure_63 : decode cX6_measure 63 = .ok (.iconst 1, 1) := by decide +kernel
theorem dX6_measure_64 : decode cX6_measure 64 = .ok (.istore 4, 2) := by decide +kernel
theorem dX6_measure_66 : decode cX6_measure 66 = .ok (.iconst 0, 1) := by decide +kernel
theorem dX6_measure_67 : decode cX6_measure 67 = .ok (.istore 5, 2) := by decide +kernel
theorem dX6_measure_69 : decode cX6_measure 69 = .ok (.iload 5, 2) := by decide +kernel
theorem dX6_measure_71 : decode cX6_measure 71 = .ok (.iload 4, 2) := by decide +kernel
theorem dX6_measure_73 : decode cX6_measure 73 = .ok (.if_icmp .ge 125, 3) := by decide +kernel
theorem dX6_measure_198 : decode cX6_measure 198 = .ok (.return_, 1) := by decide +kernel
theorem dX6_measure_76 : decode cX6_measure 76 = .ok (.iload 5, 2) := by decide +kernel
theorem dX6_measure_78 : decode cX6_measure 78 = .ok (.aload_n 0, 1) := by decide +kernel
theorem dX6_measure_79 : decode cX6_measure 79 = .ok (.getfield 18, 3) := by decide +kernel
theorem dX6_measure_82 : decode cX6_measure 82 = .ok (.arraylength, 1) := by decide +kernel
theorem dX6_measure_83 : decode cX6_measure 83 = .ok (.if_icmp .ge 115, 3) := by decide +kernel
theorem dX6_measure_86 : decode cX6_measure 86 = .ok (.aload_n 0, 1) := by decide +kernel
theorem dX6_measure_87 : decode cX6_measure 87 = .ok (.getfield 18, 3) := by decide +kernel
theorem dX6_measure_90 : decode cX6_measure 90 = .ok (.iload 5, 2) := by decide +kernel
theorem dX6_measure_92 : decode cX6_measure 92 = .ok (.iaload, 1) := by decide +kernel
theorem dX6_measure_93 : decode cX6_measure 93 = .ok (.istore 6, 2) := by decide +kernel
theorem dX6_measure_95 : decode cX6_measure 95 = .ok (.iconst 0, 1) := by decide +kernel
theorem dX6_measure_96 : decode cX6_measure 96 = .ok (.istore 7, 2) := by decide +kernel
theorem dX6_measure_98 : decode cX6_measure 98 = .ok (.iload 7, 2) := by decide +kernel
theorem dX6_measure_100 : decode cX6_measure 100 = .ok (.iconst 4, 1) := by decide +kernel
theorem dX6_measure_101 : decode cX6_measure 101 = .ok (.if_icmp .ge 91, 3) := by decide +kernel
theorem dX6_measure_192 : decode cX6_measure 192 = .ok (.iinc 5 1, 3) := by decide +kernel
theorem dX6_measure_195 : decode cX6_measure 195 = .ok (.goto (-126), 3) := by decide +kernel
theorem dX6_measure_104 : decode cX6_measure 104 = .ok (.aload_n 0, 1) := by decide +kernel
theorem dX6_measure_105 : decode cX6_measure 105 = .ok (.iload 6, 2) := by decide +kernel
theorem dX6_measure_107 : decode cX6_measure 107 = .ok (.iload 7, 2) := by decide +kernel
set_option maxRecDepth 20000 in
theorem ggX6_measure_X6_beside : GoodIn wsX6_measure wsX6_beside := goodIn_r _ [10, 11, 12, 13, 14, 15, 16, 17, 18, 19, 20, 21, 22, 23, 28, 29, 30, 31, 32, 33, 34, 35, 36, 37, 38, 39, 40, 41, 42, 43, 44, 45, 46, 47, 48] (by decide +kernel) (by decide +kernel)
set_option maxRecDepth 20000 in
theorem gX6_measure_X6_beside : GoodIn wsX6_measure (wsV RX6 58 RX6 yX6_beside wsX6_beside) := goodIn_app (goodIn_of _ (by decide +kernel)) ggX6_measure_X6_beside
theorem dX6_measure_109 : decode cX6_measure 109 = .ok (.invokevirtual 58, 3) := by decide +kernel
theorem dX6_measure_112 : decode cX6_measure 112 = .ok (.istore 8, 2) := by decide +kernel
theorem dX6_measure_114 : decode cX6_measure 114 = .ok (.iload 8, 2) := by decide +kernel
theorem dX6_measure_116 : decode cX6_measure 116 = .ok (.ifCond .lt 70, 3) := by decide +kernel
theorem dX6_measure_186 : decode cX6_measure 186 = .ok (.iinc 7 1, 3) := by decide +kernel
theorem dX6_measure_189 : decode cX6_measure 189 = .ok (.goto (-91), 3) := by decide +kernel
theorem dX6_measure_119 : decode cX6_measure 119 = .ok (.iload 8, 2) := by decide +kernel
theorem dX6_measure_121 : decode cX6_measure 121 = .ok (.aload_n 0, 1) := by decide +kernel
theorem dX6_measure_122 : decode cX6_measure 122 = .ok (.getfield 11, 3) := by decide +kernel
theorem dX6_measure_125 : decode cX6_measure 125 = .ok (.arraylength, 1) := by decide +kernel
theorem dX6_measure_126 : decode cX6_measure 126 = .ok (.if_icmp .ge 60, 3) := by decide +kernel
theorem dX6_measure_129 : decode cX6_measure 129 = .ok (.aload_n 0, 1) := by decide +kernel
theorem dX6_measure_130 : decode cX6_measure 130 = .ok (.getfield 11, 3) := by decide +kernel
theorem dX6_measure_133 : decode cX6_measure 133 = .ok (.iload 8, 2) := by decide +kernel
theorem dX6_measure_135 : decode cX6_measure 135 = .ok (.iaload, 1) := by decide +kernel
theorem dX6_measure_136 : decode cX6_measure 136 = .ok (.iconst (-1), 1) := by decide +kernel
theorem dX6_measure_137 : decode cX6_measure 137 = .ok (.if_icmp .ne 49, 3) := by decide +kernel
theorem dX6_measure_140 : decode cX6_measure 140 = .ok (.lload_n 2, 1) := by decide +kernel
theorem dX6_measure_141 : decode cX6_measure 141 = .ok (.iload 8, 2) := by decide +kernel
theorem dX6_measure_143 : decode cX6_measure 143 = .ok (.invokestatic 54, 3) := by decide +kernel
theorem dX6_measure_146 : decode cX6_measure 146 = .ok (.ifCond .eq 40, 3) := by decide +kernel
theorem dX6_measure_149 : decode cX6_measure 149 = .ok (.iload 4, 2) := by decide +kernel
theorem dX6_measure_151 : decode cX6_measure 151 = .ok (.aload_n 0, 1) := by decide +kernel
theorem dX6_measure_152 : decode cX6_measure 152 = .ok (.getfield 18, 3) := by decide +kernel
theorem dX6_measure_155 : decode cX6_measure 155 = .ok (.arraylength, 1) := by decide +kernel
theorem dX6_measure_156 : decode cX6_measure 156 = .ok (.if_icmp .ge 30, 3) := by decide +kernel
theorem dX6_measure_159 : decode cX6_measure 159 = .ok (.aload_n 0, 1) := by decide +kernel
theorem dX6_measure_160 : decode cX6_measure 160 = .ok (.getfield 11, 3) := by decide +kernel
theorem dX6_measure_163 : decode cX6_measure 163 = .ok (.iload 8, 2) := by decide +kernel
theorem dX6_measure_165 : decode cX6_measure 165 = .ok (.aload_n 0, 1) := by decide +kernel
theorem dX6_measure_166 : decode cX6_measure 166 = .ok (.iload 6, 2) := by decide +kernel
set_option maxRecDepth 20000 in
theorem ggX6_measure_X6_farOf : GoodIn wsX6_measure wsX6_farOf := goodIn_r _ [27, 1, 28, 29, 30, 31, 32] (by decide +kernel) (by decide +kernel)
set_option maxRecDepth 20000 in
theorem gX6_measure_X6_farOf : GoodIn wsX6_measure (wsV RX6 33 RX6 yX6_farOf wsX6_farOf) := goodIn_app (goodIn_of _ (by decide +kernel)) ggX6_measure_X6_farOf
theorem dX6_measure_168 : decode cX6_measure 168 = .ok (.invokevirtual 33, 3) := by decide +kernel
theorem dX6_measure_171 : decode cX6_measure 171 = .ok (.iconst 1, 1) := by decide +kernel
theorem dX6_measure_172 : decode cX6_measure 172 = .ok (.iadd, 1) := by decide +kernel
theorem dX6_measure_173 : decode cX6_measure 173 = .ok (.iastore, 1) := by decide +kernel
theorem dX6_measure_174 : decode cX6_measure 174 = .ok (.aload_n 0, 1) := by decide +kernel
theorem dX6_measure_175 : decode cX6_measure 175 = .ok (.getfield 18, 3) := by decide +kernel
theorem dX6_measure_178 : decode cX6_measure 178 = .ok (.iload 4, 2) := by decide +kernel
theorem dX6_measure_180 : decode cX6_measure 180 = .ok (.iinc 4 1, 3) := by decide +kernel
theorem dX6_measure_183 : decode cX6_measure 183 = .ok (.iload 8, 2) := by decide +kernel
theorem dX6_measure_185 : decode cX6_measure 185 = .ok (.iastore, 1) := by decide +kernel
theorem dX6_measure_13 : decode cX6_measure 13 = .ok (.aload_n 0, 1) := by decide +kernel
theorem dX6_measure_14 : decode cX6_measure 14 = .ok (.getfield 11, 3) := by decide +kernel
theorem dX6_measure_17 : decode cX6_measure 17 = .ok (.iload 4, 2) := by decide +kernel
theorem dX6_measure_19 : decode cX6_measure 19 = .ok (.iconst (-1), 1) := by decide +kernel
theorem dX6_measure_20 : decode cX6_measure 20 = .ok (.iastore, 1) := by decide +kernel
theorem dX6_measure_21 : decode cX6_measure 21 = .ok (.iinc 4 1, 3) := by decide +kernel
theorem dX6_measure_24 : decode cX6_measure 24 = .ok (.goto (-21), 3) := by decide +kernel
theorem dX6_nearer_0 : decode cX6_nearer 0 = .ok (.iconst 0, 1) := by decide +kernel
theorem dX6_nearer_1 : decode cX6_nearer 1 = .ok (.istore_n 2, 1) := by decide +kernel
theorem dX6_nearer_2 : decode cX6_nearer 2 = .ok (.iload_n 2, 1) := by decide +kernel
theorem dX6_nearer_3 : decode cX6_nearer 3 = .ok (.iconst 4, 1) := by decide +kernel
theorem dX6_nearer_4 : decode cX6_nearer 4 = .ok (.if_icmp .ge 45, 3) := by decide +kernel
theorem dX6_nearer_49 : decode cX6_nearer 49 = .ok (.iload_n 1, 1) := by decide +kernel
theorem dX6_nearer_50 : decode cX6_nearer 50 = .ok (.ireturn, 1) := by decide +kernel
theorem dX6_nearer_7 : decode cX6_nearer 7 = .ok (.aload_n 0, 1) := by decide +kernel
theorem dX6_nearer_8 : decode cX6_nearer 8 = .ok (.iload_n 1, 1) := by decide +kernel
theorem dX6_nearer_9 : decode cX6_nearer 9 = .ok (.iload_n 2, 1) := by decide +kernel
set_option maxRecDepth 20000 in
theorem ggX6_nearer_X6_beside : GoodIn wsX6_nearer wsX6_beside := goodIn_r _ [5, 6, 7, 8, 9, 10, 11, 12, 13, 14, 15, 16, 17, 18, 24, 25, 26, 27, 28, 29, 30, 31, 32, 33, 34, 35, 36, 37, 38, 39, 40, 41, 42, 43, 44] (by decide +kernel) (by decide +kernel)
set_option maxRecDepth 20000 in
theorem gX6_nearer_X6_beside : GoodIn wsX6_nearer (wsV RX6 58 RX6 yX6_beside wsX6_beside) := goodIn_app (goodIn_of _ (by decide +kernel)) ggX6_nearer_X6_beside
theorem dX6_nearer_10 : decode cX6_nearer 10 = .ok (.invokevirtual 58, 3) := by decide +kernel
theorem dX6_nearer_13 : decode cX6_nearer 13 = .ok (.istore_n 3, 1) := by decide +kernel
theorem dX6_nearer_14 : decode cX6_nearer 14 = .ok (.iload_n 3, 1) := by decide +kernel
theorem dX6_nearer_15 : decode cX6_nearer 15 = .ok (.iconst (-1), 1) := by decide +kernel
theorem dX6_nearer_16 : decode cX6_nearer 16 = .ok (.if_icmp .eq 27, 3) := by decide +kernel
theorem dX6_nearer_43 : decode cX6_nearer 43 = .ok (.iinc 2 1, 3) := by decide +kernel
theorem dX6_nearer_46 : decode cX6_nearer 46 = .ok (.goto (-44), 3) := by decide +kernel
theorem dX6_nearer_19 : decode cX6_nearer 19 = .ok (.aload_n 0, 1) := by decide +kernel
theorem dX6_nearer_20 : decode cX6_nearer 20 = .ok (.iload_n 3, 1) := by decide +kernel
set_option maxRecDepth 20000 in
theorem ggX6_nearer_X6_farOf : GoodIn wsX6_nearer wsX6_farOf := goodIn_r _ [22, 23, 24, 25, 26, 27, 28] (by decide +kernel) (by decide +kernel)
set_option maxRecDepth 20000 in
theorem gX6_nearer_X6_farOf : GoodIn wsX6_nearer (wsV RX6 33 RX6 yX6_farOf wsX6_farOf) := goodIn_app (goodIn_of _ (by decide +kernel)) ggX6_nearer_X6_farOf
theorem dX6_nearer_21 : decode cX6_nearer 21 = .ok (.invokevirtual 33, 3) := by decide +kernel
theorem dX6_nearer_24 : decode cX6_nearer 24 = .ok (.iconst (-1), 1) := by decide +kernel
theorem dX6_nearer_25 : decode cX6_nearer 25 = .ok (.if_icmp .eq 18, 3) := by decide +kernel
theorem dX6_nearer_28 : decode cX6_nearer 28 = .ok (.aload_n 0, 1) := by decide +kernel
theorem dX6_nearer_29 : decode cX6_nearer 29 = .ok (.iload_n 3, 1) := by decide +kernel
theorem dX6_nearer_30 : decode cX6_nearer 30 = .ok (.invokevirtual 33, 3) := by decide +kernel
theorem dX6_nearer_33 : decode cX6_nearer 33 = .ok (.aload_n 0, 1) := by decide +kernel
theorem dX6_nearer_34 : decode cX6_nearer 34 = .ok (.iload_n 1, 1) := by decide +kernel
theorem dX6_nearer_35 : decode cX6_nearer 35 = .ok (.invokevirtual 33, 3) := by decide +kernel
theorem dX6_nearer_38 : decode cX6_nearer 38 = .ok (.if_icmp .ge 5, 3) := by decide +kernel
theorem dX6_nearer_41 : decode cX6_nearer 41 = .ok (.iload_n 3, 1) := by decide +kernel
theorem dX6_nearer_42 : decode cX6_nearer 42 = .ok (.ireturn, 1) := by decide +kernel
theorem dX6_follow_0 : decode cX6_follow 0 = .ok (.iload_n 1, 1) := by decide +kernel
theorem dX6_follow_1 : decode cX6_follow 1 = .ok (.istore_n 3, 1) := by decide +kernel
theorem dX6_follow_2 : decode cX6_follow 2 = .ok (.iconst 0, 1) := by decide +kernel
theorem dX6_follow_3 : decode cX6_follow 3 = .ok (.istore 4, 2) := by decide +kernel
theorem dX6_follow_5 : decode cX6_follow 5 = .ok (.iload 4, 2) := by decide +kernel
theorem dX6_follow_7 : decode cX6_follow 7 = .ok (.iload_n 2, 1) := by decide +kernel
theorem dX6_follow_8 : decode cX6_follow 8 = .ok (.if_icmp .ge 22, 3) := by decide +kernel
theorem dX6_follow_30 : decode cX6_follow 30 = .ok (.iload_n 3, 1) := by decide +kernel
theorem dX6_follow_31 : decode cX6_follow 31 = .ok (.ireturn, 1) := by decide +kernel
theorem dX6_follow_11 : decode cX6_follow 11 = .ok (.iload 4, 2) := by decide +kernel
theorem dX6_follow_13 : decode cX6_follow 13 = .ok (.bipush 36, 2) := by decide +kernel
theorem dX6_follow_15 : decode cX6_follow 15 = .ok (.if_icmp .ge 15, 3) := by decide +kernel
theorem dX6_follow_18 : decode cX6_follow 18 = .ok (.aload_n 0, 1) := by decide +kernel
theorem dX6_follow_19 : decode cX6_follow 19 = .ok (.iload_n 3, 1) := by decide +kernel
set_option maxRecDepth 20000 in
theorem ggX6_follow_X6_nearer : GoodIn wsX6_follow wsX6_nearer := goodIn_r _ [5, 6, 7, 8, 4, 9, 10, 11, 12, 13, 14, 15, 16, 17, 18, 19, 20, 21, 22, 23, 24, 25, 26, 27, 28, 29, 30, 31, 32, 33, 34, 35, 36, 37, 38, 39, 40, 41, 42, 43, 44, 45, 46, 47, 48] (by decide +kernel) (by decide +kernel)
set_option maxRecDepth 20000 in
theorem gX6_follow_X6_nearer : GoodIn wsX6_follow (wsV RX6 61 RX6 yX6_nearer wsX6_nearer) := goodIn_app (goodIn_of _ (by decide +kernel)) ggX6_follow_X6_nearer
theorem dX6_follow_20 : decode cX6_follow 20 = .ok (.invokevirtual 61, 3) := by decide +kernel
theorem dX6_follow_23 : decode cX6_follow 23 = .ok (.istore_n 3, 1) := by decide +kernel
theorem dX6_follow_24 : decode cX6_follow 24 = .ok (.iinc 4 1, 3) := by decide +kernel
theorem dX6_follow_27 : decode cX6_follow 27 = .ok (.goto (-22), 3) := by decide +kernel
theorem dX6_walkTo_0 : decode cX6_walkTo 0 = .ok (.aload_n 0, 1) := by decide +kernel
theorem dX6_walkTo_1 : decode cX6_walkTo 1 = .ok (.iload_n 2, 1) := by decide +kernel
theorem dX6_walkTo_2 : decode cX6_walkTo 2 = .ok (.lload_n 3, 1) := by decide +kernel
set_option maxRecDepth 20000 in
theorem ggX6_walkTo_X6_measure : GoodIn wsX6_walkTo wsX6_measure := goodIn_r _ [5, 6, 7, 8, 9, 10, 11, 12, 13, 4, 14, 15, 16, 17, 18, 19, 20, 21, 22, 23, 24, 25, 26, 27, 28, 29, 30, 31, 40, 41, 42, 43, 44, 45, 46, 47, 48, 49, 50, 51, 52, 53, 54, 55, 56, 57, 58, 59, 60] (by decide +kernel) (by decide +kernel)
set_option maxRecDepth 20000 in
theorem gX6_walkTo_X6_measure : GoodIn wsX6_walkTo (wsV RX6 29 RX6 yX6_measure wsX6_measure) := goodIn_app (goodIn_of _ (by decide +kernel)) ggX6_walkTo_X6_measure
theorem dX6_walkTo_3 : decode cX6_walkTo 3 = .ok (.invokevirtual 29, 3) := by decide +kernel
theorem dX6_walkTo_6 : decode cX6_walkTo 6 = .ok (.aload_n 0, 1) := by decide +kernel
theorem dX6_walkTo_7 : decode cX6_walkTo 7 = .ok (.iload_n 1, 1) := by decide +kernel
set_option maxRecDepth 20000 in
theorem ggX6_walkTo_X6_farOf : GoodIn wsX6_walkTo wsX6_farOf := goodIn_r _ [31, 6, 40, 41, 42, 43, 44] (by decide +kernel) (by decide +kernel)
set_option maxRecDepth 20000 in
theorem gX6_walkTo_X6_farOf : GoodIn wsX6_walkTo (wsV RX6 33 RX6 yX6_farOf wsX6_farOf) := goodIn_app (goodIn_of _ (by decide +kernel)) ggX6_walkTo_X6_farOf
theorem dX6_walkTo_8 : decode cX6_walkTo 8 = .ok (.invokevirtual 33, 3) := by decide +kernel
theorem dX6_walkTo_11 : decode cX6_walkTo 11 = .ok (.istore 6, 2) := by decide +kernel
theorem dX6_walkTo_13 : decode cX6_walkTo 13 = .ok (.iload 6, 2) := by decide +kernel
theorem dX6_walkTo_15 : decode cX6_walkTo 15 = .ok (.iconst (-1), 1) := by decide +kernel
theorem dX6_walkTo_16 : decode cX6_walkTo 16 = .ok (.if_icmp .eq 9, 3) := by decide +kernel
theorem dX6_walkTo_25 : decode cX6_walkTo 25 = .ok (.iload 6, 2) := by decide +kernel
theorem dX6_walkTo_27 : decode cX6_walkTo 27 = .ok (.ireturn, 1) := by decide +kernel
theorem dX6_walkTo_19 : decode cX6_walkTo 19 = .ok (.iload 5, 2) := by decide +kernel
theorem dX6_walkTo_21 : decode cX6_walkTo 21 = .ok (.iconst (-1), 1) := by decide +kernel
theorem dX6_walkTo_22 : decode cX6_walkTo 22 = .ok (.if_icmp .ne 6, 3) := by decide +kernel
theorem dX6_walkTo_28 : decode cX6_walkTo 28 = .ok (.iload 5, 2) := by decide +kernel
theorem dX6_walkTo_30 : decode cX6_walkTo 30 = .ok (.iload 6, 2) := by decide +kernel
theorem dX6_walkTo_32 : decode cX6_walkTo 32 = .ok (.if_icmp .le 8, 3) := by decide +kernel
theorem dX6_walkTo_40 : decode cX6_walkTo 40 = .ok (.aload_n 0, 1) := by decide +kernel
theorem dX6_walkTo_41 : decode cX6_walkTo 41 = .ok (.iload_n 1, 1) := by decide +kernel
theorem dX6_walkTo_42 : decode cX6_walkTo 42 = .ok (.iload 5, 2) := by decide +kernel
set_option maxRecDepth 20000 in
theorem ggX6_walkTo_X6_follow : GoodIn wsX6_walkTo wsX6_follow := goodIn_r _ [35, 36, 37, 38, 4, 39, 11, 12, 13, 14, 15, 16, 17, 18, 19, 20, 21, 22, 23, 24, 25, 26, 27, 28, 29, 30, 31, 6, 40, 41, 42, 43, 44, 45, 46, 47, 48, 49, 50, 51, 52, 53, 54, 55, 56, 57, 58, 59, 60] (by decide +kernel) (by decide +kernel)
set_option maxRecDepth 20000 in
theorem gX6_walkTo_X6_follow : GoodIn wsX6_walkTo (wsV RX6 37 RX6 yX6_follow wsX6_follow) := goodIn_app (goodIn_of _ (by decide +kernel)) ggX6_walkTo_X6_follow
theorem dX6_walkTo_44 : decode cX6_walkTo 44 = .ok (.invokevirtual 37, 3) := by decide +kernel
theorem dX6_walkTo_47 : decode cX6_walkTo 47 = .ok (.ireturn, 1) := by decide +kernel
theorem dX6_walkTo_35 : decode cX6_walkTo 35 = .ok (.bipush (-5), 2) := by decide +kernel
theorem dX6_walkTo_37 : decode cX6_walkTo 37 = .ok (.goto 10, 3) := by decide +kernel
theorem dX6_reach_0 : decode cX6_reach 0 = .ok (.iload_n 1, 1) := by decide +kernel
theorem dX6_reach_1 : decode cX6_reach 1 = .ok (.iconst (-1), 1) := by decide +kernel
theorem dX6_reach_2 : decode cX6_reach 2 = .ok (.if_icmp .eq 12, 3) := by decide +kernel
theorem dX6_reach_14 : decode cX6_reach 14 = .ok (.iload 7, 2) := by decide +kernel
theorem dX6_reach_16 : decode cX6_reach 16 = .ok (.ireturn, 1) := by decide +kernel
theorem dX6_reach_5 : decode cX6_reach 5 = .ok (.lload 4, 2) := by decide +kernel
theorem dX6_reach_7 : decode cX6_reach 7 = .ok (.iload_n 1, 1) := by decide +kernel
set_option maxRecDepth 20000 in
theorem ggX6_reach_X10_isOn : GoodIn wsX6_reach wsX10_isOn := goodIn_r _ [6] (by decide +kernel) (by decide +kernel)
set_option maxRecDepth 20000 in
theorem gX6_reach_X10_isOn_n54 : GoodIn wsX6_reach (wsX10_isOn) := ggX6_reach_X10_isOn
theorem dX6_reach_8 : decode cX6_reach 8 = .ok (.invokestatic 54, 3) := by decide +kernel
theorem dX6_reach_11 : decode cX6_reach 11 = .ok (.ifCond .ne 6, 3) := by decide +kernel
theorem dX6_reach_17 : decode cX6_reach 17 = .ok (.iload_n 1, 1) := by decide +kernel
theorem dX6_reach_18 : decode cX6_reach 18 = .ok (.bipush 32, 2) := by decide +kernel
theorem dX6_reach_20 : decode cX6_reach 20 = .ok (.imul, 1) := by decide +kernel
theorem dX6_reach_21 : decode cX6_reach 21 = .ok (.iload_n 2, 1) := by decide +kernel
theorem dX6_reach_22 : decode cX6_reach 22 = .ok (.aload_n 0, 1) := by decide +kernel
theorem dX6_reach_23 : decode cX6_reach 23 = .ok (.getfield 25, 3) := by decide +kernel
theorem dX6_reach_26 : decode cX6_reach 26 = .ok (.iload_n 1, 1) := by decide +kernel
theorem dX6_reach_27 : decode cX6_reach 27 = .ok (.iload_n 3, 1) := by decide +kernel
set_option maxRecDepth 20000 in
theorem ggX6_reach_X4_whoNotice : GoodIn wsX6_reach wsX4_whoNotice := goodIn_r _ [11, 12, 13, 19, 20, 21, 22, 23, 24, 25, 26, 27] (by decide +kernel) (by decide +kernel)
set_option maxRecDepth 20000 in
theorem gX6_reach_X4_whoNotice : GoodIn wsX6_reach (wsV RX6 74 RX4 yX4_whoNotice wsX4_whoNotice) := goodIn_app (goodIn_of _ (by decide +kernel)) ggX6_reach_X4_whoNotice
theorem dX6_reach_28 : decode cX6_reach 28 = .ok (.invokevirtual 74, 3) := by decide +kernel
theorem dX6_reach_31 : decode cX6_reach 31 = .ok (.ior, 1) := by decide +kernel
theorem dX6_reach_32 : decode cX6_reach 32 = .ok (.iadd, 1) := by decide +kernel
theorem dX6_reach_33 : decode cX6_reach 33 = .ok (.istore 8, 2) := by decide +kernel
theorem dX6_reach_35 : decode cX6_reach 35 = .ok (.iload 8, 2) := by decide +kernel
theorem dX6_reach_37 : decode cX6_reach 37 = .ok (.ifCond .lt 35, 3) := by decide +kernel
theorem dX6_reach_72 : decode cX6_reach 72 = .ok (.iload 7, 2) := by decide +kernel
theorem dX6_reach_74 : decode cX6_reach 74 = .ok (.ireturn, 1) := by decide +kernel
theorem dX6_reach_40 : decode cX6_reach 40 = .ok (.iload 8, 2) := by decide +kernel
theorem dX6_reach_42 : decode cX6_reach 42 = .ok (.sipush 1152, 3) := by decide +kernel
theorem dX6_reach_45 : decode cX6_reach 45 = .ok (.if_icmp .ge 27, 3) := by decide +kernel
theorem dX6_reach_48 : decode cX6_reach 48 = .ok (.aload_n 0, 1) := by decide +kernel
theorem dX6_reach_49 : decode cX6_reach 49 = .ok (.getfield 15, 3) := by decide +kernel
theorem dX6_reach_52 : decode cX6_reach 52 = .ok (.iload 8, 2) := by decide +kernel
theorem dX6_reach_54 : decode cX6_reach 54 = .ok (.iaload, 1) := by decide +kernel
theorem dX6_reach_55 : decode cX6_reach 55 = .ok (.iconst (-1), 1) := by decide +kernel
theorem dX6_reach_56 : decode cX6_reach 56 = .ok (.if_icmp .ne 16, 3) := by decide +kernel
theorem dX6_reach_59 : decode cX6_reach 59 = .ok (.iload 7, 2) := by decide +kernel
theorem dX6_reach_61 : decode cX6_reach 61 = .ok (.ifCond .lt 11, 3) := by decide +kernel
theorem dX6_reach_64 : decode cX6_reach 64 = .ok (.iload 7, 2) := by decide +kernel
theorem dX6_reach_66 : decode cX6_reach 66 = .ok (.sipush 1152, 3) := by decide +kernel
theorem dX6_reach_69 : decode cX6_reach 69 = .ok (.if_icmp .lt 6, 3) := by decide +kernel
theorem dX6_reach_75 : decode cX6_reach 75 = .ok (.aload_n 0, 1) := by decide +kernel
theorem dX6_reach_76 : decode cX6_reach 76 = .ok (.getfield 15, 3) := by decide +kernel
theorem dX6_reach_79 : decode cX6_reach 79 = .ok (.iload 8, 2) := by decide +kernel
theorem dX6_reach_81 : decode cX6_reach 81 = .ok (.iload 6, 2) := by decide +kernel
theorem dX6_reach_83 : decode cX6_reach 83 = .ok (.iastore, 1) := by decide +kernel
theorem dX6_reach_84 : decode cX6_reach 84 = .ok (.aload_n 0, 1) := by decide +kernel
theorem dX6_reach_85 : decode cX6_reach 85 = .ok (.getfield 18, 3) := by decide +kernel
theorem dX6_reach_88 : decode cX6_reach 88 = .ok (.iload 7, 2) := by decide +kernel
theorem dX6_reach_90 : decode cX6_reach 90 = .ok (.iload 8, 2) := by decide +kernel
theorem dX6_reach_92 : decode cX6_reach 92 = .ok (.iastore, 1) := by decide +kernel
theorem dX6_reach_93 : decode cX6_reach 93 = .ok (.iload 7, 2) := by decide +kernel
theorem dX6_reach_95 : decode cX6_reach 95 = .ok (.iconst 1, 1) := by decide +kernel
theorem dX6_reach_96 : decode cX6_reach 96 = .ok (.iadd, 1) := by decide +kernel
theorem dX6_reach_97 : decode cX6_reach 97 = .ok (.ireturn, 1) := by decide +kernel
theorem dX6_paradeSteps_0 : decode cX6_paradeSteps 0 = .ok (.aload_n 0, 1) := by decide +kernel
theorem dX6_paradeSteps_1 : decode cX6_paradeSteps 1 = .ok (.getfield 21, 3) := by decide +kernel
theorem dX6_paradeSteps_4 : decode cX6_paradeSteps 4 = .ok (.iload_n 1, 1) := by decide +kernel
set_option maxRecDepth 20000 in
theorem ggX6_paradeSteps_X3_squareOf : GoodIn wsX6_paradeSteps wsX3_squareOf := goodIn_r _ [8, 9, 10, 11, 12, 7, 13, 14, 55, 56, 57, 58, 59, 60, 61, 62, 63, 64, 65, 66, 67, 68, 69, 70] (by decide +kernel) (by decide +kernel)
set_option maxRecDepth 20000 in
theorem gX6_paradeSteps_X3_squareOf : GoodIn wsX6_paradeSteps (wsV RX6 64 RX3 yX3_squareOf wsX3_squareOf) := goodIn_app (goodIn_of _ (by decide +kernel)) ggX6_paradeSteps_X3_squareOf
theorem dX6_paradeSteps_5 : decode cX6_paradeSteps 5 = .ok (.invokevirtual 64, 3) := by decide +kernel
theorem dX6_paradeSteps_8 : decode cX6_paradeSteps 8 = .ok (.istore 5, 2) := by decide +kernel
theorem dX6_paradeSteps_10 : decode cX6_paradeSteps 10 = .ok (.aload_n 0, 1) := by decide +kernel
theorem dX6_paradeSteps_11 : decode cX6_paradeSteps 11 = .ok (.getfield 21, 3) := by decide +kernel
set_option maxRecDepth 20000 in
theorem ggX6_paradeSteps_X3_everybody : GoodIn wsX6_paradeSteps wsX3_everybody := goodIn_r _ [18, 14, 55, 56, 57, 58, 59, 60, 61, 62, 63, 64, 65, 66, 67, 68, 69, 70] (by decide +kernel) (by decide +kernel)
set_option maxRecDepth 20000 in
theorem gX6_paradeSteps_X3_everybody : GoodIn wsX6_paradeSteps (wsV RX6 67 RX3 yX3_everybody wsX3_everybody) := goodIn_app (goodIn_of _ (by decide +kernel)) ggX6_paradeSteps_X3_everybody
theorem dX6_paradeSteps_14 : decode cX6_paradeSteps 14 = .ok (.invokevirtual 67, 3) := by decide +kernel
theorem dX6_paradeSteps_17 : decode cX6_paradeSteps 17 = .ok (.iconst 1, 1) := by decide +kernel
theorem dX6_paradeSteps_18 : decode cX6_paradeSteps 18 = .ok (.iload_n 1, 1) := by decide +kernel
theorem dX6_paradeSteps_19 : decode cX6_paradeSteps 19 = .ok (.ishl, 1) := by decide +kernel
theorem dX6_paradeSteps_20 : decode cX6_paradeSteps 20 = .ok (.iconst (-1), 1) := by decide +kernel
theorem dX6_paradeSteps_21 : decode cX6_paradeSteps 21 = .ok (.ixor, 1) := by decide +kernel
theorem dX6_paradeSteps_22 : decode cX6_paradeSteps 22 = .ok (.iand, 1) := by decide +kernel
theorem dX6_paradeSteps_23 : decode cX6_paradeSteps 23 = .ok (.istore 6, 2) := by decide +kernel
theorem dX6_paradeSteps_25 : decode cX6_paradeSteps 25 = .ok (.iconst 0, 1) := by decide +kernel
theorem dX6_paradeSteps_26 : decode cX6_paradeSteps 26 = .ok (.istore 7, 2) := by decide +kernel
theorem dX6_paradeSteps_28 : decode cX6_paradeSteps 28 = .ok (.iload 7, 2) := by decide +kernel
theorem dX6_paradeSteps_30 : decode cX6_paradeSteps 30 = .ok (.sipush 1152, 3) := by decide +kernel
theorem dX6_paradeSteps_33 : decode cX6_paradeSteps 33 = .ok (.if_icmp .ge 17, 3) := by decide +kernel
theorem dX6_paradeSteps_50 : decode cX6_paradeSteps 50 = .ok (.aload_n 0, 1) := by decide +kernel
theorem dX6_paradeSteps_51 : decode cX6_paradeSteps 51 = .ok (.iload 5, 2) := by decide +kernel
theorem dX6_paradeSteps_53 : decode cX6_paradeSteps 53 = .ok (.iconst 0, 1) := by decide +kernel
theorem dX6_paradeSteps_54 : decode cX6_paradeSteps 54 = .ok (.iload_n 2, 1) := by decide +kernel
theorem dX6_paradeSteps_55 : decode cX6_paradeSteps 55 = .ok (.lload_n 3, 1) := by decide +kernel
theorem dX6_paradeSteps_56 : decode cX6_paradeSteps 56 = .ok (.iconst 0, 1) := by decide +kernel
theorem dX6_paradeSteps_57 : decode cX6_paradeSteps 57 = .ok (.iconst 0, 1) := by decide +kernel
set_option maxRecDepth 20000 in
theorem ggX6_paradeSteps_X6_reach : GoodIn wsX6_paradeSteps wsX6_reach := goodIn_r _ [23, 24, 2, 3, 25, 26, 27, 28, 29, 30, 31, 32, 33, 34, 50, 51, 52, 53, 54, 71, 72, 73, 74, 75, 76, 77, 78, 79] (by decide +kernel) (by decide +kernel)
set_option maxRecDepth 20000 in
theorem gX6_paradeSteps_X6_reach : GoodIn wsX6_paradeSteps (wsV RX6 70 RX6 yX6_reach wsX6_reach) := goodIn_app (goodIn_of _ (by decide +kernel)) ggX6_paradeSteps_X6_reach
theorem dX6_paradeSteps_58 : decode cX6_paradeSteps 58 = .ok (.invokevirtual 70, 3) := by decide +kernel
theorem dX6_paradeSteps_61 : decode cX6_paradeSteps 61 = .ok (.istore 7, 2) := by decide +kernel
theorem dX6_paradeSteps_63 : decode cX6_paradeSteps 63 = .ok (.iconst 0, 1) := by decide +kernel
theorem dX6_paradeSteps_64 : decode cX6_paradeSteps 64 = .ok (.istore 8, 2) := by decide +kernel
theorem dX6_paradeSteps_66 : decode cX6_paradeSteps 66 = .ok (.iload 8, 2) := by decide +kernel
theorem dX6_paradeSteps_68 : decode cX6_paradeSteps 68 = .ok (.iload 7, 2) := by decide +kernel
theorem dX6_paradeSteps_70 : decode cX6_paradeSteps 70 = .ok (.if_icmp .ge 117, 3) := by decide +kernel
theorem dX6_paradeSteps_187 : decode cX6_paradeSteps 187 = .ok (.iconst (-1), 1) := by decide +kernel
theorem dX6_paradeSteps_188 : decode cX6_paradeSteps 188 = .ok (.ireturn, 1) := by decide +kernel
theorem dX6_paradeSteps_73 : decode cX6_paradeSteps 73 = .ok (.iload 8, 2) := by decide +kernel
theorem dX6_paradeSteps_75 : decode cX6_paradeSteps 75 = .ok (.aload_n 0, 1) := by decide +kernel
theorem dX6_paradeSteps_76 : decode cX6_paradeSteps 76 = .ok (.getfield 18, 3) := by decide +kernel
theorem dX6_paradeSteps_79 : decode cX6_paradeSteps 79 = .ok (.arraylength, 1) := by decide +kernel
theorem dX6_paradeSteps_80 : decode cX6_paradeSteps 80 = .ok (.if_icmp .ge 107, 3) := by decide +kernel
theorem dX6_paradeSteps_83 : decode cX6_paradeSteps 83 = .ok (.aload_n 0, 1) := by decide +kernel
theorem dX6_paradeSteps_84 : decode cX6_paradeSteps 84 = .ok (.getfield 18, 3) := by decide +kernel
theorem dX6_paradeSteps_87 : decode cX6_paradeSteps 87 = .ok (.iload 8, 2) := by decide +kernel
theorem dX6_paradeSteps_89 : decode cX6_paradeSteps 89 = .ok (.iaload, 1) := by decide +kernel
theorem dX6_paradeSteps_90 : decode cX6_paradeSteps 90 = .ok (.istore 9, 2) := by decide +kernel
theorem dX6_paradeSteps_92 : decode cX6_paradeSteps 92 = .ok (.iload 9, 2) := by decide +kernel
theorem dX6_paradeSteps_94 : decode cX6_paradeSteps 94 = .ok (.bipush 31, 2) := by decide +kernel
theorem dX6_paradeSteps_96 : decode cX6_paradeSteps 96 = .ok (.iand, 1) := by decide +kernel
theorem dX6_paradeSteps_97 : decode cX6_paradeSteps 97 = .ok (.istore 10, 2) := by decide +kernel
theorem dX6_paradeSteps_99 : decode cX6_paradeSteps 99 = .ok (.iload 9, 2) := by decide +kernel
theorem dX6_paradeSteps_123 : decode cX6_paradeSteps 123 = .ok (.istore 11, 2) := by decide +kernel
theorem dX6_paradeSteps_125 : decode cX6_paradeSteps 125 = .ok (.iload 10, 2) := by decide +kernel
theorem dX6_paradeSteps_127 : decode cX6_paradeSteps 127 = .ok (.iload 6, 2) := by decide +kernel
theorem dX6_paradeSteps_129 : decode cX6_paradeSteps 129 = .ok (.if_icmp .ne 6, 3) := by decide +kernel
theorem dX6_paradeSteps_135 : decode cX6_paradeSteps 135 = .ok (.iconst 0, 1) := by decide +kernel
theorem dX6_paradeSteps_136 : decode cX6_paradeSteps 136 = .ok (.istore 12, 2) := by decide +kernel
theorem dX6_paradeSteps_138 : decode cX6_paradeSteps 138 = .ok (.iload 12, 2) := by decide +kernel
theorem dX6_paradeSteps_140 : decode cX6_paradeSteps 140 = .ok (.iconst 4, 1) := by decide +kernel
theorem dX6_paradeSteps_141 : decode cX6_paradeSteps 141 = .ok (.if_icmp .ge 40, 3) := by decide +kernel
theorem dX6_paradeSteps_181 : decode cX6_paradeSteps 181 = .ok (.iinc 8 1, 3) := by decide +kernel
theorem dX6_paradeSteps_184 : decode cX6_paradeSteps 184 = .ok (.goto (-118), 3) := by decide +kernel
theorem dX6_paradeSteps_144 : decode cX6_paradeSteps 144 = .ok (.aload_n 0, 1) := by decide +kernel
theorem dX6_paradeSteps_145 : decode cX6_paradeSteps 145 = .ok (.iload 9, 2) := by decide +kernel
theorem dX6_paradeSteps_147 : decode cX6_paradeSteps 147 = .ok (.bipush 32, 2) := by decide +kernel
theorem dX6_paradeSteps_149 : decode cX6_paradeSteps 149 = .ok (.idiv, 1) := by decide +kernel
theorem dX6_paradeSteps_150 : decode cX6_paradeSteps 150 = .ok (.iload 12, 2) := by decide +kernel
set_option maxRecDepth 20000 in
theorem ggX6_paradeSteps_X6_beside : GoodIn wsX6_paradeSteps wsX6_beside := goodIn_r _ [38, 1, 39, 40, 41, 42, 7, 43, 44, 45, 46, 47, 48, 49, 50, 51, 52, 53, 54, 55, 56, 57, 58, 59, 60, 61, 62, 63, 64, 65, 66, 67, 68, 69, 70] (by decide +kernel) (by decide +kernel)
set_option maxRecDepth 20000 in
theorem gX6_paradeSteps_X6_beside : GoodIn wsX6_paradeSteps (wsV RX6 58 RX6 yX6_beside wsX6_beside) := goodIn_app (goodIn_of _ (by decide +kernel)) ggX6_paradeSteps_X6_beside
theorem dX6_paradeSteps_152 : decode cX6_paradeSteps 152 = .ok (.invokevirtual 58, 3) := by decide +kernel
theorem dX6_paradeSteps_155 : decode cX6_paradeSteps 155 = .ok (.istore 13, 2) := by decide +kernel
theorem dX6_paradeSteps_157 : decode cX6_paradeSteps 157 = .ok (.aload_n 0, 1) := by decide +kernel
theorem dX6_paradeSteps_158 : decode cX6_paradeSteps 158 = .ok (.iload 13, 2) := by decide +kernel
theorem dX6_paradeSteps_160 : decode cX6_paradeSteps 160 = .ok (.iload 10, 2) := by decide +kernel
theorem dX6_paradeSteps_162 : decode cX6_paradeSteps 162 = .ok (.iload_n 2, 1) := by decide +kernel
theorem dX6_paradeSteps_163 : decode cX6_paradeSteps 163 = .ok (.lload_n 3, 1) := by decide +kernel
theorem dX6_paradeSteps_164 : decode cX6_paradeSteps 164 = .ok (.iload 11, 2) := by decide +kernel
theorem dX6_paradeSteps_166 : decode cX6_paradeSteps 166 = .ok (.iconst 1, 1) := by decide +kernel
theorem dX6_paradeSteps_167 : decode cX6_paradeSteps 167 = .ok (.iadd, 1) := by decide +kernel
theorem dX6_paradeSteps_168 : decode cX6_paradeSteps 168 = .ok (.iload 7, 2) := by decide +kernel
theorem dX6_paradeSteps_170 : decode cX6_paradeSteps 170 = .ok (.invokevirtual 70, 3) := by decide +kernel
theorem dX6_paradeSteps_173 : decode cX6_paradeSteps 173 = .ok (.istore 7, 2) := by decide +kernel
theorem dX6_paradeSteps_175 : decode cX6_paradeSteps 175 = .ok (.iinc 12 1, 3) := by decide +kernel
theorem dX6_paradeSteps_178 : decode cX6_paradeSteps 178 = .ok (.goto (-40), 3) := by decide +kernel
theorem dX6_paradeSteps_132 : decode cX6_paradeSteps 132 = .ok (.iload 11, 2) := by decide +kernel
theorem dX6_paradeSteps_134 : decode cX6_paradeSteps 134 = .ok (.ireturn, 1) := by decide +kernel
theorem dX6_paradeSteps_101 : decode cX6_paradeSteps 101 = .ok (.ifCond .lt 21, 3) := by decide +kernel
theorem dX6_paradeSteps_122 : decode cX6_paradeSteps 122 = .ok (.iconst (-1), 1) := by decide +kernel
theorem dX6_paradeSteps_104 : decode cX6_paradeSteps 104 = .ok (.iload 9, 2) := by decide +kernel
theorem dX6_paradeSteps_106 : decode cX6_paradeSteps 106 = .ok (.sipush 1152, 3) := by decide +kernel
theorem dX6_paradeSteps_109 : decode cX6_paradeSteps 109 = .ok (.if_icmp .ge 13, 3) := by decide +kernel
theorem dX6_paradeSteps_112 : decode cX6_paradeSteps 112 = .ok (.aload_n 0, 1) := by decide +kernel
theorem dX6_paradeSteps_113 : decode cX6_paradeSteps 113 = .ok (.getfield 15, 3) := by decide +kernel
theorem dX6_paradeSteps_116 : decode cX6_paradeSteps 116 = .ok (.iload 9, 2) := by decide +kernel
theorem dX6_paradeSteps_118 : decode cX6_paradeSteps 118 = .ok (.iaload, 1) := by decide +kernel
theorem dX6_paradeSteps_119 : decode cX6_paradeSteps 119 = .ok (.goto 4, 3) := by decide +kernel
theorem dX6_paradeSteps_36 : decode cX6_paradeSteps 36 = .ok (.aload_n 0, 1) := by decide +kernel
theorem dX6_paradeSteps_37 : decode cX6_paradeSteps 37 = .ok (.getfield 15, 3) := by decide +kernel
theorem dX6_paradeSteps_40 : decode cX6_paradeSteps 40 = .ok (.iload 7, 2) := by decide +kernel
theorem dX6_paradeSteps_42 : decode cX6_paradeSteps 42 = .ok (.iconst (-1), 1) := by decide +kernel
theorem dX6_paradeSteps_43 : decode cX6_paradeSteps 43 = .ok (.iastore, 1) := by decide +kernel
theorem dX6_paradeSteps_44 : decode cX6_paradeSteps 44 = .ok (.iinc 7 1, 3) := by decide +kernel
theorem dX6_paradeSteps_47 : decode cX6_paradeSteps 47 = .ok (.goto (-19), 3) := by decide +kernel
set_option maxHeartbeats 4000000 in
set_option maxRecDepth 100000 in
theorem n_X6_farOf (l : Launch) (D : va_G) (cy : Nat → ClassId) (a_pa : Nat) (a_g : Nat) (a_w : Nat) (a_fr : Nat) (a_st : Nat) (a_qu : Nat) (fr_f : Nat → Int32) (px : Int32) (sz : Nat)  : Met l yX6_farOf wsX6_farOf ({ frames := 0, cells := 0, slots := 0, locals := 0 }) (va_Pc [.ref a_pa, .int px] (kPre D cy [(a_pa, .inr (6, [.ref a_g, .ref a_w, .ref a_fr, .ref a_st, .ref a_qu])), (a_fr, .inl (cy 1, 36, .inl fr_f))] sz)) (va_Qi (fun (r : Int32) (u : Unit) => True) (fun _ _ => True) (fun q : Nat => sz ≤ q)) 0 0 (fun q : Nat => sz ≤ q) := by
  refine Met.ofW (cc := cX6_farOf) (maxL := 2) (ret := (some .int)) (by decide) rfl ?_
  intro p e s m args below meth c s₁ B hml hv
  obtain ⟨rfl, hsz, hP, hKA, hD0⟩ := hv
  have hx := B.exec
  have hb := B.bytes
  have hr := B.returns
  have hts := atoms_spec (ws := wsX6_farOf) B.pre
  have hown : s.vm.findClass RX6 = some m.cls := findClass_of_methodNamed B.named
  have hlocks := B.notSynchronized
  subst hsz
  have hK := hKA.1
  have hD := hD0
  generalize hAe : (fun q : Nat => s.heap.size ≤ q) = A
  have hA : ∀ q : Nat, s.heap.size ≤ q → A q := fun q h => by rw [← hAe]; exact h
  have hS : va_S A s.heap s.heap [] := va_S.rf
  have hP : va_P D vwCl [(a_pa, .inr (6, [.ref a_g, .ref a_w, .ref a_fr, .ref a_st, .ref a_qu])), (a_fr, .inl (cy 1, 36, .inl fr_f))] s.heap := hP
  have hl := lv_entry ([.ref a_pa, .int px]) (n := 2) (Nat.le_of_ble_eq_true rfl)
  rw [lg_entry_eq]
  generalize (lg_sl ([.ref a_pa, .int px]) ++ List.replicate (2 - (lg_sl ([.ref a_pa, .int px])).length) Slot.unset).toArray = ls at hl ⊢
  have hl : lv_has ls 2 [(0, .ref a_pa), (1, .int px)] := hl
  refine qW (fun QF hQF => ?_)
  have z0_ := hts (.fieldLink RX6 11 "HeardSeen$Paths" "far" "[I") (by decide +kernel)
  have zi6_ : ∀ w ∈ u_ws RX6 TX6 5, w ∈ wsX6_farOf := by decide +kernel
  refine lv_iload_n hx hb dX6_farOf_0 rfl (lv_at hl 1 rfl) ?_
  refine lv_if_lt (tgt := 22) hx hb dX6_farOf_1 (by decide) (fun c1 => ?_) (fun c1 => ?_)
  · skip
    refine lv_iconst (v := (-1)) hx hb dX6_farOf_22 (by decide) ?_
    subst hQF
    exact W.iret (v := (-1)) hx hb hr (fun t ht hW => ⟨⟨(-1), (), rfl, trivial, trivial⟩, hS.F ht⟩) hS.2.2 dX6_farOf_23
  · skip
    refine lv_iload_n hx hb dX6_farOf_4 rfl (lv_at hl 1 rfl) ?_
    refine lv_aload_n hx hb dX6_farOf_5 rfl (lv_at hl 0 rfl) ?_
    refine va_get (D := D) (ci := 6) (v := .ref a_fr) (C := RX6) (T := TX6) (N := 5) hx hb hts zi6_ hown hK hP 0 rfl rfl 2 (by decide) z0_ (fun _ h9 => h9) rfl dX6_farOf_6 ?_
    refine va_alen hx hb hK hP 1 1 rfl rfl (v := 36) rfl dX6_farOf_9 ?_
    refine lv_icmp_ge (tgt := 22) hx hb dX6_farOf_10 (by decide) (fun c2 => ?_) (fun c2 => ?_)
    · skip
      refine lv_iconst (v := (-1)) hx hb dX6_farOf_22 (by decide) ?_
      subst hQF
      exact W.iret (v := (-1)) hx hb hr (fun t ht hW => ⟨⟨(-1), (), rfl, trivial, trivial⟩, hS.F ht⟩) hS.2.2 dX6_farOf_23
    · skip
      refine lv_aload_n hx hb dX6_farOf_13 rfl (lv_at hl 0 rfl) ?_
      refine va_get (D := D) (ci := 6) (v := .ref a_fr) (C := RX6) (T := TX6) (N := 5) hx hb hts zi6_ hown hK hP 0 rfl rfl 2 (by decide) z0_ (fun _ h9 => h9) rfl dX6_farOf_14 ?_
      refine lv_iload_n hx hb dX6_farOf_17 rfl (lv_at hl 1 rfl) ?_
      refine my_iald hx hb hK hP 1 1 rfl rfl (by first | exact in_x (N := 36) (by decide) (by assumption) (by assumption) | exact in_y (N := 36) (by decide) (by assumption) (by assumption) | exact in_z (N := 36) (by decide) (by assumption) (by assumption)) rfl dX6_farOf_18 ?_
      refine lv_goto (tgt := 23) hx hb dX6_farOf_19 (by decide) ?_
      refine lv_topi (fun x3 ex3 => ?_)
      subst hQF
      exact W.iret (v := x3) hx hb hr (fun t ht hW => ⟨⟨x3, (), rfl, trivial, trivial⟩, hS.F ht⟩) hS.2.2 dX6_farOf_23

set_option maxHeartbeats 4000000 in
set_option maxRecDepth 100000 in
theorem n_X6_beside (l : Launch) (D : va_G) (cy : Nat → ClassId) (a_pa : Nat) (a_g : Nat) (a_w : Nat) (a_fr : Nat) (a_st : Nat) (a_qu : Nat) (g_wide : Int32) (g_high : Int32) (g_drown : Int32) (g_wind : Int32) (g_hedges : Int64) (g_fountains : Int64) (g_people : Int32) (g_tellings : Int32) (g_reports : Int32) (a_g_kinds : Nat) (a_g_squares : Nat) (a_g_voices : Nat) (a_g_tellers : Nat) (a_g_listeners : Nat) (a_g_witnesses : Nat) (a_g_claims : Nat) (px : Int32) (py : Int32) (sz : Nat)  : Met l yX6_beside wsX6_beside ({ frames := 1, cells := 0, slots := 0, locals := 21 }) (va_Pc [.ref a_pa, .int px, .int py] (kPre D cy [(a_pa, .inr (6, [.ref a_g, .ref a_w, .ref a_fr, .ref a_st, .ref a_qu])), (a_g, .inr (3, [.int g_wide, .int g_high, .int g_drown, .int g_wind, .long g_hedges, .long g_fountains, .int g_people, .int g_tellings, .int g_reports, .ref a_g_kinds, .ref a_g_squares, .ref a_g_voices, .ref a_g_tellers, .ref a_g_listeners, .ref a_g_witnesses, .ref a_g_claims]))] sz)) (va_Qi (fun (r : Int32) (u : Unit) => True) (fun _ _ => True) (fun q : Nat => sz ≤ q)) 0 0 (fun q : Nat => sz ≤ q) := by
  refine Met.ofW (cc := cX6_beside) (maxL := 4) (ret := (some .int)) (by decide) rfl ?_
  intro p e s m args below meth c s₁ B hml hv
  obtain ⟨rfl, hsz, hP, hKA, hD0⟩ := hv
  have hx := B.exec
  have hb := B.bytes
  have hr := B.returns
  have hts := atoms_spec (ws := wsX6_beside) B.pre
  have hown : s.vm.findClass RX6 = some m.cls := findClass_of_methodNamed B.named
  have hlocks := B.notSynchronized
  subst hsz
  have hK := hKA.1
  have hD := hD0
  generalize hAe : (fun q : Nat => s.heap.size ≤ q) = A
  have hA : ∀ q : Nat, s.heap.size ≤ q → A q := fun q h => by rw [← hAe]; exact h
  have hS : va_S A s.heap s.heap [] := va_S.rf
  have hP : va_P D vwCl [(a_pa, .inr (6, [.ref a_g, .ref a_w, .ref a_fr, .ref a_st, .ref a_qu])), (a_g, .inr (3, [.int g_wide, .int g_high, .int g_drown, .int g_wind, .long g_hedges, .long g_fountains, .int g_people, .int g_tellings, .int g_reports, .ref a_g_kinds, .ref a_g_squares, .ref a_g_voices, .ref a_g_tellers, .ref a_g_listeners, .ref a_g_witnesses, .ref a_g_claims]))] s.heap := hP
  have hl := lv_entry ([.ref a_pa, .int px, .int py]) (n := 4) (Nat.le_of_ble_eq_true rfl)
  rw [lg_entry_eq]
  generalize (lg_sl ([.ref a_pa, .int px, .int py]) ++ List.replicate (4 - (lg_sl ([.ref a_pa, .int px, .int py])).length) Slot.unset).toArray = ls at hl ⊢
  have hl : lv_has ls 4 [(0, .ref a_pa), (1, .int px), (2, .int py)] := hl
  refine qW (fun QF hQF => ?_)
  have z0_ := hts (.fieldLink RX6 21 "HeardSeen$Paths" "g" "LHeardSeen$Garden;") (by decide +kernel)
  have zi6_ : ∀ w ∈ u_ws RX6 TX6 5, w ∈ wsX6_beside := by decide +kernel
  have z2_ := hts (.fieldLink RX6 46 "HeardSeen$Garden" "wide" "I") (by decide +kernel)
  have zi3_ : ∀ w ∈ u_ws RX3 TX3 16, w ∈ wsX6_beside := by decide +kernel
  refine lv_aload_n hx hb dX6_beside_0 rfl (lv_at hl 0 rfl) ?_
  refine va_get (D := D) (ci := 6) (v := .ref a_g) (C := RX6) (T := TX6) (N := 5) hx hb hts zi6_ hown hK hP 0 rfl rfl 0 (by decide) z0_ (fun _ h9 => h9) rfl dX6_beside_1 ?_
  refine lv_iload_n hx hb dX6_beside_4 rfl (lv_at hl 1 rfl) ?_
  refine rd_i (va_runV (As := [.int px]) (rest := []) ⟨hx, hb, hml, hown, hts⟩ (n_X3_xOf l D cy a_g g_wide g_high g_drown g_wind g_hedges g_fountains g_people g_tellings g_reports a_g_kinds a_g_squares a_g_voices a_g_tellers a_g_listeners a_g_witnesses a_g_claims px _ ) (cwV 1 hts gX6_beside_X3_xOf rfl rfl rfl (by decide +kernel) ⟨Nat.le_of_ble_eq_true rfl, Nat.le_of_ble_eq_true rfl⟩) (pV (ci := 3) (k := 0) hKA (hP.sub (ws' := [(a_g, .inr (3, [.int g_wide, .int g_high, .int g_drown, .int g_wind, .long g_hedges, .long g_fountains, .int g_people, .int g_tellings, .int g_reports, .ref a_g_kinds, .ref a_g_squares, .ref a_g_voices, .ref a_g_tellers, .ref a_g_listeners, .ref a_g_witnesses, .ref a_g_claims]))]) [1] rfl) (hD.sub (ws' := [(a_g, .inr (3, [.int g_wide, .int g_high, .int g_drown, .int g_wind, .long g_hedges, .long g_fountains, .int g_people, .int g_tellings, .int g_reports, .ref a_g_kinds, .ref a_g_squares, .ref a_g_voices, .ref a_g_tellers, .ref a_g_listeners, .ref a_g_witnesses, .ref a_g_claims]))]) [1] (by decide) rfl) rfl rfl) rfl rfl hl.1 rfl (lv_room (Nat.le_of_ble_eq_true rfl)) dX6_beside_5 ⟨Nat.le_of_ble_eq_true rfl, Nat.le_of_ble_eq_true rfl⟩) hP hS hA (fun r1 H locs hwr1 hP hS => ?_)
  have hwr1 : r1.toInt < 2147483647 := hwr1
  refine lv_istore_n (lv' := [(3, .int r1), (0, .ref a_pa), (1, .int px), (2, .int py)]) hx hb dX6_beside_8 rfl hl (by decide) rfl (fun ls hl => ?_)
  refine lv_iload_n hx hb dX6_beside_9 rfl (lv_at hl 3 rfl) ?_
  by_cases c2 : py = 0
  · skip
    refine lv_tableIn (tgt := 36) hx hb dX6_beside_10 (by rw [c2]; decide) (by rw [c2]; decide) (by rw [c2]; rfl) (by decide) ?_
    refine lv_iload_n hx hb dX6_beside_36 rfl (lv_at hl 2 rfl) ?_
    refine lv_aload_n hx hb dX6_beside_37 rfl (lv_at hl 1 rfl) ?_
    refine va_get (D := D) (ci := 6) (v := .ref a_g) (C := RX6) (T := TX6) (N := 5) hx hb hts zi6_ hown hK hP 0 rfl rfl 0 (by decide) z0_ (fun _ h9 => h9) rfl dX6_beside_38 ?_
    refine va_get (D := D) (ci := 3) (v := .int g_wide) (C := RX3) (T := TX3) (N := 16) hx hb hts zi3_ hown hK hP 1 rfl rfl 0 (by decide) z2_ (fun _ h9 => h9) rfl dX6_beside_41 ?_
    refine lv_icmp_lt (tgt := 59) hx hb dX6_beside_44 (by decide) (fun c3 => ?_) (fun c3 => ?_)
    · skip
      refine lv_iconst (v := (-1)) hx hb dX6_beside_59 (by decide) ?_
      subst hQF
      exact W.iret (v := (-1)) hx hb hr (fun t ht hW => ⟨⟨(-1), (), rfl, trivial, trivial⟩, hS.F ht⟩) hS.2.2 dX6_beside_60
    · skip
      refine lv_iload_n hx hb dX6_beside_47 rfl (lv_at hl 2 rfl) ?_
      refine lv_aload_n hx hb dX6_beside_48 rfl (lv_at hl 1 rfl) ?_
      refine va_get (D := D) (ci := 6) (v := .ref a_g) (C := RX6) (T := TX6) (N := 5) hx hb hts zi6_ hown hK hP 0 rfl rfl 0 (by decide) z0_ (fun _ h9 => h9) rfl dX6_beside_49 ?_
      refine va_get (D := D) (ci := 3) (v := .int g_wide) (C := RX3) (T := TX3) (N := 16) hx hb hts zi3_ hown hK hP 1 rfl rfl 0 (by decide) z2_ (fun _ h9 => h9) rfl dX6_beside_52 ?_
      refine lv_isub hx hb dX6_beside_55 ?_
      refine lv_goto (tgt := 60) hx hb dX6_beside_56 (by decide) ?_
      refine lv_topi (fun x4 ex4 => ?_)
      subst hQF
      exact W.iret (v := x4) hx hb hr (fun t ht hW => ⟨⟨x4, (), rfl, trivial, trivial⟩, hS.F ht⟩) hS.2.2 dX6_beside_60
  by_cases c5 : py = 1
  · skip
    refine lv_tableIn (tgt := 61) hx hb dX6_beside_10 (by rw [c5]; decide) (by rw [c5]; decide) (by rw [c5]; rfl) (by decide) ?_
    refine lv_iload_n hx hb dX6_beside_61 rfl (lv_at hl 0 rfl) ?_
    refine lv_if_le (tgt := 71) hx hb dX6_beside_62 (by decide) (fun c6 => ?_) (fun c6 => ?_)
    · skip
      refine lv_iconst (v := (-1)) hx hb dX6_beside_71 (by decide) ?_
      subst hQF
      exact W.iret (v := (-1)) hx hb hr (fun t ht hW => ⟨⟨(-1), (), rfl, trivial, trivial⟩, hS.F ht⟩) hS.2.2 dX6_beside_72
    · skip
      refine lv_iload_n hx hb dX6_beside_65 rfl (lv_at hl 2 rfl) ?_
      refine lv_iconst (v := 1) hx hb dX6_beside_66 (by decide) ?_
      refine lv_isub hx hb dX6_beside_67 ?_
      refine lv_goto (tgt := 72) hx hb dX6_beside_68 (by decide) ?_
      refine lv_topi (fun x7 ex7 => ?_)
      subst hQF
      exact W.iret (v := x7) hx hb hr (fun t ht hW => ⟨⟨x7, (), rfl, trivial, trivial⟩, hS.F ht⟩) hS.2.2 dX6_beside_72
  by_cases c8 : py = 2
  · skip
    refine lv_tableIn (tgt := 73) hx hb dX6_beside_10 (by rw [c8]; decide) (by rw [c8]; decide) (by rw [c8]; rfl) (by decide) ?_
    refine lv_iload_n hx hb dX6_beside_73 rfl (lv_at hl 0 rfl) ?_
    refine lv_aload_n hx hb dX6_beside_74 rfl (lv_at hl 1 rfl) ?_
    refine va_get (D := D) (ci := 6) (v := .ref a_g) (C := RX6) (T := TX6) (N := 5) hx hb hts zi6_ hown hK hP 0 rfl rfl 0 (by decide) z0_ (fun _ h9 => h9) rfl dX6_beside_75 ?_
    refine va_get (D := D) (ci := 3) (v := .int g_wide) (C := RX3) (T := TX3) (N := 16) hx hb hts zi3_ hown hK hP 1 rfl rfl 0 (by decide) z2_ (fun _ h9 => h9) rfl dX6_beside_78 ?_
    refine lv_iconst (v := 1) hx hb dX6_beside_81 (by decide) ?_
    refine lv_isub hx hb dX6_beside_82 ?_
    refine lv_icmp_ge (tgt := 92) hx hb dX6_beside_83 (by decide) (fun c9 => ?_) (fun c9 => ?_)
    · skip
      refine lv_iconst (v := (-1)) hx hb dX6_beside_92 (by decide) ?_
      subst hQF
      exact W.iret (v := (-1)) hx hb hr (fun t ht hW => ⟨⟨(-1), (), rfl, trivial, trivial⟩, hS.F ht⟩) hS.2.2 dX6_beside_93
    · skip
      refine lv_iload_n hx hb dX6_beside_86 rfl (lv_at hl 2 rfl) ?_
      refine lv_iconst (v := 1) hx hb dX6_beside_87 (by decide) ?_
      refine lv_iadd hx hb dX6_beside_88 ?_
      refine lv_goto (tgt := 93) hx hb dX6_beside_89 (by decide) ?_
      refine lv_topi (fun x10 ex10 => ?_)
      subst hQF
      exact W.iret (v := x10) hx hb hr (fun t ht hW => ⟨⟨x10, (), rfl, trivial, trivial⟩, hS.F ht⟩) hS.2.2 dX6_beside_93
  refine lv_tableOut (tgt := 94) hx hb dX6_beside_10 (by have q0 : ¬ py.toInt = 0 := fun h2 => absurd (Int32.toInt_inj.mp (h2.trans (by decide : (0 : Int) = (0 : Int32).toInt))) (by assumption); have q1 : ¬ py.toInt = 1 := fun h2 => absurd (Int32.toInt_inj.mp (h2.trans (by decide : (1 : Int) = (1 : Int32).toInt))) (by assumption); have q2 : ¬ py.toInt = 2 := fun h2 => absurd (Int32.toInt_inj.mp (h2.trans (by decide : (2 : Int) = (2 : Int32).toInt))) (by assumption); omega) (by decide) ?_
  refine lv_iload_n hx hb dX6_beside_94 rfl (lv_at hl 2 rfl) ?_
  refine lv_aload_n hx hb dX6_beside_95 rfl (lv_at hl 1 rfl) ?_
  refine va_get (D := D) (ci := 6) (v := .ref a_g) (C := RX6) (T := TX6) (N := 5) hx hb hts zi6_ hown hK hP 0 rfl rfl 0 (by decide) z0_ (fun _ h9 => h9) rfl dX6_beside_96 ?_
  refine va_get (D := D) (ci := 3) (v := .int g_wide) (C := RX3) (T := TX3) (N := 16) hx hb hts zi3_ hown hK hP 1 rfl rfl 0 (by decide) z2_ (fun _ h9 => h9) rfl dX6_beside_99 ?_
  refine lv_iadd hx hb dX6_beside_102 ?_
  refine lv_aload_n hx hb dX6_beside_103 rfl (lv_at hl 1 rfl) ?_
  refine va_get (D := D) (ci := 6) (v := .ref a_g) (C := RX6) (T := TX6) (N := 5) hx hb hts zi6_ hown hK hP 0 rfl rfl 0 (by decide) z0_ (fun _ h9 => h9) rfl dX6_beside_104 ?_
  refine rd_i (va_runV (As := []) (rest := [.int (px + g_wide)]) ⟨hx, hb, hml, hown, hts⟩ (n_X3_squareCount l D cy a_g g_wide g_high g_drown g_wind g_hedges g_fountains g_people g_tellings g_reports a_g_kinds a_g_squares a_g_voices a_g_tellers a_g_listeners a_g_witnesses a_g_claims _ ) (cwV 0 hts gX6_beside_X3_squareCount rfl rfl rfl (by decide +kernel) ⟨Nat.le_of_ble_eq_true rfl, Nat.le_of_ble_eq_true rfl⟩) (pV (ci := 3) (k := 0) hKA (hP.sub (ws' := [(a_g, .inr (3, [.int g_wide, .int g_high, .int g_drown, .int g_wind, .long g_hedges, .long g_fountains, .int g_people, .int g_tellings, .int g_reports, .ref a_g_kinds, .ref a_g_squares, .ref a_g_voices, .ref a_g_tellers, .ref a_g_listeners, .ref a_g_witnesses, .ref a_g_claims]))]) [1] rfl) (hD.sub (ws' := [(a_g, .inr (3, [.int g_wide, .int g_high, .int g_drown, .int g_wind, .long g_hedges, .long g_fountains, .int g_people, .int g_tellings, .int g_reports, .ref a_g_kinds, .ref a_g_squares, .ref a_g_voices, .ref a_g_tellers, .ref a_g_listeners, .ref a_g_witnesses, .ref a_g_claims]))]) [1] (by decide) rfl) rfl rfl) rfl rfl hl.1 rfl (lv_room (Nat.le_of_ble_eq_true rfl)) dX6_beside_107 ⟨Nat.le_of_ble_eq_true rfl, Nat.le_of_ble_eq_true rfl⟩) hP hS hA (fun r11 H locs hwr11 hP hS => ?_)
  have hwr11 : r11 = g_wide * g_high := hwr11
  subst hwr11
  refine lv_icmp_ge (tgt := 125) hx hb dX6_beside_110 (by decide) (fun c12 => ?_) (fun c12 => ?_)
  · skip
    refine lv_iconst (v := (-1)) hx hb dX6_beside_125 (by decide) ?_
    subst hQF
    exact W.iret (v := (-1)) hx hb hr (fun t ht hW => ⟨⟨(-1), (), rfl, trivial, trivial⟩, hS.F ht⟩) hS.2.2 dX6_beside_126
  · skip
    refine lv_iload_n hx hb dX6_beside_113 rfl (lv_at hl 2 rfl) ?_
    refine lv_aload_n hx hb dX6_beside_114 rfl (lv_at hl 1 rfl) ?_
    refine va_get (D := D) (ci := 6) (v := .ref a_g) (C := RX6) (T := TX6) (N := 5) hx hb hts zi6_ hown hK hP 0 rfl rfl 0 (by decide) z0_ (fun _ h9 => h9) rfl dX6_beside_115 ?_
    refine va_get (D := D) (ci := 3) (v := .int g_wide) (C := RX3) (T := TX3) (N := 16) hx hb hts zi3_ hown hK hP 1 rfl rfl 0 (by decide) z2_ (fun _ h9 => h9) rfl dX6_beside_118 ?_
    refine lv_iadd hx hb dX6_beside_121 ?_
    refine lv_goto (tgt := 126) hx hb dX6_beside_122 (by decide) ?_
    refine lv_topi (fun x13 ex13 => ?_)
    subst hQF
    exact W.iret (v := x13) hx hb hr (fun t ht hW => ⟨⟨x13, (), rfl, trivial, trivial⟩, hS.F ht⟩) hS.2.2 dX6_beside_126

set_option maxHeartbeats 4000000 in
set_option maxRecDepth 100000 in
theorem n_X6_measure (l : Launch) (D : va_G) (cy : Nat → ClassId) (a_pa : Nat) (a_g : Nat) (a_w : Nat) (a_fr : Nat) (a_st : Nat) (a_qu : Nat) (fr_f : Nat → Int32) (qu_f : Nat → Int32) (g_wide : Int32) (g_high : Int32) (g_drown : Int32) (g_wind : Int32) (g_hedges : Int64) (g_fountains : Int64) (g_people : Int32) (g_tellings : Int32) (g_reports : Int32) (a_g_kinds : Nat) (a_g_squares : Nat) (a_g_voices : Nat) (a_g_tellers : Nat) (a_g_listeners : Nat) (a_g_witnesses : Nat) (a_g_claims : Nat) (px : Int32) (py : Int64) (sz : Nat)  : Met l yX6_measure wsX6_measure ({ frames := 2, cells := 0, slots := 0, locals := 44 }) (va_Pc [.ref a_pa, .int px, .long py] (kPre D cy [(a_pa, .inr (6, [.ref a_g, .ref a_w, .ref a_fr, .ref a_st, .ref a_qu])), (a_fr, .inl (cy 1, 36, .inl fr_f)), (a_qu, .inl (cy 1, 1152, .inl qu_f)), (a_g, .inr (3, [.int g_wide, .int g_high, .int g_drown, .int g_wind, .long g_hedges, .long g_fountains, .int g_people, .int g_tellings, .int g_reports, .ref a_g_kinds, .ref a_g_squares, .ref a_g_voices, .ref a_g_tellers, .ref a_g_listeners, .ref a_g_witnesses, .ref a_g_claims]))] sz)) (va_Qv (fun (u : (Nat → Int32) × (Nat → Int32)) => True) (fun (u : (Nat → Int32) × (Nat → Int32)) t => va_P D vwCl ([(a_pa, .inr (6, [.ref a_g, .ref a_w, .ref a_fr, .ref a_st, .ref a_qu])), (a_fr, .inl (cy 1, 36, .inl u.1)), (a_qu, .inl (cy 1, 1152, .inl u.2)), (a_g, .inr (3, [.int g_wide, .int g_high, .int g_drown, .int g_wind, .long g_hedges, .long g_fountains, .int g_people, .int g_tellings, .int g_reports, .ref a_g_kinds, .ref a_g_squares, .ref a_g_voices, .ref a_g_tellers, .ref a_g_listeners, .ref a_g_witnesses, .ref a_g_claims]))]) t.heap ∧ va_D (va_A [(a_pa, .inr (6, [.ref a_g, .ref a_w, .ref a_fr, .ref a_st, .ref a_qu])), (a_fr, .inl (cy 1, 36, .inl fr_f)), (a_qu, .inl (cy 1, 1152, .inl qu_f)), (a_g, .inr (3, [.int g_wide, .int g_high, .int g_drown, .int g_wind, .long g_hedges, .long g_fountains, .int g_people, .int g_tellings, .int g_reports, .ref a_g_kinds, .ref a_g_squares, .ref a_g_voices, .ref a_g_tellers, .ref a_g_listeners, .ref a_g_witnesses, .ref a_g_claims]))] sz) ([(a_pa, .inr (6, [.ref a_g, .ref a_w, .ref a_fr, .ref a_st, .ref a_qu])), (a_fr, .inl (cy 1, 36, .inl u.1)), (a_qu, .inl (cy 1, 1152, .inl u.2)), (a_g, .inr (3, [.int g_wide, .int g_high, .int g_drown, .int g_wind, .long g_hedges, .long g_fountains, .int g_people, .int g_tellings, .int g_reports, .ref a_g_kinds, .ref a_g_squares, .ref a_g_voices, .ref a_g_tellers, .ref a_g_listeners, .ref a_g_witnesses, .ref a_g_claims]))])) (va_A [(a_pa, .inr (6, [.ref a_g, .ref a_w, .ref a_fr, .ref a_st, .ref a_qu])), (a_fr, .inl (cy 1, 36, .inl fr_f)), (a_qu, .inl (cy 1, 1152, .inl qu_f)), (a_g, .inr (3, [.int g_wide, .int g_high, .int g_drown, .int g_wind, .long g_hedges, .long g_fountains, .int g_people, .int g_tellings, .int g_reports, .ref a_g_kinds, .ref a_g_squares, .ref a_g_voices, .ref a_g_tellers, .ref a_g_listeners, .ref a_g_witnesses, .ref a_g_claims]))] sz)) 0 0 (va_A [(a_pa, .inr (6, [.ref a_g, .ref a_w, .ref a_fr, .ref a_st, .ref a_qu])), (a_fr, .inl (cy 1, 36, .inl fr_f)), (a_qu, .inl (cy 1, 1152, .inl qu_f)), (a_g, .inr (3, [.int g_wide, .int g_high, .int g_drown, .int g_wind, .long g_hedges, .long g_fountains, .int g_people, .int g_tellings, .int g_reports, .ref a_g_kinds, .ref a_g_squares, .ref a_g_voices, .ref a_g_tellers, .ref a_g_listeners, .ref a_g_witnesses, .ref a_g_claims]))] sz) := by
  refine Met.ofW (cc := cX6_measure) (maxL := 9) (ret := none) (by decide) rfl ?_
  intro p e s m args below meth c s₁ B hml hv
  obtain ⟨rfl, hsz, hP, hKA, hD0⟩ := hv
  have hx := B.exec
  have hb := B.bytes
  have hr := B.returns
  have hts := atoms_spec (ws := wsX6_measure) B.pre
  have hown : s.vm.findClass RX6 = some m.cls := findClass_of_methodNamed B.named
  have hlocks := B.notSynchronized
  subst hsz
  have hK := hKA.1
  have hD := hD0.self (sz := s.heap.size)
  generalize hAe : va_A [(a_pa, .inr (6, [.ref a_g, .ref a_w, .ref a_fr, .ref a_st, .ref a_qu])), (a_fr, .inl (cy 1, 36, .inl fr_f)), (a_qu, .inl (cy 1, 1152, .inl qu_f)), (a_g, .inr (3, [.int g_wide, .int g_high, .int g_drown, .int g_wind, .long g_hedges, .long g_fountains, .int g_people, .int g_tellings, .int g_reports, .ref a_g_kinds, .ref a_g_squares, .ref a_g_voices, .ref a_g_tellers, .ref a_g_listeners, .ref a_g_witnesses, .ref a_g_claims]))] s.heap.size = A at hD ⊢
  have hA : ∀ q : Nat, s.heap.size ≤ q → A q := fun q h => by rw [← hAe]; exact Or.inr h
  have hS : va_S A s.heap s.heap [] := va_S.rf
  have hP : va_P D vwCl [(a_pa, .inr (6, [.ref a_g, .ref a_w, .ref a_fr, .ref a_st, .ref a_qu])), (a_fr, .inl (cy 1, 36, .inl fr_f)), (a_qu, .inl (cy 1, 1152, .inl qu_f)), (a_g, .inr (3, [.int g_wide, .int g_high, .int g_drown, .int g_wind, .long g_hedges, .long g_fountains, .int g_people, .int g_tellings, .int g_reports, .ref a_g_kinds, .ref a_g_squares, .ref a_g_voices, .ref a_g_tellers, .ref a_g_listeners, .ref a_g_witnesses, .ref a_g_claims]))] s.heap := hP
  have hl := lv_entry ([.ref a_pa, .int px, .long py]) (n := 9) (Nat.le_of_ble_eq_true rfl)
  rw [lg_entry_eq]
  generalize (lg_sl ([.ref a_pa, .int px, .long py]) ++ List.replicate (9 - (lg_sl ([.ref a_pa, .int px, .long py])).length) Slot.unset).toArray = ls at hl ⊢
  have hl : lv_has ls 9 [(0, .ref a_pa), (1, .int px), (2, .long py)] := hl
  refine qW (fun QF hQF => ?_)
  have z0_ := hts (.fieldLink RX6 11 "HeardSeen$Paths" "far" "[I") (by decide +kernel)
  have zi6_ : ∀ w ∈ u_ws RX6 TX6 5, w ∈ wsX6_measure := by decide +kernel
  have z2_ := hts (.initialized RX10) (by decide +kernel)
  have z3_ := hts (.static yX10_isOn) (by decide +kernel)
  have z4_ := hts (.fieldLink RX6 18 "HeardSeen$Paths" "queue" "[I") (by decide +kernel)
  refine lv_iconst (v := 0) hx hb dX6_measure_0 (by decide) ?_
  refine lv_istore (lv' := [(4, .int 0), (0, .ref a_pa), (1, .int px), (2, .long py)]) hx hb dX6_measure_1 hl (by decide) rfl (fun ls hl => ?_)
  have lp3 : ∀ (n3 : Nat) (v4_3 : Nat) (y_fr_3 : Nat → Int32) (hv4_3 : v4_3 < 2147483648), 2147483648 - v4_3 < n3 → ∀ (H : Heap) (locs : List Loc), va_P D vwCl [(a_pa, .inr (6, [.ref a_g, .ref a_w, .ref a_fr, .ref a_st, .ref a_qu])), (a_fr, .inl (cy 1, 36, .inl y_fr_3)), (a_qu, .inl (cy 1, 1152, .inl qu_f)), (a_g, .inr (3, [.int g_wide, .int g_high, .int g_drown, .int g_wind, .long g_hedges, .long g_fountains, .int g_people, .int g_tellings, .int g_reports, .ref a_g_kinds, .ref a_g_squares, .ref a_g_voices, .ref a_g_tellers, .ref a_g_listeners, .ref a_g_witnesses, .ref a_g_claims]))] H → va_D A [(a_pa, .inr (6, [.ref a_g, .ref a_w, .ref a_fr, .ref a_st, .ref a_qu])), (a_fr, .inl (cy 1, 36, .inl y_fr_3)), (a_qu, .inl (cy 1, 1152, .inl qu_f)), (a_g, .inr (3, [.int g_wide, .int g_high, .int g_drown, .int g_wind, .long g_hedges, .long g_fountains, .int g_people, .int g_tellings, .int g_reports, .ref a_g_kinds, .ref a_g_squares, .ref a_g_voices, .ref a_g_tellers, .ref a_g_listeners, .ref a_g_witnesses, .ref a_g_claims]))] → va_S A s.heap H locs → ∀ ls : Array Slot, lv_has ls 9 [(4, .int (nI v4_3)), (0, .ref a_pa), (1, .int px), (2, .long py)] → W p l e (headSpec wsX6_measure ({ frames := 2, cells := 0, slots := 0, locals := 44 })).room s m [.ref a_pa, .int px, .long py].toArray below meth c H locs 0 0 QF (F0 m 3 ls []) := by
    intro n3
    induction n3 with
    | zero => intro v4_3 y_fr_3 hv4_3 hm; exact absurd hm (Nat.not_lt_zero _)
    | succ n3 ih3 =>
      intro v4_3 y_fr_3 hv4_3 hm3 H locs hP hD hS ls hl
      refine lv_iload hx hb dX6_measure_3 (lv_at hl 0 rfl) ?_
      refine lv_aload_n hx hb dX6_measure_5 rfl (lv_at hl 1 rfl) ?_
      refine va_get (D := D) (ci := 6) (v := .ref a_fr) (C := RX6) (T := TX6) (N := 5) hx hb hts zi6_ hown hK hP 0 rfl rfl 2 (by decide) z0_ (fun _ h9 => h9) rfl dX6_measure_6 ?_
      refine va_alen hx hb hK hP 1 1 rfl rfl (v := 36) rfl dX6_measure_9 ?_
      refine lv_icmp_ge (tgt := 27) hx hb dX6_measure_10 (by decide) (fun c1 => ?_) (fun c1 => ?_)
      · skip
        refine lv_iload_n hx hb dX6_measure_27 rfl (lv_at hl 2 rfl) ?_
        refine lv_if_lt (tgt := 48) hx hb dX6_measure_28 (by decide) (fun c2 => ?_) (fun c2 => ?_)
        · skip
          subst hQF
          have hP9 := hP
          have hD9 := hD
          exact W.vret hx hb hr (fun t ht hW => ⟨⟨(y_fr_3, qu_f), rfl, trivial, by rw [ht]; exact hP9, hD9⟩, hS.F ht⟩) hS.2.2 dX6_measure_48
        · skip
          refine lv_iload_n hx hb dX6_measure_31 rfl (lv_at hl 2 rfl) ?_
          refine lv_aload_n hx hb dX6_measure_32 rfl (lv_at hl 1 rfl) ?_
          refine va_get (D := D) (ci := 6) (v := .ref a_fr) (C := RX6) (T := TX6) (N := 5) hx hb hts zi6_ hown hK hP 0 rfl rfl 2 (by decide) z0_ (fun _ h9 => h9) rfl dX6_measure_33 ?_
          refine va_alen hx hb hK hP 1 1 rfl rfl (v := 36) rfl dX6_measure_36 ?_
          refine lv_icmp_ge (tgt := 48) hx hb dX6_measure_37 (by decide) (fun c3 => ?_) (fun c3 => ?_)
          · skip
            subst hQF
            have hP9 := hP
            have hD9 := hD
            exact W.vret hx hb hr (fun t ht hW => ⟨⟨(y_fr_3, qu_f), rfl, trivial, by rw [ht]; exact hP9, hD9⟩, hS.F ht⟩) hS.2.2 dX6_measure_48
          · skip
            refine lv_lload_n hx hb dX6_measure_40 rfl (lv_at hl 3 rfl) ?_
            refine lv_iload_n hx hb dX6_measure_41 rfl (lv_at hl 2 rfl) ?_
            refine rd_i (va_runSN (As := [.long py, .int px]) (rest := []) ⟨hx, hb, hml, hown, hts⟩ (n_X10_isOn l D cy py px _ ) ⟨(va_cnB 2 hts gX6_measure_X10_isOn_n54 rfl rfl rfl (hKA.2 (.methodLinkNest RX6 54 yX10_isOn RX10) (by decide +kernel)) z2_ (by decide +kernel) ⟨Nat.le_of_ble_eq_true rfl, Nat.le_of_ble_eq_true rfl⟩), z3_, trivial⟩ (pS hKA pE (dE (A := A))) rfl rfl hl.1 rfl (lv_room (Nat.le_of_ble_eq_true rfl)) dX6_measure_42 ⟨Nat.le_of_ble_eq_true rfl, Nat.le_of_ble_eq_true rfl⟩) hP hS hA (fun r4 H locs hwr4 hP hS => ?_)
            have hwr4 : (r4 = 1 ∧ True) ∨ (r4 = 0 ∧ True) := hwr4
            refine lv_if_ne (tgt := 49) hx hb dX6_measure_45 (by decide) (fun c5 => ?_) (fun c5 => ?_)
            · skip
              refine lv_aload_n hx hb dX6_measure_49 rfl (lv_at hl 1 rfl) ?_
              refine va_get (D := D) (ci := 6) (v := .ref a_fr) (C := RX6) (T := TX6) (N := 5) hx hb hts zi6_ hown hK hP 0 rfl rfl 2 (by decide) z0_ (fun _ h9 => h9) rfl dX6_measure_50 ?_
              refine lv_iload_n hx hb dX6_measure_53 rfl (lv_at hl 2 rfl) ?_
              refine lv_iconst (v := 0) hx hb dX6_measure_54 (by decide) ?_
              refine my_iast hx hb hK hP hD hS 1 1 rfl rfl (by first | exact in_x (N := 36) (by decide) (by assumption) (by assumption) | exact in_y (N := 36) (by decide) (by assumption) (by assumption) | exact in_z (N := 36) (by decide) (by assumption) (by assumption)) rfl dX6_measure_55 (fun H locs hP hD hS => ?_)
              have hP : va_P D vwCl [(a_pa, .inr (6, [.ref a_g, .ref a_w, .ref a_fr, .ref a_st, .ref a_qu])), (a_fr, .inl (cy 1, 36, .inl (upd y_fr_3 (px : Int32).toNatClampNeg 0))), (a_qu, .inl (cy 1, 1152, .inl qu_f)), (a_g, .inr (3, [.int g_wide, .int g_high, .int g_drown, .int g_wind, .long g_hedges, .long g_fountains, .int g_people, .int g_tellings, .int g_reports, .ref a_g_kinds, .ref a_g_squares, .ref a_g_voices, .ref a_g_tellers, .ref a_g_listeners, .ref a_g_witnesses, .ref a_g_claims]))] H := hP
              have hD : va_D A [(a_pa, .inr (6, [.ref a_g, .ref a_w, .ref a_fr, .ref a_st, .ref a_qu])), (a_fr, .inl (cy 1, 36, .inl (upd y_fr_3 (px : Int32).toNatClampNeg 0))), (a_qu, .inl (cy 1, 1152, .inl qu_f)), (a_g, .inr (3, [.int g_wide, .int g_high, .int g_drown, .int g_wind, .long g_hedges, .long g_fountains, .int g_people, .int g_tellings, .int g_reports, .ref a_g_kinds, .ref a_g_squares, .ref a_g_voices, .ref a_g_tellers, .ref a_g_listeners, .ref a_g_witnesses, .ref a_g_claims]))] := hD
              refine lv_aload_n hx hb dX6_measure_56 rfl (lv_at hl 1 rfl) ?_
              refine va_get (D := D) (ci := 6) (v := .ref a_qu) (C := RX6) (T := TX6) (N := 5) hx hb hts zi6_ hown hK hP 0 rfl rfl 4 (by decide) z4_ (fun _ h9 => h9) rfl dX6_measure_57 ?_
              refine lv_iconst (v := 0) hx hb dX6_measure_60 (by decide) ?_
              refine lv_iload_n hx hb dX6_measure_61 rfl (lv_at hl 2 rfl) ?_
              refine my_iast hx hb hK hP hD hS 2 1 rfl rfl (by rw [vp_in_iff]; decide +kernel) (k := 0) (by decide +kernel) dX6_measure_62 (fun H locs hP hD hS => ?_)
              have hP : va_P D vwCl [(a_pa, .inr (6, [.ref a_g, .ref a_w, .ref a_fr, .ref a_st, .ref a_qu])), (a_fr, .inl (cy 1, 36, .inl (upd y_fr_3 (px : Int32).toNatClampNeg 0))), (a_qu, .inl (cy 1, 1152, .inl (upd qu_f 0 px))), (a_g, .inr (3, [.int g_wide, .int g_high, .int g_drown, .int g_wind, .long g_hedges, .long g_fountains, .int g_people, .int g_tellings, .int g_reports, .ref a_g_kinds, .ref a_g_squares, .ref a_g_voices, .ref a_g_tellers, .ref a_g_listeners, .ref a_g_witnesses, .ref a_g_claims]))] H := hP
              have hD : va_D A [(a_pa, .inr (6, [.ref a_g, .ref a_w, .ref a_fr, .ref a_st, .ref a_qu])), (a_fr, .inl (cy 1, 36, .inl (upd y_fr_3 (px : Int32).toNatClampNeg 0))), (a_qu, .inl (cy 1, 1152, .inl (upd qu_f 0 px))), (a_g, .inr (3, [.int g_wide, .int g_high, .int g_drown, .int g_wind, .long g_hedges, .long g_fountains, .int g_people, .int g_tellings, .int g_reports, .ref a_g_kinds, .ref a_g_squares, .ref a_g_voices, .ref a_g_tellers, .ref a_g_listeners, .ref a_g_witnesses, .ref a_g_claims]))] := hD
              refine lv_iconst (v := 1) hx hb dX6_measure_63 (by decide) ?_
              refine lv_istore (lv' := [(4, .int 1), (0, .ref a_pa), (1, .int px), (2, .long py)]) hx hb dX6_measure_64 hl (by decide) rfl (fun ls hl => ?_)
              refine lv_iconst (v := 0) hx hb dX6_measure_66 (by decide) ?_
              refine lv_istore (lv' := [(5, .int 0), (4, .int 1), (0, .ref a_pa), (1, .int px), (2, .long py)]) hx hb dX6_measure_67 hl (by decide) rfl (fun ls hl => ?_)
              have lp69 : ∀ (n69 : Nat) (v5_69 : Nat) (v4_69 : Nat) (y_fr_69 : Nat → Int32) (y_qu_69 : Nat → Int32) (hv5_69 : v5_69 < 2147483648) (hwt69 : v4_69 ≤ 1152), 2147483648 - v5_69 < n69 → ∀ (H : Heap) (locs : List Loc), va_P D vwCl [(a_pa, .inr (6, [.ref a_g, .ref a_w, .ref a_fr, .ref a_st, .ref a_qu])), (a_fr, .inl (cy 1, 36, .inl y_fr_69)), (a_qu, .inl (cy 1, 1152, .inl y_qu_69)), (a_g, .inr (3, [.int g_wide, .int g_high, .int g_drown, .int g_wind, .long g_hedges, .long g_fountains, .int g_people, .int g_tellings, .int g_reports, .ref a_g_kinds, .ref a_g_squares, .ref a_g_voices, .ref a_g_tellers, .ref a_g_listeners, .ref a_g_witnesses, .ref a_g_claims]))] H → va_D A [(a_pa, .inr (6, [.ref a_g, .ref a_w, .ref a_fr, .ref a_st, .ref a_qu])), (a_fr, .inl (cy 1, 36, .inl y_fr_69)), (a_qu, .inl (cy 1, 1152, .inl y_qu_69)), (a_g, .inr (3, [.int g_wide, .int g_high, .int g_drown, .int g_wind, .long g_hedges, .long g_fountains, .int g_people, .int g_tellings, .int g_reports, .ref a_g_kinds, .ref a_g_squares, .ref a_g_voices, .ref a_g_tellers, .ref a_g_listeners, .ref a_g_witnesses, .ref a_g_claims]))] → va_S A s.heap H locs → ∀ ls : Array Slot, lv_has ls 9 [(5, .int (nI v5_69)), (4, .int (nI v4_69)), (0, .ref a_pa), (1, .int px), (2, .long py)] → W p l e (headSpec wsX6_measure ({ frames := 2, cells := 0, slots := 0, locals := 44 })).room s m [.ref a_pa, .int px, .long py].toArray below meth c H locs 0 0 QF (F0 m 69 ls []) := by
                intro n69
                induction n69 with
                | zero => intro v5_69 v4_69 y_fr_69 y_qu_69 hv5_69 hwt69 hm; exact absurd hm (Nat.not_lt_zero _)
                | succ n69 ih69 =>
                  intro v5_69 v4_69 y_fr_69 y_qu_69 hv5_69 hwt69 hm69 H locs hP hD hS ls hl
                  refine lv_iload hx hb dX6_measure_69 (lv_at hl 0 rfl) ?_
                  refine lv_iload hx hb dX6_measure_71 (lv_at hl 1 rfl) ?_
                  refine lv_icmp_ge (tgt := 198) hx hb dX6_measure_73 (by decide) (fun c6 => ?_) (fun c6 => ?_)
                  · skip
                    subst hQF
                    have hP9 := hP
                    have hD9 := hD
                    exact W.vret hx hb hr (fun t ht hW => ⟨⟨(y_fr_69, y_qu_69), rfl, trivial, by rw [ht]; exact hP9, hD9⟩, hS.F ht⟩) hS.2.2 dX6_measure_198
                  · skip
                    refine lv_iload hx hb dX6_measure_76 (lv_at hl 0 rfl) ?_
                    refine lv_aload_n hx hb dX6_measure_78 rfl (lv_at hl 2 rfl) ?_
                    refine va_get (D := D) (ci := 6) (v := .ref a_qu) (C := RX6) (T := TX6) (N := 5) hx hb hts zi6_ hown hK hP 0 rfl rfl 4 (by decide) z4_ (fun _ h9 => h9) rfl dX6_measure_79 ?_
                    refine va_alen hx hb hK hP 2 1 rfl rfl (v := 1152) rfl dX6_measure_82 ?_
                    refine lv_icmp_ge (tgt := 198) hx hb dX6_measure_83 (by decide) (fun c7 => ?_) (fun c7 => ?_)
                    · skip
                      subst hQF
                      have hP9 := hP
                      have hD9 := hD
                      exact W.vret hx hb hr (fun t ht hW => ⟨⟨(y_fr_69, y_qu_69), rfl, trivial, by rw [ht]; exact hP9, hD9⟩, hS.F ht⟩) hS.2.2 dX6_measure_198
                    · skip
                      refine lv_aload_n hx hb dX6_measure_86 rfl (lv_at hl 2 rfl) ?_
                      refine va_get (D := D) (ci := 6) (v := .ref a_qu) (C := RX6) (T := TX6) (N := 5) hx hb hts zi6_ hown hK hP 0 rfl rfl 4 (by decide) z4_ (fun _ h9 => h9) rfl dX6_measure_87 ?_
                      refine lv_iload hx hb dX6_measure_90 (lv_at hl 0 rfl) ?_
                      refine my_iald hx hb hK hP 2 1 rfl rfl (by first | exact in_ge (N := 1152) (by decide) (by omega) (by assumption) | exact vp_in_nI (by omega) (by omega)) (nI_clamp (by omega)) dX6_measure_92 ?_
                      refine lv_topi (fun x8 ex8 => ?_)
                      refine lv_istore (lv' := [(6, .int x8), (5, .int (nI v5_69)), (4, .int (nI v4_69)), (0, .ref a_pa), (1, .int px), (2, .long py)]) hx hb dX6_measure_93 hl (by decide) rfl (fun ls hl => ?_)
                      refine lv_iconst (v := 0) hx hb dX6_measure_95 (by decide) ?_
                      refine lv_istore (lv' := [(7, .int 0), (6, .int x8), (5, .int (nI v5_69)), (4, .int (nI v4_69)), (0, .ref a_pa), (1, .int px), (2, .long py)]) hx hb dX6_measure_96 hl (by decide) rfl (fun ls hl => ?_)
                      have lp98 : ∀ (n98 : Nat) (v7_98 : Nat) (v4_98 : Nat) (y_fr_98 : Nat → Int32) (y_qu_98 : Nat → Int32) (hv7_98 : v7_98 < 2147483648) (hwt98 : v4_98 ≤ 1152), 2147483648 - v7_98 < n98 → ∀ (H : Heap) (locs : List Loc), va_P D vwCl [(a_pa, .inr (6, [.ref a_g, .ref a_w, .ref a_fr, .ref a_st, .ref a_qu])), (a_fr, .inl (cy 1, 36, .inl y_fr_98)), (a_qu, .inl (cy 1, 1152, .inl y_qu_98)), (a_g, .inr (3, [.int g_wide, .int g_high, .int g_drown, .int g_wind, .long g_hedges, .long g_fountains, .int g_people, .int g_tellings, .int g_reports, .ref a_g_kinds, .ref a_g_squares, .ref a_g_voices, .ref a_g_tellers, .ref a_g_listeners, .ref a_g_witnesses, .ref a_g_claims]))] H → va_D A [(a_pa, .inr (6, [.ref a_g, .ref a_w, .ref a_fr, .ref a_st, .ref a_qu])), (a_fr, .inl (cy 1, 36, .inl y_fr_98)), (a_qu, .inl (cy 1, 1152, .inl y_qu_98)), (a_g, .inr (3, [.int g_wide, .int g_high, .int g_drown, .int g_wind, .long g_hedges, .long g_fountains, .int g_people, .int g_tellings, .int g_reports, .ref a_g_kinds, .ref a_g_squares, .ref a_g_voices, .ref a_g_tellers, .ref a_g_listeners, .ref a_g_witnesses, .ref a_g_claims]))] → va_S A s.heap H locs → ∀ ls : Array Slot, lv_has ls 9 [(7, .int (nI v7_98)), (6, .int x8), (5, .int (nI v5_69)), (4, .int (nI v4_98)), (0, .ref a_pa), (1, .int px), (2, .long py)] → W p l e (headSpec wsX6_measure ({ frames := 2, cells := 0, slots := 0, locals := 44 })).room s m [.ref a_pa, .int px, .long py].toArray below meth c H locs 0 0 QF (F0 m 98 ls []) := by
                        intro n98
                        induction n98 with
                        | zero => intro v7_98 v4_98 y_fr_98 y_qu_98 hv7_98 hwt98 hm; exact absurd hm (Nat.not_lt_zero _)
                        | succ n98 ih98 =>
                          intro v7_98 v4_98 y_fr_98 y_qu_98 hv7_98 hwt98 hm98 H locs hP hD hS ls hl
                          refine lv_iload hx hb dX6_measure_98 (lv_at hl 0 rfl) ?_
                          refine lv_iconst (v := 4) hx hb dX6_measure_100 (by decide) ?_
                          refine lv_icmp_ge (tgt := 192) hx hb dX6_measure_101 (by decide) (fun c9 => ?_) (fun c9 => ?_)
                          · skip
                            refine lv_iinc (v := nI (v5_69 + 1)) (lv' := [(5, .int (nI (v5_69 + 1))), (7, .int (nI v7_98)), (6, .int x8), (4, .int (nI v4_98)), (0, .ref a_pa), (1, .int px), (2, .long py)]) hx hb dX6_measure_192 hl (k := 2) rfl (nI_1 _) (by decide) rfl (fun ls hl => ?_)
                            refine lv_goto (tgt := 69) hx hb dX6_measure_195 (by decide) ?_
                            exact ih69 (v5_69 + 1) v4_98 y_fr_98 y_qu_98 (by first | omega | exact nlt_max hv5_69 (by assumption)) (by first | assumption | omega) (by first | omega | (have := nlt_max hv5_69 (by assumption); omega)) _ _ hP hD hS ls (lv_sub hl [0, 3, 4, 5, 6] rfl)
                          · skip
                            refine lv_aload_n hx hb dX6_measure_104 rfl (lv_at hl 4 rfl) ?_
                            refine lv_iload hx hb dX6_measure_105 (lv_at hl 1 rfl) ?_
                            refine lv_iload hx hb dX6_measure_107 (lv_at hl 0 rfl) ?_
                            refine rd_i (va_runV (As := [.int x8, .int (nI v7_98)]) (rest := []) ⟨hx, hb, hml, hown, hts⟩ (n_X6_beside l D cy a_pa a_g a_w a_fr a_st a_qu g_wide g_high g_drown g_wind g_hedges g_fountains g_people g_tellings g_reports a_g_kinds a_g_squares a_g_voices a_g_tellers a_g_listeners a_g_witnesses a_g_claims x8 (nI v7_98) _ ) (cwV 2 hts gX6_measure_X6_beside rfl rfl rfl (by decide +kernel) ⟨Nat.le_of_ble_eq_true rfl, Nat.le_of_ble_eq_true rfl⟩) (pV (ci := 6) (k := 0) hKA (hP.sub (ws' := [(a_pa, .inr (6, [.ref a_g, .ref a_w, .ref a_fr, .ref a_st, .ref a_qu])), (a_g, .inr (3, [.int g_wide, .int g_high, .int g_drown, .int g_wind, .long g_hedges, .long g_fountains, .int g_people, .int g_tellings, .int g_reports, .ref a_g_kinds, .ref a_g_squares, .ref a_g_voices, .ref a_g_tellers, .ref a_g_listeners, .ref a_g_witnesses, .ref a_g_claims]))]) [0, 3] rfl) (hD.sub (ws' := [(a_pa, .inr (6, [.ref a_g, .ref a_w, .ref a_fr, .ref a_st, .ref a_qu])), (a_g, .inr (3, [.int g_wide, .int g_high, .int g_drown, .int g_wind, .long g_hedges, .long g_fountains, .int g_people, .int g_tellings, .int g_reports, .ref a_g_kinds, .ref a_g_squares, .ref a_g_voices, .ref a_g_tellers, .ref a_g_listeners, .ref a_g_witnesses, .ref a_g_claims]))]) [0, 3] (by decide) rfl) rfl rfl) rfl rfl hl.1 rfl (lv_room (Nat.le_of_ble_eq_true rfl)) dX6_measure_109 ⟨Nat.le_of_ble_eq_true rfl, Nat.le_of_ble_eq_true rfl⟩) hP hS hA (fun r10 H locs hwr10 hP hS => ?_)
                            refine lv_istore (lv' := [(8, .int r10), (7, .int (nI v7_98)), (6, .int x8), (5, .int (nI v5_69)), (4, .int (nI v4_98)), (0, .ref a_pa), (1, .int px), (2, .long py)]) hx hb dX6_measure_112 hl (by decide) rfl (fun ls hl => ?_)
                            refine lv_iload hx hb dX6_measure_114 (lv_at hl 0 rfl) ?_
                            refine lv_if_lt (tgt := 186) hx hb dX6_measure_116 (by decide) (fun c11 => ?_) (fun c11 => ?_)
                            · skip
                              refine lv_iinc (v := nI (v7_98 + 1)) (lv' := [(7, .int (nI (v7_98 + 1))), (8, .int r10), (6, .int x8), (5, .int (nI v5_69)), (4, .int (nI v4_98)), (0, .ref a_pa), (1, .int px), (2, .long py)]) hx hb dX6_measure_186 hl (k := 1) rfl (nI_1 _) (by decide) rfl (fun ls hl => ?_)
                              refine lv_goto (tgt := 98) hx hb dX6_measure_189 (by decide) ?_
                              exact ih98 (v7_98 + 1) v4_98 y_fr_98 y_qu_98 (by first | omega | exact nlt_max hv7_98 (by assumption)) (by first | assumption | omega) (by first | omega | (have := nlt_max hv7_98 (by assumption); omega)) _ _ hP hD hS ls (lv_sub hl [0, 2, 3, 4, 5, 6, 7] rfl)
                            · skip
                              refine lv_iload hx hb dX6_measure_119 (lv_at hl 0 rfl) ?_
                              refine lv_aload_n hx hb dX6_measure_121 rfl (lv_at hl 5 rfl) ?_
                              refine va_get (D := D) (ci := 6) (v := .ref a_fr) (C := RX6) (T := TX6) (N := 5) hx hb hts zi6_ hown hK hP 0 rfl rfl 2 (by decide) z0_ (fun _ h9 => h9) rfl dX6_measure_122 ?_
                              refine va_alen hx hb hK hP 1 1 rfl rfl (v := 36) rfl dX6_measure_125 ?_
                              refine lv_icmp_ge (tgt := 186) hx hb dX6_measure_126 (by decide) (fun c12 => ?_) (fun c12 => ?_)
                              · skip
                                refine lv_iinc (v := nI (v7_98 + 1)) (lv' := [(7, .int (nI (v7_98 + 1))), (8, .int r10), (6, .int x8), (5, .int (nI v5_69)), (4, .int (nI v4_98)), (0, .ref a_pa), (1, .int px), (2, .long py)]) hx hb dX6_measure_186 hl (k := 1) rfl (nI_1 _) (by decide) rfl (fun ls hl => ?_)
                                refine lv_goto (tgt := 98) hx hb dX6_measure_189 (by decide) ?_
                                exact ih98 (v7_98 + 1) v4_98 y_fr_98 y_qu_98 (by first | omega | exact nlt_max hv7_98 (by assumption)) (by first | assumption | omega) (by first | omega | (have := nlt_max hv7_98 (by assumption); omega)) _ _ hP hD hS ls (lv_sub hl [0, 2, 3, 4, 5, 6, 7] rfl)
                              · skip
                                refine lv_aload_n hx hb dX6_measure_129 rfl (lv_at hl 5 rfl) ?_
                                refine va_get (D := D) (ci := 6) (v := .ref a_fr) (C := RX6) (T := TX6) (N := 5) hx hb hts zi6_ hown hK hP 0 rfl rfl 2 (by decide) z0_ (fun _ h9 => h9) rfl dX6_measure_130 ?_
                                refine lv_iload hx hb dX6_measure_133 (lv_at hl 0 rfl) ?_
                                refine my_iald hx hb hK hP 1 1 rfl rfl (by first | exact in_x (N := 36) (by decide) (by assumption) (by assumption) | exact in_y (N := 36) (by decide) (by assumption) (by assumption) | exact in_z (N := 36) (by decide) (by assumption) (by assumption)) rfl dX6_measure_135 ?_
                                refine lv_iconst (v := (-1)) hx hb dX6_measure_136 (by decide) ?_
                                refine lv_icmp_ne (tgt := 186) hx hb dX6_measure_137 (by decide) (fun c13 => ?_) (fun c13 => ?_)
                                · skip
                                  refine lv_iinc (v := nI (v7_98 + 1)) (lv' := [(7, .int (nI (v7_98 + 1))), (8, .int r10), (6, .int x8), (5, .int (nI v5_69)), (4, .int (nI v4_98)), (0, .ref a_pa), (1, .int px), (2, .long py)]) hx hb dX6_measure_186 hl (k := 1) rfl (nI_1 _) (by decide) rfl (fun ls hl => ?_)
                                  refine lv_goto (tgt := 98) hx hb dX6_measure_189 (by decide) ?_
                                  exact ih98 (v7_98 + 1) v4_98 y_fr_98 y_qu_98 (by first | omega | exact nlt_max hv7_98 (by assumption)) (by first | assumption | omega) (by first | omega | (have := nlt_max hv7_98 (by assumption); omega)) _ _ hP hD hS ls (lv_sub hl [0, 2, 3, 4, 5, 6, 7] rfl)
                                · skip
                                  refine lv_lload_n hx hb dX6_measure_140 rfl (lv_at hl 7 rfl) ?_
                                  refine lv_iload hx hb dX6_measure_141 (lv_at hl 0 rfl) ?_
                                  refine rd_i (va_runSN (As := [.long py, .int r10]) (rest := []) ⟨hx, hb, hml, hown, hts⟩ (n_X10_isOn l D cy py r10 _ ) ⟨(va_cnB 2 hts gX6_measure_X10_isOn_n54 rfl rfl rfl (hKA.2 (.methodLinkNest RX6 54 yX10_isOn RX10) (by decide +kernel)) z2_ (by decide +kernel) ⟨Nat.le_of_ble_eq_true rfl, Nat.le_of_ble_eq_true rfl⟩), z3_, trivial⟩ (pS hKA pE (dE (A := A))) rfl rfl hl.1 rfl (lv_room (Nat.le_of_ble_eq_true rfl)) dX6_measure_143 ⟨Nat.le_of_ble_eq_true rfl, Nat.le_of_ble_eq_true rfl⟩) hP hS hA (fun r14 H locs hwr14 hP hS => ?_)
                                  have hwr14 : (r14 = 1 ∧ True) ∨ (r14 = 0 ∧ True) := hwr14
                                  refine lv_if_eq (tgt := 186) hx hb dX6_measure_146 (by decide) (fun c15 => ?_) (fun c15 => ?_)
                                  · skip
                                    refine lv_iinc (v := nI (v7_98 + 1)) (lv' := [(7, .int (nI (v7_98 + 1))), (8, .int r10), (6, .int x8), (5, .int (nI v5_69)), (4, .int (nI v4_98)), (0, .ref a_pa), (1, .int px), (2, .long py)]) hx hb dX6_measure_186 hl (k := 1) rfl (nI_1 _) (by decide) rfl (fun ls hl => ?_)
                                    refine lv_goto (tgt := 98) hx hb dX6_measure_189 (by decide) ?_
                                    exact ih98 (v7_98 + 1) v4_98 y_fr_98 y_qu_98 (by first | omega | exact nlt_max hv7_98 (by assumption)) (by first | assumption | omega) (by first | omega | (have := nlt_max hv7_98 (by assumption); omega)) _ _ hP hD hS ls (lv_sub hl [0, 2, 3, 4, 5, 6, 7] rfl)
                                  · skip
                                    refine lv_iload hx hb dX6_measure_149 (lv_at hl 4 rfl) ?_
                                    refine lv_aload_n hx hb dX6_measure_151 rfl (lv_at hl 5 rfl) ?_
                                    refine va_get (D := D) (ci := 6) (v := .ref a_qu) (C := RX6) (T := TX6) (N := 5) hx hb hts zi6_ hown hK hP 0 rfl rfl 4 (by decide) z4_ (fun _ h9 => h9) rfl dX6_measure_152 ?_
                                    refine va_alen hx hb hK hP 2 1 rfl rfl (v := 1152) rfl dX6_measure_155 ?_
                                    refine lv_icmp_ge (tgt := 186) hx hb dX6_measure_156 (by decide) (fun c16 => ?_) (fun c16 => ?_)
                                    · skip
                                      refine lv_iinc (v := nI (v7_98 + 1)) (lv' := [(7, .int (nI (v7_98 + 1))), (8, .int r10), (6, .int x8), (5, .int (nI v5_69)), (4, .int (nI v4_98)), (0, .ref a_pa), (1, .int px), (2, .long py)]) hx hb dX6_measure_186 hl (k := 1) rfl (nI_1 _) (by decide) rfl (fun ls hl => ?_)
                                      refine lv_goto (tgt := 98) hx hb dX6_measure_189 (by decide) ?_
                                      exact ih98 (v7_98 + 1) v4_98 y_fr_98 y_qu_98 (by first | omega | exact nlt_max hv7_98 (by assumption)) (by first | assumption | omega) (by first | omega | (have := nlt_max hv7_98 (by assumption); omega)) _ _ hP hD hS ls (lv_sub hl [0, 2, 3, 4, 5, 6, 7] rfl)
                                    · skip
                                      have hwl := nlt_of (n := 1152) rfl hwt98 (by decide) (by assumption)
                                      refine lv_aload_n hx hb dX6_measure_159 rfl (lv_at hl 5 rfl) ?_
                                      refine va_get (D := D) (ci := 6) (v := .ref a_fr) (C := RX6) (T := TX6) (N := 5) hx hb hts zi6_ hown hK hP 0 rfl rfl 2 (by decide) z0_ (fun _ h9 => h9) rfl dX6_measure_160 ?_
                                      refine lv_iload hx hb dX6_measure_163 (lv_at hl 0 rfl) ?_
                                      refine lv_aload_n hx hb dX6_measure_165 rfl (lv_at hl 5 rfl) ?_
                                      refine lv_iload hx hb dX6_measure_166 (lv_at hl 2 rfl) ?_
                                      refine rd_i (va_runV (As := [.int x8]) (rest := [.int r10, .ref a_fr]) ⟨hx, hb, hml, hown, hts⟩ (n_X6_farOf l D cy a_pa a_g a_w a_fr a_st a_qu y_fr_98 x8 _ ) (cwV 1 hts gX6_measure_X6_farOf rfl rfl rfl (by decide +kernel) ⟨Nat.le_of_ble_eq_true rfl, Nat.le_of_ble_eq_true rfl⟩) (pV (ci := 6) (k := 0) hKA (hP.sub (ws' := [(a_pa, .inr (6, [.ref a_g, .ref a_w, .ref a_fr, .ref a_st, .ref a_qu])), (a_fr, .inl (cy 1, 36, .inl y_fr_98))]) [0, 1] rfl) (hD.sub (ws' := [(a_pa, .inr (6, [.ref a_g, .ref a_w, .ref a_fr, .ref a_st, .ref a_qu])), (a_fr, .inl (cy 1, 36, .inl y_fr_98))]) [0, 1] (by decide) rfl) rfl rfl) rfl rfl hl.1 rfl (lv_room (Nat.le_of_ble_eq_true rfl)) dX6_measure_168 ⟨Nat.le_of_ble_eq_true rfl, Nat.le_of_ble_eq_true rfl⟩) hP hS hA (fun r17 H locs hwr17 hP hS => ?_)
                                      refine lv_iconst (v := 1) hx hb dX6_measure_171 (by decide) ?_
                                      refine lv_iadd hx hb dX6_measure_172 ?_
                                      refine lv_topi (fun x18 ex18 => ?_)
                                      refine my_iast hx hb hK hP hD hS 1 1 rfl rfl (by first | exact in_x (N := 36) (by decide) (by assumption) (by assumption) | exact in_y (N := 36) (by decide) (by assumption) (by assumption) | exact in_z (N := 36) (by decide) (by assumption) (by assumption)) rfl dX6_measure_173 (fun H locs hP hD hS => ?_)
                                      have hP : va_P D vwCl [(a_pa, .inr (6, [.ref a_g, .ref a_w, .ref a_fr, .ref a_st, .ref a_qu])), (a_fr, .inl (cy 1, 36, .inl (upd y_fr_98 (r10 : Int32).toNatClampNeg x18))), (a_qu, .inl (cy 1, 1152, .inl y_qu_98)), (a_g, .inr (3, [.int g_wide, .int g_high, .int g_drown, .int g_wind, .long g_hedges, .long g_fountains, .int g_people, .int g_tellings, .int g_reports, .ref a_g_kinds, .ref a_g_squares, .ref a_g_voices, .ref a_g_tellers, .ref a_g_listeners, .ref a_g_witnesses, .ref a_g_claims]))] H := hP
                                      have hD : va_D A [(a_pa, .inr (6, [.ref a_g, .ref a_w, .ref a_fr, .ref a_st, .ref a_qu])), (a_fr, .inl (cy 1, 36, .inl (upd y_fr_98 (r10 : Int32).toNatClampNeg x18))), (a_qu, .inl (cy 1, 1152, .inl y_qu_98)), (a_g, .inr (3, [.int g_wide, .int g_high, .int g_drown, .int g_wind, .long g_hedges, .long g_fountains, .int g_people, .int g_tellings, .int g_reports, .ref a_g_kinds, .ref a_g_squares, .ref a_g_voices, .ref a_g_tellers, .ref a_g_listeners, .ref a_g_witnesses, .ref a_g_claims]))] := hD
                                      refine lv_aload_n hx hb dX6_measure_174 rfl (lv_at hl 5 rfl) ?_
                                      refine va_get (D := D) (ci := 6) (v := .ref a_qu) (C := RX6) (T := TX6) (N := 5) hx hb hts zi6_ hown hK hP 0 rfl rfl 4 (by decide) z4_ (fun _ h9 => h9) rfl dX6_measure_175 ?_
                                      refine lv_iload hx hb dX6_measure_178 (lv_at hl 4 rfl) ?_
                                      refine lv_iinc (v := nI (v4_98 + 1)) (lv' := [(4, .int (nI (v4_98 + 1))), (8, .int r10), (7, .int (nI v7_98)), (6, .int x8), (5, .int (nI v5_69)), (0, .ref a_pa), (1, .int px), (2, .long py)]) hx hb dX6_measure_180 hl (k := 4) rfl (nI_1 _) (by decide) rfl (fun ls hl => ?_)
                                      refine lv_iload hx hb dX6_measure_183 (lv_at hl 1 rfl) ?_
                                      refine my_iast hx hb hK hP hD hS 2 1 rfl rfl (by first | exact in_ge (N := 1152) (by decide) (by omega) (by assumption) | exact vp_in_nI (by omega) (by omega)) (nI_clamp (by omega)) dX6_measure_185 (fun H locs hP hD hS => ?_)
                                      have hP : va_P D vwCl [(a_pa, .inr (6, [.ref a_g, .ref a_w, .ref a_fr, .ref a_st, .ref a_qu])), (a_fr, .inl (cy 1, 36, .inl (upd y_fr_98 (r10 : Int32).toNatClampNeg x18))), (a_qu, .inl (cy 1, 1152, .inl (upd y_qu_98 v4_98 r10))), (a_g, .inr (3, [.int g_wide, .int g_high, .int g_drown, .int g_wind, .long g_hedges, .long g_fountains, .int g_people, .int g_tellings, .int g_reports, .ref a_g_kinds, .ref a_g_squares, .ref a_g_voices, .ref a_g_tellers, .ref a_g_listeners, .ref a_g_witnesses, .ref a_g_claims]))] H := hP
                                      have hD : va_D A [(a_pa, .inr (6, [.ref a_g, .ref a_w, .ref a_fr, .ref a_st, .ref a_qu])), (a_fr, .inl (cy 1, 36, .inl (upd y_fr_98 (r10 : Int32).toNatClampNeg x18))), (a_qu, .inl (cy 1, 1152, .inl (upd y_qu_98 v4_98 r10))), (a_g, .inr (3, [.int g_wide, .int g_high, .int g_drown, .int g_wind, .long g_hedges, .long g_fountains, .int g_people, .int g_tellings, .int g_reports, .ref a_g_kinds, .ref a_g_squares, .ref a_g_voices, .ref a_g_tellers, .ref a_g_listeners, .ref a_g_witnesses, .ref a_g_claims]))] := hD
                                      refine lv_iinc (v := nI (v7_98 + 1)) (lv' := [(7, .int (nI (v7_98 + 1))), (4, .int (nI (v4_98 + 1))), (8, .int r10), (6, .int x8), (5, .int (nI v5_69)), (0, .ref a_pa), (1, .int px), (2, .long py)]) hx hb dX6_measure_186 hl (k := 2) rfl (nI_1 _) (by decide) rfl (fun ls hl => ?_)
                                      refine lv_goto (tgt := 98) hx hb dX6_measure_189 (by decide) ?_
                                      exact ih98 (v7_98 + 1) (v4_98 + 1) (upd y_fr_98 (r10 : Int32).toNatClampNeg x18) (upd y_qu_98 v4_98 r10) (by first | omega | exact nlt_max hv7_98 (by assumption)) (by first | assumption | omega) (by first | omega | (have := nlt_max hv7_98 (by assumption); omega)) _ _ hP hD hS ls (lv_sub hl [0, 3, 4, 1, 5, 6, 7] rfl)
                      exact lp98 (2147483648 - 0 + 1) 0 v4_69 y_fr_69 y_qu_69 (by first | omega | exact nlt_max (by assumption) (by assumption)) (by first | assumption | omega) (Nat.lt_succ_self _) _ _ hP hD hS ls hl
              exact lp69 (2147483648 - 0 + 1) 0 1 (upd y_fr_3 (px : Int32).toNatClampNeg 0) (upd qu_f 0 px) (by first | omega | exact nlt_max (by assumption) (by assumption)) (by first | assumption | omega) (Nat.lt_succ_self _) _ _ hP hD hS ls hl
            · skip
              subst hQF
              have hP9 := hP
              have hD9 := hD
              exact W.vret hx hb hr (fun t ht hW => ⟨⟨(y_fr_3, qu_f), rfl, trivial, by rw [ht]; exact hP9, hD9⟩, hS.F ht⟩) hS.2.2 dX6_measure_48
      · skip
        refine lv_aload_n hx hb dX6_measure_13 rfl (lv_at hl 1 rfl) ?_
        refine va_get (D := D) (ci := 6) (v := .ref a_fr) (C := RX6) (T := TX6) (N := 5) hx hb hts zi6_ hown hK hP 0 rfl rfl 2 (by decide) z0_ (fun _ h9 => h9) rfl dX6_measure_14 ?_
        refine lv_iload hx hb dX6_measure_17 (lv_at hl 0 rfl) ?_
        refine lv_iconst (v := (-1)) hx hb dX6_measure_19 (by decide) ?_
        refine my_iast hx hb hK hP hD hS 1 1 rfl rfl (by first | exact in_ge (N := 36) (by decide) (by omega) (by assumption) | exact vp_in_nI (by omega) (by omega)) (nI_clamp (by omega)) dX6_measure_20 (fun H locs hP hD hS => ?_)
        have hP : va_P D vwCl [(a_pa, .inr (6, [.ref a_g, .ref a_w, .ref a_fr, .ref a_st, .ref a_qu])), (a_fr, .inl (cy 1, 36, .inl (upd y_fr_3 v4_3 (-1)))), (a_qu, .inl (cy 1, 1152, .inl qu_f)), (a_g, .inr (3, [.int g_wide, .int g_high, .int g_drown, .int g_wind, .long g_hedges, .long g_fountains, .int g_people, .int g_tellings, .int g_reports, .ref a_g_kinds, .ref a_g_squares, .ref a_g_voices, .ref a_g_tellers, .ref a_g_listeners, .ref a_g_witnesses, .ref a_g_claims]))] H := hP
        have hD : va_D A [(a_pa, .inr (6, [.ref a_g, .ref a_w, .ref a_fr, .ref a_st, .ref a_qu])), (a_fr, .inl (cy 1, 36, .inl (upd y_fr_3 v4_3 (-1)))), (a_qu, .inl (cy 1, 1152, .inl qu_f)), (a_g, .inr (3, [.int g_wide, .int g_high, .int g_drown, .int g_wind, .long g_hedges, .long g_fountains, .int g_people, .int g_tellings, .int g_reports, .ref a_g_kinds, .ref a_g_squares, .ref a_g_voices, .ref a_g_tellers, .ref a_g_listeners, .ref a_g_witnesses, .ref a_g_claims]))] := hD
        refine lv_iinc (v := nI (v4_3 + 1)) (lv' := [(4, .int (nI (v4_3 + 1))), (0, .ref a_pa), (1, .int px), (2, .long py)]) hx hb dX6_measure_21 hl (k := 0) rfl (nI_1 _) (by decide) rfl (fun ls hl => ?_)
        refine lv_goto (tgt := 3) hx hb dX6_measure_24 (by decide) ?_
        exact ih3 (v4_3 + 1) (upd y_fr_3 v4_3 (-1)) (by first | omega | exact nlt_max hv4_3 (by assumption)) (by first | omega | (have := nlt_max hv4_3 (by assumption); omega)) _ _ hP hD hS ls hl
  exact lp3 (2147483648 - 0 + 1) 0 fr_f (by first | omega | exact nlt_max (by assumption) (by assumption)) (Nat.lt_succ_self _) _ _ hP hD hS ls hl

set_option maxHeartbeats 4000000 in
set_option maxRecDepth 100000 in
theorem n_X6_nearer (l : Launch) (D : va_G) (cy : Nat → ClassId) (a_pa : Nat) (a_g : Nat) (a_w : Nat) (a_fr : Nat) (a_st : Nat) (a_qu : Nat) (g_wide : Int32) (g_high : Int32) (g_drown : Int32) (g_wind : Int32) (g_hedges : Int64) (g_fountains : Int64) (g_people : Int32) (g_tellings : Int32) (g_reports : Int32) (a_g_kinds : Nat) (a_g_squares : Nat) (a_g_voices : Nat) (a_g_tellers : Nat) (a_g_listeners : Nat) (a_g_witnesses : Nat) (a_g_claims : Nat) (fr_f : Nat → Int32) (px : Int32) (sz : Nat)  : Met l yX6_nearer wsX6_nearer ({ frames := 2, cells := 0, slots := 0, locals := 44 }) (va_Pc [.ref a_pa, .int px] (kPre D cy [(a_pa, .inr (6, [.ref a_g, .ref a_w, .ref a_fr, .ref a_st, .ref a_qu])), (a_g, .inr (3, [.int g_wide, .int g_high, .int g_drown, .int g_wind, .long g_hedges, .long g_fountains, .int g_people, .int g_tellings, .int g_reports, .ref a_g_kinds, .ref a_g_squares, .ref a_g_voices, .ref a_g_tellers, .ref a_g_listeners, .ref a_g_witnesses, .ref a_g_claims])), (a_fr, .inl (cy 1, 36, .inl fr_f))] sz)) (va_Qi (fun (r : Int32) (u : Unit) => True) (fun _ _ => True) (fun q : Nat => sz ≤ q)) 0 0 (fun q : Nat => sz ≤ q) := by
  refine Met.ofW (cc := cX6_nearer) (maxL := 4) (ret := (some .int)) (by decide) rfl ?_
  intro p e s m args below meth c s₁ B hml hv
  obtain ⟨rfl, hsz, hP, hKA, hD0⟩ := hv
  have hx := B.exec
  have hb := B.bytes
  have hr := B.returns
  have hts := atoms_spec (ws := wsX6_nearer) B.pre
  have hown : s.vm.findClass RX6 = some m.cls := findClass_of_methodNamed B.named
  have hlocks := B.notSynchronized
  subst hsz
  have hK := hKA.1
  have hD := hD0
  generalize hAe : (fun q : Nat => s.heap.size ≤ q) = A
  have hA : ∀ q : Nat, s.heap.size ≤ q → A q := fun q h => by rw [← hAe]; exact h
  have hS : va_S A s.heap s.heap [] := va_S.rf
  have hP : va_P D vwCl [(a_pa, .inr (6, [.ref a_g, .ref a_w, .ref a_fr, .ref a_st, .ref a_qu])), (a_g, .inr (3, [.int g_wide, .int g_high, .int g_drown, .int g_wind, .long g_hedges, .long g_fountains, .int g_people, .int g_tellings, .int g_reports, .ref a_g_kinds, .ref a_g_squares, .ref a_g_voices, .ref a_g_tellers, .ref a_g_listeners, .ref a_g_witnesses, .ref a_g_claims])), (a_fr, .inl (cy 1, 36, .inl fr_f))] s.heap := hP
  have hl := lv_entry ([.ref a_pa, .int px]) (n := 4) (Nat.le_of_ble_eq_true rfl)
  rw [lg_entry_eq]
  generalize (lg_sl ([.ref a_pa, .int px]) ++ List.replicate (4 - (lg_sl ([.ref a_pa, .int px])).length) Slot.unset).toArray = ls at hl ⊢
  have hl : lv_has ls 4 [(0, .ref a_pa), (1, .int px)] := hl
  refine qW (fun QF hQF => ?_)
  refine lv_iconst (v := 0) hx hb dX6_nearer_0 (by decide) ?_
  refine lv_istore_n (lv' := [(2, .int 0), (0, .ref a_pa), (1, .int px)]) hx hb dX6_nearer_1 rfl hl (by decide) rfl (fun ls hl => ?_)
  have lp2 : ∀ (n2 : Nat) (v2_2 : Nat) (hv2_2 : v2_2 < 2147483648), 2147483648 - v2_2 < n2 → ∀ (H : Heap) (locs : List Loc), va_P D vwCl [(a_pa, .inr (6, [.ref a_g, .ref a_w, .ref a_fr, .ref a_st, .ref a_qu])), (a_g, .inr (3, [.int g_wide, .int g_high, .int g_drown, .int g_wind, .long g_hedges, .long g_fountains, .int g_people, .int g_tellings, .int g_reports, .ref a_g_kinds, .ref a_g_squares, .ref a_g_voices, .ref a_g_tellers, .ref a_g_listeners, .ref a_g_witnesses, .ref a_g_claims])), (a_fr, .inl (cy 1, 36, .inl fr_f))] H → va_D (fun _ => True) [(a_pa, .inr (6, [.ref a_g, .ref a_w, .ref a_fr, .ref a_st, .ref a_qu])), (a_g, .inr (3, [.int g_wide, .int g_high, .int g_drown, .int g_wind, .long g_hedges, .long g_fountains, .int g_people, .int g_tellings, .int g_reports, .ref a_g_kinds, .ref a_g_squares, .ref a_g_voices, .ref a_g_tellers, .ref a_g_listeners, .ref a_g_witnesses, .ref a_g_claims])), (a_fr, .inl (cy 1, 36, .inl fr_f))] → va_S A s.heap H locs → ∀ ls : Array Slot, lv_has ls 4 [(2, .int (nI v2_2)), (0, .ref a_pa), (1, .int px)] → W p l e (headSpec wsX6_nearer ({ frames := 2, cells := 0, slots := 0, locals := 44 })).room s m [.ref a_pa, .int px].toArray below meth c H locs 0 0 QF (F0 m 2 ls []) := by
    intro n2
    induction n2 with
    | zero => intro v2_2 hv2_2 hm; exact absurd hm (Nat.not_lt_zero _)
    | succ n2 ih2 =>
      intro v2_2 hv2_2 hm2 H locs hP hD hS ls hl
      refine lv_iload_n hx hb dX6_nearer_2 rfl (lv_at hl 0 rfl) ?_
      refine lv_iconst (v := 4) hx hb dX6_nearer_3 (by decide) ?_
      refine lv_icmp_ge (tgt := 49) hx hb dX6_nearer_4 (by decide) (fun c1 => ?_) (fun c1 => ?_)
      · skip
        refine lv_iload_n hx hb dX6_nearer_49 rfl (lv_at hl 2 rfl) ?_
        subst hQF
        exact W.iret (v := px) hx hb hr (fun t ht hW => ⟨⟨px, (), rfl, trivial, trivial⟩, hS.F ht⟩) hS.2.2 dX6_nearer_50
      · skip
        refine lv_aload_n hx hb dX6_nearer_7 rfl (lv_at hl 1 rfl) ?_
        refine lv_iload_n hx hb dX6_nearer_8 rfl (lv_at hl 2 rfl) ?_
        refine lv_iload_n hx hb dX6_nearer_9 rfl (lv_at hl 0 rfl) ?_
        refine rd_i (va_runV (As := [.int px, .int (nI v2_2)]) (rest := []) ⟨hx, hb, hml, hown, hts⟩ (n_X6_beside l D cy a_pa a_g a_w a_fr a_st a_qu g_wide g_high g_drown g_wind g_hedges g_fountains g_people g_tellings g_reports a_g_kinds a_g_squares a_g_voices a_g_tellers a_g_listeners a_g_witnesses a_g_claims px (nI v2_2) _ ) (cwV 2 hts gX6_nearer_X6_beside rfl rfl rfl (by decide +kernel) ⟨Nat.le_of_ble_eq_true rfl, Nat.le_of_ble_eq_true rfl⟩) (pV (ci := 6) (k := 0) hKA (hP.sub (ws' := [(a_pa, .inr (6, [.ref a_g, .ref a_w, .ref a_fr, .ref a_st, .ref a_qu])), (a_g, .inr (3, [.int g_wide, .int g_high, .int g_drown, .int g_wind, .long g_hedges, .long g_fountains, .int g_people, .int g_tellings, .int g_reports, .ref a_g_kinds, .ref a_g_squares, .ref a_g_voices, .ref a_g_tellers, .ref a_g_listeners, .ref a_g_witnesses, .ref a_g_claims]))]) [0, 1] rfl) (hD.sub (ws' := [(a_pa, .inr (6, [.ref a_g, .ref a_w, .ref a_fr, .ref a_st, .ref a_qu])), (a_g, .inr (3, [.int g_wide, .int g_high, .int g_drown, .int g_wind, .long g_hedges, .long g_fountains, .int g_people, .int g_tellings, .int g_reports, .ref a_g_kinds, .ref a_g_squares, .ref a_g_voices, .ref a_g_tellers, .ref a_g_listeners, .ref a_g_witnesses, .ref a_g_claims]))]) [0, 1] (by decide) rfl) rfl rfl) rfl rfl hl.1 rfl (lv_room (Nat.le_of_ble_eq_true rfl)) dX6_nearer_10 ⟨Nat.le_of_ble_eq_true rfl, Nat.le_of_ble_eq_true rfl⟩) hP hS hA (fun r2 H locs hwr2 hP hS => ?_)
        refine lv_istore_n (lv' := [(3, .int r2), (2, .int (nI v2_2)), (0, .ref a_pa), (1, .int px)]) hx hb dX6_nearer_13 rfl hl (by decide) rfl (fun ls hl => ?_)
        refine lv_iload_n hx hb dX6_nearer_14 rfl (lv_at hl 0 rfl) ?_
        refine lv_iconst (v := (-1)) hx hb dX6_nearer_15 (by decide) ?_
        refine lv_icmp_eq (tgt := 43) hx hb dX6_nearer_16 (by decide) (fun c3 => ?_) (fun c3 => ?_)
        · skip
          refine lv_iinc (v := nI (v2_2 + 1)) (lv' := [(2, .int (nI (v2_2 + 1))), (3, .int r2), (0, .ref a_pa), (1, .int px)]) hx hb dX6_nearer_43 hl (k := 1) rfl (nI_1 _) (by decide) rfl (fun ls hl => ?_)
          refine lv_goto (tgt := 2) hx hb dX6_nearer_46 (by decide) ?_
          exact ih2 (v2_2 + 1) (by first | omega | exact nlt_max hv2_2 (by assumption)) (by first | omega | (have := nlt_max hv2_2 (by assumption); omega)) _ _ hP hD hS ls (lv_sub hl [0, 2, 3] rfl)
        · skip
          refine lv_aload_n hx hb dX6_nearer_19 rfl (lv_at hl 2 rfl) ?_
          refine lv_iload_n hx hb dX6_nearer_20 rfl (lv_at hl 0 rfl) ?_
          refine rd_i (va_runV (As := [.int r2]) (rest := []) ⟨hx, hb, hml, hown, hts⟩ (n_X6_farOf l D cy a_pa a_g a_w a_fr a_st a_qu fr_f r2 _ ) (cwV 1 hts gX6_nearer_X6_farOf rfl rfl rfl (by decide +kernel) ⟨Nat.le_of_ble_eq_true rfl, Nat.le_of_ble_eq_true rfl⟩) (pV (ci := 6) (k := 0) hKA (hP.sub (ws' := [(a_pa, .inr (6, [.ref a_g, .ref a_w, .ref a_fr, .ref a_st, .ref a_qu])), (a_fr, .inl (cy 1, 36, .inl fr_f))]) [0, 2] rfl) (hD.sub (ws' := [(a_pa, .inr (6, [.ref a_g, .ref a_w, .ref a_fr, .ref a_st, .ref a_qu])), (a_fr, .inl (cy 1, 36, .inl fr_f))]) [0, 2] (by decide) rfl) rfl rfl) rfl rfl hl.1 rfl (lv_room (Nat.le_of_ble_eq_true rfl)) dX6_nearer_21 ⟨Nat.le_of_ble_eq_true rfl, Nat.le_of_ble_eq_true rfl⟩) hP hS hA (fun r4 H locs hwr4 hP hS => ?_)
          refine lv_iconst (v := (-1)) hx hb dX6_nearer_24 (by decide) ?_
          refine lv_icmp_eq (tgt := 43) hx hb dX6_nearer_25 (by decide) (fun c5 => ?_) (fun c5 => ?_)
          · skip
            refine lv_iinc (v := nI (v2_2 + 1)) (lv' := [(2, .int (nI (v2_2 + 1))), (3, .int r2), (0, .ref a_pa), (1, .int px)]) hx hb dX6_nearer_43 hl (k := 1) rfl (nI_1 _) (by decide) rfl (fun ls hl => ?_)
            refine lv_goto (tgt := 2) hx hb dX6_nearer_46 (by decide) ?_
            exact ih2 (v2_2 + 1) (by first | omega | exact nlt_max hv2_2 (by assumption)) (by first | omega | (have := nlt_max hv2_2 (by assumption); omega)) _ _ hP hD hS ls (lv_sub hl [0, 2, 3] rfl)
          · skip
            refine lv_aload_n hx hb dX6_nearer_28 rfl (lv_at hl 2 rfl) ?_
            refine lv_iload_n hx hb dX6_nearer_29 rfl (lv_at hl 0 rfl) ?_
            refine rd_i (va_runV (As := [.int r2]) (rest := []) ⟨hx, hb, hml, hown, hts⟩ (n_X6_farOf l D cy a_pa a_g a_w a_fr a_st a_qu fr_f r2 _ ) (cwV 1 hts gX6_nearer_X6_farOf rfl rfl rfl (by decide +kernel) ⟨Nat.le_of_ble_eq_true rfl, Nat.le_of_ble_eq_true rfl⟩) (pV (ci := 6) (k := 0) hKA (hP.sub (ws' := [(a_pa, .inr (6, [.ref a_g, .ref a_w, .ref a_fr, .ref a_st, .ref a_qu])), (a_fr, .inl (cy 1, 36, .inl fr_f))]) [0, 2] rfl) (hD.sub (ws' := [(a_pa, .inr (6, [.ref a_g, .ref a_w, .ref a_fr, .ref a_st, .ref a_qu])), (a_fr, .inl (cy 1, 36, .inl fr_f))]) [0, 2] (by decide) rfl) rfl rfl) rfl rfl hl.1 rfl (lv_room (Nat.le_of_ble_eq_true rfl)) dX6_nearer_30 ⟨Nat.le_of_ble_eq_true rfl, Nat.le_of_ble_eq_true rfl⟩) hP hS hA (fun r6 H locs hwr6 hP hS => ?_)
            refine lv_aload_n hx hb dX6_nearer_33 rfl (lv_at hl 2 rfl) ?_
            refine lv_iload_n hx hb dX6_nearer_34 rfl (lv_at hl 3 rfl) ?_
            refine rd_i (va_runV (As := [.int px]) (rest := [.int r6]) ⟨hx, hb, hml, hown, hts⟩ (n_X6_farOf l D cy a_pa a_g a_w a_fr a_st a_qu fr_f px _ ) (cwV 1 hts gX6_nearer_X6_farOf rfl rfl rfl (by decide +kernel) ⟨Nat.le_of_ble_eq_true rfl, Nat.le_of_ble_eq_true rfl⟩) (pV (ci := 6) (k := 0) hKA (hP.sub (ws' := [(a_pa, .inr (6, [.ref a_g, .ref a_w, .ref a_fr, .ref a_st, .ref a_qu])), (a_fr, .inl (cy 1, 36, .inl fr_f))]) [0, 2] rfl) (hD.sub (ws' := [(a_pa, .inr (6, [.ref a_g, .ref a_w, .ref a_fr, .ref a_st, .ref a_qu])), (a_fr, .inl (cy 1, 36, .inl fr_f))]) [0, 2] (by decide) rfl) rfl rfl) rfl rfl hl.1 rfl (lv_room (Nat.le_of_ble_eq_true rfl)) dX6_nearer_35 ⟨Nat.le_of_ble_eq_true rfl, Nat.le_of_ble_eq_true rfl⟩) hP hS hA (fun r7 H locs hwr7 hP hS => ?_)
            refine lv_icmp_ge (tgt := 43) hx hb dX6_nearer_38 (by decide) (fun c8 => ?_) (fun c8 => ?_)
            · skip
              refine lv_iinc (v := nI (v2_2 + 1)) (lv' := [(2, .int (nI (v2_2 + 1))), (3, .int r2), (0, .ref a_pa), (1, .int px)]) hx hb dX6_nearer_43 hl (k := 1) rfl (nI_1 _) (by decide) rfl (fun ls hl => ?_)
              refine lv_goto (tgt := 2) hx hb dX6_nearer_46 (by decide) ?_
              exact ih2 (v2_2 + 1) (by first | omega | exact nlt_max hv2_2 (by assumption)) (by first | omega | (have := nlt_max hv2_2 (by assumption); omega)) _ _ hP hD hS ls (lv_sub hl [0, 2, 3] rfl)
            · skip
              refine lv_iload_n hx hb dX6_nearer_41 rfl (lv_at hl 0 rfl) ?_
              subst hQF
              exact W.iret (v := r2) hx hb hr (fun t ht hW => ⟨⟨r2, (), rfl, trivial, trivial⟩, hS.F ht⟩) hS.2.2 dX6_nearer_42
  exact lp2 (2147483648 - 0 + 1) 0 (by first | omega | exact nlt_max (by assumption) (by assumption)) (Nat.lt_succ_self _) _ _ hP hD hS ls hl

set_option maxHeartbeats 4000000 in
set_option maxRecDepth 100000 in
theorem n_X6_follow (l : Launch) (D : va_G) (cy : Nat → ClassId) (a_pa : Nat) (a_g : Nat) (a_w : Nat) (a_fr : Nat) (a_st : Nat) (a_qu : Nat) (g_wide : Int32) (g_high : Int32) (g_drown : Int32) (g_wind : Int32) (g_hedges : Int64) (g_fountains : Int64) (g_people : Int32) (g_tellings : Int32) (g_reports : Int32) (a_g_kinds : Nat) (a_g_squares : Nat) (a_g_voices : Nat) (a_g_tellers : Nat) (a_g_listeners : Nat) (a_g_witnesses : Nat) (a_g_claims : Nat) (fr_f : Nat → Int32) (px : Int32) (py : Int32) (sz : Nat)  : Met l yX6_follow wsX6_follow ({ frames := 3, cells := 0, slots := 0, locals := 67 }) (va_Pc [.ref a_pa, .int px, .int py] (kPre D cy [(a_pa, .inr (6, [.ref a_g, .ref a_w, .ref a_fr, .ref a_st, .ref a_qu])), (a_g, .inr (3, [.int g_wide, .int g_high, .int g_drown, .int g_wind, .long g_hedges, .long g_fountains, .int g_people, .int g_tellings, .int g_reports, .ref a_g_kinds, .ref a_g_squares, .ref a_g_voices, .ref a_g_tellers, .ref a_g_listeners, .ref a_g_witnesses, .ref a_g_claims])), (a_fr, .inl (cy 1, 36, .inl fr_f))] sz)) (va_Qi (fun (r : Int32) (u : Unit) => True) (fun _ _ => True) (fun q : Nat => sz ≤ q)) 0 0 (fun q : Nat => sz ≤ q) := by
  refine Met.ofW (cc := cX6_follow) (maxL := 5) (ret := (some .int)) (by decide) rfl ?_
  intro p e s m args below meth c s₁ B hml hv
  obtain ⟨rfl, hsz, hP, hKA, hD0⟩ := hv
  have hx := B.exec
  have hb := B.bytes
  have hr := B.returns
  have hts := atoms_spec (ws := wsX6_follow) B.pre
  have hown : s.vm.findClass RX6 = some m.cls := findClass_of_methodNamed B.named
  have hlocks := B.notSynchronized
  subst hsz
  have hK := hKA.1
  have hD := hD0
  generalize hAe : (fun q : Nat => s.heap.size ≤ q) = A
  have hA : ∀ q : Nat, s.heap.size ≤ q → A q := fun q h => by rw [← hAe]; exact h
  have hS : va_S A s.heap s.heap [] := va_S.rf
  have hP : va_P D vwCl [(a_pa, .inr (6, [.ref a_g, .ref a_w, .ref a_fr, .ref a_st, .ref a_qu])), (a_g, .inr (3, [.int g_wide, .int g_high, .int g_drown, .int g_wind, .long g_hedges, .long g_fountains, .int g_people, .int g_tellings, .int g_reports, .ref a_g_kinds, .ref a_g_squares, .ref a_g_voices, .ref a_g_tellers, .ref a_g_listeners, .ref a_g_witnesses, .ref a_g_claims])), (a_fr, .inl (cy 1, 36, .inl fr_f))] s.heap := hP
  have hl := lv_entry ([.ref a_pa, .int px, .int py]) (n := 5) (Nat.le_of_ble_eq_true rfl)
  rw [lg_entry_eq]
  generalize (lg_sl ([.ref a_pa, .int px, .int py]) ++ List.replicate (5 - (lg_sl ([.ref a_pa, .int px, .int py])).length) Slot.unset).toArray = ls at hl ⊢
  have hl : lv_has ls 5 [(0, .ref a_pa), (1, .int px), (2, .int py)] := hl
  refine qW (fun QF hQF => ?_)
  refine lv_iload_n hx hb dX6_follow_0 rfl (lv_at hl 1 rfl) ?_
  refine lv_istore_n (lv' := [(3, .int px), (0, .ref a_pa), (1, .int px), (2, .int py)]) hx hb dX6_follow_1 rfl hl (by decide) rfl (fun ls hl => ?_)
  refine lv_iconst (v := 0) hx hb dX6_follow_2 (by decide) ?_
  refine lv_istore (lv' := [(4, .int 0), (3, .int px), (0, .ref a_pa), (1, .int px), (2, .int py)]) hx hb dX6_follow_3 hl (by decide) rfl (fun ls hl => ?_)
  have lp5 : ∀ (n5 : Nat) (v4_5 : Nat) (v3_5 : Int32) (hv4_5 : v4_5 < 2147483648), 2147483648 - v4_5 < n5 → ∀ (H : Heap) (locs : List Loc), va_P D vwCl [(a_pa, .inr (6, [.ref a_g, .ref a_w, .ref a_fr, .ref a_st, .ref a_qu])), (a_g, .inr (3, [.int g_wide, .int g_high, .int g_drown, .int g_wind, .long g_hedges, .long g_fountains, .int g_people, .int g_tellings, .int g_reports, .ref a_g_kinds, .ref a_g_squares, .ref a_g_voices, .ref a_g_tellers, .ref a_g_listeners, .ref a_g_witnesses, .ref a_g_claims])), (a_fr, .inl (cy 1, 36, .inl fr_f))] H → va_D (fun _ => True) [(a_pa, .inr (6, [.ref a_g, .ref a_w, .ref a_fr, .ref a_st, .ref a_qu])), (a_g, .inr (3, [.int g_wide, .int g_high, .int g_drown, .int g_wind, .long g_hedges, .long g_fountains, .int g_people, .int g_tellings, .int g_reports, .ref a_g_kinds, .ref a_g_squares, .ref a_g_voices, .ref a_g_tellers, .ref a_g_listeners, .ref a_g_witnesses, .ref a_g_claims])), (a_fr, .inl (cy 1, 36, .inl fr_f))] → va_S A s.heap H locs → ∀ ls : Array Slot, lv_has ls 5 [(4, .int (nI v4_5)), (3, .int v3_5), (0, .ref a_pa), (1, .int px), (2, .int py)] → W p l e (headSpec wsX6_follow ({ frames := 3, cells := 0, slots := 0, locals := 67 })).room s m [.ref a_pa, .int px, .int py].toArray below meth c H locs 0 0 QF (F0 m 5 ls []) := by
    intro n5
    induction n5 with
    | zero => intro v4_5 v3_5 hv4_5 hm; exact absurd hm (Nat.not_lt_zero _)
    | succ n5 ih5 =>
      intro v4_5 v3_5 hv4_5 hm5 H locs hP hD hS ls hl
      refine lv_iload hx hb dX6_follow_5 (lv_at hl 0 rfl) ?_
      refine lv_iload_n hx hb dX6_follow_7 rfl (lv_at hl 4 rfl) ?_
      refine lv_icmp_ge (tgt := 30) hx hb dX6_follow_8 (by decide) (fun c1 => ?_) (fun c1 => ?_)
      · skip
        refine lv_iload_n hx hb dX6_follow_30 rfl (lv_at hl 1 rfl) ?_
        subst hQF
        exact W.iret (v := v3_5) hx hb hr (fun t ht hW => ⟨⟨v3_5, (), rfl, trivial, trivial⟩, hS.F ht⟩) hS.2.2 dX6_follow_31
      · skip
        refine lv_iload hx hb dX6_follow_11 (lv_at hl 0 rfl) ?_
        refine lv_bipush (v := 36) hx hb dX6_follow_13 (by decide) ?_
        refine lv_icmp_ge (tgt := 30) hx hb dX6_follow_15 (by decide) (fun c2 => ?_) (fun c2 => ?_)
        · skip
          refine lv_iload_n hx hb dX6_follow_30 rfl (lv_at hl 1 rfl) ?_
          subst hQF
          exact W.iret (v := v3_5) hx hb hr (fun t ht hW => ⟨⟨v3_5, (), rfl, trivial, trivial⟩, hS.F ht⟩) hS.2.2 dX6_follow_31
        · skip
          refine lv_aload_n hx hb dX6_follow_18 rfl (lv_at hl 2 rfl) ?_
          refine lv_iload_n hx hb dX6_follow_19 rfl (lv_at hl 1 rfl) ?_
          refine rd_i (va_runV (As := [.int v3_5]) (rest := []) ⟨hx, hb, hml, hown, hts⟩ (n_X6_nearer l D cy a_pa a_g a_w a_fr a_st a_qu g_wide g_high g_drown g_wind g_hedges g_fountains g_people g_tellings g_reports a_g_kinds a_g_squares a_g_voices a_g_tellers a_g_listeners a_g_witnesses a_g_claims fr_f v3_5 _ ) (cwV 1 hts gX6_follow_X6_nearer rfl rfl rfl (by decide +kernel) ⟨Nat.le_of_ble_eq_true rfl, Nat.le_of_ble_eq_true rfl⟩) (pV (ci := 6) (k := 0) hKA (hP.sub (ws' := [(a_pa, .inr (6, [.ref a_g, .ref a_w, .ref a_fr, .ref a_st, .ref a_qu])), (a_g, .inr (3, [.int g_wide, .int g_high, .int g_drown, .int g_wind, .long g_hedges, .long g_fountains, .int g_people, .int g_tellings, .int g_reports, .ref a_g_kinds, .ref a_g_squares, .ref a_g_voices, .ref a_g_tellers, .ref a_g_listeners, .ref a_g_witnesses, .ref a_g_claims])), (a_fr, .inl (cy 1, 36, .inl fr_f))]) [0, 1, 2] rfl) (hD.sub (ws' := [(a_pa, .inr (6, [.ref a_g, .ref a_w, .ref a_fr, .ref a_st, .ref a_qu])), (a_g, .inr (3, [.int g_wide, .int g_high, .int g_drown, .int g_wind, .long g_hedges, .long g_fountains, .int g_people, .int g_tellings, .int g_reports, .ref a_g_kinds, .ref a_g_squares, .ref a_g_voices, .ref a_g_tellers, .ref a_g_listeners, .ref a_g_witnesses, .ref a_g_claims])), (a_fr, .inl (cy 1, 36, .inl fr_f))]) [0, 1, 2] (by decide) rfl) rfl rfl) rfl rfl hl.1 rfl (lv_room (Nat.le_of_ble_eq_true rfl)) dX6_follow_20 ⟨Nat.le_of_ble_eq_true rfl, Nat.le_of_ble_eq_true rfl⟩) hP hS hA (fun r3 H locs hwr3 hP hS => ?_)
          refine lv_istore_n (lv' := [(3, .int r3), (4, .int (nI v4_5)), (0, .ref a_pa), (1, .int px), (2, .int py)]) hx hb dX6_follow_23 rfl hl (by decide) rfl (fun ls hl => ?_)
          refine lv_iinc (v := nI (v4_5 + 1)) (lv' := [(4, .int (nI (v4_5 + 1))), (3, .int r3), (0, .ref a_pa), (1, .int px), (2, .int py)]) hx hb dX6_follow_24 hl (k := 1) rfl (nI_1 _) (by decide) rfl (fun ls hl => ?_)
          refine lv_goto (tgt := 5) hx hb dX6_follow_27 (by decide) ?_
          exact ih5 (v4_5 + 1) r3 (by first | omega | exact nlt_max hv4_5 (by assumption)) (by first | omega | (have := nlt_max hv4_5 (by assumption); omega)) _ _ hP hD hS ls hl
  exact lp5 (2147483648 - 0 + 1) 0 px (by first | omega | exact nlt_max (by assumption) (by assumption)) (Nat.lt_succ_self _) _ _ hP hD hS ls hl

set_option maxHeartbeats 4000000 in
set_option maxRecDepth 100000 in
theorem n_X6_walkTo (l : Launch) (D : va_G) (cy : Nat → ClassId) (a_pa : Nat) (a_g : Nat) (a_w : Nat) (a_fr : Nat) (a_st : Nat) (a_qu : Nat) (fr_f : Nat → Int32) (qu_f : Nat → Int32) (g_wide : Int32) (g_high : Int32) (g_drown : Int32) (g_wind : Int32) (g_hedges : Int64) (g_fountains : Int64) (g_people : Int32) (g_tellings : Int32) (g_reports : Int32) (a_g_kinds : Nat) (a_g_squares : Nat) (a_g_voices : Nat) (a_g_tellers : Nat) (a_g_listeners : Nat) (a_g_witnesses : Nat) (a_g_claims : Nat) (px : Int32) (py : Int32) (pz : Int64) (pt : Int32) (sz : Nat)  : Met l yX6_walkTo wsX6_walkTo ({ frames := 4, cells := 0, slots := 0, locals := 91 }) (va_Pc [.ref a_pa, .int px, .int py, .long pz, .int pt] (kPre D cy [(a_pa, .inr (6, [.ref a_g, .ref a_w, .ref a_fr, .ref a_st, .ref a_qu])), (a_fr, .inl (cy 1, 36, .inl fr_f)), (a_qu, .inl (cy 1, 1152, .inl qu_f)), (a_g, .inr (3, [.int g_wide, .int g_high, .int g_drown, .int g_wind, .long g_hedges, .long g_fountains, .int g_people, .int g_tellings, .int g_reports, .ref a_g_kinds, .ref a_g_squares, .ref a_g_voices, .ref a_g_tellers, .ref a_g_listeners, .ref a_g_witnesses, .ref a_g_claims]))] sz)) (va_Qi (fun (r : Int32) (u : (Nat → Int32) × (Nat → Int32)) => True) (fun (u : (Nat → Int32) × (Nat → Int32)) t => va_P D vwCl ([(a_pa, .inr (6, [.ref a_g, .ref a_w, .ref a_fr, .ref a_st, .ref a_qu])), (a_fr, .inl (cy 1, 36, .inl u.1)), (a_qu, .inl (cy 1, 1152, .inl u.2)), (a_g, .inr (3, [.int g_wide, .int g_high, .int g_drown, .int g_wind, .long g_hedges, .long g_fountains, .int g_people, .int g_tellings, .int g_reports, .ref a_g_kinds, .ref a_g_squares, .ref a_g_voices, .ref a_g_tellers, .ref a_g_listeners, .ref a_g_witnesses, .ref a_g_claims]))]) t.heap ∧ va_D (va_A [(a_pa, .inr (6, [.ref a_g, .ref a_w, .ref a_fr, .ref a_st, .ref a_qu])), (a_fr, .inl (cy 1, 36, .inl fr_f)), (a_qu, .inl (cy 1, 1152, .inl qu_f)), (a_g, .inr (3, [.int g_wide, .int g_high, .int g_drown, .int g_wind, .long g_hedges, .long g_fountains, .int g_people, .int g_tellings, .int g_reports, .ref a_g_kinds, .ref a_g_squares, .ref a_g_voices, .ref a_g_tellers, .ref a_g_listeners, .ref a_g_witnesses, .ref a_g_claims]))] sz) ([(a_pa, .inr (6, [.ref a_g, .ref a_w, .ref a_fr, .ref a_st, .ref a_qu])), (a_fr, .inl (cy 1, 36, .inl u.1)), (a_qu, .inl (cy 1, 1152, .inl u.2)), (a_g, .inr (3, [.int g_wide, .int g_high, .int g_drown, .int g_wind, .long g_hedges, .long g_fountains, .int g_people, .int g_tellings, .int g_reports, .ref a_g_kinds, .ref a_g_squares, .ref a_g_voices, .ref a_g_tellers, .ref a_g_listeners, .ref a_g_witnesses, .ref a_g_claims]))])) (va_A [(a_pa, .inr (6, [.ref a_g, .ref a_w, .ref a_fr, .ref a_st, .ref a_qu])), (a_fr, .inl (cy 1, 36, .inl fr_f)), (a_qu, .inl (cy 1, 1152, .inl qu_f)), (a_g, .inr (3, [.int g_wide, .int g_high, .int g_drown, .int g_wind, .long g_hedges, .long g_fountains, .int g_people, .int g_tellings, .int g_reports, .ref a_g_kinds, .ref a_g_squares, .ref a_g_voices, .ref a_g_tellers, .ref a_g_listeners, .ref a_g_witnesses, .ref a_g_claims]))] sz)) 0 0 (va_A [(a_pa, .inr (6, [.ref a_g, .ref a_w, .ref a_fr, .ref a_st, .ref a_qu])), (a_fr, .inl (cy 1, 36, .inl fr_f)), (a_qu, .inl (cy 1, 1152, .inl qu_f)), (a_g, .inr (3, [.int g_wide, .int g_high, .int g_drown, .int g_wind, .long g_hedges, .long g_fountains, .int g_people, .int g_tellings, .int g_reports, .ref a_g_kinds, .ref a_g_squares, .ref a_g_voices, .ref a_g_tellers, .ref a_g_listeners, .ref a_g_witnesses, .ref a_g_claims]))] sz) := by
  refine Met.ofW (cc := cX6_walkTo) (maxL := 7) (ret := (some .int)) (by decide) rfl ?_
  intro p e s m args below meth c s₁ B hml hv
  obtain ⟨rfl, hsz, hP, hKA, hD0⟩ := hv
  have hx := B.exec
  have hb := B.bytes
  have hr := B.returns
  have hts := atoms_spec (ws := wsX6_walkTo) B.pre
  have hown : s.vm.findClass RX6 = some m.cls := findClass_of_methodNamed B.named
  have hlocks := B.notSynchronized
  subst hsz
  have hK := hKA.1
  have hD := hD0.self (sz := s.heap.size)
  generalize hAe : va_A [(a_pa, .inr (6, [.ref a_g, .ref a_w, .ref a_fr, .ref a_st, .ref a_qu])), (a_fr, .inl (cy 1, 36, .inl fr_f)), (a_qu, .inl (cy 1, 1152, .inl qu_f)), (a_g, .inr (3, [.int g_wide, .int g_high, .int g_drown, .int g_wind, .long g_hedges, .long g_fountains, .int g_people, .int g_tellings, .int g_reports, .ref a_g_kinds, .ref a_g_squares, .ref a_g_voices, .ref a_g_tellers, .ref a_g_listeners, .ref a_g_witnesses, .ref a_g_claims]))] s.heap.size = A at hD ⊢
  have hA : ∀ q : Nat, s.heap.size ≤ q → A q := fun q h => by rw [← hAe]; exact Or.inr h
  have hS : va_S A s.heap s.heap [] := va_S.rf
  have hP : va_P D vwCl [(a_pa, .inr (6, [.ref a_g, .ref a_w, .ref a_fr, .ref a_st, .ref a_qu])), (a_fr, .inl (cy 1, 36, .inl fr_f)), (a_qu, .inl (cy 1, 1152, .inl qu_f)), (a_g, .inr (3, [.int g_wide, .int g_high, .int g_drown, .int g_wind, .long g_hedges, .long g_fountains, .int g_people, .int g_tellings, .int g_reports, .ref a_g_kinds, .ref a_g_squares, .ref a_g_voices, .ref a_g_tellers, .ref a_g_listeners, .ref a_g_witnesses, .ref a_g_claims]))] s.heap := hP
  have hl := lv_entry ([.ref a_pa, .int px, .int py, .long pz, .int pt]) (n := 7) (Nat.le_of_ble_eq_true rfl)
  rw [lg_entry_eq]
  generalize (lg_sl ([.ref a_pa, .int px, .int py, .long pz, .int pt]) ++ List.replicate (7 - (lg_sl ([.ref a_pa, .int px, .int py, .long pz, .int pt])).length) Slot.unset).toArray = ls at hl ⊢
  have hl : lv_has ls 7 [(0, .ref a_pa), (1, .int px), (2, .int py), (3, .long pz), (5, .int pt)] := hl
  refine qW (fun QF hQF => ?_)
  refine lv_aload_n hx hb dX6_walkTo_0 rfl (lv_at hl 0 rfl) ?_
  refine lv_iload_n hx hb dX6_walkTo_1 rfl (lv_at hl 2 rfl) ?_
  refine lv_lload_n hx hb dX6_walkTo_2 rfl (lv_at hl 3 rfl) ?_
  refine wr_v (wr := []) (va_runV (As := [.int py, .long pz]) (rest := []) ⟨hx, hb, hml, hown, hts⟩ (n_X6_measure l D cy a_pa a_g a_w a_fr a_st a_qu fr_f qu_f g_wide g_high g_drown g_wind g_hedges g_fountains g_people g_tellings g_reports a_g_kinds a_g_squares a_g_voices a_g_tellers a_g_listeners a_g_witnesses a_g_claims py pz _ ) (cwV 2 hts gX6_walkTo_X6_measure rfl rfl rfl (by decide +kernel) ⟨Nat.le_of_ble_eq_true rfl, Nat.le_of_ble_eq_true rfl⟩) (pV (ci := 6) (k := 0) hKA (hP.sub (ws' := [(a_pa, .inr (6, [.ref a_g, .ref a_w, .ref a_fr, .ref a_st, .ref a_qu])), (a_fr, .inl (cy 1, 36, .inl fr_f)), (a_qu, .inl (cy 1, 1152, .inl qu_f)), (a_g, .inr (3, [.int g_wide, .int g_high, .int g_drown, .int g_wind, .long g_hedges, .long g_fountains, .int g_people, .int g_tellings, .int g_reports, .ref a_g_kinds, .ref a_g_squares, .ref a_g_voices, .ref a_g_tellers, .ref a_g_listeners, .ref a_g_witnesses, .ref a_g_claims]))]) [0, 1, 2, 3] rfl) (hD.sub (ws' := [(a_pa, .inr (6, [.ref a_g, .ref a_w, .ref a_fr, .ref a_st, .ref a_qu])), (a_fr, .inl (cy 1, 36, .inl fr_f)), (a_qu, .inl (cy 1, 1152, .inl qu_f)), (a_g, .inr (3, [.int g_wide, .int g_high, .int g_drown, .int g_wind, .long g_hedges, .long g_fountains, .int g_people, .int g_tellings, .int g_reports, .ref a_g_kinds, .ref a_g_squares, .ref a_g_voices, .ref a_g_tellers, .ref a_g_listeners, .ref a_g_witnesses, .ref a_g_claims]))]) [0, 1, 2, 3] (by decide) rfl) rfl rfl) rfl rfl hl.1 rfl (lv_room (Nat.le_of_ble_eq_true rfl)) dX6_walkTo_3 ⟨Nat.le_of_ble_eq_true rfl, Nat.le_of_ble_eq_true rfl⟩) hP hD hS hA [0, 1, 2, 3] [] rfl rfl (by decide +kernel) (by decide +kernel) (fun ur1 H locs hwr1 hP hD hS => ?_)
  obtain ⟨z2, z3⟩ := ur1
  have hP : va_P D vwCl [(a_pa, .inr (6, [.ref a_g, .ref a_w, .ref a_fr, .ref a_st, .ref a_qu])), (a_fr, .inl (cy 1, 36, .inl z2)), (a_qu, .inl (cy 1, 1152, .inl z3)), (a_g, .inr (3, [.int g_wide, .int g_high, .int g_drown, .int g_wind, .long g_hedges, .long g_fountains, .int g_people, .int g_tellings, .int g_reports, .ref a_g_kinds, .ref a_g_squares, .ref a_g_voices, .ref a_g_tellers, .ref a_g_listeners, .ref a_g_witnesses, .ref a_g_claims]))] H := hP
  have hD : va_D A [(a_pa, .inr (6, [.ref a_g, .ref a_w, .ref a_fr, .ref a_st, .ref a_qu])), (a_fr, .inl (cy 1, 36, .inl z2)), (a_qu, .inl (cy 1, 1152, .inl z3)), (a_g, .inr (3, [.int g_wide, .int g_high, .int g_drown, .int g_wind, .long g_hedges, .long g_fountains, .int g_people, .int g_tellings, .int g_reports, .ref a_g_kinds, .ref a_g_squares, .ref a_g_voices, .ref a_g_tellers, .ref a_g_listeners, .ref a_g_witnesses, .ref a_g_claims]))] := hD
  refine lv_aload_n hx hb dX6_walkTo_6 rfl (lv_at hl 0 rfl) ?_
  refine lv_iload_n hx hb dX6_walkTo_7 rfl (lv_at hl 1 rfl) ?_
  refine rd_i (va_runV (As := [.int px]) (rest := []) ⟨hx, hb, hml, hown, hts⟩ (n_X6_farOf l D cy a_pa a_g a_w a_fr a_st a_qu z2 px _ ) (cwV 1 hts gX6_walkTo_X6_farOf rfl rfl rfl (by decide +kernel) ⟨Nat.le_of_ble_eq_true rfl, Nat.le_of_ble_eq_true rfl⟩) (pV (ci := 6) (k := 0) hKA (hP.sub (ws' := [(a_pa, .inr (6, [.ref a_g, .ref a_w, .ref a_fr, .ref a_st, .ref a_qu])), (a_fr, .inl (cy 1, 36, .inl z2))]) [0, 1] rfl) (hD.sub (ws' := [(a_pa, .inr (6, [.ref a_g, .ref a_w, .ref a_fr, .ref a_st, .ref a_qu])), (a_fr, .inl (cy 1, 36, .inl z2))]) [0, 1] (by decide) rfl) rfl rfl) rfl rfl hl.1 rfl (lv_room (Nat.le_of_ble_eq_true rfl)) dX6_walkTo_8 ⟨Nat.le_of_ble_eq_true rfl, Nat.le_of_ble_eq_true rfl⟩) hP hS hA (fun r4 H locs hwr4 hP hS => ?_)
  refine lv_istore (lv' := [(6, .int r4), (0, .ref a_pa), (1, .int px), (2, .int py), (3, .long pz), (5, .int pt)]) hx hb dX6_walkTo_11 hl (by decide) rfl (fun ls hl => ?_)
  refine lv_iload hx hb dX6_walkTo_13 (lv_at hl 0 rfl) ?_
  refine lv_iconst (v := (-1)) hx hb dX6_walkTo_15 (by decide) ?_
  refine lv_icmp_eq (tgt := 25) hx hb dX6_walkTo_16 (by decide) (fun c5 => ?_) (fun c5 => ?_)
  · skip
    refine lv_iload hx hb dX6_walkTo_25 (lv_at hl 0 rfl) ?_
    subst hQF
    have hP9 := hP
    have hD9 := hD
    exact W.iret (v := r4) hx hb hr (fun t ht hW => ⟨⟨r4, (z2, z3), rfl, trivial, by rw [ht]; exact hP9, hD9⟩, hS.F ht⟩) hS.2.2 dX6_walkTo_27
  · skip
    refine lv_iload hx hb dX6_walkTo_19 (lv_at hl 5 rfl) ?_
    refine lv_iconst (v := (-1)) hx hb dX6_walkTo_21 (by decide) ?_
    refine lv_icmp_ne (tgt := 28) hx hb dX6_walkTo_22 (by decide) (fun c6 => ?_) (fun c6 => ?_)
    · skip
      refine lv_iload hx hb dX6_walkTo_28 (lv_at hl 5 rfl) ?_
      refine lv_iload hx hb dX6_walkTo_30 (lv_at hl 0 rfl) ?_
      refine lv_icmp_le (tgt := 40) hx hb dX6_walkTo_32 (by decide) (fun c7 => ?_) (fun c7 => ?_)
      · skip
        refine lv_aload_n hx hb dX6_walkTo_40 rfl (lv_at hl 1 rfl) ?_
        refine lv_iload_n hx hb dX6_walkTo_41 rfl (lv_at hl 2 rfl) ?_
        refine lv_iload hx hb dX6_walkTo_42 (lv_at hl 5 rfl) ?_
        refine rd_i (va_runV (As := [.int px, .int pt]) (rest := []) ⟨hx, hb, hml, hown, hts⟩ (n_X6_follow l D cy a_pa a_g a_w a_fr a_st a_qu g_wide g_high g_drown g_wind g_hedges g_fountains g_people g_tellings g_reports a_g_kinds a_g_squares a_g_voices a_g_tellers a_g_listeners a_g_witnesses a_g_claims z2 px pt _ ) (cwV 2 hts gX6_walkTo_X6_follow rfl rfl rfl (by decide +kernel) ⟨Nat.le_of_ble_eq_true rfl, Nat.le_of_ble_eq_true rfl⟩) (pV (ci := 6) (k := 0) hKA (hP.sub (ws' := [(a_pa, .inr (6, [.ref a_g, .ref a_w, .ref a_fr, .ref a_st, .ref a_qu])), (a_g, .inr (3, [.int g_wide, .int g_high, .int g_drown, .int g_wind, .long g_hedges, .long g_fountains, .int g_people, .int g_tellings, .int g_reports, .ref a_g_kinds, .ref a_g_squares, .ref a_g_voices, .ref a_g_tellers, .ref a_g_listeners, .ref a_g_witnesses, .ref a_g_claims])), (a_fr, .inl (cy 1, 36, .inl z2))]) [0, 3, 1] rfl) (hD.sub (ws' := [(a_pa, .inr (6, [.ref a_g, .ref a_w, .ref a_fr, .ref a_st, .ref a_qu])), (a_g, .inr (3, [.int g_wide, .int g_high, .int g_drown, .int g_wind, .long g_hedges, .long g_fountains, .int g_people, .int g_tellings, .int g_reports, .ref a_g_kinds, .ref a_g_squares, .ref a_g_voices, .ref a_g_tellers, .ref a_g_listeners, .ref a_g_witnesses, .ref a_g_claims])), (a_fr, .inl (cy 1, 36, .inl z2))]) [0, 3, 1] (by decide) rfl) rfl rfl) rfl rfl hl.1 rfl (lv_room (Nat.le_of_ble_eq_true rfl)) dX6_walkTo_44 ⟨Nat.le_of_ble_eq_true rfl, Nat.le_of_ble_eq_true rfl⟩) hP hS hA (fun r8 H locs hwr8 hP hS => ?_)
        subst hQF
        have hP9 := hP
        have hD9 := hD
        exact W.iret (v := r8) hx hb hr (fun t ht hW => ⟨⟨r8, (z2, z3), rfl, trivial, by rw [ht]; exact hP9, hD9⟩, hS.F ht⟩) hS.2.2 dX6_walkTo_47
      · skip
        refine lv_bipush (v := (-5)) hx hb dX6_walkTo_35 (by decide) ?_
        refine lv_goto (tgt := 47) hx hb dX6_walkTo_37 (by decide) ?_
        subst hQF
        have hP9 := hP
        have hD9 := hD
        exact W.iret (v := (-5)) hx hb hr (fun t ht hW => ⟨⟨(-5), (z2, z3), rfl, trivial, by rw [ht]; exact hP9, hD9⟩, hS.F ht⟩) hS.2.2 dX6_walkTo_47
    · skip
      refine lv_iload hx hb dX6_walkTo_25 (lv_at hl 0 rfl) ?_
      subst hQF
      have hP9 := hP
      have hD9 := hD
      exact W.iret (v := r4) hx hb hr (fun t ht hW => ⟨⟨r4, (z2, z3), rfl, trivial, by rw [ht]; exact hP9, hD9⟩, hS.F ht⟩) hS.2.2 dX6_walkTo_27

set_option maxHeartbeats 4000000 in
set_option maxRecDepth 100000 in
theorem n_X6_reach (l : Launch) (D : va_G) (cy : Nat → ClassId) (a_pa : Nat) (a_g : Nat) (a_w : Nat) (a_fr : Nat) (a_st : Nat) (a_qu : Nat) (a_pl : Nat) (a_kd : Nat) (a_sb : Nat) (a_hb : Nat) (a_sf : Nat) (a_hf : Nat) (w_bound : Int32) (w_drowned : Int64) (hf_f : Nat → Int32) (sf_f : Nat → Int32) (st_f : Nat → Int32) (qu_f : Nat → Int32) (px : Int32) (py : Int32) (pz : Int32) (pt : Int64) (pv : Int32) (pw : Int32) (sz : Nat)  : Met l yX6_reach wsX6_reach ({ frames := 1, cells := 0, slots := 0, locals := 22 }) (va_Pc [.ref a_pa, .int px, .int py, .int pz, .long pt, .int pv, .int pw] (kPre D cy [(a_pa, .inr (6, [.ref a_g, .ref a_w, .ref a_fr, .ref a_st, .ref a_qu])), (a_w, .inr (4, [.ref a_g, .ref a_pl, .ref a_kd, .ref a_sb, .ref a_hb, .ref a_sf, .ref a_hf, .int w_bound, .long w_drowned])), (a_hf, .inl (cy 1, 36, .inl hf_f)), (a_sf, .inl (cy 1, 36, .inl sf_f)), (a_st, .inl (cy 1, 1152, .inl st_f)), (a_qu, .inl (cy 1, 1152, .inl qu_f))] sz)) (va_Qi (fun (r : Int32) (u : (Nat → Int32) × (Nat → Int32)) => True) (fun (u : (Nat → Int32) × (Nat → Int32)) t => va_P D vwCl ([(a_pa, .inr (6, [.ref a_g, .ref a_w, .ref a_fr, .ref a_st, .ref a_qu])), (a_w, .inr (4, [.ref a_g, .ref a_pl, .ref a_kd, .ref a_sb, .ref a_hb, .ref a_sf, .ref a_hf, .int w_bound, .long w_drowned])), (a_hf, .inl (cy 1, 36, .inl hf_f)), (a_sf, .inl (cy 1, 36, .inl sf_f)), (a_st, .inl (cy 1, 1152, .inl u.1)), (a_qu, .inl (cy 1, 1152, .inl u.2))]) t.heap ∧ va_D (va_A [(a_pa, .inr (6, [.ref a_g, .ref a_w, .ref a_fr, .ref a_st, .ref a_qu])), (a_w, .inr (4, [.ref a_g, .ref a_pl, .ref a_kd, .ref a_sb, .ref a_hb, .ref a_sf, .ref a_hf, .int w_bound, .long w_drowned])), (a_hf, .inl (cy 1, 36, .inl hf_f)), (a_sf, .inl (cy 1, 36, .inl sf_f)), (a_st, .inl (cy 1, 1152, .inl st_f)), (a_qu, .inl (cy 1, 1152, .inl qu_f))] sz) ([(a_pa, .inr (6, [.ref a_g, .ref a_w, .ref a_fr, .ref a_st, .ref a_qu])), (a_w, .inr (4, [.ref a_g, .ref a_pl, .ref a_kd, .ref a_sb, .ref a_hb, .ref a_sf, .ref a_hf, .int w_bound, .long w_drowned])), (a_hf, .inl (cy 1, 36, .inl hf_f)), (a_sf, .inl (cy 1, 36, .inl sf_f)), (a_st, .inl (cy 1, 1152, .inl u.1)), (a_qu, .inl (cy 1, 1152, .inl u.2))])) (va_A [(a_pa, .inr (6, [.ref a_g, .ref a_w, .ref a_fr, .ref a_st, .ref a_qu])), (a_w, .inr (4, [.ref a_g, .ref a_pl, .ref a_kd, .ref a_sb, .ref a_hb, .ref a_sf, .ref a_hf, .int w_bound, .long w_drowned])), (a_hf, .inl (cy 1, 36, .inl hf_f)), (a_sf, .inl (cy 1, 36, .inl sf_f)), (a_st, .inl (cy 1, 1152, .inl st_f)), (a_qu, .inl (cy 1, 1152, .inl qu_f))] sz)) 0 0 (va_A [(a_pa, .inr (6, [.ref a_g, .ref a_w, .ref a_fr, .ref a_st, .ref a_qu])), (a_w, .inr (4, [.ref a_g, .ref a_pl, .ref a_kd, .ref a_sb, .ref a_hb, .ref a_sf, .ref a_hf, .int w_bound, .long w_drowned])), (a_hf, .inl (cy 1, 36, .inl hf_f)), (a_sf, .inl (cy 1, 36, .inl sf_f)), (a_st, .inl (cy 1, 1152, .inl st_f)), (a_qu, .inl (cy 1, 1152, .inl qu_f))] sz) := by
  refine Met.ofW (cc := cX6_reach) (maxL := 9) (ret := (some .int)) (by decide) rfl ?_
  intro p e s m args below meth c s₁ B hml hv
  obtain ⟨rfl, hsz, hP, hKA, hD0⟩ := hv
  have hx := B.exec
  have hb := B.bytes
  have hr := B.returns
  have hts := atoms_spec (ws := wsX6_reach) B.pre
  have hown : s.vm.findClass RX6 = some m.cls := findClass_of_methodNamed B.named
  have hlocks := B.notSynchronized
  subst hsz
  have hK := hKA.1
  have hD := hD0.self (sz := s.heap.size)
  generalize hAe : va_A [(a_pa, .inr (6, [.ref a_g, .ref a_w, .ref a_fr, .ref a_st, .ref a_qu])), (a_w, .inr (4, [.ref a_g, .ref a_pl, .ref a_kd, .ref a_sb, .ref a_hb, .ref a_sf, .ref a_hf, .int w_bound, .long w_drowned])), (a_hf, .inl (cy 1, 36, .inl hf_f)), (a_sf, .inl (cy 1, 36, .inl sf_f)), (a_st, .inl (cy 1, 1152, .inl st_f)), (a_qu, .inl (cy 1, 1152, .inl qu_f))] s.heap.size = A at hD ⊢
  have hA : ∀ q : Nat, s.heap.size ≤ q → A q := fun q h => by rw [← hAe]; exact Or.inr h
  have hS : va_S A s.heap s.heap [] := va_S.rf
  have hP : va_P D vwCl [(a_pa, .inr (6, [.ref a_g, .ref a_w, .ref a_fr, .ref a_st, .ref a_qu])), (a_w, .inr (4, [.ref a_g, .ref a_pl, .ref a_kd, .ref a_sb, .ref a_hb, .ref a_sf, .ref a_hf, .int w_bound, .long w_drowned])), (a_hf, .inl (cy 1, 36, .inl hf_f)), (a_sf, .inl (cy 1, 36, .inl sf_f)), (a_st, .inl (cy 1, 1152, .inl st_f)), (a_qu, .inl (cy 1, 1152, .inl qu_f))] s.heap := hP
  have hl := lv_entry ([.ref a_pa, .int px, .int py, .int pz, .long pt, .int pv, .int pw]) (n := 9) (Nat.le_of_ble_eq_true rfl)
  rw [lg_entry_eq]
  generalize (lg_sl ([.ref a_pa, .int px, .int py, .int pz, .long pt, .int pv, .int pw]) ++ List.replicate (9 - (lg_sl ([.ref a_pa, .int px, .int py, .int pz, .long pt, .int pv, .int pw])).length) Slot.unset).toArray = ls at hl ⊢
  have hl : lv_has ls 9 [(0, .ref a_pa), (1, .int px), (2, .int py), (3, .int pz), (4, .long pt), (6, .int pv), (7, .int pw)] := hl
  refine qW (fun QF hQF => ?_)
  have z0_ := hts (.initialized RX10) (by decide +kernel)
  have z1_ := hts (.static yX10_isOn) (by decide +kernel)
  have z2_ := hts (.fieldLink RX6 25 "HeardSeen$Paths" "law" "LHeardSeen$Law;") (by decide +kernel)
  have zi6_ : ∀ w ∈ u_ws RX6 TX6 5, w ∈ wsX6_reach := by decide +kernel
  have z4_ := hts (.fieldLink RX6 15 "HeardSeen$Paths" "steps" "[I") (by decide +kernel)
  have z5_ := hts (.fieldLink RX6 18 "HeardSeen$Paths" "queue" "[I") (by decide +kernel)
  refine lv_iload_n hx hb dX6_reach_0 rfl (lv_at hl 1 rfl) ?_
  refine lv_iconst (v := (-1)) hx hb dX6_reach_1 (by decide) ?_
  refine lv_icmp_eq (tgt := 14) hx hb dX6_reach_2 (by decide) (fun c1 => ?_) (fun c1 => ?_)
  · skip
    refine lv_iload hx hb dX6_reach_14 (lv_at hl 6 rfl) ?_
    subst hQF
    have hP9 := hP
    have hD9 := hD
    exact W.iret (v := pw) hx hb hr (fun t ht hW => ⟨⟨pw, (st_f, qu_f), rfl, trivial, by rw [ht]; exact hP9, hD9⟩, hS.F ht⟩) hS.2.2 dX6_reach_16
  · skip
    refine lv_lload hx hb dX6_reach_5 (lv_at hl 4 rfl) ?_
    refine lv_iload_n hx hb dX6_reach_7 rfl (lv_at hl 1 rfl) ?_
    refine rd_i (va_runSN (As := [.long pt, .int px]) (rest := []) ⟨hx, hb, hml, hown, hts⟩ (n_X10_isOn l D cy pt px _ ) ⟨(va_cnB 2 hts gX6_reach_X10_isOn_n54 rfl rfl rfl (hKA.2 (.methodLinkNest RX6 54 yX10_isOn RX10) (by decide +kernel)) z0_ (by decide +kernel) ⟨Nat.le_of_ble_eq_true rfl, Nat.le_of_ble_eq_true rfl⟩), z1_, trivial⟩ (pS hKA pE (dE (A := A))) rfl rfl hl.1 rfl (lv_room (Nat.le_of_ble_eq_true rfl)) dX6_reach_8 ⟨Nat.le_of_ble_eq_true rfl, Nat.le_of_ble_eq_true rfl⟩) hP hS hA (fun r2 H locs hwr2 hP hS => ?_)
    have hwr2 : (r2 = 1 ∧ True) ∨ (r2 = 0 ∧ True) := hwr2
    refine lv_if_ne (tgt := 17) hx hb dX6_reach_11 (by decide) (fun c3 => ?_) (fun c3 => ?_)
    · skip
      refine lv_iload_n hx hb dX6_reach_17 rfl (lv_at hl 1 rfl) ?_
      refine lv_bipush (v := 32) hx hb dX6_reach_18 (by decide) ?_
      refine lv_imul hx hb dX6_reach_20 ?_
      refine lv_iload_n hx hb dX6_reach_21 rfl (lv_at hl 2 rfl) ?_
      refine lv_aload_n hx hb dX6_reach_22 rfl (lv_at hl 0 rfl) ?_
      refine va_get (D := D) (ci := 6) (v := .ref a_w) (C := RX6) (T := TX6) (N := 5) hx hb hts zi6_ hown hK hP 0 rfl rfl 1 (by decide) z2_ (fun _ h9 => h9) rfl dX6_reach_23 ?_
      refine lv_iload_n hx hb dX6_reach_26 rfl (lv_at hl 1 rfl) ?_
      refine lv_iload_n hx hb dX6_reach_27 rfl (lv_at hl 3 rfl) ?_
      refine rd_i (va_runV (As := [.int px, .int pz]) (rest := [.int py, .int (px * 32)]) ⟨hx, hb, hml, hown, hts⟩ (n_X4_whoNotice l D cy a_w a_g a_pl a_kd a_sb a_hb a_sf a_hf w_bound w_drowned hf_f sf_f px pz _ ) (cwV 2 hts gX6_reach_X4_whoNotice rfl rfl rfl (by decide +kernel) ⟨Nat.le_of_ble_eq_true rfl, Nat.le_of_ble_eq_true rfl⟩) (pV (ci := 4) (k := 0) hKA (hP.sub (ws' := [(a_w, .inr (4, [.ref a_g, .ref a_pl, .ref a_kd, .ref a_sb, .ref a_hb, .ref a_sf, .ref a_hf, .int w_bound, .long w_drowned])), (a_hf, .inl (cy 1, 36, .inl hf_f)), (a_sf, .inl (cy 1, 36, .inl sf_f))]) [1, 2, 3] rfl) (hD.sub (ws' := [(a_w, .inr (4, [.ref a_g, .ref a_pl, .ref a_kd, .ref a_sb, .ref a_hb, .ref a_sf, .ref a_hf, .int w_bound, .long w_drowned])), (a_hf, .inl (cy 1, 36, .inl hf_f)), (a_sf, .inl (cy 1, 36, .inl sf_f))]) [1, 2, 3] (by decide) rfl) rfl rfl) rfl rfl hl.1 rfl (lv_room (Nat.le_of_ble_eq_true rfl)) dX6_reach_28 ⟨Nat.le_of_ble_eq_true rfl, Nat.le_of_ble_eq_true rfl⟩) hP hS hA (fun r4 H locs hwr4 hP hS => ?_)
      refine lv_ior hx hb dX6_reach_31 ?_
      refine lv_iadd hx hb dX6_reach_32 ?_
      refine lv_topi (fun x5 ex5 => ?_)
      refine lv_istore (lv' := [(8, .int x5), (0, .ref a_pa), (1, .int px), (2, .int py), (3, .int pz), (4, .long pt), (6, .int pv), (7, .int pw)]) hx hb dX6_reach_33 hl (by decide) rfl (fun ls hl => ?_)
      refine lv_iload hx hb dX6_reach_35 (lv_at hl 0 rfl) ?_
      refine lv_if_lt (tgt := 72) hx hb dX6_reach_37 (by decide) (fun c6 => ?_) (fun c6 => ?_)
      · skip
        refine lv_iload hx hb dX6_reach_72 (lv_at hl 7 rfl) ?_
        subst hQF
        have hP9 := hP
        have hD9 := hD
        exact W.iret (v := pw) hx hb hr (fun t ht hW => ⟨⟨pw, (st_f, qu_f), rfl, trivial, by rw [ht]; exact hP9, hD9⟩, hS.F ht⟩) hS.2.2 dX6_reach_74
      · skip
        refine lv_iload hx hb dX6_reach_40 (lv_at hl 0 rfl) ?_
        refine lv_sipush (v := 1152) hx hb dX6_reach_42 (by decide) ?_
        refine lv_icmp_ge (tgt := 72) hx hb dX6_reach_45 (by decide) (fun c7 => ?_) (fun c7 => ?_)
        · skip
          refine lv_iload hx hb dX6_reach_72 (lv_at hl 7 rfl) ?_
          subst hQF
          have hP9 := hP
          have hD9 := hD
          exact W.iret (v := pw) hx hb hr (fun t ht hW => ⟨⟨pw, (st_f, qu_f), rfl, trivial, by rw [ht]; exact hP9, hD9⟩, hS.F ht⟩) hS.2.2 dX6_reach_74
        · skip
          refine lv_aload_n hx hb dX6_reach_48 rfl (lv_at hl 1 rfl) ?_
          refine va_get (D := D) (ci := 6) (v := .ref a_st) (C := RX6) (T := TX6) (N := 5) hx hb hts zi6_ hown hK hP 0 rfl rfl 3 (by decide) z4_ (fun _ h9 => h9) rfl dX6_reach_49 ?_
          refine lv_iload hx hb dX6_reach_52 (lv_at hl 0 rfl) ?_
          refine my_iald hx hb hK hP 4 1 rfl rfl (by first | exact in_x (N := 1152) (by decide) (by assumption) (by assumption) | exact in_y (N := 1152) (by decide) (by assumption) (by assumption) | exact in_z (N := 1152) (by decide) (by assumption) (by assumption)) rfl dX6_reach_54 ?_
          refine lv_iconst (v := (-1)) hx hb dX6_reach_55 (by decide) ?_
          refine lv_icmp_ne (tgt := 72) hx hb dX6_reach_56 (by decide) (fun c8 => ?_) (fun c8 => ?_)
          · skip
            refine lv_iload hx hb dX6_reach_72 (lv_at hl 7 rfl) ?_
            subst hQF
            have hP9 := hP
            have hD9 := hD
            exact W.iret (v := pw) hx hb hr (fun t ht hW => ⟨⟨pw, (st_f, qu_f), rfl, trivial, by rw [ht]; exact hP9, hD9⟩, hS.F ht⟩) hS.2.2 dX6_reach_74
          · skip
            refine lv_iload hx hb dX6_reach_59 (lv_at hl 7 rfl) ?_
            refine lv_if_lt (tgt := 72) hx hb dX6_reach_61 (by decide) (fun c9 => ?_) (fun c9 => ?_)
            · skip
              refine lv_iload hx hb dX6_reach_72 (lv_at hl 7 rfl) ?_
              subst hQF
              have hP9 := hP
              have hD9 := hD
              exact W.iret (v := pw) hx hb hr (fun t ht hW => ⟨⟨pw, (st_f, qu_f), rfl, trivial, by rw [ht]; exact hP9, hD9⟩, hS.F ht⟩) hS.2.2 dX6_reach_74
            · skip
              refine lv_iload hx hb dX6_reach_64 (lv_at hl 7 rfl) ?_
              refine lv_sipush (v := 1152) hx hb dX6_reach_66 (by decide) ?_
              refine lv_icmp_lt (tgt := 75) hx hb dX6_reach_69 (by decide) (fun c10 => ?_) (fun c10 => ?_)
              · skip
                refine lv_aload_n hx hb dX6_reach_75 rfl (lv_at hl 1 rfl) ?_
                refine va_get (D := D) (ci := 6) (v := .ref a_st) (C := RX6) (T := TX6) (N := 5) hx hb hts zi6_ hown hK hP 0 rfl rfl 3 (by decide) z4_ (fun _ h9 => h9) rfl dX6_reach_76 ?_
                refine lv_iload hx hb dX6_reach_79 (lv_at hl 0 rfl) ?_
                refine lv_iload hx hb dX6_reach_81 (lv_at hl 6 rfl) ?_
                refine my_iast hx hb hK hP hD hS 4 1 rfl rfl (by first | exact in_x (N := 1152) (by decide) (by assumption) (by assumption) | exact in_y (N := 1152) (by decide) (by assumption) (by assumption) | exact in_z (N := 1152) (by decide) (by assumption) (by assumption)) rfl dX6_reach_83 (fun H locs hP hD hS => ?_)
                have hP : va_P D vwCl [(a_pa, .inr (6, [.ref a_g, .ref a_w, .ref a_fr, .ref a_st, .ref a_qu])), (a_w, .inr (4, [.ref a_g, .ref a_pl, .ref a_kd, .ref a_sb, .ref a_hb, .ref a_sf, .ref a_hf, .int w_bound, .long w_drowned])), (a_hf, .inl (cy 1, 36, .inl hf_f)), (a_sf, .inl (cy 1, 36, .inl sf_f)), (a_st, .inl (cy 1, 1152, .inl (upd st_f (x5 : Int32).toNatClampNeg pv))), (a_qu, .inl (cy 1, 1152, .inl qu_f))] H := hP
                have hD : va_D A [(a_pa, .inr (6, [.ref a_g, .ref a_w, .ref a_fr, .ref a_st, .ref a_qu])), (a_w, .inr (4, [.ref a_g, .ref a_pl, .ref a_kd, .ref a_sb, .ref a_hb, .ref a_sf, .ref a_hf, .int w_bound, .long w_drowned])), (a_hf, .inl (cy 1, 36, .inl hf_f)), (a_sf, .inl (cy 1, 36, .inl sf_f)), (a_st, .inl (cy 1, 1152, .inl (upd st_f (x5 : Int32).toNatClampNeg pv))), (a_qu, .inl (cy 1, 1152, .inl qu_f))] := hD
                refine lv_aload_n hx hb dX6_reach_84 rfl (lv_at hl 1 rfl) ?_
                refine va_get (D := D) (ci := 6) (v := .ref a_qu) (C := RX6) (T := TX6) (N := 5) hx hb hts zi6_ hown hK hP 0 rfl rfl 4 (by decide) z5_ (fun _ h9 => h9) rfl dX6_reach_85 ?_
                refine lv_iload hx hb dX6_reach_88 (lv_at hl 7 rfl) ?_
                refine lv_iload hx hb dX6_reach_90 (lv_at hl 0 rfl) ?_
                refine my_iast hx hb hK hP hD hS 5 1 rfl rfl (by first | exact in_x (N := 1152) (by decide) (by assumption) (by assumption) | exact in_y (N := 1152) (by decide) (by assumption) (by assumption) | exact in_z (N := 1152) (by decide) (by assumption) (by assumption)) rfl dX6_reach_92 (fun H locs hP hD hS => ?_)
                have hP : va_P D vwCl [(a_pa, .inr (6, [.ref a_g, .ref a_w, .ref a_fr, .ref a_st, .ref a_qu])), (a_w, .inr (4, [.ref a_g, .ref a_pl, .ref a_kd, .ref a_sb, .ref a_hb, .ref a_sf, .ref a_hf, .int w_bound, .long w_drowned])), (a_hf, .inl (cy 1, 36, .inl hf_f)), (a_sf, .inl (cy 1, 36, .inl sf_f)), (a_st, .inl (cy 1, 1152, .inl (upd st_f (x5 : Int32).toNatClampNeg pv))), (a_qu, .inl (cy 1, 1152, .inl (upd qu_f (pw : Int32).toNatClampNeg x5)))] H := hP
                have hD : va_D A [(a_pa, .inr (6, [.ref a_g, .ref a_w, .ref a_fr, .ref a_st, .ref a_qu])), (a_w, .inr (4, [.ref a_g, .ref a_pl, .ref a_kd, .ref a_sb, .ref a_hb, .ref a_sf, .ref a_hf, .int w_bound, .long w_drowned])), (a_hf, .inl (cy 1, 36, .inl hf_f)), (a_sf, .inl (cy 1, 36, .inl sf_f)), (a_st, .inl (cy 1, 1152, .inl (upd st_f (x5 : Int32).toNatClampNeg pv))), (a_qu, .inl (cy 1, 1152, .inl (upd qu_f (pw : Int32).toNatClampNeg x5)))] := hD
                refine lv_iload hx hb dX6_reach_93 (lv_at hl 7 rfl) ?_
                refine lv_iconst (v := 1) hx hb dX6_reach_95 (by decide) ?_
                refine lv_iadd hx hb dX6_reach_96 ?_
                refine lv_topi (fun x11 ex11 => ?_)
                subst hQF
                have hP9 := hP
                have hD9 := hD
                exact W.iret (v := x11) hx hb hr (fun t ht hW => ⟨⟨x11, (upd st_f (x5 : Int32).toNatClampNeg pv, upd qu_f (pw : Int32).toNatClampNeg x5), rfl, trivial, by rw [ht]; exact hP9, hD9⟩, hS.F ht⟩) hS.2.2 dX6_reach_97
              · skip
                refine lv_iload hx hb dX6_reach_72 (lv_at hl 7 rfl) ?_
                subst hQF
                have hP9 := hP
                have hD9 := hD
                exact W.iret (v := pw) hx hb hr (fun t ht hW => ⟨⟨pw, (st_f, qu_f), rfl, trivial, by rw [ht]; exact hP9, hD9⟩, hS.F ht⟩) hS.2.2 dX6_reach_74
    · skip
      refine lv_iload hx hb dX6_reach_14 (lv_at hl 6 rfl) ?_
      subst hQF
      have hP9 := hP
      have hD9 := hD
      exact W.iret (v := pw) hx hb hr (fun t ht hW => ⟨⟨pw, (st_f, qu_f), rfl, trivial, by rw [ht]; exact hP9, hD9⟩, hS.F ht⟩) hS.2.2 dX6_reach_16

set_option maxHeartbeats 4000000 in
set_option maxRecDepth 100000 in
theorem n_X6_paradeSteps (l : Launch) (D : va_G) (cy : Nat → ClassId) (a_pa : Nat) (a_g : Nat) (a_w : Nat) (a_fr : Nat) (a_st : Nat) (a_qu : Nat) (g_wide : Int32) (g_high : Int32) (g_drown : Int32) (g_wind : Int32) (g_hedges : Int64) (g_fountains : Int64) (g_people : Int32) (g_tellings : Int32) (g_reports : Int32) (a_g_kinds : Nat) (a_g_squares : Nat) (a_g_voices : Nat) (a_g_tellers : Nat) (a_g_listeners : Nat) (a_g_witnesses : Nat) (a_g_claims : Nat) (g_squares_f : Nat → Int32) (st_f : Nat → Int32) (a_pl : Nat) (a_kd : Nat) (a_sb : Nat) (a_hb : Nat) (a_sf : Nat) (a_hf : Nat) (w_bound : Int32) (w_drowned : Int64) (hf_f : Nat → Int32) (sf_f : Nat → Int32) (qu_f : Nat → Int32) (px : Int32) (py : Int32) (pz : Int64) (sz : Nat)  : Met l yX6_paradeSteps wsX6_paradeSteps ({ frames := 2, cells := 0, slots := 0, locals := 50 }) (va_Pc [.ref a_pa, .int px, .int py, .long pz] (kPre D cy [(a_pa, .inr (6, [.ref a_g, .ref a_w, .ref a_fr, .ref a_st, .ref a_qu])), (a_g, .inr (3, [.int g_wide, .int g_high, .int g_drown, .int g_wind, .long g_hedges, .long g_fountains, .int g_people, .int g_tellings, .int g_reports, .ref a_g_kinds, .ref a_g_squares, .ref a_g_voices, .ref a_g_tellers, .ref a_g_listeners, .ref a_g_witnesses, .ref a_g_claims])), (a_g_squares, .inl (cy 1, 5, .inl g_squares_f)), (a_st, .inl (cy 1, 1152, .inl st_f)), (a_w, .inr (4, [.ref a_g, .ref a_pl, .ref a_kd, .ref a_sb, .ref a_hb, .ref a_sf, .ref a_hf, .int w_bound, .long w_drowned])), (a_hf, .inl (cy 1, 36, .inl hf_f)), (a_sf, .inl (cy 1, 36, .inl sf_f)), (a_qu, .inl (cy 1, 1152, .inl qu_f))] sz)) (va_Qi (fun (r : Int32) (u : (Nat → Int32) × (Nat → Int32)) => True) (fun (u : (Nat → Int32) × (Nat → Int32)) t => va_P D vwCl ([(a_pa, .inr (6, [.ref a_g, .ref a_w, .ref a_fr, .ref a_st, .ref a_qu])), (a_g, .inr (3, [.int g_wide, .int g_high, .int g_drown, .int g_wind, .long g_hedges, .long g_fountains, .int g_people, .int g_tellings, .int g_reports, .ref a_g_kinds, .ref a_g_squares, .ref a_g_voices, .ref a_g_tellers, .ref a_g_listeners, .ref a_g_witnesses, .ref a_g_claims])), (a_g_squares, .inl (cy 1, 5, .inl g_squares_f)), (a_st, .inl (cy 1, 1152, .inl u.1)), (a_w, .inr (4, [.ref a_g, .ref a_pl, .ref a_kd, .ref a_sb, .ref a_hb, .ref a_sf, .ref a_hf, .int w_bound, .long w_drowned])), (a_hf, .inl (cy 1, 36, .inl hf_f)), (a_sf, .inl (cy 1, 36, .inl sf_f)), (a_qu, .inl (cy 1, 1152, .inl u.2))]) t.heap ∧ va_D (va_A [(a_pa, .inr (6, [.ref a_g, .ref a_w, .ref a_fr, .ref a_st, .ref a_qu])), (a_g, .inr (3, [.int g_wide, .int g_high, .int g_drown, .int g_wind, .long g_hedges, .long g_fountains, .int g_people, .int g_tellings, .int g_reports, .ref a_g_kinds, .ref a_g_squares, .ref a_g_voices, .ref a_g_tellers, .ref a_g_listeners, .ref a_g_witnesses, .ref a_g_claims])), (a_g_squares, .inl (cy 1, 5, .inl g_squares_f)), (a_st, .inl (cy 1, 1152, .inl st_f)), (a_w, .inr (4, [.ref a_g, .ref a_pl, .ref a_kd, .ref a_sb, .ref a_hb, .ref a_sf, .ref a_hf, .int w_bound, .long w_drowned])), (a_hf, .inl (cy 1, 36, .inl hf_f)), (a_sf, .inl (cy 1, 36, .inl sf_f)), (a_qu, .inl (cy 1, 1152, .inl qu_f))] sz) ([(a_pa, .inr (6, [.ref a_g, .ref a_w, .ref a_fr, .ref a_st, .ref a_qu])), (a_g, .inr (3, [.int g_wide, .int g_high, .int g_drown, .int g_wind, .long g_hedges, .long g_fountains, .int g_people, .int g_tellings, .int g_reports, .ref a_g_kinds, .ref a_g_squares, .ref a_g_voices, .ref a_g_tellers, .ref a_g_listeners, .ref a_g_witnesses, .ref a_g_claims])), (a_g_squares, .inl (cy 1, 5, .inl g_squares_f)), (a_st, .inl (cy 1, 1152, .inl u.1)), (a_w, .inr (4, [.ref a_g, .ref a_pl, .ref a_kd, .ref a_sb, .ref a_hb, .ref a_sf, .ref a_hf, .int w_bound, .long w_drowned])), (a_hf, .inl (cy 1, 36, .inl hf_f)), (a_sf, .inl (cy 1, 36, .inl sf_f)), (a_qu, .inl (cy 1, 1152, .inl u.2))])) (va_A [(a_pa, .inr (6, [.ref a_g, .ref a_w, .ref a_fr, .ref a_st, .ref a_qu])), (a_g, .inr (3, [.int g_wide, .int g_high, .int g_drown, .int g_wind, .long g_hedges, .long g_fountains, .int g_people, .int g_tellings, .int g_reports, .ref a_g_kinds, .ref a_g_squares, .ref a_g_voices, .ref a_g_tellers, .ref a_g_listeners, .ref a_g_witnesses, .ref a_g_claims])), (a_g_squares, .inl (cy 1, 5, .inl g_squares_f)), (a_st, .inl (cy 1, 1152, .inl st_f)), (a_w, .inr (4, [.ref a_g, .ref a_pl, .ref a_kd, .ref a_sb, .ref a_hb, .ref a_sf, .ref a_hf, .int w_bound, .long w_drowned])), (a_hf, .inl (cy 1, 36, .inl hf_f)), (a_sf, .inl (cy 1, 36, .inl sf_f)), (a_qu, .inl (cy 1, 1152, .inl qu_f))] sz)) 0 0 (va_A [(a_pa, .inr (6, [.ref a_g, .ref a_w, .ref a_fr, .ref a_st, .ref a_qu])), (a_g, .inr (3, [.int g_wide, .int g_high, .int g_drown, .int g_wind, .long g_hedges, .long g_fountains, .int g_people, .int g_tellings, .int g_reports, .ref a_g_kinds, .ref a_g_squares, .ref a_g_voices, .ref a_g_tellers, .ref a_g_listeners, .ref a_g_witnesses, .ref a_g_claims])), (a_g_squares, .inl (cy 1, 5, .inl g_squares_f)), (a_st, .inl (cy 1, 1152, .inl st_f)), (a_w, .inr (4, [.ref a_g, .ref a_pl, .ref a_kd, .ref a_sb, .ref a_hb, .ref a_sf, .ref a_hf, .int w_bound, .long w_drowned])), (a_hf, .inl (cy 1, 36, .inl hf_f)), (a_sf, .inl (cy 1, 36, .inl sf_f)), (a_qu, .inl (cy 1, 1152, .inl qu_f))] sz) := by
  refine Met.ofW (cc := cX6_paradeSteps) (maxL := 14) (ret := (some .int)) (by decide) rfl ?_
  intro p e s m args below meth c s₁ B hml hv
  obtain ⟨rfl, hsz, hP, hKA, hD0⟩ := hv
  have hx := B.exec
  have hb := B.bytes
  have hr := B.returns
  have hts := atoms_spec (ws := wsX6_paradeSteps) B.pre
  have hown : s.vm.findClass RX6 = some m.cls := findClass_of_methodNamed B.named
  have hlocks := B.notSynchronized
  subst hsz
  have hK := hKA.1
  have hD := hD0.self (sz := s.heap.size)
  generalize hAe : va_A [(a_pa, .inr (6, [.ref a_g, .ref a_w, .ref a_fr, .ref a_st, .ref a_qu])), (a_g, .inr (3, [.int g_wide, .int g_high, .int g_drown, .int g_wind, .long g_hedges, .long g_fountains, .int g_people, .int g_tellings, .int g_reports, .ref a_g_kinds, .ref a_g_squares, .ref a_g_voices, .ref a_g_tellers, .ref a_g_listeners, .ref a_g_witnesses, .ref a_g_claims])), (a_g_squares, .inl (cy 1, 5, .inl g_squares_f)), (a_st, .inl (cy 1, 1152, .inl st_f)), (a_w, .inr (4, [.ref a_g, .ref a_pl, .ref a_kd, .ref a_sb, .ref a_hb, .ref a_sf, .ref a_hf, .int w_bound, .long w_drowned])), (a_hf, .inl (cy 1, 36, .inl hf_f)), (a_sf, .inl (cy 1, 36, .inl sf_f)), (a_qu, .inl (cy 1, 1152, .inl qu_f))] s.heap.size = A at hD ⊢
  have hA : ∀ q : Nat, s.heap.size ≤ q → A q := fun q h => by rw [← hAe]; exact Or.inr h
  have hS : va_S A s.heap s.heap [] := va_S.rf
  have hP : va_P D vwCl [(a_pa, .inr (6, [.ref a_g, .ref a_w, .ref a_fr, .ref a_st, .ref a_qu])), (a_g, .inr (3, [.int g_wide, .int g_high, .int g_drown, .int g_wind, .long g_hedges, .long g_fountains, .int g_people, .int g_tellings, .int g_reports, .ref a_g_kinds, .ref a_g_squares, .ref a_g_voices, .ref a_g_tellers, .ref a_g_listeners, .ref a_g_witnesses, .ref a_g_claims])), (a_g_squares, .inl (cy 1, 5, .inl g_squares_f)), (a_st, .inl (cy 1, 1152, .inl st_f)), (a_w, .inr (4, [.ref a_g, .ref a_pl, .ref a_kd, .ref a_sb, .ref a_hb, .ref a_sf, .ref a_hf, .int w_bound, .long w_drowned])), (a_hf, .inl (cy 1, 36, .inl hf_f)), (a_sf, .inl (cy 1, 36, .inl sf_f)), (a_qu, .inl (cy 1, 1152, .inl qu_f))] s.heap := hP
  have hl := lv_entry ([.ref a_pa, .int px, .int py, .long pz]) (n := 14) (Nat.le_of_ble_eq_true rfl)
  rw [lg_entry_eq]
  generalize (lg_sl ([.ref a_pa, .int px, .int py, .long pz]) ++ List.replicate (14 - (lg_sl ([.ref a_pa, .int px, .int py, .long pz])).length) Slot.unset).toArray = ls at hl ⊢
  have hl : lv_has ls 14 [(0, .ref a_pa), (1, .int px), (2, .int py), (3, .long pz)] := hl
  refine qW (fun QF hQF => ?_)
  have z0_ := hts (.fieldLink RX6 21 "HeardSeen$Paths" "g" "LHeardSeen$Garden;") (by decide +kernel)
  have zi6_ : ∀ w ∈ u_ws RX6 TX6 5, w ∈ wsX6_paradeSteps := by decide +kernel
  have z2_ := hts (.fieldLink RX6 15 "HeardSeen$Paths" "steps" "[I") (by decide +kernel)
  have z3_ := hts (.fieldLink RX6 18 "HeardSeen$Paths" "queue" "[I") (by decide +kernel)
  refine lv_aload_n hx hb dX6_paradeSteps_0 rfl (lv_at hl 0 rfl) ?_
  refine va_get (D := D) (ci := 6) (v := .ref a_g) (C := RX6) (T := TX6) (N := 5) hx hb hts zi6_ hown hK hP 0 rfl rfl 0 (by decide) z0_ (fun _ h9 => h9) rfl dX6_paradeSteps_1 ?_
  refine lv_iload_n hx hb dX6_paradeSteps_4 rfl (lv_at hl 1 rfl) ?_
  refine rd_i (va_runV (As := [.int px]) (rest := []) ⟨hx, hb, hml, hown, hts⟩ (n_X3_squareOf l D cy a_g g_wide g_high g_drown g_wind g_hedges g_fountains g_people g_tellings g_reports a_g_kinds a_g_squares a_g_voices a_g_tellers a_g_listeners a_g_witnesses a_g_claims g_squares_f px _ ) (cwV 1 hts gX6_paradeSteps_X3_squareOf rfl rfl rfl (by decide +kernel) ⟨Nat.le_of_ble_eq_true rfl, Nat.le_of_ble_eq_true rfl⟩) (pV (ci := 3) (k := 0) hKA (hP.sub (ws' := [(a_g, .inr (3, [.int g_wide, .int g_high, .int g_drown, .int g_wind, .long g_hedges, .long g_fountains, .int g_people, .int g_tellings, .int g_reports, .ref a_g_kinds, .ref a_g_squares, .ref a_g_voices, .ref a_g_tellers, .ref a_g_listeners, .ref a_g_witnesses, .ref a_g_claims])), (a_g_squares, .inl (cy 1, 5, .inl g_squares_f))]) [1, 2] rfl) (hD.sub (ws' := [(a_g, .inr (3, [.int g_wide, .int g_high, .int g_drown, .int g_wind, .long g_hedges, .long g_fountains, .int g_people, .int g_tellings, .int g_reports, .ref a_g_kinds, .ref a_g_squares, .ref a_g_voices, .ref a_g_tellers, .ref a_g_listeners, .ref a_g_witnesses, .ref a_g_claims])), (a_g_squares, .inl (cy 1, 5, .inl g_squares_f))]) [1, 2] (by decide) rfl) rfl rfl) rfl rfl hl.1 rfl (lv_room (Nat.le_of_ble_eq_true rfl)) dX6_paradeSteps_5 ⟨Nat.le_of_ble_eq_true rfl, Nat.le_of_ble_eq_true rfl⟩) hP hS hA (fun r1 H locs hwr1 hP hS => ?_)
  refine lv_istore (lv' := [(5, .int r1), (0, .ref a_pa), (1, .int px), (2, .int py), (3, .long pz)]) hx hb dX6_paradeSteps_8 hl (by decide) rfl (fun ls hl => ?_)
  refine lv_aload_n hx hb dX6_paradeSteps_10 rfl (lv_at hl 1 rfl) ?_
  refine va_get (D := D) (ci := 6) (v := .ref a_g) (C := RX6) (T := TX6) (N := 5) hx hb hts zi6_ hown hK hP 0 rfl rfl 0 (by decide) z0_ (fun _ h9 => h9) rfl dX6_paradeSteps_11 ?_
  refine rd_i (va_runV (As := []) (rest := []) ⟨hx, hb, hml, hown, hts⟩ (n_X3_everybody l D cy a_g g_wide g_high g_drown g_wind g_hedges g_fountains g_people g_tellings g_reports a_g_kinds a_g_squares a_g_voices a_g_tellers a_g_listeners a_g_witnesses a_g_claims _ ) (cwV 0 hts gX6_paradeSteps_X3_everybody rfl rfl rfl (by decide +kernel) ⟨Nat.le_of_ble_eq_true rfl, Nat.le_of_ble_eq_true rfl⟩) (pV (ci := 3) (k := 0) hKA (hP.sub (ws' := [(a_g, .inr (3, [.int g_wide, .int g_high, .int g_drown, .int g_wind, .long g_hedges, .long g_fountains, .int g_people, .int g_tellings, .int g_reports, .ref a_g_kinds, .ref a_g_squares, .ref a_g_voices, .ref a_g_tellers, .ref a_g_listeners, .ref a_g_witnesses, .ref a_g_claims]))]) [1] rfl) (hD.sub (ws' := [(a_g, .inr (3, [.int g_wide, .int g_high, .int g_drown, .int g_wind, .long g_hedges, .long g_fountains, .int g_people, .int g_tellings, .int g_reports, .ref a_g_kinds, .ref a_g_squares, .ref a_g_voices, .ref a_g_tellers, .ref a_g_listeners, .ref a_g_witnesses, .ref a_g_claims]))]) [1] (by decide) rfl) rfl rfl) rfl rfl hl.1 rfl (lv_room (Nat.le_of_ble_eq_true rfl)) dX6_paradeSteps_14 ⟨Nat.le_of_ble_eq_true rfl, Nat.le_of_ble_eq_true rfl⟩) hP hS hA (fun r2 H locs hwr2 hP hS => ?_)
  refine lv_iconst (v := 1) hx hb dX6_paradeSteps_17 (by decide) ?_
  refine lv_iload_n hx hb dX6_paradeSteps_18 rfl (lv_at hl 2 rfl) ?_
  refine lv_ishl hx hb dX6_paradeSteps_19 ?_
  refine lv_iconst (v := (-1)) hx hb dX6_paradeSteps_20 (by decide) ?_
  refine lv_ixor hx hb dX6_paradeSteps_21 ?_
  refine lv_iand hx hb dX6_paradeSteps_22 ?_
  refine lv_topi (fun x3 ex3 => ?_)
  refine lv_istore (lv' := [(6, .int x3), (5, .int r1), (0, .ref a_pa), (1, .int px), (2, .int py), (3, .long pz)]) hx hb dX6_paradeSteps_23 hl (by decide) rfl (fun ls hl => ?_)
  refine lv_iconst (v := 0) hx hb dX6_paradeSteps_25 (by decide) ?_
  refine lv_istore (lv' := [(7, .int 0), (6, .int x3), (5, .int r1), (0, .ref a_pa), (1, .int px), (2, .int py), (3, .long pz)]) hx hb dX6_paradeSteps_26 hl (by decide) rfl (fun ls hl => ?_)
  have lp28 : ∀ (n28 : Nat) (v7_28 : Nat) (y_st_28 : Nat → Int32) (hv7_28 : v7_28 < 2147483648), 2147483648 - v7_28 < n28 → ∀ (H : Heap) (locs : List Loc), va_P D vwCl [(a_pa, .inr (6, [.ref a_g, .ref a_w, .ref a_fr, .ref a_st, .ref a_qu])), (a_g, .inr (3, [.int g_wide, .int g_high, .int g_drown, .int g_wind, .long g_hedges, .long g_fountains, .int g_people, .int g_tellings, .int g_reports, .ref a_g_kinds, .ref a_g_squares, .ref a_g_voices, .ref a_g_tellers, .ref a_g_listeners, .ref a_g_witnesses, .ref a_g_claims])), (a_g_squares, .inl (cy 1, 5, .inl g_squares_f)), (a_st, .inl (cy 1, 1152, .inl y_st_28)), (a_w, .inr (4, [.ref a_g, .ref a_pl, .ref a_kd, .ref a_sb, .ref a_hb, .ref a_sf, .ref a_hf, .int w_bound, .long w_drowned])), (a_hf, .inl (cy 1, 36, .inl hf_f)), (a_sf, .inl (cy 1, 36, .inl sf_f)), (a_qu, .inl (cy 1, 1152, .inl qu_f))] H → va_D A [(a_pa, .inr (6, [.ref a_g, .ref a_w, .ref a_fr, .ref a_st, .ref a_qu])), (a_g, .inr (3, [.int g_wide, .int g_high, .int g_drown, .int g_wind, .long g_hedges, .long g_fountains, .int g_people, .int g_tellings, .int g_reports, .ref a_g_kinds, .ref a_g_squares, .ref a_g_voices, .ref a_g_tellers, .ref a_g_listeners, .ref a_g_witnesses, .ref a_g_claims])), (a_g_squares, .inl (cy 1, 5, .inl g_squares_f)), (a_st, .inl (cy 1, 1152, .inl y_st_28)), (a_w, .inr (4, [.ref a_g, .ref a_pl, .ref a_kd, .ref a_sb, .ref a_hb, .ref a_sf, .ref a_hf, .int w_bound, .long w_drowned])), (a_hf, .inl (cy 1, 36, .inl hf_f)), (a_sf, .inl (cy 1, 36, .inl sf_f)), (a_qu, .inl (cy 1, 1152, .inl qu_f))] → va_S A s.heap H locs → ∀ ls : Array Slot, lv_has ls 14 [(7, .int (nI v7_28)), (6, .int x3), (5, .int r1), (0, .ref a_pa), (1, .int px), (2, .int py), (3, .long pz)] → W p l e (headSpec wsX6_paradeSteps ({ frames := 2, cells := 0, slots := 0, locals := 50 })).room s m [.ref a_pa, .int px, .int py, .long pz].toArray below meth c H locs 0 0 QF (F0 m 28 ls []) := by
    intro n28
    induction n28 with
    | zero => intro v7_28 y_st_28 hv7_28 hm; exact absurd hm (Nat.not_lt_zero _)
    | succ n28 ih28 =>
      intro v7_28 y_st_28 hv7_28 hm28 H locs hP hD hS ls hl
      refine lv_iload hx hb dX6_paradeSteps_28 (lv_at hl 0 rfl) ?_
      refine lv_sipush (v := 1152) hx hb dX6_paradeSteps_30 (by decide) ?_
      refine lv_icmp_ge (tgt := 50) hx hb dX6_paradeSteps_33 (by decide) (fun c4 => ?_) (fun c4 => ?_)
      · skip
        refine lv_aload_n hx hb dX6_paradeSteps_50 rfl (lv_at hl 3 rfl) ?_
        refine lv_iload hx hb dX6_paradeSteps_51 (lv_at hl 2 rfl) ?_
        refine lv_iconst (v := 0) hx hb dX6_paradeSteps_53 (by decide) ?_
        refine lv_iload_n hx hb dX6_paradeSteps_54 rfl (lv_at hl 5 rfl) ?_
        refine lv_lload_n hx hb dX6_paradeSteps_55 rfl (lv_at hl 6 rfl) ?_
        refine lv_iconst (v := 0) hx hb dX6_paradeSteps_56 (by decide) ?_
        refine lv_iconst (v := 0) hx hb dX6_paradeSteps_57 (by decide) ?_
        refine wr_i (wr := [(a_g, .inr (3, [.int g_wide, .int g_high, .int g_drown, .int g_wind, .long g_hedges, .long g_fountains, .int g_people, .int g_tellings, .int g_reports, .ref a_g_kinds, .ref a_g_squares, .ref a_g_voices, .ref a_g_tellers, .ref a_g_listeners, .ref a_g_witnesses, .ref a_g_claims])), (a_g_squares, .inl (cy 1, 5, .inl g_squares_f))]) (va_runV (As := [.int r1, .int 0, .int py, .long pz, .int 0, .int 0]) (rest := []) ⟨hx, hb, hml, hown, hts⟩ (n_X6_reach l D cy a_pa a_g a_w a_fr a_st a_qu a_pl a_kd a_sb a_hb a_sf a_hf w_bound w_drowned hf_f sf_f y_st_28 qu_f r1 (0) py pz (0) (0) _ ) (cwV 6 hts gX6_paradeSteps_X6_reach rfl rfl rfl (by decide +kernel) ⟨Nat.le_of_ble_eq_true rfl, Nat.le_of_ble_eq_true rfl⟩) (pV (ci := 6) (k := 0) hKA (hP.sub (ws' := [(a_pa, .inr (6, [.ref a_g, .ref a_w, .ref a_fr, .ref a_st, .ref a_qu])), (a_w, .inr (4, [.ref a_g, .ref a_pl, .ref a_kd, .ref a_sb, .ref a_hb, .ref a_sf, .ref a_hf, .int w_bound, .long w_drowned])), (a_hf, .inl (cy 1, 36, .inl hf_f)), (a_sf, .inl (cy 1, 36, .inl sf_f)), (a_st, .inl (cy 1, 1152, .inl y_st_28)), (a_qu, .inl (cy 1, 1152, .inl qu_f))]) [0, 4, 5, 6, 3, 7] rfl) (hD.sub (ws' := [(a_pa, .inr (6, [.ref a_g, .ref a_w, .ref a_fr, .ref a_st, .ref a_qu])), (a_w, .inr (4, [.ref a_g, .ref a_pl, .ref a_kd, .ref a_sb, .ref a_hb, .ref a_sf, .ref a_hf, .int w_bound, .long w_drowned])), (a_hf, .inl (cy 1, 36, .inl hf_f)), (a_sf, .inl (cy 1, 36, .inl sf_f)), (a_st, .inl (cy 1, 1152, .inl y_st_28)), (a_qu, .inl (cy 1, 1152, .inl qu_f))]) [0, 4, 5, 6, 3, 7] (by decide) rfl) rfl rfl) rfl rfl hl.1 rfl (lv_room (Nat.le_of_ble_eq_true rfl)) dX6_paradeSteps_58 ⟨Nat.le_of_ble_eq_true rfl, Nat.le_of_ble_eq_true rfl⟩) hP hD hS hA [0, 4, 5, 6, 3, 7] [1, 2] rfl rfl (by decide +kernel) (by decide +kernel) (fun r5 ur5 H locs hwr5 hP hD hS => ?_)
        obtain ⟨z6, z7⟩ := ur5
        have hP : va_P D vwCl [(a_g, .inr (3, [.int g_wide, .int g_high, .int g_drown, .int g_wind, .long g_hedges, .long g_fountains, .int g_people, .int g_tellings, .int g_reports, .ref a_g_kinds, .ref a_g_squares, .ref a_g_voices, .ref a_g_tellers, .ref a_g_listeners, .ref a_g_witnesses, .ref a_g_claims])), (a_g_squares, .inl (cy 1, 5, .inl g_squares_f)), (a_pa, .inr (6, [.ref a_g, .ref a_w, .ref a_fr, .ref a_st, .ref a_qu])), (a_w, .inr (4, [.ref a_g, .ref a_pl, .ref a_kd, .ref a_sb, .ref a_hb, .ref a_sf, .ref a_hf, .int w_bound, .long w_drowned])), (a_hf, .inl (cy 1, 36, .inl hf_f)), (a_sf, .inl (cy 1, 36, .inl sf_f)), (a_st, .inl (cy 1, 1152, .inl z6)), (a_qu, .inl (cy 1, 1152, .inl z7))] H := hP
        have hD : va_D A [(a_g, .inr (3, [.int g_wide, .int g_high, .int g_drown, .int g_wind, .long g_hedges, .long g_fountains, .int g_people, .int g_tellings, .int g_reports, .ref a_g_kinds, .ref a_g_squares, .ref a_g_voices, .ref a_g_tellers, .ref a_g_listeners, .ref a_g_witnesses, .ref a_g_claims])), (a_g_squares, .inl (cy 1, 5, .inl g_squares_f)), (a_pa, .inr (6, [.ref a_g, .ref a_w, .ref a_fr, .ref a_st, .ref a_qu])), (a_w, .inr (4, [.ref a_g, .ref a_pl, .ref a_kd, .ref a_sb, .ref a_hb, .ref a_sf, .ref a_hf, .int w_bound, .long w_drowned])), (a_hf, .inl (cy 1, 36, .inl hf_f)), (a_sf, .inl (cy 1, 36, .inl sf_f)), (a_st, .inl (cy 1, 1152, .inl z6)), (a_qu, .inl (cy 1, 1152, .inl z7))] := hD
        refine lv_istore (lv' := [(7, .int r5), (6, .int x3), (5, .int r1), (0, .ref a_pa), (1, .int px), (2, .int py), (3, .long pz)]) hx hb dX6_paradeSteps_61 hl (by decide) rfl (fun ls hl => ?_)
        refine lv_iconst (v := 0) hx hb dX6_paradeSteps_63 (by decide) ?_
        refine lv_istore (lv' := [(8, .int 0), (7, .int r5), (6, .int x3), (5, .int r1), (0, .ref a_pa), (1, .int px), (2, .int py), (3, .long pz)]) hx hb dX6_paradeSteps_64 hl (by decide) rfl (fun ls hl => ?_)
        have lp66 : ∀ (n66 : Nat) (v8_66 : Nat) (v7_66 : Int32) (y_st_66 : Nat → Int32) (y_qu_66 : Nat → Int32) (hv8_66 : v8_66 < 2147483648), 2147483648 - v8_66 < n66 → ∀ (H : Heap) (locs : List Loc), va_P D vwCl [(a_g, .inr (3, [.int g_wide, .int g_high, .int g_drown, .int g_wind, .long g_hedges, .long g_fountains, .int g_people, .int g_tellings, .int g_reports, .ref a_g_kinds, .ref a_g_squares, .ref a_g_voices, .ref a_g_tellers, .ref a_g_listeners, .ref a_g_witnesses, .ref a_g_claims])), (a_g_squares, .inl (cy 1, 5, .inl g_squares_f)), (a_pa, .inr (6, [.ref a_g, .ref a_w, .ref a_fr, .ref a_st, .ref a_qu])), (a_w, .inr (4, [.ref a_g, .ref a_pl, .ref a_kd, .ref a_sb, .ref a_hb, .ref a_sf, .ref a_hf, .int w_bound, .long w_drowned])), (a_hf, .inl (cy 1, 36, .inl hf_f)), (a_sf, .inl (cy 1, 36, .inl sf_f)), (a_st, .inl (cy 1, 1152, .inl y_st_66)), (a_qu, .inl (cy 1, 1152, .inl y_qu_66))] H → va_D A [(a_g, .inr (3, [.int g_wide, .int g_high, .int g_drown, .int g_wind, .long g_hedges, .long g_fountains, .int g_people, .int g_tellings, .int g_reports, .ref a_g_kinds, .ref a_g_squares, .ref a_g_voices, .ref a_g_tellers, .ref a_g_listeners, .ref a_g_witnesses, .ref a_g_claims])), (a_g_squares, .inl (cy 1, 5, .inl g_squares_f)), (a_pa, .inr (6, [.ref a_g, .ref a_w, .ref a_fr, .ref a_st, .ref a_qu])), (a_w, .inr (4, [.ref a_g, .ref a_pl, .ref a_kd, .ref a_sb, .ref a_hb, .ref a_sf, .ref a_hf, .int w_bound, .long w_drowned])), (a_hf, .inl (cy 1, 36, .inl hf_f)), (a_sf, .inl (cy 1, 36, .inl sf_f)), (a_st, .inl (cy 1, 1152, .inl y_st_66)), (a_qu, .inl (cy 1, 1152, .inl y_qu_66))] → va_S A s.heap H locs → ∀ ls : Array Slot, lv_has ls 14 [(8, .int (nI v8_66)), (7, .int v7_66), (6, .int x3), (5, .int r1), (0, .ref a_pa), (1, .int px), (2, .int py), (3, .long pz)] → W p l e (headSpec wsX6_paradeSteps ({ frames := 2, cells := 0, slots := 0, locals := 50 })).room s m [.ref a_pa, .int px, .int py, .long pz].toArray below meth c H locs 0 0 QF (F0 m 66 ls []) := by
          intro n66
          induction n66 with
          | zero => intro v8_66 v7_66 y_st_66 y_qu_66 hv8_66 hm; exact absurd hm (Nat.not_lt_zero _)
          | succ n66 ih66 =>
            intro v8_66 v7_66 y_st_66 y_qu_66 hv8_66 hm66 H locs hP hD hS ls hl
            refine lv_iload hx hb dX6_paradeSteps_66 (lv_at hl 0 rfl) ?_
            refine lv_iload hx hb dX6_paradeSteps_68 (lv_at hl 1 rfl) ?_
            refine lv_icmp_ge (tgt := 187) hx hb dX6_paradeSteps_70 (by decide) (fun c8 => ?_) (fun c8 => ?_)
            · skip
              refine lv_iconst (v := (-1)) hx hb dX6_paradeSteps_187 (by decide) ?_
              subst hQF
              have hP9 := hP.sub (ws' := [(a_pa, .inr (6, [.ref a_g, .ref a_w, .ref a_fr, .ref a_st, .ref a_qu])), (a_g, .inr (3, [.int g_wide, .int g_high, .int g_drown, .int g_wind, .long g_hedges, .long g_fountains, .int g_people, .int g_tellings, .int g_reports, .ref a_g_kinds, .ref a_g_squares, .ref a_g_voices, .ref a_g_tellers, .ref a_g_listeners, .ref a_g_witnesses, .ref a_g_claims])), (a_g_squares, .inl (cy 1, 5, .inl g_squares_f)), (a_st, .inl (cy 1, 1152, .inl y_st_66)), (a_w, .inr (4, [.ref a_g, .ref a_pl, .ref a_kd, .ref a_sb, .ref a_hb, .ref a_sf, .ref a_hf, .int w_bound, .long w_drowned])), (a_hf, .inl (cy 1, 36, .inl hf_f)), (a_sf, .inl (cy 1, 36, .inl sf_f)), (a_qu, .inl (cy 1, 1152, .inl y_qu_66))]) [2, 0, 1, 6, 3, 4, 5, 7] rfl
              have hD9 := hD.sub (ws' := [(a_pa, .inr (6, [.ref a_g, .ref a_w, .ref a_fr, .ref a_st, .ref a_qu])), (a_g, .inr (3, [.int g_wide, .int g_high, .int g_drown, .int g_wind, .long g_hedges, .long g_fountains, .int g_people, .int g_tellings, .int g_reports, .ref a_g_kinds, .ref a_g_squares, .ref a_g_voices, .ref a_g_tellers, .ref a_g_listeners, .ref a_g_witnesses, .ref a_g_claims])), (a_g_squares, .inl (cy 1, 5, .inl g_squares_f)), (a_st, .inl (cy 1, 1152, .inl y_st_66)), (a_w, .inr (4, [.ref a_g, .ref a_pl, .ref a_kd, .ref a_sb, .ref a_hb, .ref a_sf, .ref a_hf, .int w_bound, .long w_drowned])), (a_hf, .inl (cy 1, 36, .inl hf_f)), (a_sf, .inl (cy 1, 36, .inl sf_f)), (a_qu, .inl (cy 1, 1152, .inl y_qu_66))]) [2, 0, 1, 6, 3, 4, 5, 7] (by decide) rfl
              exact W.iret (v := (-1)) hx hb hr (fun t ht hW => ⟨⟨(-1), (y_st_66, y_qu_66), rfl, trivial, by rw [ht]; exact hP9, hD9⟩, hS.F ht⟩) hS.2.2 dX6_paradeSteps_188
            · skip
              refine lv_iload hx hb dX6_paradeSteps_73 (lv_at hl 0 rfl) ?_
              refine lv_aload_n hx hb dX6_paradeSteps_75 rfl (lv_at hl 4 rfl) ?_
              refine va_get (D := D) (ci := 6) (v := .ref a_qu) (C := RX6) (T := TX6) (N := 5) hx hb hts zi6_ hown hK hP 2 rfl rfl 4 (by decide) z3_ (fun _ h9 => h9) rfl dX6_paradeSteps_76 ?_
              refine va_alen hx hb hK hP 7 1 rfl rfl (v := 1152) rfl dX6_paradeSteps_79 ?_
              refine lv_icmp_ge (tgt := 187) hx hb dX6_paradeSteps_80 (by decide) (fun c9 => ?_) (fun c9 => ?_)
              · skip
                refine lv_iconst (v := (-1)) hx hb dX6_paradeSteps_187 (by decide) ?_
                subst hQF
                have hP9 := hP.sub (ws' := [(a_pa, .inr (6, [.ref a_g, .ref a_w, .ref a_fr, .ref a_st, .ref a_qu])), (a_g, .inr (3, [.int g_wide, .int g_high, .int g_drown, .int g_wind, .long g_hedges, .long g_fountains, .int g_people, .int g_tellings, .int g_reports, .ref a_g_kinds, .ref a_g_squares, .ref a_g_voices, .ref a_g_tellers, .ref a_g_listeners, .ref a_g_witnesses, .ref a_g_claims])), (a_g_squares, .inl (cy 1, 5, .inl g_squares_f)), (a_st, .inl (cy 1, 1152, .inl y_st_66)), (a_w, .inr (4, [.ref a_g, .ref a_pl, .ref a_kd, .ref a_sb, .ref a_hb, .ref a_sf, .ref a_hf, .int w_bound, .long w_drowned])), (a_hf, .inl (cy 1, 36, .inl hf_f)), (a_sf, .inl (cy 1, 36, .inl sf_f)), (a_qu, .inl (cy 1, 1152, .inl y_qu_66))]) [2, 0, 1, 6, 3, 4, 5, 7] rfl
                have hD9 := hD.sub (ws' := [(a_pa, .inr (6, [.ref a_g, .ref a_w, .ref a_fr, .ref a_st, .ref a_qu])), (a_g, .inr (3, [.int g_wide, .int g_high, .int g_drown, .int g_wind, .long g_hedges, .long g_fountains, .int g_people, .int g_tellings, .int g_reports, .ref a_g_kinds, .ref a_g_squares, .ref a_g_voices, .ref a_g_tellers, .ref a_g_listeners, .ref a_g_witnesses, .ref a_g_claims])), (a_g_squares, .inl (cy 1, 5, .inl g_squares_f)), (a_st, .inl (cy 1, 1152, .inl y_st_66)), (a_w, .inr (4, [.ref a_g, .ref a_pl, .ref a_kd, .ref a_sb, .ref a_hb, .ref a_sf, .ref a_hf, .int w_bound, .long w_drowned])), (a_hf, .inl (cy 1, 36, .inl hf_f)), (a_sf, .inl (cy 1, 36, .inl sf_f)), (a_qu, .inl (cy 1, 1152, .inl y_qu_66))]) [2, 0, 1, 6, 3, 4, 5, 7] (by decide) rfl
                exact W.iret (v := (-1)) hx hb hr (fun t ht hW => ⟨⟨(-1), (y_st_66, y_qu_66), rfl, trivial, by rw [ht]; exact hP9, hD9⟩, hS.F ht⟩) hS.2.2 dX6_paradeSteps_188
              · skip
                refine lv_aload_n hx hb dX6_paradeSteps_83 rfl (lv_at hl 4 rfl) ?_
                refine va_get (D := D) (ci := 6) (v := .ref a_qu) (C := RX6) (T := TX6) (N := 5) hx hb hts zi6_ hown hK hP 2 rfl rfl 4 (by decide) z3_ (fun _ h9 => h9) rfl dX6_paradeSteps_84 ?_
                refine lv_iload hx hb dX6_paradeSteps_87 (lv_at hl 0 rfl) ?_
                refine my_iald hx hb hK hP 7 1 rfl rfl (by first | exact in_ge (N := 1152) (by decide) (by omega) (by assumption) | exact vp_in_nI (by omega) (by omega)) (nI_clamp (by omega)) dX6_paradeSteps_89 ?_
                refine lv_topi (fun x10 ex10 => ?_)
                refine lv_istore (lv' := [(9, .int x10), (8, .int (nI v8_66)), (7, .int v7_66), (6, .int x3), (5, .int r1), (0, .ref a_pa), (1, .int px), (2, .int py), (3, .long pz)]) hx hb dX6_paradeSteps_90 hl (by decide) rfl (fun ls hl => ?_)
                refine lv_iload hx hb dX6_paradeSteps_92 (lv_at hl 0 rfl) ?_
                refine lv_bipush (v := 31) hx hb dX6_paradeSteps_94 (by decide) ?_
                refine lv_iand hx hb dX6_paradeSteps_96 ?_
                refine lv_topi (fun x11 ex11 => ?_)
                refine lv_istore (lv' := [(10, .int x11), (9, .int x10), (8, .int (nI v8_66)), (7, .int v7_66), (6, .int x3), (5, .int r1), (0, .ref a_pa), (1, .int px), (2, .int py), (3, .long pz)]) hx hb dX6_paradeSteps_97 hl (by decide) rfl (fun ls hl => ?_)
                refine lv_iload hx hb dX6_paradeSteps_99 (lv_at hl 1 rfl) ?_
                have j123 : ∀ (s1_123 : Int32) (H : Heap) (locs : List Loc), va_P D vwCl [(a_g, .inr (3, [.int g_wide, .int g_high, .int g_drown, .int g_wind, .long g_hedges, .long g_fountains, .int g_people, .int g_tellings, .int g_reports, .ref a_g_kinds, .ref a_g_squares, .ref a_g_voices, .ref a_g_tellers, .ref a_g_listeners, .ref a_g_witnesses, .ref a_g_claims])), (a_g_squares, .inl (cy 1, 5, .inl g_squares_f)), (a_pa, .inr (6, [.ref a_g, .ref a_w, .ref a_fr, .ref a_st, .ref a_qu])), (a_w, .inr (4, [.ref a_g, .ref a_pl, .ref a_kd, .ref a_sb, .ref a_hb, .ref a_sf, .ref a_hf, .int w_bound, .long w_drowned])), (a_hf, .inl (cy 1, 36, .inl hf_f)), (a_sf, .inl (cy 1, 36, .inl sf_f)), (a_st, .inl (cy 1, 1152, .inl y_st_66)), (a_qu, .inl (cy 1, 1152, .inl y_qu_66))] H → va_D A [(a_g, .inr (3, [.int g_wide, .int g_high, .int g_drown, .int g_wind, .long g_hedges, .long g_fountains, .int g_people, .int g_tellings, .int g_reports, .ref a_g_kinds, .ref a_g_squares, .ref a_g_voices, .ref a_g_tellers, .ref a_g_listeners, .ref a_g_witnesses, .ref a_g_claims])), (a_g_squares, .inl (cy 1, 5, .inl g_squares_f)), (a_pa, .inr (6, [.ref a_g, .ref a_w, .ref a_fr, .ref a_st, .ref a_qu])), (a_w, .inr (4, [.ref a_g, .ref a_pl, .ref a_kd, .ref a_sb, .ref a_hb, .ref a_sf, .ref a_hf, .int w_bound, .long w_drowned])), (a_hf, .inl (cy 1, 36, .inl hf_f)), (a_sf, .inl (cy 1, 36, .inl sf_f)), (a_st, .inl (cy 1, 1152, .inl y_st_66)), (a_qu, .inl (cy 1, 1152, .inl y_qu_66))] → va_S A s.heap H locs → ∀ ls : Array Slot, lv_has ls 14 [(10, .int x11), (9, .int x10), (8, .int (nI v8_66)), (7, .int v7_66), (6, .int x3), (5, .int r1), (0, .ref a_pa), (1, .int px), (2, .int py), (3, .long pz)] → W p l e (headSpec wsX6_paradeSteps ({ frames := 2, cells := 0, slots := 0, locals := 50 })).room s m [.ref a_pa, .int px, .int py, .long pz].toArray below meth c H locs 0 0 QF (F0 m 123 ls [.int s1_123]) := by
                  intro s1_123 H locs hP hD hS ls hl
                  refine lv_istore (lv' := [(11, .int s1_123), (10, .int x11), (9, .int x10), (8, .int (nI v8_66)), (7, .int v7_66), (6, .int x3), (5, .int r1), (0, .ref a_pa), (1, .int px), (2, .int py), (3, .long pz)]) hx hb dX6_paradeSteps_123 hl (by decide) rfl (fun ls hl => ?_)
                  refine lv_iload hx hb dX6_paradeSteps_125 (lv_at hl 1 rfl) ?_
                  refine lv_iload hx hb dX6_paradeSteps_127 (lv_at hl 5 rfl) ?_
                  refine lv_icmp_ne (tgt := 135) hx hb dX6_paradeSteps_129 (by decide) (fun c12 => ?_) (fun c12 => ?_)
                  · skip
                    refine lv_iconst (v := 0) hx hb dX6_paradeSteps_135 (by decide) ?_
                    refine lv_istore (lv' := [(12, .int 0), (11, .int s1_123), (10, .int x11), (9, .int x10), (8, .int (nI v8_66)), (7, .int v7_66), (6, .int x3), (5, .int r1), (0, .ref a_pa), (1, .int px), (2, .int py), (3, .long pz)]) hx hb dX6_paradeSteps_136 hl (by decide) rfl (fun ls hl => ?_)
                    have lp138 : ∀ (n138 : Nat) (v12_138 : Nat) (v7_138 : Int32) (y_st_138 : Nat → Int32) (y_qu_138 : Nat → Int32) (hv12_138 : v12_138 < 2147483648), 2147483648 - v12_138 < n138 → ∀ (H : Heap) (locs : List Loc), va_P D vwCl [(a_g, .inr (3, [.int g_wide, .int g_high, .int g_drown, .int g_wind, .long g_hedges, .long g_fountains, .int g_people, .int g_tellings, .int g_reports, .ref a_g_kinds, .ref a_g_squares, .ref a_g_voices, .ref a_g_tellers, .ref a_g_listeners, .ref a_g_witnesses, .ref a_g_claims])), (a_g_squares, .inl (cy 1, 5, .inl g_squares_f)), (a_pa, .inr (6, [.ref a_g, .ref a_w, .ref a_fr, .ref a_st, .ref a_qu])), (a_w, .inr (4, [.ref a_g, .ref a_pl, .ref a_kd, .ref a_sb, .ref a_hb, .ref a_sf, .ref a_hf, .int w_bound, .long w_drowned])), (a_hf, .inl (cy 1, 36, .inl hf_f)), (a_sf, .inl (cy 1, 36, .inl sf_f)), (a_st, .inl (cy 1, 1152, .inl y_st_138)), (a_qu, .inl (cy 1, 1152, .inl y_qu_138))] H → va_D A [(a_g, .inr (3, [.int g_wide, .int g_high, .int g_drown, .int g_wind, .long g_hedges, .long g_fountains, .int g_people, .int g_tellings, .int g_reports, .ref a_g_kinds, .ref a_g_squares, .ref a_g_voices, .ref a_g_tellers, .ref a_g_listeners, .ref a_g_witnesses, .ref a_g_claims])), (a_g_squares, .inl (cy 1, 5, .inl g_squares_f)), (a_pa, .inr (6, [.ref a_g, .ref a_w, .ref a_fr, .ref a_st, .ref a_qu])), (a_w, .inr (4, [.ref a_g, .ref a_pl, .ref a_kd, .ref a_sb, .ref a_hb, .ref a_sf, .ref a_hf, .int w_bound, .long w_drowned])), (a_hf, .inl (cy 1, 36, .inl hf_f)), (a_sf, .inl (cy 1, 36, .inl sf_f)), (a_st, .inl (cy 1, 1152, .inl y_st_138)), (a_qu, .inl (cy 1, 1152, .inl y_qu_138))] → va_S A s.heap H locs → ∀ ls : Array Slot, lv_has ls 14 [(12, .int (nI v12_138)), (11, .int s1_123), (10, .int x11), (9, .int x10), (8, .int (nI v8_66)), (7, .int v7_138), (6, .int x3), (5, .int r1), (0, .ref a_pa), (1, .int px), (2, .int py), (3, .long pz)] → W p l e (headSpec wsX6_paradeSteps ({ frames := 2, cells := 0, slots := 0, locals := 50 })).room s m [.ref a_pa, .int px, .int py, .long pz].toArray below meth c H locs 0 0 QF (F0 m 138 ls []) := by
                      intro n138
                      induction n138 with
                      | zero => intro v12_138 v7_138 y_st_138 y_qu_138 hv12_138 hm; exact absurd hm (Nat.not_lt_zero _)
                      | succ n138 ih138 =>
                        intro v12_138 v7_138 y_st_138 y_qu_138 hv12_138 hm138 H locs hP hD hS ls hl
                        refine lv_iload hx hb dX6_paradeSteps_138 (lv_at hl 0 rfl) ?_
                        refine lv_iconst (v := 4) hx hb dX6_paradeSteps_140 (by decide) ?_
                        refine lv_icmp_ge (tgt := 181) hx hb dX6_paradeSteps_141 (by decide) (fun c13 => ?_) (fun c13 => ?_)
                        · skip
                          refine lv_iinc (v := nI (v8_66 + 1)) (lv' := [(8, .int (nI (v8_66 + 1))), (12, .int (nI v12_138)), (11, .int s1_123), (10, .int x11), (9, .int x10), (7, .int v7_138), (6, .int x3), (5, .int r1), (0, .ref a_pa), (1, .int px), (2, .int py), (3, .long pz)]) hx hb dX6_paradeSteps_181 hl (k := 4) rfl (nI_1 _) (by decide) rfl (fun ls hl => ?_)
                          refine lv_goto (tgt := 66) hx hb dX6_paradeSteps_184 (by decide) ?_
                          exact ih66 (v8_66 + 1) v7_138 y_st_138 y_qu_138 (by first | omega | exact nlt_max hv8_66 (by assumption)) (by first | omega | (have := nlt_max hv8_66 (by assumption); omega)) _ _ hP hD hS ls (lv_sub hl [0, 5, 6, 7, 8, 9, 10, 11] rfl)
                        · skip
                          refine lv_aload_n hx hb dX6_paradeSteps_144 rfl (lv_at hl 8 rfl) ?_
                          refine lv_iload hx hb dX6_paradeSteps_145 (lv_at hl 3 rfl) ?_
                          refine lv_bipush (v := 32) hx hb dX6_paradeSteps_147 (by decide) ?_
                          refine lv_idiv hx hb dX6_paradeSteps_149 (by decide) ?_
                          refine lv_iload hx hb dX6_paradeSteps_150 (lv_at hl 0 rfl) ?_
                          refine rd_i (va_runV (As := [.int (x10 / 32), .int (nI v12_138)]) (rest := []) ⟨hx, hb, hml, hown, hts⟩ (n_X6_beside l D cy a_pa a_g a_w a_fr a_st a_qu g_wide g_high g_drown g_wind g_hedges g_fountains g_people g_tellings g_reports a_g_kinds a_g_squares a_g_voices a_g_tellers a_g_listeners a_g_witnesses a_g_claims (x10 / 32) (nI v12_138) _ ) (cwV 2 hts gX6_paradeSteps_X6_beside rfl rfl rfl (by decide +kernel) ⟨Nat.le_of_ble_eq_true rfl, Nat.le_of_ble_eq_true rfl⟩) (pV (ci := 6) (k := 0) hKA (hP.sub (ws' := [(a_pa, .inr (6, [.ref a_g, .ref a_w, .ref a_fr, .ref a_st, .ref a_qu])), (a_g, .inr (3, [.int g_wide, .int g_high, .int g_drown, .int g_wind, .long g_hedges, .long g_fountains, .int g_people, .int g_tellings, .int g_reports, .ref a_g_kinds, .ref a_g_squares, .ref a_g_voices, .ref a_g_tellers, .ref a_g_listeners, .ref a_g_witnesses, .ref a_g_claims]))]) [2, 0] rfl) (hD.sub (ws' := [(a_pa, .inr (6, [.ref a_g, .ref a_w, .ref a_fr, .ref a_st, .ref a_qu])), (a_g, .inr (3, [.int g_wide, .int g_high, .int g_drown, .int g_wind, .long g_hedges, .long g_fountains, .int g_people, .int g_tellings, .int g_reports, .ref a_g_kinds, .ref a_g_squares, .ref a_g_voices, .ref a_g_tellers, .ref a_g_listeners, .ref a_g_witnesses, .ref a_g_claims]))]) [2, 0] (by decide) rfl) rfl rfl) rfl rfl hl.1 rfl (lv_room (Nat.le_of_ble_eq_true rfl)) dX6_paradeSteps_152 ⟨Nat.le_of_ble_eq_true rfl, Nat.le_of_ble_eq_true rfl⟩) hP hS hA (fun r14 H locs hwr14 hP hS => ?_)
                          refine lv_istore (lv' := [(13, .int r14), (12, .int (nI v12_138)), (11, .int s1_123), (10, .int x11), (9, .int x10), (8, .int (nI v8_66)), (7, .int v7_138), (6, .int x3), (5, .int r1), (0, .ref a_pa), (1, .int px), (2, .int py), (3, .long pz)]) hx hb dX6_paradeSteps_155 hl (by decide) rfl (fun ls hl => ?_)
                          refine lv_aload_n hx hb dX6_paradeSteps_157 rfl (lv_at hl 9 rfl) ?_
                          refine lv_iload hx hb dX6_paradeSteps_158 (lv_at hl 0 rfl) ?_
                          refine lv_iload hx hb dX6_paradeSteps_160 (lv_at hl 3 rfl) ?_
                          refine lv_iload_n hx hb dX6_paradeSteps_162 rfl (lv_at hl 11 rfl) ?_
                          refine lv_lload_n hx hb dX6_paradeSteps_163 rfl (lv_at hl 12 rfl) ?_
                          refine lv_iload hx hb dX6_paradeSteps_164 (lv_at hl 2 rfl) ?_
                          refine lv_iconst (v := 1) hx hb dX6_paradeSteps_166 (by decide) ?_
                          refine lv_iadd hx hb dX6_paradeSteps_167 ?_
                          refine lv_iload hx hb dX6_paradeSteps_168 (lv_at hl 6 rfl) ?_
                          refine wr_i (wr := [(a_g, .inr (3, [.int g_wide, .int g_high, .int g_drown, .int g_wind, .long g_hedges, .long g_fountains, .int g_people, .int g_tellings, .int g_reports, .ref a_g_kinds, .ref a_g_squares, .ref a_g_voices, .ref a_g_tellers, .ref a_g_listeners, .ref a_g_witnesses, .ref a_g_claims])), (a_g_squares, .inl (cy 1, 5, .inl g_squares_f))]) (va_runV (As := [.int r14, .int x11, .int py, .long pz, .int (s1_123 + 1), .int v7_138]) (rest := []) ⟨hx, hb, hml, hown, hts⟩ (n_X6_reach l D cy a_pa a_g a_w a_fr a_st a_qu a_pl a_kd a_sb a_hb a_sf a_hf w_bound w_drowned hf_f sf_f y_st_138 y_qu_138 r14 x11 py pz (s1_123 + 1) v7_138 _ ) (cwV 6 hts gX6_paradeSteps_X6_reach rfl rfl rfl (by decide +kernel) ⟨Nat.le_of_ble_eq_true rfl, Nat.le_of_ble_eq_true rfl⟩) (pV (ci := 6) (k := 0) hKA (hP.sub (ws' := [(a_pa, .inr (6, [.ref a_g, .ref a_w, .ref a_fr, .ref a_st, .ref a_qu])), (a_w, .inr (4, [.ref a_g, .ref a_pl, .ref a_kd, .ref a_sb, .ref a_hb, .ref a_sf, .ref a_hf, .int w_bound, .long w_drowned])), (a_hf, .inl (cy 1, 36, .inl hf_f)), (a_sf, .inl (cy 1, 36, .inl sf_f)), (a_st, .inl (cy 1, 1152, .inl y_st_138)), (a_qu, .inl (cy 1, 1152, .inl y_qu_138))]) [2, 3, 4, 5, 6, 7] rfl) (hD.sub (ws' := [(a_pa, .inr (6, [.ref a_g, .ref a_w, .ref a_fr, .ref a_st, .ref a_qu])), (a_w, .inr (4, [.ref a_g, .ref a_pl, .ref a_kd, .ref a_sb, .ref a_hb, .ref a_sf, .ref a_hf, .int w_bound, .long w_drowned])), (a_hf, .inl (cy 1, 36, .inl hf_f)), (a_sf, .inl (cy 1, 36, .inl sf_f)), (a_st, .inl (cy 1, 1152, .inl y_st_138)), (a_qu, .inl (cy 1, 1152, .inl y_qu_138))]) [2, 3, 4, 5, 6, 7] (by decide) rfl) rfl rfl) rfl rfl hl.1 rfl (lv_room (Nat.le_of_ble_eq_true rfl)) dX6_paradeSteps_170 ⟨Nat.le_of_ble_eq_true rfl, Nat.le_of_ble_eq_true rfl⟩) hP hD hS hA [2, 3, 4, 5, 6, 7] [0, 1] rfl rfl (by decide +kernel) (by decide +kernel) (fun r15 ur15 H locs hwr15 hP hD hS => ?_)
                          obtain ⟨z16, z17⟩ := ur15
                          have hP : va_P D vwCl [(a_g, .inr (3, [.int g_wide, .int g_high, .int g_drown, .int g_wind, .long g_hedges, .long g_fountains, .int g_people, .int g_tellings, .int g_reports, .ref a_g_kinds, .ref a_g_squares, .ref a_g_voices, .ref a_g_tellers, .ref a_g_listeners, .ref a_g_witnesses, .ref a_g_claims])), (a_g_squares, .inl (cy 1, 5, .inl g_squares_f)), (a_pa, .inr (6, [.ref a_g, .ref a_w, .ref a_fr, .ref a_st, .ref a_qu])), (a_w, .inr (4, [.ref a_g, .ref a_pl, .ref a_kd, .ref a_sb, .ref a_hb, .ref a_sf, .ref a_hf, .int w_bound, .long w_drowned])), (a_hf, .inl (cy 1, 36, .inl hf_f)), (a_sf, .inl (cy 1, 36, .inl sf_f)), (a_st, .inl (cy 1, 1152, .inl z16)), (a_qu, .inl (cy 1, 1152, .inl z17))] H := hP
                          have hD : va_D A [(a_g, .inr (3, [.int g_wide, .int g_high, .int g_drown, .int g_wind, .long g_hedges, .long g_fountains, .int g_people, .int g_tellings, .int g_reports, .ref a_g_kinds, .ref a_g_squares, .ref a_g_voices, .ref a_g_tellers, .ref a_g_listeners, .ref a_g_witnesses, .ref a_g_claims])), (a_g_squares, .inl (cy 1, 5, .inl g_squares_f)), (a_pa, .inr (6, [.ref a_g, .ref a_w, .ref a_fr, .ref a_st, .ref a_qu])), (a_w, .inr (4, [.ref a_g, .ref a_pl, .ref a_kd, .ref a_sb, .ref a_hb, .ref a_sf, .ref a_hf, .int w_bound, .long w_drowned])), (a_hf, .inl (cy 1, 36, .inl hf_f)), (a_sf, .inl (cy 1, 36, .inl sf_f)), (a_st, .inl (cy 1, 1152, .inl z16)), (a_qu, .inl (cy 1, 1152, .inl z17))] := hD
                          refine lv_istore (lv' := [(7, .int r15), (13, .int r14), (12, .int (nI v12_138)), (11, .int s1_123), (10, .int x11), (9, .int x10), (8, .int (nI v8_66)), (6, .int x3), (5, .int r1), (0, .ref a_pa), (1, .int px), (2, .int py), (3, .long pz)]) hx hb dX6_paradeSteps_173 hl (by decide) rfl (fun ls hl => ?_)
                          refine lv_iinc (v := nI (v12_138 + 1)) (lv' := [(12, .int (nI (v12_138 + 1))), (7, .int r15), (13, .int r14), (11, .int s1_123), (10, .int x11), (9, .int x10), (8, .int (nI v8_66)), (6, .int x3), (5, .int r1), (0, .ref a_pa), (1, .int px), (2, .int py), (3, .long pz)]) hx hb dX6_paradeSteps_175 hl (k := 2) rfl (nI_1 _) (by decide) rfl (fun ls hl => ?_)
                          refine lv_goto (tgt := 138) hx hb dX6_paradeSteps_178 (by decide) ?_
                          exact ih138 (v12_138 + 1) r15 z16 z17 (by first | omega | exact nlt_max hv12_138 (by assumption)) (by first | omega | (have := nlt_max hv12_138 (by assumption); omega)) _ _ hP hD hS ls (lv_sub hl [0, 3, 4, 5, 6, 1, 7, 8, 9, 10, 11, 12] rfl)
                    exact lp138 (2147483648 - 0 + 1) 0 v7_66 y_st_66 y_qu_66 (by first | omega | exact nlt_max (by assumption) (by assumption)) (Nat.lt_succ_self _) _ _ hP hD hS ls hl
                  · skip
                    refine lv_iload hx hb dX6_paradeSteps_132 (lv_at hl 0 rfl) ?_
                    subst hQF
                    have hP9 := hP.sub (ws' := [(a_pa, .inr (6, [.ref a_g, .ref a_w, .ref a_fr, .ref a_st, .ref a_qu])), (a_g, .inr (3, [.int g_wide, .int g_high, .int g_drown, .int g_wind, .long g_hedges, .long g_fountains, .int g_people, .int g_tellings, .int g_reports, .ref a_g_kinds, .ref a_g_squares, .ref a_g_voices, .ref a_g_tellers, .ref a_g_listeners, .ref a_g_witnesses, .ref a_g_claims])), (a_g_squares, .inl (cy 1, 5, .inl g_squares_f)), (a_st, .inl (cy 1, 1152, .inl y_st_66)), (a_w, .inr (4, [.ref a_g, .ref a_pl, .ref a_kd, .ref a_sb, .ref a_hb, .ref a_sf, .ref a_hf, .int w_bound, .long w_drowned])), (a_hf, .inl (cy 1, 36, .inl hf_f)), (a_sf, .inl (cy 1, 36, .inl sf_f)), (a_qu, .inl (cy 1, 1152, .inl y_qu_66))]) [2, 0, 1, 6, 3, 4, 5, 7] rfl
                    have hD9 := hD.sub (ws' := [(a_pa, .inr (6, [.ref a_g, .ref a_w, .ref a_fr, .ref a_st, .ref a_qu])), (a_g, .inr (3, [.int g_wide, .int g_high, .int g_drown, .int g_wind, .long g_hedges, .long g_fountains, .int g_people, .int g_tellings, .int g_reports, .ref a_g_kinds, .ref a_g_squares, .ref a_g_voices, .ref a_g_tellers, .ref a_g_listeners, .ref a_g_witnesses, .ref a_g_claims])), (a_g_squares, .inl (cy 1, 5, .inl g_squares_f)), (a_st, .inl (cy 1, 1152, .inl y_st_66)), (a_w, .inr (4, [.ref a_g, .ref a_pl, .ref a_kd, .ref a_sb, .ref a_hb, .ref a_sf, .ref a_hf, .int w_bound, .long w_drowned])), (a_hf, .inl (cy 1, 36, .inl hf_f)), (a_sf, .inl (cy 1, 36, .inl sf_f)), (a_qu, .inl (cy 1, 1152, .inl y_qu_66))]) [2, 0, 1, 6, 3, 4, 5, 7] (by decide) rfl
                    exact W.iret (v := s1_123) hx hb hr (fun t ht hW => ⟨⟨s1_123, (y_st_66, y_qu_66), rfl, trivial, by rw [ht]; exact hP9, hD9⟩, hS.F ht⟩) hS.2.2 dX6_paradeSteps_134
                refine lv_if_lt (tgt := 122) hx hb dX6_paradeSteps_101 (by decide) (fun c18 => ?_) (fun c18 => ?_)
                · skip
                  refine lv_iconst (v := (-1)) hx hb dX6_paradeSteps_122 (by decide) ?_
                  exact j123 (-1) _ _ hP hD hS ls hl
                · skip
                  refine lv_iload hx hb dX6_paradeSteps_104 (lv_at hl 1 rfl) ?_
                  refine lv_sipush (v := 1152) hx hb dX6_paradeSteps_106 (by decide) ?_
                  refine lv_icmp_ge (tgt := 122) hx hb dX6_paradeSteps_109 (by decide) (fun c19 => ?_) (fun c19 => ?_)
                  · skip
                    refine lv_iconst (v := (-1)) hx hb dX6_paradeSteps_122 (by decide) ?_
                    exact j123 (-1) _ _ hP hD hS ls hl
                  · skip
                    refine lv_aload_n hx hb dX6_paradeSteps_112 rfl (lv_at hl 6 rfl) ?_
                    refine va_get (D := D) (ci := 6) (v := .ref a_st) (C := RX6) (T := TX6) (N := 5) hx hb hts zi6_ hown hK hP 2 rfl rfl 3 (by decide) z2_ (fun _ h9 => h9) rfl dX6_paradeSteps_113 ?_
                    refine lv_iload hx hb dX6_paradeSteps_116 (lv_at hl 1 rfl) ?_
                    refine my_iald hx hb hK hP 6 1 rfl rfl (by first | exact in_x (N := 1152) (by decide) (by assumption) (by assumption) | exact in_y (N := 1152) (by decide) (by assumption) (by assumption) | exact in_z (N := 1152) (by decide) (by assumption) (by assumption)) rfl dX6_paradeSteps_118 ?_
                    refine lv_goto (tgt := 123) hx hb dX6_paradeSteps_119 (by decide) ?_
                    exact j123 (y_st_66 (x10 : Int32).toNatClampNeg) _ _ hP hD hS ls hl
        exact lp66 (2147483648 - 0 + 1) 0 r5 z6 z7 (by first | omega | exact nlt_max (by assumption) (by assumption)) (Nat.lt_succ_self _) _ _ hP hD hS ls hl
      · skip
        refine lv_aload_n hx hb dX6_paradeSteps_36 rfl (lv_at hl 3 rfl) ?_
        refine va_get (D := D) (ci := 6) (v := .ref a_st) (C := RX6) (T := TX6) (N := 5) hx hb hts zi6_ hown hK hP 0 rfl rfl 3 (by decide) z2_ (fun _ h9 => h9) rfl dX6_paradeSteps_37 ?_
        refine lv_iload hx hb dX6_paradeSteps_40 (lv_at hl 0 rfl) ?_
        refine lv_iconst (v := (-1)) hx hb dX6_paradeSteps_42 (by decide) ?_
        refine my_iast hx hb hK hP hD hS 3 1 rfl rfl (by first | exact in_ge (N := 1152) (by decide) (by omega) (by assumption) | exact vp_in_nI (by omega) (by omega)) (nI_clamp (by omega)) dX6_paradeSteps_43 (fun H locs hP hD hS => ?_)
        have hP : va_P D vwCl [(a_pa, .inr (6, [.ref a_g, .ref a_w, .ref a_fr, .ref a_st, .ref a_qu])), (a_g, .inr (3, [.int g_wide, .int g_high, .int g_drown, .int g_wind, .long g_hedges, .long g_fountains, .int g_people, .int g_tellings, .int g_reports, .ref a_g_kinds, .ref a_g_squares, .ref a_g_voices, .ref a_g_tellers, .ref a_g_listeners, .ref a_g_witnesses, .ref a_g_claims])), (a_g_squares, .inl (cy 1, 5, .inl g_squares_f)), (a_st, .inl (cy 1, 1152, .inl (upd y_st_28 v7_28 (-1)))), (a_w, .inr (4, [.ref a_g, .ref a_pl, .ref a_kd, .ref a_sb, .ref a_hb, .ref a_sf, .ref a_hf, .int w_bound, .long w_drowned])), (a_hf, .inl (cy 1, 36, .inl hf_f)), (a_sf, .inl (cy 1, 36, .inl sf_f)), (a_qu, .inl (cy 1, 1152, .inl qu_f))] H := hP
        have hD : va_D A [(a_pa, .inr (6, [.ref a_g, .ref a_w, .ref a_fr, .ref a_st, .ref a_qu])), (a_g, .inr (3, [.int g_wide, .int g_high, .int g_drown, .int g_wind, .long g_hedges, .long g_fountains, .int g_people, .int g_tellings, .int g_reports, .ref a_g_kinds, .ref a_g_squares, .ref a_g_voices, .ref a_g_tellers, .ref a_g_listeners, .ref a_g_witnesses, .ref a_g_claims])), (a_g_squares, .inl (cy 1, 5, .inl g_squares_f)), (a_st, .inl (cy 1, 1152, .inl (upd y_st_28 v7_28 (-1)))), (a_w, .inr (4, [.ref a_g, .ref a_pl, .ref a_kd, .ref a_sb, .ref a_hb, .ref a_sf, .ref a_hf, .int w_bound, .long w_drowned])), (a_hf, .inl (cy 1, 36, .inl hf_f)), (a_sf, .inl (cy 1, 36, .inl sf_f)), (a_qu, .inl (cy 1, 1152, .inl qu_f))] := hD
        refine lv_iinc (v := nI (v7_28 + 1)) (lv' := [(7, .int (nI (v7_28 + 1))), (6, .int x3), (5, .int r1), (0, .ref a_pa), (1, .int px), (2, .int py), (3, .long pz)]) hx hb dX6_paradeSteps_44 hl (k := 0) rfl (nI_1 _) (by decide) rfl (fun ls hl => ?_)
        refine lv_goto (tgt := 28) hx hb dX6_paradeSteps_47 (by decide) ?_
        exact ih28 (v7_28 + 1) (upd y_st_28 v7_28 (-1)) (by first | omega | exact nlt_max hv7_28 (by assumption)) (by first | omega | (have := nlt_max hv7_28 (by assumption); omega)) _ _ hP hD hS ls hl
  exact lp28 (2147483648 - 0 + 1) 0 st_f (by first | omega | exact nlt_max (by assumption) (by assumption)) (Nat.lt_succ_self _) _ _ hP hD hS ls hl
