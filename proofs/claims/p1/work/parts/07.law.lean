theorem dX3_isClear_0 : decode cX3_isClear 0 = .ok (.aload_n 0, 1) := by decide +kernel
theorem dX3_isClear_1 : decode cX3_isClear 1 = .ok (.iload_n 1, 1) := by decide +kernel
set_option maxRecDepth 20000 in
theorem ggX3_isClear_X3_xOf : GoodIn wsX3_isClear wsX3_xOf := goodIn_r _ [13, 8, 34, 35, 36, 37, 38, 39, 40, 41, 42, 43, 44, 45, 46, 47, 48, 49] (by decide +kernel) (by decide +kernel)
set_option maxRecDepth 20000 in
theorem gX3_isClear_X3_xOf : GoodIn wsX3_isClear (wsV RX3 87 RX3 yX3_xOf wsX3_xOf) := goodIn_app (goodIn_of _ (by decide +kernel)) ggX3_isClear_X3_xOf
theorem dX3_isClear_2 : decode cX3_isClear 2 = .ok (.invokevirtual 87, 3) := by decide +kernel
theorem dX3_isClear_5 : decode cX3_isClear 5 = .ok (.aload_n 0, 1) := by decide +kernel
theorem dX3_isClear_6 : decode cX3_isClear 6 = .ok (.iload_n 2, 1) := by decide +kernel
theorem dX3_isClear_7 : decode cX3_isClear 7 = .ok (.invokevirtual 87, 3) := by decide +kernel
theorem dX3_isClear_10 : decode cX3_isClear 10 = .ok (.invokestatic 99, 3) := by decide +kernel
theorem dX3_isClear_13 : decode cX3_isClear 13 = .ok (.istore_n 3, 1) := by decide +kernel
theorem dX3_isClear_14 : decode cX3_isClear 14 = .ok (.aload_n 0, 1) := by decide +kernel
theorem dX3_isClear_15 : decode cX3_isClear 15 = .ok (.iload_n 1, 1) := by decide +kernel
set_option maxRecDepth 20000 in
theorem ggX3_isClear_X3_yOf : GoodIn wsX3_isClear wsX3_yOf := goodIn_r _ [17, 8, 34, 35, 36, 37, 38, 39, 40, 41, 42, 43, 44, 45, 46, 47, 48, 49] (by decide +kernel) (by decide +kernel)
set_option maxRecDepth 20000 in
theorem gX3_isClear_X3_yOf : GoodIn wsX3_isClear (wsV RX3 96 RX3 yX3_yOf wsX3_yOf) := goodIn_app (goodIn_of _ (by decide +kernel)) ggX3_isClear_X3_yOf
theorem dX3_isClear_16 : decode cX3_isClear 16 = .ok (.invokevirtual 96, 3) := by decide +kernel
theorem dX3_isClear_19 : decode cX3_isClear 19 = .ok (.aload_n 0, 1) := by decide +kernel
theorem dX3_isClear_20 : decode cX3_isClear 20 = .ok (.iload_n 2, 1) := by decide +kernel
theorem dX3_isClear_21 : decode cX3_isClear 21 = .ok (.invokevirtual 96, 3) := by decide +kernel
theorem dX3_isClear_24 : decode cX3_isClear 24 = .ok (.invokestatic 99, 3) := by decide +kernel
theorem dX3_isClear_27 : decode cX3_isClear 27 = .ok (.istore 4, 2) := by decide +kernel
theorem dX3_isClear_29 : decode cX3_isClear 29 = .ok (.aload_n 0, 1) := by decide +kernel
theorem dX3_isClear_30 : decode cX3_isClear 30 = .ok (.iload_n 1, 1) := by decide +kernel
theorem dX3_isClear_31 : decode cX3_isClear 31 = .ok (.invokevirtual 96, 3) := by decide +kernel
theorem dX3_isClear_34 : decode cX3_isClear 34 = .ok (.aload_n 0, 1) := by decide +kernel
theorem dX3_isClear_35 : decode cX3_isClear 35 = .ok (.iload_n 2, 1) := by decide +kernel
theorem dX3_isClear_36 : decode cX3_isClear 36 = .ok (.invokevirtual 96, 3) := by decide +kernel
theorem dX3_isClear_39 : decode cX3_isClear 39 = .ok (.invokestatic 103, 3) := by decide +kernel
theorem dX3_isClear_42 : decode cX3_isClear 42 = .ok (.istore 5, 2) := by decide +kernel
theorem dX3_isClear_44 : decode cX3_isClear 44 = .ok (.iload 5, 2) := by decide +kernel
theorem dX3_isClear_46 : decode cX3_isClear 46 = .ok (.iload 4, 2) := by decide +kernel
theorem dX3_isClear_48 : decode cX3_isClear 48 = .ok (.if_icmp .gt 85, 3) := by decide +kernel
theorem dX3_isClear_133 : decode cX3_isClear 133 = .ok (.iconst 1, 1) := by decide +kernel
theorem dX3_isClear_134 : decode cX3_isClear 134 = .ok (.ireturn, 1) := by decide +kernel
theorem dX3_isClear_51 : decode cX3_isClear 51 = .ok (.aload_n 0, 1) := by decide +kernel
theorem dX3_isClear_52 : decode cX3_isClear 52 = .ok (.iload_n 1, 1) := by decide +kernel
theorem dX3_isClear_53 : decode cX3_isClear 53 = .ok (.invokevirtual 87, 3) := by decide +kernel
theorem dX3_isClear_56 : decode cX3_isClear 56 = .ok (.aload_n 0, 1) := by decide +kernel
theorem dX3_isClear_57 : decode cX3_isClear 57 = .ok (.iload_n 2, 1) := by decide +kernel
theorem dX3_isClear_58 : decode cX3_isClear 58 = .ok (.invokevirtual 87, 3) := by decide +kernel
theorem dX3_isClear_61 : decode cX3_isClear 61 = .ok (.invokestatic 103, 3) := by decide +kernel
theorem dX3_isClear_64 : decode cX3_isClear 64 = .ok (.istore 6, 2) := by decide +kernel
theorem dX3_isClear_66 : decode cX3_isClear 66 = .ok (.iload 6, 2) := by decide +kernel
theorem dX3_isClear_68 : decode cX3_isClear 68 = .ok (.iload_n 3, 1) := by decide +kernel
theorem dX3_isClear_69 : decode cX3_isClear 69 = .ok (.if_icmp .gt 58, 3) := by decide +kernel
theorem dX3_isClear_127 : decode cX3_isClear 127 = .ok (.iinc 5 1, 3) := by decide +kernel
theorem dX3_isClear_130 : decode cX3_isClear 130 = .ok (.goto (-86), 3) := by decide +kernel
theorem dX3_isClear_72 : decode cX3_isClear 72 = .ok (.iload 5, 2) := by decide +kernel
theorem dX3_isClear_74 : decode cX3_isClear 74 = .ok (.aload_n 0, 1) := by decide +kernel
theorem dX3_isClear_75 : decode cX3_isClear 75 = .ok (.getfield 33, 3) := by decide +kernel
theorem dX3_isClear_78 : decode cX3_isClear 78 = .ok (.imul, 1) := by decide +kernel
theorem dX3_isClear_79 : decode cX3_isClear 79 = .ok (.iload 6, 2) := by decide +kernel
theorem dX3_isClear_81 : decode cX3_isClear 81 = .ok (.iadd, 1) := by decide +kernel
theorem dX3_isClear_82 : decode cX3_isClear 82 = .ok (.istore 7, 2) := by decide +kernel
theorem dX3_isClear_84 : decode cX3_isClear 84 = .ok (.iload 7, 2) := by decide +kernel
theorem dX3_isClear_86 : decode cX3_isClear 86 = .ok (.iload_n 1, 1) := by decide +kernel
theorem dX3_isClear_87 : decode cX3_isClear 87 = .ok (.if_icmp .eq 34, 3) := by decide +kernel
theorem dX3_isClear_121 : decode cX3_isClear 121 = .ok (.iinc 6 1, 3) := by decide +kernel
theorem dX3_isClear_124 : decode cX3_isClear 124 = .ok (.goto (-58), 3) := by decide +kernel
theorem dX3_isClear_90 : decode cX3_isClear 90 = .ok (.iload 7, 2) := by decide +kernel
theorem dX3_isClear_92 : decode cX3_isClear 92 = .ok (.iload_n 2, 1) := by decide +kernel
theorem dX3_isClear_93 : decode cX3_isClear 93 = .ok (.if_icmp .eq 28, 3) := by decide +kernel
theorem dX3_isClear_96 : decode cX3_isClear 96 = .ok (.aload_n 0, 1) := by decide +kernel
theorem dX3_isClear_97 : decode cX3_isClear 97 = .ok (.iconst 0, 1) := by decide +kernel
theorem dX3_isClear_98 : decode cX3_isClear 98 = .ok (.iload 7, 2) := by decide +kernel
set_option maxRecDepth 20000 in
theorem ggX3_isClear_X3_has : GoodIn wsX3_isClear wsX3_has := goodIn_r _ [21, 22, 23, 24, 25, 26, 34, 35, 36, 37, 38, 39, 40, 41, 42, 43, 44, 45, 46, 47, 48, 49] (by decide +kernel) (by decide +kernel)
set_option maxRecDepth 20000 in
theorem gX3_isClear_X3_has : GoodIn wsX3_isClear (wsV RX3 80 RX3 yX3_has wsX3_has) := goodIn_app (goodIn_of _ (by decide +kernel)) ggX3_isClear_X3_has
theorem dX3_isClear_100 : decode cX3_isClear 100 = .ok (.invokevirtual 80, 3) := by decide +kernel
theorem dX3_isClear_103 : decode cX3_isClear 103 = .ok (.ifCond .eq 18, 3) := by decide +kernel
theorem dX3_digestAfter_0 : decode cX3_digestAfter 0 = .ok (.ldc2_w 124, 3) := by decide +kernel
theorem dX3_digestAfter_3 : decode cX3_digestAfter 3 = .ok (.lload_n 1, 1) := by decide +kernel
theorem dX3_digestAfter_4 : decode cX3_digestAfter 4 = .ok (.lmul, 1) := by decide +kernel
theorem dX3_digestAfter_5 : decode cX3_digestAfter 5 = .ok (.aload_n 0, 1) := by decide +kernel
theorem dX3_digestAfter_6 : decode cX3_digestAfter 6 = .ok (.getfield 33, 3) := by decide +kernel
theorem dX3_digestAfter_9 : decode cX3_digestAfter 9 = .ok (.i2l, 1) := by decide +kernel
theorem dX3_digestAfter_10 : decode cX3_digestAfter 10 = .ok (.ladd, 1) := by decide +kernel
theorem dX3_digestAfter_11 : decode cX3_digestAfter 11 = .ok (.lstore_n 1, 1) := by decide +kernel
theorem dX3_digestAfter_12 : decode cX3_digestAfter 12 = .ok (.ldc2_w 124, 3) := by decide +kernel
theorem dX3_digestAfter_15 : decode cX3_digestAfter 15 = .ok (.lload_n 1, 1) := by decide +kernel
theorem dX3_digestAfter_16 : decode cX3_digestAfter 16 = .ok (.lmul, 1) := by decide +kernel
theorem dX3_digestAfter_17 : decode cX3_digestAfter 17 = .ok (.aload_n 0, 1) := by decide +kernel
theorem dX3_digestAfter_18 : decode cX3_digestAfter 18 = .ok (.getfield 40, 3) := by decide +kernel
theorem dX3_digestAfter_21 : decode cX3_digestAfter 21 = .ok (.i2l, 1) := by decide +kernel
theorem dX3_digestAfter_22 : decode cX3_digestAfter 22 = .ok (.ladd, 1) := by decide +kernel
theorem dX3_digestAfter_23 : decode cX3_digestAfter 23 = .ok (.lstore_n 1, 1) := by decide +kernel
theorem dX3_digestAfter_24 : decode cX3_digestAfter 24 = .ok (.ldc2_w 124, 3) := by decide +kernel
theorem dX3_digestAfter_27 : decode cX3_digestAfter 27 = .ok (.lload_n 1, 1) := by decide +kernel
theorem dX3_digestAfter_28 : decode cX3_digestAfter 28 = .ok (.lmul, 1) := by decide +kernel
theorem dX3_digestAfter_29 : decode cX3_digestAfter 29 = .ok (.aload_n 0, 1) := by decide +kernel
theorem dX3_digestAfter_30 : decode cX3_digestAfter 30 = .ok (.getfield 43, 3) := by decide +kernel
theorem dX3_digestAfter_33 : decode cX3_digestAfter 33 = .ok (.i2l, 1) := by decide +kernel
theorem dX3_digestAfter_34 : decode cX3_digestAfter 34 = .ok (.ladd, 1) := by decide +kernel
theorem dX3_digestAfter_35 : decode cX3_digestAfter 35 = .ok (.lstore_n 1, 1) := by decide +kernel
theorem dX3_digestAfter_36 : decode cX3_digestAfter 36 = .ok (.iconst 0, 1) := by decide +kernel
theorem dX3_digestAfter_37 : decode cX3_digestAfter 37 = .ok (.istore_n 3, 1) := by decide +kernel
theorem dX3_digestAfter_38 : decode cX3_digestAfter 38 = .ok (.iload_n 3, 1) := by decide +kernel
theorem dX3_digestAfter_39 : decode cX3_digestAfter 39 = .ok (.aload_n 0, 1) := by decide +kernel
theorem dX3_digestAfter_40 : decode cX3_digestAfter 40 = .ok (.getfield 53, 3) := by decide +kernel
theorem dX3_digestAfter_43 : decode cX3_digestAfter 43 = .ok (.if_icmp .ge 56, 3) := by decide +kernel
theorem dX3_digestAfter_99 : decode cX3_digestAfter 99 = .ok (.iconst 0, 1) := by decide +kernel
theorem dX3_digestAfter_100 : decode cX3_digestAfter 100 = .ok (.istore_n 3, 1) := by decide +kernel
theorem dX3_digestAfter_101 : decode cX3_digestAfter 101 = .ok (.iload_n 3, 1) := by decide +kernel
theorem dX3_digestAfter_102 : decode cX3_digestAfter 102 = .ok (.aload_n 0, 1) := by decide +kernel
set_option maxRecDepth 20000 in
theorem ggX3_digestAfter_X3_squareCount : GoodIn wsX3_digestAfter wsX3_squareCount := goodIn_r _ [19, 2, 20, 30, 31, 32, 33, 34, 35, 36, 37, 38, 39, 40, 41, 42, 43, 44, 45] (by decide +kernel) (by decide +kernel)
set_option maxRecDepth 20000 in
theorem gX3_digestAfter_X3_squareCount : GoodIn wsX3_digestAfter (wsV RX3 68 RX3 yX3_squareCount wsX3_squareCount) := goodIn_app (goodIn_of _ (by decide +kernel)) ggX3_digestAfter_X3_squareCount
theorem dX3_digestAfter_103 : decode cX3_digestAfter 103 = .ok (.invokevirtual 68, 3) := by decide +kernel
theorem dX3_digestAfter_106 : decode cX3_digestAfter 106 = .ok (.if_icmp .ge 53, 3) := by decide +kernel
theorem dX3_digestAfter_159 : decode cX3_digestAfter 159 = .ok (.iconst 0, 1) := by decide +kernel
theorem dX3_digestAfter_160 : decode cX3_digestAfter 160 = .ok (.istore_n 3, 1) := by decide +kernel
theorem dX3_digestAfter_161 : decode cX3_digestAfter 161 = .ok (.iload_n 3, 1) := by decide +kernel
theorem dX3_digestAfter_162 : decode cX3_digestAfter 162 = .ok (.aload_n 0, 1) := by decide +kernel
theorem dX3_digestAfter_163 : decode cX3_digestAfter 163 = .ok (.getfield 56, 3) := by decide +kernel
theorem dX3_digestAfter_166 : decode cX3_digestAfter 166 = .ok (.if_icmp .ge 43, 3) := by decide +kernel
theorem dX3_digestAfter_209 : decode cX3_digestAfter 209 = .ok (.iconst 0, 1) := by decide +kernel
theorem dX3_digestAfter_210 : decode cX3_digestAfter 210 = .ok (.istore_n 3, 1) := by decide +kernel
theorem dX3_digestAfter_211 : decode cX3_digestAfter 211 = .ok (.iload_n 3, 1) := by decide +kernel
theorem dX3_digestAfter_212 : decode cX3_digestAfter 212 = .ok (.aload_n 0, 1) := by decide +kernel
theorem dX3_digestAfter_213 : decode cX3_digestAfter 213 = .ok (.getfield 59, 3) := by decide +kernel
theorem dX3_digestAfter_216 : decode cX3_digestAfter 216 = .ok (.if_icmp .ge 43, 3) := by decide +kernel
theorem dX3_digestAfter_259 : decode cX3_digestAfter 259 = .ok (.lload_n 1, 1) := by decide +kernel
theorem dX3_digestAfter_260 : decode cX3_digestAfter 260 = .ok (.lreturn, 1) := by decide +kernel
theorem dX3_digestAfter_109 : decode cX3_digestAfter 109 = .ok (.ldc2_w 124, 3) := by decide +kernel
theorem dX3_digestAfter_112 : decode cX3_digestAfter 112 = .ok (.lload_n 1, 1) := by decide +kernel
theorem dX3_digestAfter_113 : decode cX3_digestAfter 113 = .ok (.lmul, 1) := by decide +kernel
theorem dX3_digestAfter_114 : decode cX3_digestAfter 114 = .ok (.aload_n 0, 1) := by decide +kernel
theorem dX3_digestAfter_115 : decode cX3_digestAfter 115 = .ok (.iconst 0, 1) := by decide +kernel
theorem dX3_digestAfter_116 : decode cX3_digestAfter 116 = .ok (.iload_n 3, 1) := by decide +kernel
set_option maxRecDepth 20000 in
theorem ggX3_digestAfter_X3_has : GoodIn wsX3_digestAfter wsX3_has := goodIn_r _ [24, 25, 26, 27, 28, 29, 30, 31, 32, 33, 34, 35, 36, 37, 38, 39, 40, 41, 42, 43, 44, 45] (by decide +kernel) (by decide +kernel)
set_option maxRecDepth 20000 in
theorem gX3_digestAfter_X3_has : GoodIn wsX3_digestAfter (wsV RX3 80 RX3 yX3_has wsX3_has) := goodIn_app (goodIn_of _ (by decide +kernel)) ggX3_digestAfter_X3_has
theorem dX3_digestAfter_117 : decode cX3_digestAfter 117 = .ok (.invokevirtual 80, 3) := by decide +kernel
theorem dX3_digestAfter_120 : decode cX3_digestAfter 120 = .ok (.ifCond .eq 7, 3) := by decide +kernel
theorem dX3_digestAfter_127 : decode cX3_digestAfter 127 = .ok (.iconst 0, 1) := by decide +kernel
theorem dX3_digestAfter_128 : decode cX3_digestAfter 128 = .ok (.i2l, 1) := by decide +kernel
theorem dX3_digestAfter_129 : decode cX3_digestAfter 129 = .ok (.ladd, 1) := by decide +kernel
theorem dX3_digestAfter_130 : decode cX3_digestAfter 130 = .ok (.lstore_n 1, 1) := by decide +kernel
theorem dX3_digestAfter_131 : decode cX3_digestAfter 131 = .ok (.ldc2_w 124, 3) := by decide +kernel
theorem dX3_digestAfter_134 : decode cX3_digestAfter 134 = .ok (.lload_n 1, 1) := by decide +kernel
theorem dX3_digestAfter_135 : decode cX3_digestAfter 135 = .ok (.lmul, 1) := by decide +kernel
theorem dX3_digestAfter_136 : decode cX3_digestAfter 136 = .ok (.aload_n 0, 1) := by decide +kernel
theorem dX3_digestAfter_137 : decode cX3_digestAfter 137 = .ok (.iconst 1, 1) := by decide +kernel
theorem dX3_digestAfter_138 : decode cX3_digestAfter 138 = .ok (.iload_n 3, 1) := by decide +kernel
theorem dX3_digestAfter_139 : decode cX3_digestAfter 139 = .ok (.invokevirtual 80, 3) := by decide +kernel
theorem dX3_digestAfter_142 : decode cX3_digestAfter 142 = .ok (.ifCond .eq 7, 3) := by decide +kernel
theorem dX3_digestAfter_149 : decode cX3_digestAfter 149 = .ok (.iconst 0, 1) := by decide +kernel
theorem dX3_digestAfter_150 : decode cX3_digestAfter 150 = .ok (.i2l, 1) := by decide +kernel
theorem dX3_digestAfter_151 : decode cX3_digestAfter 151 = .ok (.ladd, 1) := by decide +kernel
theorem dX3_digestAfter_152 : decode cX3_digestAfter 152 = .ok (.lstore_n 1, 1) := by decide +kernel
theorem dX3_digestAfter_153 : decode cX3_digestAfter 153 = .ok (.iinc 3 1, 3) := by decide +kernel
theorem dX3_digestAfter_156 : decode cX3_digestAfter 156 = .ok (.goto (-55), 3) := by decide +kernel
theorem dX4_look_0 : decode cX4_look 0 = .ok (.aload_n 0, 1) := by decide +kernel
theorem dX4_look_1 : decode cX4_look 1 = .ok (.aload_n 0, 1) := by decide +kernel
theorem dX4_look_2 : decode cX4_look 2 = .ok (.getfield 35, 3) := by decide +kernel
set_option maxRecDepth 20000 in
theorem ggX4_look_X3_drownedSquares : GoodIn wsX4_look wsX3_drownedSquares := goodIn_r _ [11, 12, 13, 14, 15, 10, 16, 17, 18, 19, 20, 21, 22, 23, 24, 25, 26, 27, 28, 29, 30, 31, 32, 33, 34, 35, 36, 37, 38, 39, 40, 41, 42, 43, 199, 200, 201, 202, 203, 204, 205, 206, 207, 208, 209, 210, 211, 212, 213, 214] (by decide +kernel) (by decide +kernel)
set_option maxRecDepth 20000 in
theorem gX4_look_X3_drownedSquares : GoodIn wsX4_look (wsV RX4 54 RX3 yX3_drownedSquares wsX3_drownedSquares) := goodIn_app (goodIn_of _ (by decide +kernel)) ggX4_look_X3_drownedSquares
theorem dX4_look_5 : decode cX4_look 5 = .ok (.invokevirtual 54, 3) := by decide +kernel
theorem dX4_look_8 : decode cX4_look 8 = .ok (.putfield 60, 3) := by decide +kernel
theorem dX4_look_11 : decode cX4_look 11 = .ok (.aload_n 0, 1) := by decide +kernel
theorem dX4_look_12 : decode cX4_look 12 = .ok (.iconst 0, 1) := by decide +kernel
theorem dX4_look_13 : decode cX4_look 13 = .ok (.putfield 64, 3) := by decide +kernel
theorem dX4_look_16 : decode cX4_look 16 = .ok (.iconst 0, 1) := by decide +kernel
theorem dX4_look_17 : decode cX4_look 17 = .ok (.istore_n 1, 1) := by decide +kernel
theorem dX4_look_18 : decode cX4_look 18 = .ok (.iload_n 1, 1) := by decide +kernel
theorem dX4_look_19 : decode cX4_look 19 = .ok (.aload_n 0, 1) := by decide +kernel
theorem dX4_look_20 : decode cX4_look 20 = .ok (.getfield 35, 3) := by decide +kernel
theorem dX4_look_23 : decode cX4_look 23 = .ok (.getfield 68, 3) := by decide +kernel
theorem dX4_look_26 : decode cX4_look 26 = .ok (.if_icmp .ge 51, 3) := by decide +kernel
theorem dX4_look_77 : decode cX4_look 77 = .ok (.iconst 0, 1) := by decide +kernel
theorem dX4_look_78 : decode cX4_look 78 = .ok (.istore_n 1, 1) := by decide +kernel
theorem dX4_look_79 : decode cX4_look 79 = .ok (.iload_n 1, 1) := by decide +kernel
theorem dX4_look_80 : decode cX4_look 80 = .ok (.aload_n 0, 1) := by decide +kernel
theorem dX4_look_81 : decode cX4_look 81 = .ok (.getfield 35, 3) := by decide +kernel
theorem dX4_look_84 : decode cX4_look 84 = .ok (.getfield 68, 3) := by decide +kernel
theorem dX4_look_87 : decode cX4_look 87 = .ok (.if_icmp .ge 36, 3) := by decide +kernel
theorem dX4_look_123 : decode cX4_look 123 = .ok (.return_, 1) := by decide +kernel
theorem dX4_mayMask_0 : decode cX4_mayMask 0 = .ok (.iconst 0, 1) := by decide +kernel
theorem dX4_mayMask_1 : decode cX4_mayMask 1 = .ok (.istore_n 1, 1) := by decide +kernel
theorem dX4_mayMask_2 : decode cX4_mayMask 2 = .ok (.iconst 0, 1) := by decide +kernel
theorem dX4_mayMask_3 : decode cX4_mayMask 3 = .ok (.istore_n 2, 1) := by decide +kernel
theorem dX4_mayMask_4 : decode cX4_mayMask 4 = .ok (.iload_n 2, 1) := by decide +kernel
theorem dX4_mayMask_5 : decode cX4_mayMask 5 = .ok (.aload_n 0, 1) := by decide +kernel
theorem dX4_mayMask_6 : decode cX4_mayMask 6 = .ok (.getfield 35, 3) := by decide +kernel
theorem dX4_mayMask_9 : decode cX4_mayMask 9 = .ok (.getfield 68, 3) := by decide +kernel
theorem dX4_mayMask_12 : decode cX4_mayMask 12 = .ok (.if_icmp .ge 23, 3) := by decide +kernel
theorem dX4_mayMask_35 : decode cX4_mayMask 35 = .ok (.iload_n 1, 1) := by decide +kernel
theorem dX4_mayMask_36 : decode cX4_mayMask 36 = .ok (.ireturn, 1) := by decide +kernel
theorem dX4_firstBreach_0 : decode cX4_firstBreach 0 = .ok (.iconst 0, 1) := by decide +kernel
theorem dX4_firstBreach_1 : decode cX4_firstBreach 1 = .ok (.istore_n 2, 1) := by decide +kernel
theorem dX4_firstBreach_2 : decode cX4_firstBreach 2 = .ok (.iload_n 2, 1) := by decide +kernel
theorem dX4_firstBreach_3 : decode cX4_firstBreach 3 = .ok (.aload_n 0, 1) := by decide +kernel
theorem dX4_firstBreach_4 : decode cX4_firstBreach 4 = .ok (.getfield 35, 3) := by decide +kernel
theorem dX4_firstBreach_7 : decode cX4_firstBreach 7 = .ok (.getfield 68, 3) := by decide +kernel
theorem dX4_firstBreach_10 : decode cX4_firstBreach 10 = .ok (.if_icmp .ge 66, 3) := by decide +kernel
theorem dX4_firstBreach_76 : decode cX4_firstBreach 76 = .ok (.iconst (-1), 1) := by decide +kernel
theorem dX4_firstBreach_77 : decode cX4_firstBreach 77 = .ok (.ireturn, 1) := by decide +kernel
theorem dX4_isAllTold_0 : decode cX4_isAllTold 0 = .ok (.iconst 0, 1) := by decide +kernel
theorem dX4_isAllTold_1 : decode cX4_isAllTold 1 = .ok (.istore_n 2, 1) := by decide +kernel
theorem dX4_isAllTold_2 : decode cX4_isAllTold 2 = .ok (.iload_n 2, 1) := by decide +kernel
theorem dX4_isAllTold_3 : decode cX4_isAllTold 3 = .ok (.aload_n 0, 1) := by decide +kernel
theorem dX4_isAllTold_4 : decode cX4_isAllTold 4 = .ok (.getfield 35, 3) := by decide +kernel
theorem dX4_isAllTold_7 : decode cX4_isAllTold 7 = .ok (.getfield 129, 3) := by decide +kernel
theorem dX4_isAllTold_10 : decode cX4_isAllTold 10 = .ok (.if_icmp .ge 66, 3) := by decide +kernel
theorem dX4_isAllTold_76 : decode cX4_isAllTold 76 = .ok (.iconst 1, 1) := by decide +kernel
theorem dX4_isAllTold_77 : decode cX4_isAllTold 77 = .ok (.ireturn, 1) := by decide +kernel
theorem dX4_speakerCount_0 : decode cX4_speakerCount 0 = .ok (.iconst 0, 1) := by decide +kernel
theorem dX4_speakerCount_1 : decode cX4_speakerCount 1 = .ok (.istore_n 1, 1) := by decide +kernel
theorem dX4_speakerCount_2 : decode cX4_speakerCount 2 = .ok (.iconst 0, 1) := by decide +kernel
theorem dX4_speakerCount_3 : decode cX4_speakerCount 3 = .ok (.istore_n 2, 1) := by decide +kernel
theorem dX4_speakerCount_4 : decode cX4_speakerCount 4 = .ok (.iload_n 2, 1) := by decide +kernel
theorem dX4_speakerCount_5 : decode cX4_speakerCount 5 = .ok (.aload_n 0, 1) := by decide +kernel
theorem dX4_speakerCount_6 : decode cX4_speakerCount 6 = .ok (.getfield 35, 3) := by decide +kernel
theorem dX4_speakerCount_9 : decode cX4_speakerCount 9 = .ok (.getfield 68, 3) := by decide +kernel
theorem dX4_speakerCount_12 : decode cX4_speakerCount 12 = .ok (.if_icmp .ge 28, 3) := by decide +kernel
theorem dX4_speakerCount_40 : decode cX4_speakerCount 40 = .ok (.iload_n 1, 1) := by decide +kernel
theorem dX4_speakerCount_41 : decode cX4_speakerCount 41 = .ok (.ireturn, 1) := by decide +kernel
theorem dX4_windsWhereTold_0 : decode cX4_windsWhereTold 0 = .ok (.aload_n 0, 1) := by decide +kernel
theorem dX4_windsWhereTold_1 : decode cX4_windsWhereTold 1 = .ok (.getfield 35, 3) := by decide +kernel
theorem dX4_windsWhereTold_4 : decode cX4_windsWhereTold 4 = .ok (.getfield 177, 3) := by decide +kernel
theorem dX4_windsWhereTold_7 : decode cX4_windsWhereTold 7 = .ok (.istore_n 2, 1) := by decide +kernel
theorem dX4_windsWhereTold_8 : decode cX4_windsWhereTold 8 = .ok (.iconst 0, 1) := by decide +kernel
theorem dX4_windsWhereTold_9 : decode cX4_windsWhereTold 9 = .ok (.istore_n 3, 1) := by decide +kernel
theorem dX4_windsWhereTold_10 : decode cX4_windsWhereTold 10 = .ok (.iconst (-1), 1) := by decide +kernel
theorem dX4_windsWhereTold_11 : decode cX4_windsWhereTold 11 = .ok (.istore 4, 2) := by decide +kernel
theorem dX4_windsWhereTold_13 : decode cX4_windsWhereTold 13 = .ok (.iload 4, 2) := by decide +kernel
theorem dX4_windsWhereTold_15 : decode cX4_windsWhereTold 15 = .ok (.iconst 1, 1) := by decide +kernel
theorem dX4_windsWhereTold_16 : decode cX4_windsWhereTold 16 = .ok (.if_icmp .gt 39, 3) := by decide +kernel
theorem dX4_windsWhereTold_19 : decode cX4_windsWhereTold 19 = .ok (.aload_n 0, 1) := by decide +kernel
theorem dX4_windsWhereTold_20 : decode cX4_windsWhereTold 20 = .ok (.getfield 35, 3) := by decide +kernel
theorem dX4_windsWhereTold_23 : decode cX4_windsWhereTold 23 = .ok (.iload 4, 2) := by decide +kernel
theorem dX4_windsWhereTold_25 : decode cX4_windsWhereTold 25 = .ok (.putfield 177, 3) := by decide +kernel
theorem dX4_windsWhereTold_28 : decode cX4_windsWhereTold 28 = .ok (.aload_n 0, 1) := by decide +kernel
set_option maxRecDepth 20000 in
theorem ggX4_windsWhereTold_X4_look : GoodIn wsX4_windsWhereTold wsX4_look := goodIn_r _ [7, 1, 8, 9, 10, 11, 12, 13, 14, 15, 16, 17, 18, 19, 20, 21, 22, 23, 24, 25, 26, 27, 28, 29, 30, 31, 32, 33, 34, 35, 36, 37, 38, 39, 40, 41, 42, 43, 44, 45, 46, 47, 48, 49, 50, 51, 52, 6, 53, 54, 55, 56, 57, 58, 59, 60, 61, 62, 63, 64, 65, 66, 67, 68, 69, 70, 71, 72, 73, 74, 75, 76, 77, 78, 79, 80, 81, 82, 83, 84, 85, 86, 87, 88, 89, 90, 91, 92, 93, 94, 95, 96, 97, 98, 99, 100, 101, 102, 103, 104, 105, 106, 107, 108, 109, 110, 111, 112, 113, 114, 115, 116, 117, 118, 119, 120, 121, 122, 123, 124, 125, 126, 127, 128, 129, 130, 131, 132, 133, 134, 135, 136, 137, 138, 139, 140, 141, 142, 143, 144, 145, 146, 147, 148, 149, 150, 151, 152, 153, 154, 155, 156, 157, 158, 159, 160, 161, 162, 163, 164, 165, 166, 167, 168, 169, 170, 171, 172, 173, 174, 175, 176, 177, 178, 179, 180, 181, 182, 183, 184, 185, 186, 187, 188, 189, 190, 191, 192, 193, 194, 216, 217, 218, 219, 220, 221, 222, 223, 224, 225, 226, 227, 228, 229, 230, 231, 232, 233, 234, 235, 236, 237, 238, 239, 240] (by decide +kernel) (by decide +kernel)
set_option maxRecDepth 20000 in
theorem gX4_windsWhereTold_X4_look : GoodIn wsX4_windsWhereTold (wsV RX4 156 RX4 yX4_look wsX4_look) := goodIn_app (goodIn_of _ (by decide +kernel)) ggX4_windsWhereTold_X4_look
theorem dX4_windsWhereTold_29 : decode cX4_windsWhereTold 29 = .ok (.invokevirtual 156, 3) := by decide +kernel
theorem dX4_windsWhereTold_32 : decode cX4_windsWhereTold 32 = .ok (.aload_n 0, 1) := by decide +kernel
theorem dX4_windsWhereTold_33 : decode cX4_windsWhereTold 33 = .ok (.iload_n 1, 1) := by decide +kernel
set_option maxRecDepth 20000 in
theorem ggX4_windsWhereTold_X4_isAllTold : GoodIn wsX4_windsWhereTold wsX4_isAllTold := goodIn_r _ [198, 1, 199, 200, 201, 202, 203, 204, 6, 205, 12, 206, 207, 208, 209, 9, 210, 211, 212, 213, 11, 214, 32, 215, 216, 217, 218, 219, 220, 221, 222, 223, 224, 225, 226, 227, 228, 229, 230, 231, 232, 233, 234, 235, 236, 237, 238, 239, 240] (by decide +kernel) (by decide +kernel)
set_option maxRecDepth 20000 in
theorem gX4_windsWhereTold_X4_isAllTold : GoodIn wsX4_windsWhereTold (wsV RX4 147 RX4 yX4_isAllTold wsX4_isAllTold) := goodIn_app (goodIn_of _ (by decide +kernel)) ggX4_windsWhereTold_X4_isAllTold
theorem dX4_windsWhereTold_34 : decode cX4_windsWhereTold 34 = .ok (.invokevirtual 147, 3) := by decide +kernel
theorem dX4_windsWhereTold_37 : decode cX4_windsWhereTold 37 = .ok (.ifCond .eq 12, 3) := by decide +kernel
theorem dX4_windsWhereTold_40 : decode cX4_windsWhereTold 40 = .ok (.iload_n 3, 1) := by decide +kernel
theorem dX4_windsWhereTold_41 : decode cX4_windsWhereTold 41 = .ok (.iconst 1, 1) := by decide +kernel
theorem dX4_windsWhereTold_42 : decode cX4_windsWhereTold 42 = .ok (.iload 4, 2) := by decide +kernel
theorem dX4_windsWhereTold_44 : decode cX4_windsWhereTold 44 = .ok (.iconst 1, 1) := by decide +kernel
theorem dX4_windsWhereTold_45 : decode cX4_windsWhereTold 45 = .ok (.iadd, 1) := by decide +kernel
theorem dX4_windsWhereTold_46 : decode cX4_windsWhereTold 46 = .ok (.ishl, 1) := by decide +kernel
theorem dX4_windsWhereTold_47 : decode cX4_windsWhereTold 47 = .ok (.ior, 1) := by decide +kernel
theorem dX4_windsWhereTold_48 : decode cX4_windsWhereTold 48 = .ok (.istore_n 3, 1) := by decide +kernel
theorem dX4_windsWhereTold_49 : decode cX4_windsWhereTold 49 = .ok (.iinc 4 1, 3) := by decide +kernel
theorem dX4_windsWhereTold_52 : decode cX4_windsWhereTold 52 = .ok (.goto (-39), 3) := by decide +kernel
theorem dX4_windsWhereTold_55 : decode cX4_windsWhereTold 55 = .ok (.aload_n 0, 1) := by decide +kernel
theorem dX4_windsWhereTold_56 : decode cX4_windsWhereTold 56 = .ok (.getfield 35, 3) := by decide +kernel
theorem dX4_windsWhereTold_59 : decode cX4_windsWhereTold 59 = .ok (.iload_n 2, 1) := by decide +kernel
theorem dX4_windsWhereTold_60 : decode cX4_windsWhereTold 60 = .ok (.putfield 177, 3) := by decide +kernel
theorem dX4_windsWhereTold_63 : decode cX4_windsWhereTold 63 = .ok (.iload_n 3, 1) := by decide +kernel
theorem dX4_windsWhereTold_64 : decode cX4_windsWhereTold 64 = .ok (.ireturn, 1) := by decide +kernel
theorem dX4_bestSquare_0 : decode cX4_bestSquare 0 = .ok (.aload_n 0, 1) := by decide +kernel
set_option maxRecDepth 20000 in
theorem ggX4_bestSquare_X4_look : GoodIn wsX4_bestSquare wsX4_look := goodIn_r _ [6, 1, 7, 8, 9, 10, 11, 12, 13, 14, 15, 16, 17, 18, 19, 20, 21, 22, 23, 24, 25, 26, 27, 28, 29, 30, 31, 32, 33, 34, 35, 36, 37, 38, 39, 40, 41, 42, 43, 44, 45, 46, 47, 48, 49, 50, 51, 5, 52, 53, 54, 55, 56, 57, 58, 59, 60, 61, 62, 63, 64, 65, 66, 67, 68, 69, 70, 71, 72, 73, 74, 75, 76, 77, 78, 79, 80, 81, 82, 83, 84, 85, 86, 87, 88, 89, 90, 91, 92, 93, 94, 95, 96, 97, 98, 99, 100, 101, 102, 103, 104, 105, 106, 107, 108, 109, 110, 111, 112, 113, 114, 115, 116, 117, 118, 119, 120, 121, 122, 123, 124, 125, 126, 127, 128, 129, 130, 131, 132, 133, 134, 135, 136, 137, 138, 139, 140, 141, 142, 143, 144, 145, 146, 147, 148, 149, 150, 151, 152, 153, 154, 155, 156, 157, 158, 159, 160, 161, 162, 163, 164, 165, 166, 167, 168, 169, 170, 171, 172, 173, 174, 175, 176, 177, 178, 179, 180, 181, 182, 183, 184, 185, 186, 187, 188, 189, 190, 191, 192, 193, 224, 225, 226, 227, 228, 229, 230, 231, 232, 233, 234, 235, 236, 237, 238, 239, 240, 241, 242, 243, 244, 245, 246, 247, 248] (by decide +kernel) (by decide +kernel)
set_option maxRecDepth 20000 in
theorem gX4_bestSquare_X4_look : GoodIn wsX4_bestSquare (wsV RX4 156 RX4 yX4_look wsX4_look) := goodIn_app (goodIn_of _ (by decide +kernel)) ggX4_bestSquare_X4_look
theorem dX4_bestSquare_1 : decode cX4_bestSquare 1 = .ok (.invokevirtual 156, 3) := by decide +kernel
theorem dX4_bestSquare_4 : decode cX4_bestSquare 4 = .ok (.aload_n 0, 1) := by decide +kernel
set_option maxRecDepth 20000 in
theorem ggX4_bestSquare_X4_speakerCount : GoodIn wsX4_bestSquare wsX4_speakerCount := goodIn_r _ [197, 1, 9, 198, 199, 200, 5, 201, 8, 202, 203, 204, 205, 10, 206, 207, 208, 209, 11, 224, 225, 226, 227, 228, 229, 230, 231, 232, 233, 234, 235, 236, 237, 238, 239, 240, 241, 242, 243, 244, 245, 246, 247, 248] (by decide +kernel) (by decide +kernel)
set_option maxRecDepth 20000 in
theorem gX4_bestSquare_X4_speakerCount : GoodIn wsX4_bestSquare (wsV RX4 186 RX4 yX4_speakerCount wsX4_speakerCount) := goodIn_app (goodIn_of _ (by decide +kernel)) ggX4_bestSquare_X4_speakerCount
theorem dX4_bestSquare_5 : decode cX4_bestSquare 5 = .ok (.invokevirtual 186, 3) := by decide +kernel
theorem dX4_bestSquare_8 : decode cX4_bestSquare 8 = .ok (.istore_n 2, 1) := by decide +kernel
theorem dX4_bestSquare_9 : decode cX4_bestSquare 9 = .ok (.iconst (-1), 1) := by decide +kernel
theorem dX4_bestSquare_10 : decode cX4_bestSquare 10 = .ok (.istore_n 3, 1) := by decide +kernel
theorem dX4_bestSquare_11 : decode cX4_bestSquare 11 = .ok (.iconst 0, 1) := by decide +kernel
theorem dX4_bestSquare_12 : decode cX4_bestSquare 12 = .ok (.istore 4, 2) := by decide +kernel
theorem dX4_bestSquare_14 : decode cX4_bestSquare 14 = .ok (.iload 4, 2) := by decide +kernel
theorem dX4_bestSquare_16 : decode cX4_bestSquare 16 = .ok (.aload_n 0, 1) := by decide +kernel
theorem dX4_bestSquare_17 : decode cX4_bestSquare 17 = .ok (.getfield 35, 3) := by decide +kernel
set_option maxRecDepth 20000 in
theorem ggX4_bestSquare_X3_squareCount : GoodIn wsX4_bestSquare wsX3_squareCount := goodIn_r _ [21, 22, 23, 233, 234, 235, 236, 237, 238, 239, 240, 241, 242, 243, 244, 245, 246, 247, 248] (by decide +kernel) (by decide +kernel)
set_option maxRecDepth 20000 in
theorem gX4_bestSquare_X3_squareCount : GoodIn wsX4_bestSquare (wsV RX4 159 RX3 yX3_squareCount wsX3_squareCount) := goodIn_app (goodIn_of _ (by decide +kernel)) ggX4_bestSquare_X3_squareCount
theorem dX4_bestSquare_20 : decode cX4_bestSquare 20 = .ok (.invokevirtual 159, 3) := by decide +kernel
theorem dX4_bestSquare_23 : decode cX4_bestSquare 23 = .ok (.if_icmp .ge 74, 3) := by decide +kernel
theorem dX4_bestSquare_97 : decode cX4_bestSquare 97 = .ok (.iload_n 3, 1) := by decide +kernel
theorem dX4_bestSquare_98 : decode cX4_bestSquare 98 = .ok (.ireturn, 1) := by decide +kernel
theorem dX4_bestSquare_26 : decode cX4_bestSquare 26 = .ok (.aload_n 0, 1) := by decide +kernel
theorem dX4_bestSquare_27 : decode cX4_bestSquare 27 = .ok (.getfield 35, 3) := by decide +kernel
theorem dX4_bestSquare_30 : decode cX4_bestSquare 30 = .ok (.iload 4, 2) := by decide +kernel
set_option maxRecDepth 20000 in
theorem ggX4_bestSquare_X3_isFree : GoodIn wsX4_bestSquare wsX3_isFree := goodIn_r _ [214, 24, 25, 26, 15, 27, 28, 29, 30, 31, 32, 215, 216, 217, 218, 64, 89, 233, 234, 235, 236, 237, 238, 239, 240, 241, 242, 243, 244, 245, 246, 247, 248] (by decide +kernel) (by decide +kernel)
set_option maxRecDepth 20000 in
theorem gX4_bestSquare_X3_isFree : GoodIn wsX4_bestSquare (wsV RX4 163 RX3 yX3_isFree wsX3_isFree) := goodIn_app (goodIn_of _ (by decide +kernel)) ggX4_bestSquare_X3_isFree
theorem dX4_bestSquare_32 : decode cX4_bestSquare 32 = .ok (.invokevirtual 163, 3) := by decide +kernel
theorem dX4_bestSquare_35 : decode cX4_bestSquare 35 = .ok (.ifCond .eq 56, 3) := by decide +kernel
theorem dX4_bestSquare_38 : decode cX4_bestSquare 38 = .ok (.aload_n 0, 1) := by decide +kernel
theorem dX4_bestSquare_39 : decode cX4_bestSquare 39 = .ok (.getfield 35, 3) := by decide +kernel
theorem dX4_bestSquare_42 : decode cX4_bestSquare 42 = .ok (.iload_n 1, 1) := by decide +kernel
theorem dX4_bestSquare_43 : decode cX4_bestSquare 43 = .ok (.iload 4, 2) := by decide +kernel
set_option maxRecDepth 20000 in
theorem ggX4_bestSquare_X3_has : GoodIn wsX4_bestSquare wsX3_has := goodIn_r _ [27, 28, 29, 30, 31, 32, 233, 234, 235, 236, 237, 238, 239, 240, 241, 242, 243, 244, 245, 246, 247, 248] (by decide +kernel) (by decide +kernel)
set_option maxRecDepth 20000 in
theorem gX4_bestSquare_X3_has : GoodIn wsX4_bestSquare (wsV RX4 189 RX3 yX3_has wsX3_has) := goodIn_app (goodIn_of _ (by decide +kernel)) ggX4_bestSquare_X3_has
theorem dX4_bestSquare_45 : decode cX4_bestSquare 45 = .ok (.invokevirtual 189, 3) := by decide +kernel
theorem dX4_bestSquare_48 : decode cX4_bestSquare 48 = .ok (.ifCond .ne 43, 3) := by decide +kernel
theorem dX4_bestSquare_91 : decode cX4_bestSquare 91 = .ok (.iinc 4 1, 3) := by decide +kernel
theorem dX4_bestSquare_94 : decode cX4_bestSquare 94 = .ok (.goto (-80), 3) := by decide +kernel
theorem dX4_bestSquare_51 : decode cX4_bestSquare 51 = .ok (.aload_n 0, 1) := by decide +kernel
theorem dX4_bestSquare_52 : decode cX4_bestSquare 52 = .ok (.getfield 35, 3) := by decide +kernel
theorem dX4_bestSquare_55 : decode cX4_bestSquare 55 = .ok (.iload_n 1, 1) := by decide +kernel
theorem dX4_bestSquare_56 : decode cX4_bestSquare 56 = .ok (.iload 4, 2) := by decide +kernel
set_option maxRecDepth 20000 in
theorem ggX4_bestSquare_X3_turn : GoodIn wsX4_bestSquare wsX3_turn := goodIn_r _ [223, 28, 29, 233, 234, 235, 236, 237, 238, 239, 240, 241, 242, 243, 244, 245, 246, 247, 248] (by decide +kernel) (by decide +kernel)
set_option maxRecDepth 20000 in
theorem gX4_bestSquare_X3_turn : GoodIn wsX4_bestSquare (wsV RX4 192 RX3 yX3_turn wsX3_turn) := goodIn_app (goodIn_of _ (by decide +kernel)) ggX4_bestSquare_X3_turn
theorem dX4_bestSquare_58 : decode cX4_bestSquare 58 = .ok (.invokevirtual 192, 3) := by decide +kernel
theorem dX4_bestSquare_61 : decode cX4_bestSquare 61 = .ok (.aload_n 0, 1) := by decide +kernel
theorem dX4_bestSquare_62 : decode cX4_bestSquare 62 = .ok (.invokevirtual 156, 3) := by decide +kernel
theorem dX4_bestSquare_65 : decode cX4_bestSquare 65 = .ok (.aload_n 0, 1) := by decide +kernel
theorem dX4_bestSquare_66 : decode cX4_bestSquare 66 = .ok (.getfield 35, 3) := by decide +kernel
theorem dX4_bestSquare_69 : decode cX4_bestSquare 69 = .ok (.iload_n 1, 1) := by decide +kernel
theorem dX4_bestSquare_70 : decode cX4_bestSquare 70 = .ok (.iload 4, 2) := by decide +kernel
theorem dX4_bestSquare_72 : decode cX4_bestSquare 72 = .ok (.invokevirtual 192, 3) := by decide +kernel
theorem dX4_bestSquare_75 : decode cX4_bestSquare 75 = .ok (.aload_n 0, 1) := by decide +kernel
theorem dX4_bestSquare_76 : decode cX4_bestSquare 76 = .ok (.invokevirtual 186, 3) := by decide +kernel
theorem dX4_bestSquare_79 : decode cX4_bestSquare 79 = .ok (.iload_n 2, 1) := by decide +kernel
theorem dX4_bestSquare_80 : decode cX4_bestSquare 80 = .ok (.if_icmp .le 11, 3) := by decide +kernel
theorem nnlt {a b : Nat} (ha : a < 2147483648) (hb : b < 2147483648) (h : ¬ nI a < nI b) : b ≤ a := by
  rw [nI_ltI ha hb] at h
  omega

set_option maxHeartbeats 4000000 in
set_option maxRecDepth 100000 in
theorem c0_isClear (l : Launch) (D : va_G) (cy : Nat → ClassId) (g : Nat) (hi dr wi : Int32) (fo : Int64) (pe te re : Int32) (k0 k1 k2 k3 k4 k5 k6 : Nat) (a b : Nat) (sz : Nat) (ha : a < 36) (hb0 : b < 36) : Met l yX3_isClear wsX3_isClear ({ frames := 2, cells := 0, slots := 0, locals := 44 }) (va_Pc [.ref g, .int (nI a), .int (nI b)] (kPre D cy [(g, .inr (3, [.int 6, .int hi, .int dr, .int wi, .long 0, .long fo, .int pe, .int te, .int re, .ref k0, .ref k1, .ref k2, .ref k3, .ref k4, .ref k5, .ref k6]))] sz)) (va_Qi (fun (r : Int32) (_ : Unit) => r = 1) (fun _ _ => True) (fun q : Nat => sz ≤ q)) 0 0 (fun q : Nat => sz ≤ q) := by
  refine Met.ofW (cc := cX3_isClear) (maxL := 8) (ret := (some .boolean)) (by decide) rfl ?_
  intro p e s m args below meth c s₁ B hml hv
  obtain ⟨rfl, hsz, hP, hKA, hD0⟩ := hv
  have hx := B.exec
  have hb := B.bytes
  have hr := B.returns
  have hts := atoms_spec (ws := wsX3_isClear) B.pre
  have hown : s.vm.findClass RX3 = some m.cls := findClass_of_methodNamed B.named
  have hlocks := B.notSynchronized
  subst hsz
  have hK := hKA.1
  have hD := hD0
  generalize hAe : (fun q : Nat => s.heap.size ≤ q) = A
  have hA : ∀ q : Nat, s.heap.size ≤ q → A q := fun q h => by rw [← hAe]; exact h
  have hS : va_S A s.heap s.heap [] := va_S.rf
  have hP : va_P D vwCl [(g, .inr (3, [.int 6, .int hi, .int dr, .int wi, .long 0, .long fo, .int pe, .int te, .int re, .ref k0, .ref k1, .ref k2, .ref k3, .ref k4, .ref k5, .ref k6]))] s.heap := hP
  have hl := lv_entry ([.ref g, .int (nI a), .int (nI b)]) (n := 8) (Nat.le_of_ble_eq_true rfl)
  rw [lg_entry_eq]
  generalize (lg_sl ([.ref g, .int (nI a), .int (nI b)]) ++ List.replicate (8 - (lg_sl ([.ref g, .int (nI a), .int (nI b)])).length) Slot.unset).toArray = ls at hl ⊢
  have hl : lv_has ls 8 [(0, .ref g), (1, .int (nI a)), (2, .int (nI b))] := hl
  have z0_ := hts (.methodLink RX3 99 Lib.Math.max.name) (by decide +kernel)
  have z1_ := hts (.static Lib.Math.max.name) (by decide +kernel)
  have z2_ := hts (.initialized "java/lang/Math") (by decide +kernel)
  have z3_ := hts (.code Lib.Math.max.name Lib.Math.max.code 2 (some .int)) (by decide +kernel)
  have z4_ := hts (.methodLink RX3 103 Lib.Math.min.name) (by decide +kernel)
  have z5_ := hts (.static Lib.Math.min.name) (by decide +kernel)
  have z6_ := hts (.code Lib.Math.min.name Lib.Math.min.code 2 (some .int)) (by decide +kernel)
  have z7_ := hts (.fieldLink RX3 33 "HeardSeen$Garden" "wide" "I") (by decide +kernel)
  have zi3_ : ∀ w ∈ u_ws RX3 TX3 16, w ∈ wsX3_isClear := by decide +kernel
  refine lv_aload_n hx hb dX3_isClear_0 rfl (lv_at hl 0 rfl) ?_
  refine lv_iload_n hx hb dX3_isClear_1 rfl (lv_at hl 1 rfl) ?_
  refine rd_i (va_runV (As := [.int (nI a)]) (rest := []) ⟨hx, hb, hml, hown, hts⟩ (c_X3_xOf l D cy g 6 hi dr wi 0 fo pe te re k0 k1 k2 k3 k4 k5 k6 (nI a) _) (cwV 1 hts gX3_isClear_X3_xOf rfl rfl rfl (by decide +kernel) ⟨Nat.le_of_ble_eq_true rfl, Nat.le_of_ble_eq_true rfl⟩) (pV (ci := 3) (k := 0) hKA (hP.sub (ws' := [(g, .inr (3, [.int 6, .int hi, .int dr, .int wi, .long 0, .long fo, .int pe, .int te, .int re, .ref k0, .ref k1, .ref k2, .ref k3, .ref k4, .ref k5, .ref k6]))]) [0] rfl) (hD.sub (ws' := [(g, .inr (3, [.int 6, .int hi, .int dr, .int wi, .long 0, .long fo, .int pe, .int te, .int re, .ref k0, .ref k1, .ref k2, .ref k3, .ref k4, .ref k5, .ref k6]))]) [0] (by decide) rfl) rfl rfl) rfl rfl hl.1 rfl (lv_room (Nat.le_of_ble_eq_true rfl)) dX3_isClear_2 ⟨Nat.le_of_ble_eq_true rfl, Nat.le_of_ble_eq_true rfl⟩) hP hS hA (fun r1 H locs hwr1 hP hS => ?_)
  obtain rfl : r1 = nI (a % 6) := by rw [hwr1.1 (by decide)]; exact pk_rem (by omega) (by decide) (by decide)
  refine lv_aload_n hx hb dX3_isClear_5 rfl (lv_at hl 0 rfl) ?_
  refine lv_iload_n hx hb dX3_isClear_6 rfl (lv_at hl 2 rfl) ?_
  refine rd_i (va_runV (As := [.int (nI b)]) (rest := [.int (nI (a % 6))]) ⟨hx, hb, hml, hown, hts⟩ (c_X3_xOf l D cy g 6 hi dr wi 0 fo pe te re k0 k1 k2 k3 k4 k5 k6 (nI b) _) (cwV 1 hts gX3_isClear_X3_xOf rfl rfl rfl (by decide +kernel) ⟨Nat.le_of_ble_eq_true rfl, Nat.le_of_ble_eq_true rfl⟩) (pV (ci := 3) (k := 0) hKA (hP.sub (ws' := [(g, .inr (3, [.int 6, .int hi, .int dr, .int wi, .long 0, .long fo, .int pe, .int te, .int re, .ref k0, .ref k1, .ref k2, .ref k3, .ref k4, .ref k5, .ref k6]))]) [0] rfl) (hD.sub (ws' := [(g, .inr (3, [.int 6, .int hi, .int dr, .int wi, .long 0, .long fo, .int pe, .int te, .int re, .ref k0, .ref k1, .ref k2, .ref k3, .ref k4, .ref k5, .ref k6]))]) [0] (by decide) rfl) rfl rfl) rfl rfl hl.1 rfl (lv_room (Nat.le_of_ble_eq_true rfl)) dX3_isClear_7 ⟨Nat.le_of_ble_eq_true rfl, Nat.le_of_ble_eq_true rfl⟩) hP hS hA (fun r2 H locs hwr2 hP hS => ?_)
  obtain rfl : r2 = nI (b % 6) := by rw [hwr2.1 (by decide)]; exact pk_rem (by omega) (by decide) (by decide)
  refine va_mmax hx hb (by rw [hml]; exact hl.1.symm) hown z0_ z1_ z2_ z3_ (Nat.le_of_ble_eq_true rfl) (Nat.le_of_ble_eq_true rfl) (Nat.zero_le _) (Nat.zero_le _) dX3_isClear_10 ?_
  refine lv_topi (fun x3 ex3 => ?_)
  obtain rfl : x3 = nI (max (a % 6) (b % 6)) := by rw [ex3]; exact z_max (by omega) (by omega)
  refine lv_istore_n (lv' := [(3, .int (nI (max (a % 6) (b % 6)))), (0, .ref g), (1, .int (nI a)), (2, .int (nI b))]) hx hb dX3_isClear_13 rfl hl (by decide) rfl (fun ls hl => ?_)
  refine lv_aload_n hx hb dX3_isClear_14 rfl (lv_at hl 1 rfl) ?_
  refine lv_iload_n hx hb dX3_isClear_15 rfl (lv_at hl 2 rfl) ?_
  refine rd_i (va_runV (As := [.int (nI a)]) (rest := []) ⟨hx, hb, hml, hown, hts⟩ (c_X3_yOf l D cy g 6 hi dr wi 0 fo pe te re k0 k1 k2 k3 k4 k5 k6 (nI a) _) (cwV 1 hts gX3_isClear_X3_yOf rfl rfl rfl (by decide +kernel) ⟨Nat.le_of_ble_eq_true rfl, Nat.le_of_ble_eq_true rfl⟩) (pV (ci := 3) (k := 0) hKA (hP.sub (ws' := [(g, .inr (3, [.int 6, .int hi, .int dr, .int wi, .long 0, .long fo, .int pe, .int te, .int re, .ref k0, .ref k1, .ref k2, .ref k3, .ref k4, .ref k5, .ref k6]))]) [0] rfl) (hD.sub (ws' := [(g, .inr (3, [.int 6, .int hi, .int dr, .int wi, .long 0, .long fo, .int pe, .int te, .int re, .ref k0, .ref k1, .ref k2, .ref k3, .ref k4, .ref k5, .ref k6]))]) [0] (by decide) rfl) rfl rfl) rfl rfl hl.1 rfl (lv_room (Nat.le_of_ble_eq_true rfl)) dX3_isClear_16 ⟨Nat.le_of_ble_eq_true rfl, Nat.le_of_ble_eq_true rfl⟩) hP hS hA (fun r4 H locs hwr4 hP hS => ?_)
  obtain rfl : r4 = nI (a / 6) := by rw [hwr4.1 (by decide)]; exact pk_div (by omega) (by decide) (by decide)
  refine lv_aload_n hx hb dX3_isClear_19 rfl (lv_at hl 1 rfl) ?_
  refine lv_iload_n hx hb dX3_isClear_20 rfl (lv_at hl 3 rfl) ?_
  refine rd_i (va_runV (As := [.int (nI b)]) (rest := [.int (nI (a / 6))]) ⟨hx, hb, hml, hown, hts⟩ (c_X3_yOf l D cy g 6 hi dr wi 0 fo pe te re k0 k1 k2 k3 k4 k5 k6 (nI b) _) (cwV 1 hts gX3_isClear_X3_yOf rfl rfl rfl (by decide +kernel) ⟨Nat.le_of_ble_eq_true rfl, Nat.le_of_ble_eq_true rfl⟩) (pV (ci := 3) (k := 0) hKA (hP.sub (ws' := [(g, .inr (3, [.int 6, .int hi, .int dr, .int wi, .long 0, .long fo, .int pe, .int te, .int re, .ref k0, .ref k1, .ref k2, .ref k3, .ref k4, .ref k5, .ref k6]))]) [0] rfl) (hD.sub (ws' := [(g, .inr (3, [.int 6, .int hi, .int dr, .int wi, .long 0, .long fo, .int pe, .int te, .int re, .ref k0, .ref k1, .ref k2, .ref k3, .ref k4, .ref k5, .ref k6]))]) [0] (by decide) rfl) rfl rfl) rfl rfl hl.1 rfl (lv_room (Nat.le_of_ble_eq_true rfl)) dX3_isClear_21 ⟨Nat.le_of_ble_eq_true rfl, Nat.le_of_ble_eq_true rfl⟩) hP hS hA (fun r5 H locs hwr5 hP hS => ?_)
  obtain rfl : r5 = nI (b / 6) := by rw [hwr5.1 (by decide)]; exact pk_div (by omega) (by decide) (by decide)
  refine va_mmax hx hb (by rw [hml]; exact hl.1.symm) hown z0_ z1_ z2_ z3_ (Nat.le_of_ble_eq_true rfl) (Nat.le_of_ble_eq_true rfl) (Nat.zero_le _) (Nat.zero_le _) dX3_isClear_24 ?_
  refine lv_topi (fun x6 ex6 => ?_)
  obtain rfl : x6 = nI (max (a / 6) (b / 6)) := by rw [ex6]; exact z_max (by omega) (by omega)
  refine lv_istore (lv' := [(4, .int (nI (max (a / 6) (b / 6)))), (3, .int (nI (max (a % 6) (b % 6)))), (0, .ref g), (1, .int (nI a)), (2, .int (nI b))]) hx hb dX3_isClear_27 hl (by decide) rfl (fun ls hl => ?_)
  refine lv_aload_n hx hb dX3_isClear_29 rfl (lv_at hl 2 rfl) ?_
  refine lv_iload_n hx hb dX3_isClear_30 rfl (lv_at hl 3 rfl) ?_
  refine rd_i (va_runV (As := [.int (nI a)]) (rest := []) ⟨hx, hb, hml, hown, hts⟩ (c_X3_yOf l D cy g 6 hi dr wi 0 fo pe te re k0 k1 k2 k3 k4 k5 k6 (nI a) _) (cwV 1 hts gX3_isClear_X3_yOf rfl rfl rfl (by decide +kernel) ⟨Nat.le_of_ble_eq_true rfl, Nat.le_of_ble_eq_true rfl⟩) (pV (ci := 3) (k := 0) hKA (hP.sub (ws' := [(g, .inr (3, [.int 6, .int hi, .int dr, .int wi, .long 0, .long fo, .int pe, .int te, .int re, .ref k0, .ref k1, .ref k2, .ref k3, .ref k4, .ref k5, .ref k6]))]) [0] rfl) (hD.sub (ws' := [(g, .inr (3, [.int 6, .int hi, .int dr, .int wi, .long 0, .long fo, .int pe, .int te, .int re, .ref k0, .ref k1, .ref k2, .ref k3, .ref k4, .ref k5, .ref k6]))]) [0] (by decide) rfl) rfl rfl) rfl rfl hl.1 rfl (lv_room (Nat.le_of_ble_eq_true rfl)) dX3_isClear_31 ⟨Nat.le_of_ble_eq_true rfl, Nat.le_of_ble_eq_true rfl⟩) hP hS hA (fun r7 H locs hwr7 hP hS => ?_)
  obtain rfl : r7 = nI (a / 6) := by rw [hwr7.1 (by decide)]; exact pk_div (by omega) (by decide) (by decide)
  refine lv_aload_n hx hb dX3_isClear_34 rfl (lv_at hl 2 rfl) ?_
  refine lv_iload_n hx hb dX3_isClear_35 rfl (lv_at hl 4 rfl) ?_
  refine rd_i (va_runV (As := [.int (nI b)]) (rest := [.int (nI (a / 6))]) ⟨hx, hb, hml, hown, hts⟩ (c_X3_yOf l D cy g 6 hi dr wi 0 fo pe te re k0 k1 k2 k3 k4 k5 k6 (nI b) _) (cwV 1 hts gX3_isClear_X3_yOf rfl rfl rfl (by decide +kernel) ⟨Nat.le_of_ble_eq_true rfl, Nat.le_of_ble_eq_true rfl⟩) (pV (ci := 3) (k := 0) hKA (hP.sub (ws' := [(g, .inr (3, [.int 6, .int hi, .int dr, .int wi, .long 0, .long fo, .int pe, .int te, .int re, .ref k0, .ref k1, .ref k2, .ref k3, .ref k4, .ref k5, .ref k6]))]) [0] rfl) (hD.sub (ws' := [(g, .inr (3, [.int 6, .int hi, .int dr, .int wi, .long 0, .long fo, .int pe, .int te, .int re, .ref k0, .ref k1, .ref k2, .ref k3, .ref k4, .ref k5, .ref k6]))]) [0] (by decide) rfl) rfl rfl) rfl rfl hl.1 rfl (lv_room (Nat.le_of_ble_eq_true rfl)) dX3_isClear_36 ⟨Nat.le_of_ble_eq_true rfl, Nat.le_of_ble_eq_true rfl⟩) hP hS hA (fun r8 H locs hwr8 hP hS => ?_)
  obtain rfl : r8 = nI (b / 6) := by rw [hwr8.1 (by decide)]; exact pk_div (by omega) (by decide) (by decide)
  refine va_mmin hx hb (by rw [hml]; exact hl.1.symm) hown z4_ z5_ z2_ z6_ (Nat.le_of_ble_eq_true rfl) (Nat.le_of_ble_eq_true rfl) (Nat.zero_le _) (Nat.zero_le _) dX3_isClear_39 ?_
  refine lv_topi (fun x9 ex9 => ?_)
  obtain rfl : x9 = nI (min (a / 6) (b / 6)) := by rw [ex9]; exact z_min (by omega) (by omega)
  refine lv_istore (lv' := [(5, .int (nI (min (a / 6) (b / 6)))), (4, .int (nI (max (a / 6) (b / 6)))), (3, .int (nI (max (a % 6) (b % 6)))), (0, .ref g), (1, .int (nI a)), (2, .int (nI b))]) hx hb dX3_isClear_42 hl (by decide) rfl (fun ls hl => ?_)
  have lp44 : ∀ (n44 : Nat) (y : Nat), y ≤ max (a / 6) (b / 6) + 1 → max (a / 6) (b / 6) + 1 - y < n44 → ∀ (H : Heap) (locs : List Loc), va_P D vwCl [(g, .inr (3, [.int 6, .int hi, .int dr, .int wi, .long 0, .long fo, .int pe, .int te, .int re, .ref k0, .ref k1, .ref k2, .ref k3, .ref k4, .ref k5, .ref k6]))] H → va_D (fun _ => True) [(g, .inr (3, [.int 6, .int hi, .int dr, .int wi, .long 0, .long fo, .int pe, .int te, .int re, .ref k0, .ref k1, .ref k2, .ref k3, .ref k4, .ref k5, .ref k6]))] → va_S A s.heap H locs → ∀ ls : Array Slot, lv_has ls 8 [(0, .ref g), (1, .int (nI a)), (2, .int (nI b)), (3, .int (nI (max (a % 6) (b % 6)))), (4, .int (nI (max (a / 6) (b / 6)))), (5, .int (nI y))] → W p l e (headSpec wsX3_isClear ({ frames := 2, cells := 0, slots := 0, locals := 44 })).room s m [.ref g, .int (nI a), .int (nI b)].toArray below meth c H locs 0 0 (MQ below (va_Qi (fun (r : Int32) (_ : Unit) => r = 1) (fun _ _ => True) A) [.ref g, .int (nI a), .int (nI b)].toArray s 0 0 A) (F0 m 44 ls []) := by
    intro n44
    induction n44 with
    | zero => intro y hy hm; exact absurd hm (Nat.not_lt_zero _)
    | succ n44 ih44 =>
      intro y hy hm44 H locs hP hD hS ls hl
      refine lv_iload hx hb dX3_isClear_44 (lv_at hl 5 rfl) ?_
      refine lv_iload hx hb dX3_isClear_46 (lv_at hl 4 rfl) ?_
      refine lv_icmp_gt (tgt := 133) hx hb dX3_isClear_48 (by decide) (fun c10 => ?_) (fun c10 => ?_)
      · skip
        refine lv_iconst (v := 1) hx hb dX3_isClear_133 (by decide) ?_
        exact W.zret (v := 1) hx hb hr rfl (fun t ht hW => ⟨⟨1, (), rfl, rfl, trivial⟩, hS.F ht⟩) hS.2.2 dX3_isClear_134
      · skip
        refine lv_aload_n hx hb dX3_isClear_51 rfl (lv_at hl 0 rfl) ?_
        refine lv_iload_n hx hb dX3_isClear_52 rfl (lv_at hl 1 rfl) ?_
        refine rd_i (va_runV (As := [.int (nI a)]) (rest := []) ⟨hx, hb, hml, hown, hts⟩ (c_X3_xOf l D cy g 6 hi dr wi 0 fo pe te re k0 k1 k2 k3 k4 k5 k6 (nI a) _) (cwV 1 hts gX3_isClear_X3_xOf rfl rfl rfl (by decide +kernel) ⟨Nat.le_of_ble_eq_true rfl, Nat.le_of_ble_eq_true rfl⟩) (pV (ci := 3) (k := 0) hKA (hP.sub (ws' := [(g, .inr (3, [.int 6, .int hi, .int dr, .int wi, .long 0, .long fo, .int pe, .int te, .int re, .ref k0, .ref k1, .ref k2, .ref k3, .ref k4, .ref k5, .ref k6]))]) [0] rfl) (hD.sub (ws' := [(g, .inr (3, [.int 6, .int hi, .int dr, .int wi, .long 0, .long fo, .int pe, .int te, .int re, .ref k0, .ref k1, .ref k2, .ref k3, .ref k4, .ref k5, .ref k6]))]) [0] (by decide) rfl) rfl rfl) rfl rfl hl.1 rfl (lv_room (Nat.le_of_ble_eq_true rfl)) dX3_isClear_53 ⟨Nat.le_of_ble_eq_true rfl, Nat.le_of_ble_eq_true rfl⟩) hP hS hA (fun r11 H locs hwr11 hP hS => ?_)
        obtain rfl : r11 = nI (a % 6) := by rw [hwr11.1 (by decide)]; exact pk_rem (by omega) (by decide) (by decide)
        refine lv_aload_n hx hb dX3_isClear_56 rfl (lv_at hl 0 rfl) ?_
        refine lv_iload_n hx hb dX3_isClear_57 rfl (lv_at hl 2 rfl) ?_
        refine rd_i (va_runV (As := [.int (nI b)]) (rest := [.int (nI (a % 6))]) ⟨hx, hb, hml, hown, hts⟩ (c_X3_xOf l D cy g 6 hi dr wi 0 fo pe te re k0 k1 k2 k3 k4 k5 k6 (nI b) _) (cwV 1 hts gX3_isClear_X3_xOf rfl rfl rfl (by decide +kernel) ⟨Nat.le_of_ble_eq_true rfl, Nat.le_of_ble_eq_true rfl⟩) (pV (ci := 3) (k := 0) hKA (hP.sub (ws' := [(g, .inr (3, [.int 6, .int hi, .int dr, .int wi, .long 0, .long fo, .int pe, .int te, .int re, .ref k0, .ref k1, .ref k2, .ref k3, .ref k4, .ref k5, .ref k6]))]) [0] rfl) (hD.sub (ws' := [(g, .inr (3, [.int 6, .int hi, .int dr, .int wi, .long 0, .long fo, .int pe, .int te, .int re, .ref k0, .ref k1, .ref k2, .ref k3, .ref k4, .ref k5, .ref k6]))]) [0] (by decide) rfl) rfl rfl) rfl rfl hl.1 rfl (lv_room (Nat.le_of_ble_eq_true rfl)) dX3_isClear_58 ⟨Nat.le_of_ble_eq_true rfl, Nat.le_of_ble_eq_true rfl⟩) hP hS hA (fun r12 H locs hwr12 hP hS => ?_)
        obtain rfl : r12 = nI (b % 6) := by rw [hwr12.1 (by decide)]; exact pk_rem (by omega) (by decide) (by decide)
        refine va_mmin hx hb (by rw [hml]; exact hl.1.symm) hown z4_ z5_ z2_ z6_ (Nat.le_of_ble_eq_true rfl) (Nat.le_of_ble_eq_true rfl) (Nat.zero_le _) (Nat.zero_le _) dX3_isClear_61 ?_
        refine lv_topi (fun x13 ex13 => ?_)
        obtain rfl : x13 = nI (min (a % 6) (b % 6)) := by rw [ex13]; exact z_min (by omega) (by omega)
        refine lv_istore (lv' := [(6, .int (nI (min (a % 6) (b % 6)))), (0, .ref g), (1, .int (nI a)), (2, .int (nI b)), (3, .int (nI (max (a % 6) (b % 6)))), (4, .int (nI (max (a / 6) (b / 6)))), (5, .int (nI y))]) hx hb dX3_isClear_64 hl (by decide) rfl (fun ls hl => ?_)
        have lp66 : ∀ (n66 : Nat) (x : Nat), x ≤ max (a % 6) (b % 6) + 1 → max (a % 6) (b % 6) + 1 - x < n66 → ∀ (H : Heap) (locs : List Loc), va_P D vwCl [(g, .inr (3, [.int 6, .int hi, .int dr, .int wi, .long 0, .long fo, .int pe, .int te, .int re, .ref k0, .ref k1, .ref k2, .ref k3, .ref k4, .ref k5, .ref k6]))] H → va_D (fun _ => True) [(g, .inr (3, [.int 6, .int hi, .int dr, .int wi, .long 0, .long fo, .int pe, .int te, .int re, .ref k0, .ref k1, .ref k2, .ref k3, .ref k4, .ref k5, .ref k6]))] → va_S A s.heap H locs → ∀ ls : Array Slot, lv_has ls 8 [(0, .ref g), (1, .int (nI a)), (2, .int (nI b)), (3, .int (nI (max (a % 6) (b % 6)))), (4, .int (nI (max (a / 6) (b / 6)))), (5, .int (nI y)), (6, .int (nI x))] → W p l e (headSpec wsX3_isClear ({ frames := 2, cells := 0, slots := 0, locals := 44 })).room s m [.ref g, .int (nI a), .int (nI b)].toArray below meth c H locs 0 0 (MQ below (va_Qi (fun (r : Int32) (_ : Unit) => r = 1) (fun _ _ => True) A) [.ref g, .int (nI a), .int (nI b)].toArray s 0 0 A) (F0 m 66 ls []) := by
          intro n66
          induction n66 with
          | zero => intro x hx6 hm; exact absurd hm (Nat.not_lt_zero _)
          | succ n66 ih66 =>
            intro x hx6 hm66 H locs hP hD hS ls hl
            refine lv_iload hx hb dX3_isClear_66 (lv_at hl 6 rfl) ?_
            refine lv_iload_n hx hb dX3_isClear_68 rfl (lv_at hl 3 rfl) ?_
            refine lv_icmp_gt (tgt := 127) hx hb dX3_isClear_69 (by decide) (fun c14 => ?_) (fun c14 => ?_)
            · skip
              refine lv_iinc (v := nI (y + 1)) (lv' := [(5, .int (nI (y + 1))), (0, .ref g), (1, .int (nI a)), (2, .int (nI b)), (3, .int (nI (max (a % 6) (b % 6)))), (4, .int (nI (max (a / 6) (b / 6)))), (6, .int (nI x))]) hx hb dX3_isClear_127 hl (k := 5) rfl (nI_1 _) (by decide) rfl (fun ls hl => ?_)
              refine lv_goto (tgt := 44) hx hb dX3_isClear_130 (by decide) ?_
              exact ih44 (y + 1) (by have := nnlt (by omega) (by omega) (by assumption : ¬ nI (max (a / 6) (b / 6)) < nI y); omega) (by have := nnlt (by omega) (by omega) (by assumption : ¬ nI (max (a / 6) (b / 6)) < nI y); omega) _ _ (hP.sub (ws' := [(g, .inr (3, [.int 6, .int hi, .int dr, .int wi, .long 0, .long fo, .int pe, .int te, .int re, .ref k0, .ref k1, .ref k2, .ref k3, .ref k4, .ref k5, .ref k6]))]) [0] rfl) (hD.sub (ws' := [(g, .inr (3, [.int 6, .int hi, .int dr, .int wi, .long 0, .long fo, .int pe, .int te, .int re, .ref k0, .ref k1, .ref k2, .ref k3, .ref k4, .ref k5, .ref k6]))]) [0] (by decide) rfl) hS ls (lv_sub hl [1, 2, 3, 4, 5, 0] rfl)
            · skip
              refine lv_iload hx hb dX3_isClear_72 (lv_at hl 5 rfl) ?_
              refine lv_aload_n hx hb dX3_isClear_74 rfl (lv_at hl 0 rfl) ?_
              refine va_get (D := D) (ci := 3) (v := .int 6) (C := RX3) (T := TX3) (N := 16) hx hb hts zi3_ hown hK hP 0 rfl rfl 0 (by decide) z7_ (fun _ h9 => h9) rfl dX3_isClear_75 ?_
              refine lv_imul hx hb dX3_isClear_78 ?_
              refine lv_topi (fun x15 ex15 => ?_)
              obtain rfl : x15 = nI (y * 6) := by rw [ex15]; exact pk_mul _ _
              refine lv_iload hx hb dX3_isClear_79 (lv_at hl 6 rfl) ?_
              refine lv_iadd hx hb dX3_isClear_81 ?_
              refine lv_topi (fun x16 ex16 => ?_)
              obtain rfl : x16 = nI ((y * 6) + x) := by rw [ex16]; exact nI_add _ _
              refine lv_istore (lv' := [(7, .int (nI ((y * 6) + x))), (0, .ref g), (1, .int (nI a)), (2, .int (nI b)), (3, .int (nI (max (a % 6) (b % 6)))), (4, .int (nI (max (a / 6) (b / 6)))), (5, .int (nI y)), (6, .int (nI x))]) hx hb dX3_isClear_82 hl (by decide) rfl (fun ls hl => ?_)
              refine lv_iload hx hb dX3_isClear_84 (lv_at hl 0 rfl) ?_
              refine lv_iload_n hx hb dX3_isClear_86 rfl (lv_at hl 2 rfl) ?_
              refine lv_icmp_eq (tgt := 121) hx hb dX3_isClear_87 (by decide) (fun c17 => ?_) (fun c17 => ?_)
              · skip
                refine lv_iinc (v := nI (x + 1)) (lv' := [(6, .int (nI (x + 1))), (7, .int (nI ((y * 6) + x))), (0, .ref g), (1, .int (nI a)), (2, .int (nI b)), (3, .int (nI (max (a % 6) (b % 6)))), (4, .int (nI (max (a / 6) (b / 6)))), (5, .int (nI y))]) hx hb dX3_isClear_121 hl (k := 7) rfl (nI_1 _) (by decide) rfl (fun ls hl => ?_)
                refine lv_goto (tgt := 66) hx hb dX3_isClear_124 (by decide) ?_
                exact ih66 (x + 1) (by have := nnlt (by omega) (by omega) (by assumption : ¬ nI (max (a % 6) (b % 6)) < nI x); omega) (by have := nnlt (by omega) (by omega) (by assumption : ¬ nI (max (a % 6) (b % 6)) < nI x); omega) _ _ (hP.sub (ws' := [(g, .inr (3, [.int 6, .int hi, .int dr, .int wi, .long 0, .long fo, .int pe, .int te, .int re, .ref k0, .ref k1, .ref k2, .ref k3, .ref k4, .ref k5, .ref k6]))]) [0] rfl) (hD.sub (ws' := [(g, .inr (3, [.int 6, .int hi, .int dr, .int wi, .long 0, .long fo, .int pe, .int te, .int re, .ref k0, .ref k1, .ref k2, .ref k3, .ref k4, .ref k5, .ref k6]))]) [0] (by decide) rfl) hS ls (lv_sub hl [2, 3, 4, 5, 6, 7, 0] rfl)
              · skip
                refine lv_iload hx hb dX3_isClear_90 (lv_at hl 0 rfl) ?_
                refine lv_iload_n hx hb dX3_isClear_92 rfl (lv_at hl 3 rfl) ?_
                refine lv_icmp_eq (tgt := 121) hx hb dX3_isClear_93 (by decide) (fun c18 => ?_) (fun c18 => ?_)
                · skip
                  refine lv_iinc (v := nI (x + 1)) (lv' := [(6, .int (nI (x + 1))), (7, .int (nI ((y * 6) + x))), (0, .ref g), (1, .int (nI a)), (2, .int (nI b)), (3, .int (nI (max (a % 6) (b % 6)))), (4, .int (nI (max (a / 6) (b / 6)))), (5, .int (nI y))]) hx hb dX3_isClear_121 hl (k := 7) rfl (nI_1 _) (by decide) rfl (fun ls hl => ?_)
                  refine lv_goto (tgt := 66) hx hb dX3_isClear_124 (by decide) ?_
                  exact ih66 (x + 1) (by have := nnlt (by omega) (by omega) (by assumption : ¬ nI (max (a % 6) (b % 6)) < nI x); omega) (by have := nnlt (by omega) (by omega) (by assumption : ¬ nI (max (a % 6) (b % 6)) < nI x); omega) _ _ (hP.sub (ws' := [(g, .inr (3, [.int 6, .int hi, .int dr, .int wi, .long 0, .long fo, .int pe, .int te, .int re, .ref k0, .ref k1, .ref k2, .ref k3, .ref k4, .ref k5, .ref k6]))]) [0] rfl) (hD.sub (ws' := [(g, .inr (3, [.int 6, .int hi, .int dr, .int wi, .long 0, .long fo, .int pe, .int te, .int re, .ref k0, .ref k1, .ref k2, .ref k3, .ref k4, .ref k5, .ref k6]))]) [0] (by decide) rfl) hS ls (lv_sub hl [2, 3, 4, 5, 6, 7, 0] rfl)
                · skip
                  refine lv_aload_n hx hb dX3_isClear_96 rfl (lv_at hl 1 rfl) ?_
                  refine lv_iconst (v := 0) hx hb dX3_isClear_97 (by decide) ?_
                  refine lv_iload hx hb dX3_isClear_98 (lv_at hl 0 rfl) ?_
                  refine rd_i (va_runV (As := [.int 0, .int (nI ((y * 6) + x))]) (rest := []) ⟨hx, hb, hml, hown, hts⟩ (c_X3_has l D cy g 6 hi dr wi 0 fo pe te re k0 k1 k2 k3 k4 k5 k6 0 (nI ((y * 6) + x)) _) (cwV 2 hts gX3_isClear_X3_has rfl rfl rfl (by decide +kernel) ⟨Nat.le_of_ble_eq_true rfl, Nat.le_of_ble_eq_true rfl⟩) (pV (ci := 3) (k := 0) hKA (hP.sub (ws' := [(g, .inr (3, [.int 6, .int hi, .int dr, .int wi, .long 0, .long fo, .int pe, .int te, .int re, .ref k0, .ref k1, .ref k2, .ref k3, .ref k4, .ref k5, .ref k6]))]) [0] rfl) (hD.sub (ws' := [(g, .inr (3, [.int 6, .int hi, .int dr, .int wi, .long 0, .long fo, .int pe, .int te, .int re, .ref k0, .ref k1, .ref k2, .ref k3, .ref k4, .ref k5, .ref k6]))]) [0] (by decide) rfl) rfl rfl) rfl rfl hl.1 rfl (lv_room (Nat.le_of_ble_eq_true rfl)) dX3_isClear_100 ⟨Nat.le_of_ble_eq_true rfl, Nat.le_of_ble_eq_true rfl⟩) hP hS hA (fun r19 H locs hwr19 hP hS => ?_)
                  rcases hwr19 with ⟨rfl, hhr19⟩ | ⟨rfl, hhr19⟩
                  · exact absurd hhr19 (by rw [if_pos rfl]; exact z_sh0 _)
                  · skip
                    refine lv_if_eq (tgt := 121) hx hb dX3_isClear_103 (by decide) (fun c20 => ?_) (fun c20 => absurd c20 (by decide))
                    refine lv_iinc (v := nI (x + 1)) (lv' := [(6, .int (nI (x + 1))), (7, .int (nI ((y * 6) + x))), (0, .ref g), (1, .int (nI a)), (2, .int (nI b)), (3, .int (nI (max (a % 6) (b % 6)))), (4, .int (nI (max (a / 6) (b / 6)))), (5, .int (nI y))]) hx hb dX3_isClear_121 hl (k := 7) rfl (nI_1 _) (by decide) rfl (fun ls hl => ?_)
                    refine lv_goto (tgt := 66) hx hb dX3_isClear_124 (by decide) ?_
                    exact ih66 (x + 1) (by have := nnlt (by omega) (by omega) (by assumption : ¬ nI (max (a % 6) (b % 6)) < nI x); omega) (by have := nnlt (by omega) (by omega) (by assumption : ¬ nI (max (a % 6) (b % 6)) < nI x); omega) _ _ (hP.sub (ws' := [(g, .inr (3, [.int 6, .int hi, .int dr, .int wi, .long 0, .long fo, .int pe, .int te, .int re, .ref k0, .ref k1, .ref k2, .ref k3, .ref k4, .ref k5, .ref k6]))]) [0] rfl) (hD.sub (ws' := [(g, .inr (3, [.int 6, .int hi, .int dr, .int wi, .long 0, .long fo, .int pe, .int te, .int re, .ref k0, .ref k1, .ref k2, .ref k3, .ref k4, .ref k5, .ref k6]))]) [0] (by decide) rfl) hS ls (lv_sub hl [2, 3, 4, 5, 6, 7, 0] rfl)
        exact lp66 (max (a % 6) (b % 6) + 1 - (min (a % 6) (b % 6)) + 1) (min (a % 6) (b % 6)) (by omega) (Nat.lt_succ_self _) _ _ (hP.sub (ws' := [(g, .inr (3, [.int 6, .int hi, .int dr, .int wi, .long 0, .long fo, .int pe, .int te, .int re, .ref k0, .ref k1, .ref k2, .ref k3, .ref k4, .ref k5, .ref k6]))]) [0] rfl) (hD.sub (ws' := [(g, .inr (3, [.int 6, .int hi, .int dr, .int wi, .long 0, .long fo, .int pe, .int te, .int re, .ref k0, .ref k1, .ref k2, .ref k3, .ref k4, .ref k5, .ref k6]))]) [0] (by decide) rfl) hS ls (lv_sub hl [1, 2, 3, 4, 5, 6, 0] rfl)
  exact lp44 (max (a / 6) (b / 6) + 1 - (min (a / 6) (b / 6)) + 1) (min (a / 6) (b / 6)) (by omega) (Nat.lt_succ_self _) _ _ (hP.sub (ws' := [(g, .inr (3, [.int 6, .int hi, .int dr, .int wi, .long 0, .long fo, .int pe, .int te, .int re, .ref k0, .ref k1, .ref k2, .ref k3, .ref k4, .ref k5, .ref k6]))]) [0] rfl) (hD.sub (ws' := [(g, .inr (3, [.int 6, .int hi, .int dr, .int wi, .long 0, .long fo, .int pe, .int te, .int re, .ref k0, .ref k1, .ref k2, .ref k3, .ref k4, .ref k5, .ref k6]))]) [0] (by decide) rfl) hS ls (lv_sub hl [3, 4, 5, 2, 1, 0] rfl)

set_option maxHeartbeats 4000000 in
set_option maxRecDepth 100000 in
theorem c0_digestAfter (l : Launch) (D : va_G) (cy : Nat → ClassId) (g : Nat) (k0 k1 k2 k3 k4 k5 k6 : Nat) (h : Int64) (sz : Nat)  : Met l yX3_digestAfter wsX3_digestAfter ({ frames := 2, cells := 0, slots := 0, locals := 44 }) (va_Pc [.ref g, .long h] (kPre D cy [(g, .inr (3, [.int 6, .int 6, .int 1, .int 0, .long 0, .long 0, .int 0, .int 0, .int 0, .ref k0, .ref k1, .ref k2, .ref k3, .ref k4, .ref k5, .ref k6]))] sz)) (va_Ql (fun (r : Int64) (_ : Unit) => r = dgF (31 * (31 * (31 * h + 6) + 1) + 0) 36) (fun _ _ => True) (fun q : Nat => sz ≤ q)) 0 0 (fun q : Nat => sz ≤ q) := by
  refine Met.ofW (cc := cX3_digestAfter) (maxL := 4) (ret := (some .long)) (by decide) rfl ?_
  intro p e s m args below meth c s₁ B hml hv
  obtain ⟨rfl, hsz, hP, hKA, hD0⟩ := hv
  have hx := B.exec
  have hb := B.bytes
  have hr := B.returns
  have hts := atoms_spec (ws := wsX3_digestAfter) B.pre
  have hown : s.vm.findClass RX3 = some m.cls := findClass_of_methodNamed B.named
  have hlocks := B.notSynchronized
  subst hsz
  have hK := hKA.1
  have hD := hD0
  generalize hAe : (fun q : Nat => s.heap.size ≤ q) = A
  have hA : ∀ q : Nat, s.heap.size ≤ q → A q := fun q h => by rw [← hAe]; exact h
  have hS : va_S A s.heap s.heap [] := va_S.rf
  have hP : va_P D vwCl [(g, .inr (3, [.int 6, .int 6, .int 1, .int 0, .long 0, .long 0, .int 0, .int 0, .int 0, .ref k0, .ref k1, .ref k2, .ref k3, .ref k4, .ref k5, .ref k6]))] s.heap := hP
  have hl := lv_entry ([.ref g, .long h]) (n := 4) (Nat.le_of_ble_eq_true rfl)
  rw [lg_entry_eq]
  generalize (lg_sl ([.ref g, .long h]) ++ List.replicate (4 - (lg_sl ([.ref g, .long h])).length) Slot.unset).toArray = ls at hl ⊢
  have hl : lv_has ls 4 [(0, .ref g), (1, .long h)] := hl
  have z0_ := hts (.constantLong RX3 124 31) (by decide +kernel)
  have z1_ := hts (.fieldLink RX3 33 "HeardSeen$Garden" "wide" "I") (by decide +kernel)
  have zi3_ : ∀ w ∈ u_ws RX3 TX3 16, w ∈ wsX3_digestAfter := by decide +kernel
  have z3_ := hts (.fieldLink RX3 40 "HeardSeen$Garden" "drown" "I") (by decide +kernel)
  have z4_ := hts (.fieldLink RX3 43 "HeardSeen$Garden" "wind" "I") (by decide +kernel)
  have z5_ := hts (.fieldLink RX3 53 "HeardSeen$Garden" "people" "I") (by decide +kernel)
  have z6_ := hts (.fieldLink RX3 56 "HeardSeen$Garden" "tellings" "I") (by decide +kernel)
  have z7_ := hts (.fieldLink RX3 59 "HeardSeen$Garden" "reports" "I") (by decide +kernel)
  refine lv_ldc2 hx hb hown z0_ dX3_digestAfter_0 ?_
  refine lv_lload_n hx hb dX3_digestAfter_3 rfl (lv_at hl 1 rfl) ?_
  refine lv_lmul hx hb dX3_digestAfter_4 ?_
  refine lv_aload_n hx hb dX3_digestAfter_5 rfl (lv_at hl 0 rfl) ?_
  refine va_get (D := D) (ci := 3) (v := .int 6) (C := RX3) (T := TX3) (N := 16) hx hb hts zi3_ hown hK hP 0 rfl rfl 0 (by decide) z1_ (fun _ h9 => h9) rfl dX3_digestAfter_6 ?_
  refine lv_i2l hx hb dX3_digestAfter_9 rfl ?_
  refine lv_topl (fun x1 ex1 => ?_)
  obtain rfl : x1 = 6 := by rw [ex1]; decide +kernel
  refine lv_ladd hx hb dX3_digestAfter_10 ?_
  refine lv_topl (fun x2 ex2 => ?_)
  refine lv_lstore_n (lv' := [(1, .long x2), (0, .ref g)]) hx hb dX3_digestAfter_11 rfl hl (by decide) rfl (fun ls hl => ?_)
  refine lv_ldc2 hx hb hown z0_ dX3_digestAfter_12 ?_
  refine lv_lload_n hx hb dX3_digestAfter_15 rfl (lv_at hl 0 rfl) ?_
  refine lv_lmul hx hb dX3_digestAfter_16 ?_
  refine lv_aload_n hx hb dX3_digestAfter_17 rfl (lv_at hl 1 rfl) ?_
  refine va_get (D := D) (ci := 3) (v := .int 1) (C := RX3) (T := TX3) (N := 16) hx hb hts zi3_ hown hK hP 0 rfl rfl 2 (by decide) z3_ (fun _ h9 => h9) rfl dX3_digestAfter_18 ?_
  refine lv_i2l hx hb dX3_digestAfter_21 rfl ?_
  refine lv_topl (fun x3 ex3 => ?_)
  obtain rfl : x3 = 1 := by rw [ex3]; decide +kernel
  refine lv_ladd hx hb dX3_digestAfter_22 ?_
  refine lv_topl (fun x4 ex4 => ?_)
  refine lv_lstore_n (lv' := [(1, .long x4), (0, .ref g)]) hx hb dX3_digestAfter_23 rfl hl (by decide) rfl (fun ls hl => ?_)
  refine lv_ldc2 hx hb hown z0_ dX3_digestAfter_24 ?_
  refine lv_lload_n hx hb dX3_digestAfter_27 rfl (lv_at hl 0 rfl) ?_
  refine lv_lmul hx hb dX3_digestAfter_28 ?_
  refine lv_aload_n hx hb dX3_digestAfter_29 rfl (lv_at hl 1 rfl) ?_
  refine va_get (D := D) (ci := 3) (v := .int 0) (C := RX3) (T := TX3) (N := 16) hx hb hts zi3_ hown hK hP 0 rfl rfl 3 (by decide) z4_ (fun _ h9 => h9) rfl dX3_digestAfter_30 ?_
  refine lv_i2l hx hb dX3_digestAfter_33 rfl ?_
  refine lv_topl (fun x5 ex5 => ?_)
  obtain rfl : x5 = 0 := by rw [ex5]; decide +kernel
  refine lv_ladd hx hb dX3_digestAfter_34 ?_
  refine lv_topl (fun x6 ex6 => ?_)
  refine lv_lstore_n (lv' := [(1, .long x6), (0, .ref g)]) hx hb dX3_digestAfter_35 rfl hl (by decide) rfl (fun ls hl => ?_)
  refine lv_iconst (v := 0) hx hb dX3_digestAfter_36 (by decide) ?_
  refine lv_istore_n (lv' := [(3, .int 0), (1, .long x6), (0, .ref g)]) hx hb dX3_digestAfter_37 rfl hl (by decide) rfl (fun ls hl => ?_)
  refine lv_iload_n hx hb dX3_digestAfter_38 rfl (lv_at hl 0 rfl) ?_
  refine lv_aload_n hx hb dX3_digestAfter_39 rfl (lv_at hl 2 rfl) ?_
  refine va_get (D := D) (ci := 3) (v := .int 0) (C := RX3) (T := TX3) (N := 16) hx hb hts zi3_ hown hK hP 0 rfl rfl 6 (by decide) z5_ (fun _ h9 => h9) rfl dX3_digestAfter_40 ?_
  refine lv_icmp_ge (tgt := 99) hx hb dX3_digestAfter_43 (by decide) (fun c7 => ?_) (fun c7 => absurd c7 (by decide))
  refine lv_iconst (v := 0) hx hb dX3_digestAfter_99 (by decide) ?_
  refine lv_istore_n (lv' := [(3, .int 0), (1, .long x6), (0, .ref g)]) hx hb dX3_digestAfter_100 rfl hl (by decide) rfl (fun ls hl => ?_)
  have lp101 : ∀ (n101 : Nat) (k : Nat) (d : Int64), k ≤ 36 → d = dgF (31 * (31 * (31 * h + 6) + 1) + 0) k → 36 - k < n101 → ∀ (H : Heap) (locs : List Loc), va_P D vwCl [(g, .inr (3, [.int 6, .int 6, .int 1, .int 0, .long 0, .long 0, .int 0, .int 0, .int 0, .ref k0, .ref k1, .ref k2, .ref k3, .ref k4, .ref k5, .ref k6]))] H → va_D (fun _ => True) [(g, .inr (3, [.int 6, .int 6, .int 1, .int 0, .long 0, .long 0, .int 0, .int 0, .int 0, .ref k0, .ref k1, .ref k2, .ref k3, .ref k4, .ref k5, .ref k6]))] → va_S A s.heap H locs → ∀ ls : Array Slot, lv_has ls 4 [(0, .ref g), (1, .long d), (3, .int (nI k))] → W p l e (headSpec wsX3_digestAfter ({ frames := 2, cells := 0, slots := 0, locals := 44 })).room s m [.ref g, .long h].toArray below meth c H locs 0 0 (MQ below (va_Ql (fun (r : Int64) (_ : Unit) => r = dgF (31 * (31 * (31 * h + 6) + 1) + 0) 36) (fun _ _ => True) A) [.ref g, .long h].toArray s 0 0 A) (F0 m 101 ls []) := by
    intro n101
    induction n101 with
    | zero => intro k d hk hh hm; exact absurd hm (Nat.not_lt_zero _)
    | succ n101 ih101 =>
      intro k d hk hh hm101 H locs hP hD hS ls hl
      refine lv_iload_n hx hb dX3_digestAfter_101 rfl (lv_at hl 2 rfl) ?_
      refine lv_aload_n hx hb dX3_digestAfter_102 rfl (lv_at hl 0 rfl) ?_
      refine rd_i (va_runV (As := []) (rest := [.int (nI k)]) ⟨hx, hb, hml, hown, hts⟩ (c_X3_squareCount l D cy g 6 6 1 0 0 0 0 0 0 k0 k1 k2 k3 k4 k5 k6 _) (cwV 0 hts gX3_digestAfter_X3_squareCount rfl rfl rfl (by decide +kernel) ⟨Nat.le_of_ble_eq_true rfl, Nat.le_of_ble_eq_true rfl⟩) (pV (ci := 3) (k := 0) hKA (hP.sub (ws' := [(g, .inr (3, [.int 6, .int 6, .int 1, .int 0, .long 0, .long 0, .int 0, .int 0, .int 0, .ref k0, .ref k1, .ref k2, .ref k3, .ref k4, .ref k5, .ref k6]))]) [0] rfl) (hD.sub (ws' := [(g, .inr (3, [.int 6, .int 6, .int 1, .int 0, .long 0, .long 0, .int 0, .int 0, .int 0, .ref k0, .ref k1, .ref k2, .ref k3, .ref k4, .ref k5, .ref k6]))]) [0] (by decide) rfl) rfl rfl) rfl rfl hl.1 rfl (lv_room (Nat.le_of_ble_eq_true rfl)) dX3_digestAfter_103 ⟨Nat.le_of_ble_eq_true rfl, Nat.le_of_ble_eq_true rfl⟩) hP hS hA (fun r8 H locs hwr8 hP hS => ?_)
      obtain rfl : r8 = 36 := by rw [hwr8]; decide
      refine lv_icmp_ge (tgt := 159) hx hb dX3_digestAfter_106 (by decide) (fun c9 => ?_) (fun c9 => ?_)
      · skip
        refine lv_iconst (v := 0) hx hb dX3_digestAfter_159 (by decide) ?_
        refine lv_istore_n (lv' := [(3, .int 0), (0, .ref g), (1, .long d)]) hx hb dX3_digestAfter_160 rfl hl (by decide) rfl (fun ls hl => ?_)
        refine lv_iload_n hx hb dX3_digestAfter_161 rfl (lv_at hl 0 rfl) ?_
        refine lv_aload_n hx hb dX3_digestAfter_162 rfl (lv_at hl 1 rfl) ?_
        refine va_get (D := D) (ci := 3) (v := .int 0) (C := RX3) (T := TX3) (N := 16) hx hb hts zi3_ hown hK hP 0 rfl rfl 7 (by decide) z6_ (fun _ h9 => h9) rfl dX3_digestAfter_163 ?_
        refine lv_icmp_ge (tgt := 209) hx hb dX3_digestAfter_166 (by decide) (fun c10 => ?_) (fun c10 => absurd c10 (by decide))
        refine lv_iconst (v := 0) hx hb dX3_digestAfter_209 (by decide) ?_
        refine lv_istore_n (lv' := [(3, .int 0), (0, .ref g), (1, .long d)]) hx hb dX3_digestAfter_210 rfl hl (by decide) rfl (fun ls hl => ?_)
        refine lv_iload_n hx hb dX3_digestAfter_211 rfl (lv_at hl 0 rfl) ?_
        refine lv_aload_n hx hb dX3_digestAfter_212 rfl (lv_at hl 1 rfl) ?_
        refine va_get (D := D) (ci := 3) (v := .int 0) (C := RX3) (T := TX3) (N := 16) hx hb hts zi3_ hown hK hP 0 rfl rfl 8 (by decide) z7_ (fun _ h9 => h9) rfl dX3_digestAfter_213 ?_
        refine lv_icmp_ge (tgt := 259) hx hb dX3_digestAfter_216 (by decide) (fun c11 => ?_) (fun c11 => absurd c11 (by decide))
        refine lv_lload_n hx hb dX3_digestAfter_259 rfl (lv_at hl 2 rfl) ?_
        exact W.lret (v := d) hx hb hr (fun t ht hW => ⟨⟨d, (), rfl, (by have q := nge_of (n := 36) rfl hk (by decide) (by assumption); rw [hh, q]), trivial⟩, hS.F ht⟩) hS.2.2 dX3_digestAfter_260
      · skip
        refine lv_ldc2 hx hb hown z0_ dX3_digestAfter_109 ?_
        refine lv_lload_n hx hb dX3_digestAfter_112 rfl (lv_at hl 1 rfl) ?_
        refine lv_lmul hx hb dX3_digestAfter_113 ?_
        refine lv_aload_n hx hb dX3_digestAfter_114 rfl (lv_at hl 0 rfl) ?_
        refine lv_iconst (v := 0) hx hb dX3_digestAfter_115 (by decide) ?_
        refine lv_iload_n hx hb dX3_digestAfter_116 rfl (lv_at hl 2 rfl) ?_
        refine rd_i (va_runV (As := [.int 0, .int (nI k)]) (rest := [.long (31 * d)]) ⟨hx, hb, hml, hown, hts⟩ (c_X3_has l D cy g 6 6 1 0 0 0 0 0 0 k0 k1 k2 k3 k4 k5 k6 0 (nI k) _) (cwV 2 hts gX3_digestAfter_X3_has rfl rfl rfl (by decide +kernel) ⟨Nat.le_of_ble_eq_true rfl, Nat.le_of_ble_eq_true rfl⟩) (pV (ci := 3) (k := 0) hKA (hP.sub (ws' := [(g, .inr (3, [.int 6, .int 6, .int 1, .int 0, .long 0, .long 0, .int 0, .int 0, .int 0, .ref k0, .ref k1, .ref k2, .ref k3, .ref k4, .ref k5, .ref k6]))]) [0] rfl) (hD.sub (ws' := [(g, .inr (3, [.int 6, .int 6, .int 1, .int 0, .long 0, .long 0, .int 0, .int 0, .int 0, .ref k0, .ref k1, .ref k2, .ref k3, .ref k4, .ref k5, .ref k6]))]) [0] (by decide) rfl) rfl rfl) rfl rfl hl.1 rfl (lv_room (Nat.le_of_ble_eq_true rfl)) dX3_digestAfter_117 ⟨Nat.le_of_ble_eq_true rfl, Nat.le_of_ble_eq_true rfl⟩) hP hS hA (fun r12 H locs hwr12 hP hS => ?_)
        rcases hwr12 with ⟨rfl, hhr12⟩ | ⟨rfl, hhr12⟩
        · exact absurd hhr12 (by rw [if_pos rfl]; exact z_sh0 _)
        · skip
          refine lv_if_eq (tgt := 127) hx hb dX3_digestAfter_120 (by decide) (fun c13 => ?_) (fun c13 => absurd c13 (by decide))
          refine lv_iconst (v := 0) hx hb dX3_digestAfter_127 (by decide) ?_
          refine lv_i2l hx hb dX3_digestAfter_128 rfl ?_
          refine lv_topl (fun x14 ex14 => ?_)
          obtain rfl : x14 = 0 := by rw [ex14]; decide +kernel
          refine lv_ladd hx hb dX3_digestAfter_129 ?_
          refine lv_topl (fun x15 ex15 => ?_)
          refine lv_lstore_n (lv' := [(1, .long x15), (0, .ref g), (3, .int (nI k))]) hx hb dX3_digestAfter_130 rfl hl (by decide) rfl (fun ls hl => ?_)
          refine lv_ldc2 hx hb hown z0_ dX3_digestAfter_131 ?_
          refine lv_lload_n hx hb dX3_digestAfter_134 rfl (lv_at hl 0 rfl) ?_
          refine lv_lmul hx hb dX3_digestAfter_135 ?_
          refine lv_aload_n hx hb dX3_digestAfter_136 rfl (lv_at hl 1 rfl) ?_
          refine lv_iconst (v := 1) hx hb dX3_digestAfter_137 (by decide) ?_
          refine lv_iload_n hx hb dX3_digestAfter_138 rfl (lv_at hl 2 rfl) ?_
          refine rd_i (va_runV (As := [.int 1, .int (nI k)]) (rest := [.long (31 * x15)]) ⟨hx, hb, hml, hown, hts⟩ (c_X3_has l D cy g 6 6 1 0 0 0 0 0 0 k0 k1 k2 k3 k4 k5 k6 1 (nI k) _) (cwV 2 hts gX3_digestAfter_X3_has rfl rfl rfl (by decide +kernel) ⟨Nat.le_of_ble_eq_true rfl, Nat.le_of_ble_eq_true rfl⟩) (pV (ci := 3) (k := 0) hKA (hP.sub (ws' := [(g, .inr (3, [.int 6, .int 6, .int 1, .int 0, .long 0, .long 0, .int 0, .int 0, .int 0, .ref k0, .ref k1, .ref k2, .ref k3, .ref k4, .ref k5, .ref k6]))]) [0] rfl) (hD.sub (ws' := [(g, .inr (3, [.int 6, .int 6, .int 1, .int 0, .long 0, .long 0, .int 0, .int 0, .int 0, .ref k0, .ref k1, .ref k2, .ref k3, .ref k4, .ref k5, .ref k6]))]) [0] (by decide) rfl) rfl rfl) rfl rfl hl.1 rfl (lv_room (Nat.le_of_ble_eq_true rfl)) dX3_digestAfter_139 ⟨Nat.le_of_ble_eq_true rfl, Nat.le_of_ble_eq_true rfl⟩) hP hS hA (fun r16 H locs hwr16 hP hS => ?_)
          rcases hwr16 with ⟨rfl, hhr16⟩ | ⟨rfl, hhr16⟩
          · exact absurd hhr16 (by rw [if_neg (by decide)]; exact z_sh0 _)
          · skip
            refine lv_if_eq (tgt := 149) hx hb dX3_digestAfter_142 (by decide) (fun c17 => ?_) (fun c17 => absurd c17 (by decide))
            refine lv_iconst (v := 0) hx hb dX3_digestAfter_149 (by decide) ?_
            refine lv_i2l hx hb dX3_digestAfter_150 rfl ?_
            refine lv_topl (fun x18 ex18 => ?_)
            obtain rfl : x18 = 0 := by rw [ex18]; decide +kernel
            refine lv_ladd hx hb dX3_digestAfter_151 ?_
            refine lv_topl (fun x19 ex19 => ?_)
            refine lv_lstore_n (lv' := [(1, .long x19), (0, .ref g), (3, .int (nI k))]) hx hb dX3_digestAfter_152 rfl hl (by decide) rfl (fun ls hl => ?_)
            refine lv_iinc (v := nI (k + 1)) (lv' := [(3, .int (nI (k + 1))), (1, .long x19), (0, .ref g)]) hx hb dX3_digestAfter_153 hl (k := 2) rfl (nI_1 _) (by decide) rfl (fun ls hl => ?_)
            refine lv_goto (tgt := 101) hx hb dX3_digestAfter_156 (by decide) ?_
            exact ih101 (k + 1) x19 (nlt_of (n := 36) rfl hk (by decide) (by assumption)) (by rw [dgF, ← hh]; simp only [*]) (by have := nlt_of (n := 36) rfl hk (by decide) (by assumption); omega) _ _ (hP.sub (ws' := [(g, .inr (3, [.int 6, .int 6, .int 1, .int 0, .long 0, .long 0, .int 0, .int 0, .int 0, .ref k0, .ref k1, .ref k2, .ref k3, .ref k4, .ref k5, .ref k6]))]) [0] rfl) (hD.sub (ws' := [(g, .inr (3, [.int 6, .int 6, .int 1, .int 0, .long 0, .long 0, .int 0, .int 0, .int 0, .ref k0, .ref k1, .ref k2, .ref k3, .ref k4, .ref k5, .ref k6]))]) [0] (by decide) rfl) hS ls (lv_sub hl [2, 1, 0] rfl)
  exact lp101 (36 - 0 + 1) 0 x6 (by omega) (by simp only [dgF, *]) (Nat.lt_succ_self _) _ _ (hP.sub (ws' := [(g, .inr (3, [.int 6, .int 6, .int 1, .int 0, .long 0, .long 0, .int 0, .int 0, .int 0, .ref k0, .ref k1, .ref k2, .ref k3, .ref k4, .ref k5, .ref k6]))]) [0] rfl) (hD.sub (ws' := [(g, .inr (3, [.int 6, .int 6, .int 1, .int 0, .long 0, .long 0, .int 0, .int 0, .int 0, .ref k0, .ref k1, .ref k2, .ref k3, .ref k4, .ref k5, .ref k6]))]) [0] (by decide) rfl) hS ls (lv_sub hl [2, 1, 0] rfl)

set_option maxHeartbeats 4000000 in
set_option maxRecDepth 100000 in
theorem c0_look (l : Launch) (D : va_G) (cy : Nat → ClassId) (w g a0 a1 a2 a3 a4 a5 : Nat) (bd : Int32) (dn : Int64) (wd hi dr wi : Int32) (he fo : Int64) (k0 k1 k2 k3 k4 k5 k6 : Nat) (sz : Nat)  : Met l yX4_look wsX4_look ({ frames := 3, cells := 0, slots := 0, locals := 68 }) (va_Pc [.ref w] (kPre D cy [(w, .inr (4, [.ref g, .ref a0, .ref a1, .ref a2, .ref a3, .ref a4, .ref a5, .int bd, .long dn])), (g, .inr (3, [.int wd, .int hi, .int dr, .int wi, .long he, .long fo, .int 0, .int 0, .int 0, .ref k0, .ref k1, .ref k2, .ref k3, .ref k4, .ref k5, .ref k6]))] sz)) (va_Qv (fun (_ : Int64) => True) (fun (u : Int64) t => va_P D vwCl ([(w, .inr (4, [.ref g, .ref a0, .ref a1, .ref a2, .ref a3, .ref a4, .ref a5, .int 0, .long u])), (g, .inr (3, [.int wd, .int hi, .int dr, .int wi, .long he, .long fo, .int 0, .int 0, .int 0, .ref k0, .ref k1, .ref k2, .ref k3, .ref k4, .ref k5, .ref k6]))]) t.heap ∧ va_D (va_A [(w, .inr (4, [.ref g, .ref a0, .ref a1, .ref a2, .ref a3, .ref a4, .ref a5, .int bd, .long dn])), (g, .inr (3, [.int wd, .int hi, .int dr, .int wi, .long he, .long fo, .int 0, .int 0, .int 0, .ref k0, .ref k1, .ref k2, .ref k3, .ref k4, .ref k5, .ref k6]))] sz) ([(w, .inr (4, [.ref g, .ref a0, .ref a1, .ref a2, .ref a3, .ref a4, .ref a5, .int 0, .long u])), (g, .inr (3, [.int wd, .int hi, .int dr, .int wi, .long he, .long fo, .int 0, .int 0, .int 0, .ref k0, .ref k1, .ref k2, .ref k3, .ref k4, .ref k5, .ref k6]))])) (va_A [(w, .inr (4, [.ref g, .ref a0, .ref a1, .ref a2, .ref a3, .ref a4, .ref a5, .int bd, .long dn])), (g, .inr (3, [.int wd, .int hi, .int dr, .int wi, .long he, .long fo, .int 0, .int 0, .int 0, .ref k0, .ref k1, .ref k2, .ref k3, .ref k4, .ref k5, .ref k6]))] sz)) 0 0 (va_A [(w, .inr (4, [.ref g, .ref a0, .ref a1, .ref a2, .ref a3, .ref a4, .ref a5, .int bd, .long dn])), (g, .inr (3, [.int wd, .int hi, .int dr, .int wi, .long he, .long fo, .int 0, .int 0, .int 0, .ref k0, .ref k1, .ref k2, .ref k3, .ref k4, .ref k5, .ref k6]))] sz) := by
  refine Met.ofW (cc := cX4_look) (maxL := 3) (ret := none) (by decide) rfl ?_
  intro p e s m args below meth c s₁ B hml hv
  obtain ⟨rfl, hsz, hP, hKA, hD0⟩ := hv
  have hx := B.exec
  have hb := B.bytes
  have hr := B.returns
  have hts := atoms_spec (ws := wsX4_look) B.pre
  have hown : s.vm.findClass RX4 = some m.cls := findClass_of_methodNamed B.named
  have hlocks := B.notSynchronized
  subst hsz
  have hK := hKA.1
  have hD := hD0.self (sz := s.heap.size)
  generalize hAe : va_A [(w, .inr (4, [.ref g, .ref a0, .ref a1, .ref a2, .ref a3, .ref a4, .ref a5, .int bd, .long dn])), (g, .inr (3, [.int wd, .int hi, .int dr, .int wi, .long he, .long fo, .int 0, .int 0, .int 0, .ref k0, .ref k1, .ref k2, .ref k3, .ref k4, .ref k5, .ref k6]))] s.heap.size = A at hD ⊢
  have hA : ∀ q : Nat, s.heap.size ≤ q → A q := fun q h => by rw [← hAe]; exact Or.inr h
  have hS : va_S A s.heap s.heap [] := va_S.rf
  have hP : va_P D vwCl [(w, .inr (4, [.ref g, .ref a0, .ref a1, .ref a2, .ref a3, .ref a4, .ref a5, .int bd, .long dn])), (g, .inr (3, [.int wd, .int hi, .int dr, .int wi, .long he, .long fo, .int 0, .int 0, .int 0, .ref k0, .ref k1, .ref k2, .ref k3, .ref k4, .ref k5, .ref k6]))] s.heap := hP
  have hl := lv_entry ([.ref w]) (n := 3) (Nat.le_of_ble_eq_true rfl)
  rw [lg_entry_eq]
  generalize (lg_sl ([.ref w]) ++ List.replicate (3 - (lg_sl ([.ref w])).length) Slot.unset).toArray = ls at hl ⊢
  have hl : lv_has ls 3 [(0, .ref w)] := hl
  have z0_ := hts (.fieldLink RX4 35 "HeardSeen$Law" "g" "LHeardSeen$Garden;") (by decide +kernel)
  have zi4_ : ∀ w ∈ u_ws RX4 TX4 9, w ∈ wsX4_look := by decide +kernel
  have z2_ := hts (.fieldLink RX4 60 "HeardSeen$Law" "drowned" "J") (by decide +kernel)
  have z3_ := hts (.fieldLink RX4 64 "HeardSeen$Law" "bound" "I") (by decide +kernel)
  have z4_ := hts (.fieldLink RX4 68 "HeardSeen$Garden" "people" "I") (by decide +kernel)
  have zi3_ : ∀ w ∈ u_ws RX3 TX3 16, w ∈ wsX4_look := by decide +kernel
  refine lv_aload_n hx hb dX4_look_0 rfl (lv_at hl 0 rfl) ?_
  refine lv_aload_n hx hb dX4_look_1 rfl (lv_at hl 0 rfl) ?_
  refine va_get (D := D) (ci := 4) (v := .ref g) (C := RX4) (T := TX4) (N := 9) hx hb hts zi4_ hown hK hP 0 rfl rfl 0 (by decide) z0_ (fun _ h9 => h9) rfl dX4_look_2 ?_
  refine rd_l (va_runV (As := []) (rest := [.ref w]) ⟨hx, hb, hml, hown, hts⟩ (c_X3_drownedSquares l D cy g wd hi dr wi he fo 0 0 0 k0 k1 k2 k3 k4 k5 k6 _) (cwV 0 hts gX4_look_X3_drownedSquares rfl rfl rfl (by decide +kernel) ⟨Nat.le_of_ble_eq_true rfl, Nat.le_of_ble_eq_true rfl⟩) (pV (ci := 3) (k := 0) hKA (hP.sub (ws' := [(g, .inr (3, [.int wd, .int hi, .int dr, .int wi, .long he, .long fo, .int 0, .int 0, .int 0, .ref k0, .ref k1, .ref k2, .ref k3, .ref k4, .ref k5, .ref k6]))]) [1] rfl) (hD.sub (ws' := [(g, .inr (3, [.int wd, .int hi, .int dr, .int wi, .long he, .long fo, .int 0, .int 0, .int 0, .ref k0, .ref k1, .ref k2, .ref k3, .ref k4, .ref k5, .ref k6]))]) [1] (by decide) rfl) rfl rfl) rfl rfl hl.1 rfl (lv_room (Nat.le_of_ble_eq_true rfl)) dX4_look_5 ⟨Nat.le_of_ble_eq_true rfl, Nat.le_of_ble_eq_true rfl⟩) hP hS hA (fun r1 H locs hwr1 hP hS => ?_)
  refine va_put (D := D) (ci := 4) (v := .long r1) (ty := .long) (C := RX4) (T := TX4) (N := 9) hx hb hts zi4_ tyX4 tyX4_ok nmX4 hown hK hP hD hS 0 rfl rfl 8 (by decide) z2_ (fun _ h9 => h9) rfl (by decide +kernel) rfl rfl (Nat.le_of_ble_eq_true rfl) dX4_look_8 (fun H locs hP hD hS => ?_)
  have hP : va_P D vwCl [(w, .inr (4, [.ref g, .ref a0, .ref a1, .ref a2, .ref a3, .ref a4, .ref a5, .int bd, .long r1])), (g, .inr (3, [.int wd, .int hi, .int dr, .int wi, .long he, .long fo, .int 0, .int 0, .int 0, .ref k0, .ref k1, .ref k2, .ref k3, .ref k4, .ref k5, .ref k6]))] H := hP
  have hD : va_D A [(w, .inr (4, [.ref g, .ref a0, .ref a1, .ref a2, .ref a3, .ref a4, .ref a5, .int bd, .long r1])), (g, .inr (3, [.int wd, .int hi, .int dr, .int wi, .long he, .long fo, .int 0, .int 0, .int 0, .ref k0, .ref k1, .ref k2, .ref k3, .ref k4, .ref k5, .ref k6]))] := hD
  refine lv_aload_n hx hb dX4_look_11 rfl (lv_at hl 0 rfl) ?_
  refine lv_iconst (v := 0) hx hb dX4_look_12 (by decide) ?_
  refine va_put (D := D) (ci := 4) (v := .int 0) (ty := .int) (C := RX4) (T := TX4) (N := 9) hx hb hts zi4_ tyX4 tyX4_ok nmX4 hown hK hP hD hS 0 rfl rfl 7 (by decide) z3_ (fun _ h9 => h9) rfl (by decide +kernel) rfl rfl (Nat.le_of_ble_eq_true rfl) dX4_look_13 (fun H locs hP hD hS => ?_)
  have hP : va_P D vwCl [(w, .inr (4, [.ref g, .ref a0, .ref a1, .ref a2, .ref a3, .ref a4, .ref a5, .int 0, .long r1])), (g, .inr (3, [.int wd, .int hi, .int dr, .int wi, .long he, .long fo, .int 0, .int 0, .int 0, .ref k0, .ref k1, .ref k2, .ref k3, .ref k4, .ref k5, .ref k6]))] H := hP
  have hD : va_D A [(w, .inr (4, [.ref g, .ref a0, .ref a1, .ref a2, .ref a3, .ref a4, .ref a5, .int 0, .long r1])), (g, .inr (3, [.int wd, .int hi, .int dr, .int wi, .long he, .long fo, .int 0, .int 0, .int 0, .ref k0, .ref k1, .ref k2, .ref k3, .ref k4, .ref k5, .ref k6]))] := hD
  refine lv_iconst (v := 0) hx hb dX4_look_16 (by decide) ?_
  refine lv_istore_n (lv' := [(1, .int 0), (0, .ref w)]) hx hb dX4_look_17 rfl hl (by decide) rfl (fun ls hl => ?_)
  refine lv_iload_n hx hb dX4_look_18 rfl (lv_at hl 0 rfl) ?_
  refine lv_aload_n hx hb dX4_look_19 rfl (lv_at hl 1 rfl) ?_
  refine va_get (D := D) (ci := 4) (v := .ref g) (C := RX4) (T := TX4) (N := 9) hx hb hts zi4_ hown hK hP 0 rfl rfl 0 (by decide) z0_ (fun _ h9 => h9) rfl dX4_look_20 ?_
  refine va_get (D := D) (ci := 3) (v := .int 0) (C := RX3) (T := TX3) (N := 16) hx hb hts zi3_ hown hK hP 1 rfl rfl 6 (by decide) z4_ (fun _ h9 => h9) rfl dX4_look_23 ?_
  refine lv_icmp_ge (tgt := 77) hx hb dX4_look_26 (by decide) (fun c2 => ?_) (fun c2 => absurd c2 (by decide))
  refine lv_iconst (v := 0) hx hb dX4_look_77 (by decide) ?_
  refine lv_istore_n (lv' := [(1, .int 0), (0, .ref w)]) hx hb dX4_look_78 rfl hl (by decide) rfl (fun ls hl => ?_)
  refine lv_iload_n hx hb dX4_look_79 rfl (lv_at hl 0 rfl) ?_
  refine lv_aload_n hx hb dX4_look_80 rfl (lv_at hl 1 rfl) ?_
  refine va_get (D := D) (ci := 4) (v := .ref g) (C := RX4) (T := TX4) (N := 9) hx hb hts zi4_ hown hK hP 0 rfl rfl 0 (by decide) z0_ (fun _ h9 => h9) rfl dX4_look_81 ?_
  refine va_get (D := D) (ci := 3) (v := .int 0) (C := RX3) (T := TX3) (N := 16) hx hb hts zi3_ hown hK hP 1 rfl rfl 6 (by decide) z4_ (fun _ h9 => h9) rfl dX4_look_84 ?_
  refine lv_icmp_ge (tgt := 123) hx hb dX4_look_87 (by decide) (fun c3 => ?_) (fun c3 => absurd c3 (by decide))
  have hP9 := hP.sub (ws' := [(w, .inr (4, [.ref g, .ref a0, .ref a1, .ref a2, .ref a3, .ref a4, .ref a5, .int 0, .long r1])), (g, .inr (3, [.int wd, .int hi, .int dr, .int wi, .long he, .long fo, .int 0, .int 0, .int 0, .ref k0, .ref k1, .ref k2, .ref k3, .ref k4, .ref k5, .ref k6]))]) [0, 1] rfl
  have hD9 := hD.sub (ws' := [(w, .inr (4, [.ref g, .ref a0, .ref a1, .ref a2, .ref a3, .ref a4, .ref a5, .int 0, .long r1])), (g, .inr (3, [.int wd, .int hi, .int dr, .int wi, .long he, .long fo, .int 0, .int 0, .int 0, .ref k0, .ref k1, .ref k2, .ref k3, .ref k4, .ref k5, .ref k6]))]) [0, 1] (by decide) rfl
  exact W.vret hx hb hr (fun t ht hW => ⟨⟨r1, rfl, trivial, by rw [ht]; exact hP9, hD9⟩, hS.F ht⟩) hS.2.2 dX4_look_123

set_option maxHeartbeats 4000000 in
set_option maxRecDepth 100000 in
theorem c0_mayMask (l : Launch) (D : va_G) (cy : Nat → ClassId) (w g a0 a1 a2 a3 a4 a5 : Nat) (bd : Int32) (dn : Int64) (wd hi dr wi : Int32) (he fo : Int64) (k0 k1 k2 k3 k4 k5 k6 : Nat) (sz : Nat)  : Met l yX4_mayMask wsX4_mayMask ({ frames := 0, cells := 0, slots := 0, locals := 0 }) (va_Pc [.ref w] (kPre D cy [(w, .inr (4, [.ref g, .ref a0, .ref a1, .ref a2, .ref a3, .ref a4, .ref a5, .int bd, .long dn])), (g, .inr (3, [.int wd, .int hi, .int dr, .int wi, .long he, .long fo, .int 0, .int 0, .int 0, .ref k0, .ref k1, .ref k2, .ref k3, .ref k4, .ref k5, .ref k6]))] sz)) (va_Qi (fun (r : Int32) (_ : Unit) => r = 0) (fun _ _ => True) (fun q : Nat => sz ≤ q)) 0 0 (fun q : Nat => sz ≤ q) := by
  refine Met.ofW (cc := cX4_mayMask) (maxL := 3) (ret := (some .int)) (by decide) rfl ?_
  intro p e s m args below meth c s₁ B hml hv
  obtain ⟨rfl, hsz, hP, hKA, hD0⟩ := hv
  have hx := B.exec
  have hb := B.bytes
  have hr := B.returns
  have hts := atoms_spec (ws := wsX4_mayMask) B.pre
  have hown : s.vm.findClass RX4 = some m.cls := findClass_of_methodNamed B.named
  have hlocks := B.notSynchronized
  subst hsz
  have hK := hKA.1
  have hD := hD0
  generalize hAe : (fun q : Nat => s.heap.size ≤ q) = A
  have hA : ∀ q : Nat, s.heap.size ≤ q → A q := fun q h => by rw [← hAe]; exact h
  have hS : va_S A s.heap s.heap [] := va_S.rf
  have hP : va_P D vwCl [(w, .inr (4, [.ref g, .ref a0, .ref a1, .ref a2, .ref a3, .ref a4, .ref a5, .int bd, .long dn])), (g, .inr (3, [.int wd, .int hi, .int dr, .int wi, .long he, .long fo, .int 0, .int 0, .int 0, .ref k0, .ref k1, .ref k2, .ref k3, .ref k4, .ref k5, .ref k6]))] s.heap := hP
  have hl := lv_entry ([.ref w]) (n := 3) (Nat.le_of_ble_eq_true rfl)
  rw [lg_entry_eq]
  generalize (lg_sl ([.ref w]) ++ List.replicate (3 - (lg_sl ([.ref w])).length) Slot.unset).toArray = ls at hl ⊢
  have hl : lv_has ls 3 [(0, .ref w)] := hl
  have z0_ := hts (.fieldLink RX4 35 "HeardSeen$Law" "g" "LHeardSeen$Garden;") (by decide +kernel)
  have zi4_ : ∀ w ∈ u_ws RX4 TX4 9, w ∈ wsX4_mayMask := by decide +kernel
  have z2_ := hts (.fieldLink RX4 68 "HeardSeen$Garden" "people" "I") (by decide +kernel)
  have zi3_ : ∀ w ∈ u_ws RX3 TX3 16, w ∈ wsX4_mayMask := by decide +kernel
  refine lv_iconst (v := 0) hx hb dX4_mayMask_0 (by decide) ?_
  refine lv_istore_n (lv' := [(1, .int 0), (0, .ref w)]) hx hb dX4_mayMask_1 rfl hl (by decide) rfl (fun ls hl => ?_)
  refine lv_iconst (v := 0) hx hb dX4_mayMask_2 (by decide) ?_
  refine lv_istore_n (lv' := [(2, .int 0), (1, .int 0), (0, .ref w)]) hx hb dX4_mayMask_3 rfl hl (by decide) rfl (fun ls hl => ?_)
  refine lv_iload_n hx hb dX4_mayMask_4 rfl (lv_at hl 0 rfl) ?_
  refine lv_aload_n hx hb dX4_mayMask_5 rfl (lv_at hl 2 rfl) ?_
  refine va_get (D := D) (ci := 4) (v := .ref g) (C := RX4) (T := TX4) (N := 9) hx hb hts zi4_ hown hK hP 0 rfl rfl 0 (by decide) z0_ (fun _ h9 => h9) rfl dX4_mayMask_6 ?_
  refine va_get (D := D) (ci := 3) (v := .int 0) (C := RX3) (T := TX3) (N := 16) hx hb hts zi3_ hown hK hP 1 rfl rfl 6 (by decide) z2_ (fun _ h9 => h9) rfl dX4_mayMask_9 ?_
  refine lv_icmp_ge (tgt := 35) hx hb dX4_mayMask_12 (by decide) (fun c1 => ?_) (fun c1 => absurd c1 (by decide))
  refine lv_iload_n hx hb dX4_mayMask_35 rfl (lv_at hl 1 rfl) ?_
  exact W.iret (v := 0) hx hb hr (fun t ht hW => ⟨⟨0, (), rfl, rfl, trivial⟩, hS.F ht⟩) hS.2.2 dX4_mayMask_36

set_option maxHeartbeats 4000000 in
set_option maxRecDepth 100000 in
theorem c0_firstBreach (l : Launch) (D : va_G) (cy : Nat → ClassId) (w g a0 a1 a2 a3 a4 a5 : Nat) (bd : Int32) (dn : Int64) (wd hi dr wi : Int32) (he fo : Int64) (k0 k1 k2 k3 k4 k5 k6 : Nat) (x : Int32) (sz : Nat)  : Met l yX4_firstBreach wsX4_firstBreach ({ frames := 0, cells := 0, slots := 0, locals := 0 }) (va_Pc [.ref w, .int x] (kPre D cy [(w, .inr (4, [.ref g, .ref a0, .ref a1, .ref a2, .ref a3, .ref a4, .ref a5, .int bd, .long dn])), (g, .inr (3, [.int wd, .int hi, .int dr, .int wi, .long he, .long fo, .int 0, .int 0, .int 0, .ref k0, .ref k1, .ref k2, .ref k3, .ref k4, .ref k5, .ref k6]))] sz)) (va_Qi (fun (r : Int32) (_ : Unit) => r = (-1)) (fun _ _ => True) (fun q : Nat => sz ≤ q)) 0 0 (fun q : Nat => sz ≤ q) := by
  refine Met.ofW (cc := cX4_firstBreach) (maxL := 4) (ret := (some .int)) (by decide) rfl ?_
  intro p e s m args below meth c s₁ B hml hv
  obtain ⟨rfl, hsz, hP, hKA, hD0⟩ := hv
  have hx := B.exec
  have hb := B.bytes
  have hr := B.returns
  have hts := atoms_spec (ws := wsX4_firstBreach) B.pre
  have hown : s.vm.findClass RX4 = some m.cls := findClass_of_methodNamed B.named
  have hlocks := B.notSynchronized
  subst hsz
  have hK := hKA.1
  have hD := hD0
  generalize hAe : (fun q : Nat => s.heap.size ≤ q) = A
  have hA : ∀ q : Nat, s.heap.size ≤ q → A q := fun q h => by rw [← hAe]; exact h
  have hS : va_S A s.heap s.heap [] := va_S.rf
  have hP : va_P D vwCl [(w, .inr (4, [.ref g, .ref a0, .ref a1, .ref a2, .ref a3, .ref a4, .ref a5, .int bd, .long dn])), (g, .inr (3, [.int wd, .int hi, .int dr, .int wi, .long he, .long fo, .int 0, .int 0, .int 0, .ref k0, .ref k1, .ref k2, .ref k3, .ref k4, .ref k5, .ref k6]))] s.heap := hP
  have hl := lv_entry ([.ref w, .int x]) (n := 4) (Nat.le_of_ble_eq_true rfl)
  rw [lg_entry_eq]
  generalize (lg_sl ([.ref w, .int x]) ++ List.replicate (4 - (lg_sl ([.ref w, .int x])).length) Slot.unset).toArray = ls at hl ⊢
  have hl : lv_has ls 4 [(0, .ref w), (1, .int x)] := hl
  have z0_ := hts (.fieldLink RX4 35 "HeardSeen$Law" "g" "LHeardSeen$Garden;") (by decide +kernel)
  have zi4_ : ∀ w ∈ u_ws RX4 TX4 9, w ∈ wsX4_firstBreach := by decide +kernel
  have z2_ := hts (.fieldLink RX4 68 "HeardSeen$Garden" "people" "I") (by decide +kernel)
  have zi3_ : ∀ w ∈ u_ws RX3 TX3 16, w ∈ wsX4_firstBreach := by decide +kernel
  refine lv_iconst (v := 0) hx hb dX4_firstBreach_0 (by decide) ?_
  refine lv_istore_n (lv' := [(2, .int 0), (0, .ref w), (1, .int x)]) hx hb dX4_firstBreach_1 rfl hl (by decide) rfl (fun ls hl => ?_)
  refine lv_iload_n hx hb dX4_firstBreach_2 rfl (lv_at hl 0 rfl) ?_
  refine lv_aload_n hx hb dX4_firstBreach_3 rfl (lv_at hl 1 rfl) ?_
  refine va_get (D := D) (ci := 4) (v := .ref g) (C := RX4) (T := TX4) (N := 9) hx hb hts zi4_ hown hK hP 0 rfl rfl 0 (by decide) z0_ (fun _ h9 => h9) rfl dX4_firstBreach_4 ?_
  refine va_get (D := D) (ci := 3) (v := .int 0) (C := RX3) (T := TX3) (N := 16) hx hb hts zi3_ hown hK hP 1 rfl rfl 6 (by decide) z2_ (fun _ h9 => h9) rfl dX4_firstBreach_7 ?_
  refine lv_icmp_ge (tgt := 76) hx hb dX4_firstBreach_10 (by decide) (fun c1 => ?_) (fun c1 => absurd c1 (by decide))
  refine lv_iconst (v := (-1)) hx hb dX4_firstBreach_76 (by decide) ?_
  exact W.iret (v := (-1)) hx hb hr (fun t ht hW => ⟨⟨(-1), (), rfl, rfl, trivial⟩, hS.F ht⟩) hS.2.2 dX4_firstBreach_77

set_option maxHeartbeats 4000000 in
set_option maxRecDepth 100000 in
theorem c0_isAllTold (l : Launch) (D : va_G) (cy : Nat → ClassId) (w g a0 a1 a2 a3 a4 a5 : Nat) (bd : Int32) (dn : Int64) (wd hi dr wi : Int32) (he fo : Int64) (k0 k1 k2 k3 k4 k5 k6 : Nat) (x : Int32) (sz : Nat)  : Met l yX4_isAllTold wsX4_isAllTold ({ frames := 0, cells := 0, slots := 0, locals := 0 }) (va_Pc [.ref w, .int x] (kPre D cy [(w, .inr (4, [.ref g, .ref a0, .ref a1, .ref a2, .ref a3, .ref a4, .ref a5, .int bd, .long dn])), (g, .inr (3, [.int wd, .int hi, .int dr, .int wi, .long he, .long fo, .int 0, .int 0, .int 0, .ref k0, .ref k1, .ref k2, .ref k3, .ref k4, .ref k5, .ref k6]))] sz)) (va_Qi (fun (r : Int32) (_ : Unit) => r = 1) (fun _ _ => True) (fun q : Nat => sz ≤ q)) 0 0 (fun q : Nat => sz ≤ q) := by
  refine Met.ofW (cc := cX4_isAllTold) (maxL := 5) (ret := (some .boolean)) (by decide) rfl ?_
  intro p e s m args below meth c s₁ B hml hv
  obtain ⟨rfl, hsz, hP, hKA, hD0⟩ := hv
  have hx := B.exec
  have hb := B.bytes
  have hr := B.returns
  have hts := atoms_spec (ws := wsX4_isAllTold) B.pre
  have hown : s.vm.findClass RX4 = some m.cls := findClass_of_methodNamed B.named
  have hlocks := B.notSynchronized
  subst hsz
  have hK := hKA.1
  have hD := hD0
  generalize hAe : (fun q : Nat => s.heap.size ≤ q) = A
  have hA : ∀ q : Nat, s.heap.size ≤ q → A q := fun q h => by rw [← hAe]; exact h
  have hS : va_S A s.heap s.heap [] := va_S.rf
  have hP : va_P D vwCl [(w, .inr (4, [.ref g, .ref a0, .ref a1, .ref a2, .ref a3, .ref a4, .ref a5, .int bd, .long dn])), (g, .inr (3, [.int wd, .int hi, .int dr, .int wi, .long he, .long fo, .int 0, .int 0, .int 0, .ref k0, .ref k1, .ref k2, .ref k3, .ref k4, .ref k5, .ref k6]))] s.heap := hP
  have hl := lv_entry ([.ref w, .int x]) (n := 5) (Nat.le_of_ble_eq_true rfl)
  rw [lg_entry_eq]
  generalize (lg_sl ([.ref w, .int x]) ++ List.replicate (5 - (lg_sl ([.ref w, .int x])).length) Slot.unset).toArray = ls at hl ⊢
  have hl : lv_has ls 5 [(0, .ref w), (1, .int x)] := hl
  have z0_ := hts (.fieldLink RX4 35 "HeardSeen$Law" "g" "LHeardSeen$Garden;") (by decide +kernel)
  have zi4_ : ∀ w ∈ u_ws RX4 TX4 9, w ∈ wsX4_isAllTold := by decide +kernel
  have z2_ := hts (.fieldLink RX4 129 "HeardSeen$Garden" "tellings" "I") (by decide +kernel)
  have zi3_ : ∀ w ∈ u_ws RX3 TX3 16, w ∈ wsX4_isAllTold := by decide +kernel
  refine lv_iconst (v := 0) hx hb dX4_isAllTold_0 (by decide) ?_
  refine lv_istore_n (lv' := [(2, .int 0), (0, .ref w), (1, .int x)]) hx hb dX4_isAllTold_1 rfl hl (by decide) rfl (fun ls hl => ?_)
  refine lv_iload_n hx hb dX4_isAllTold_2 rfl (lv_at hl 0 rfl) ?_
  refine lv_aload_n hx hb dX4_isAllTold_3 rfl (lv_at hl 1 rfl) ?_
  refine va_get (D := D) (ci := 4) (v := .ref g) (C := RX4) (T := TX4) (N := 9) hx hb hts zi4_ hown hK hP 0 rfl rfl 0 (by decide) z0_ (fun _ h9 => h9) rfl dX4_isAllTold_4 ?_
  refine va_get (D := D) (ci := 3) (v := .int 0) (C := RX3) (T := TX3) (N := 16) hx hb hts zi3_ hown hK hP 1 rfl rfl 7 (by decide) z2_ (fun _ h9 => h9) rfl dX4_isAllTold_7 ?_
  refine lv_icmp_ge (tgt := 76) hx hb dX4_isAllTold_10 (by decide) (fun c1 => ?_) (fun c1 => absurd c1 (by decide))
  refine lv_iconst (v := 1) hx hb dX4_isAllTold_76 (by decide) ?_
  exact W.zret (v := 1) hx hb hr rfl (fun t ht hW => ⟨⟨1, (), rfl, rfl, trivial⟩, hS.F ht⟩) hS.2.2 dX4_isAllTold_77

set_option maxHeartbeats 4000000 in
set_option maxRecDepth 100000 in
theorem c0_speakerCount (l : Launch) (D : va_G) (cy : Nat → ClassId) (w g a0 a1 a2 a3 a4 a5 : Nat) (bd : Int32) (dn : Int64) (wd hi dr wi : Int32) (he fo : Int64) (k0 k1 k2 k3 k4 k5 k6 : Nat) (sz : Nat)  : Met l yX4_speakerCount wsX4_speakerCount ({ frames := 0, cells := 0, slots := 0, locals := 0 }) (va_Pc [.ref w] (kPre D cy [(w, .inr (4, [.ref g, .ref a0, .ref a1, .ref a2, .ref a3, .ref a4, .ref a5, .int bd, .long dn])), (g, .inr (3, [.int wd, .int hi, .int dr, .int wi, .long he, .long fo, .int 0, .int 0, .int 0, .ref k0, .ref k1, .ref k2, .ref k3, .ref k4, .ref k5, .ref k6]))] sz)) (va_Qi (fun (r : Int32) (_ : Unit) => r = 0) (fun _ _ => True) (fun q : Nat => sz ≤ q)) 0 0 (fun q : Nat => sz ≤ q) := by
  refine Met.ofW (cc := cX4_speakerCount) (maxL := 3) (ret := (some .int)) (by decide) rfl ?_
  intro p e s m args below meth c s₁ B hml hv
  obtain ⟨rfl, hsz, hP, hKA, hD0⟩ := hv
  have hx := B.exec
  have hb := B.bytes
  have hr := B.returns
  have hts := atoms_spec (ws := wsX4_speakerCount) B.pre
  have hown : s.vm.findClass RX4 = some m.cls := findClass_of_methodNamed B.named
  have hlocks := B.notSynchronized
  subst hsz
  have hK := hKA.1
  have hD := hD0
  generalize hAe : (fun q : Nat => s.heap.size ≤ q) = A
  have hA : ∀ q : Nat, s.heap.size ≤ q → A q := fun q h => by rw [← hAe]; exact h
  have hS : va_S A s.heap s.heap [] := va_S.rf
  have hP : va_P D vwCl [(w, .inr (4, [.ref g, .ref a0, .ref a1, .ref a2, .ref a3, .ref a4, .ref a5, .int bd, .long dn])), (g, .inr (3, [.int wd, .int hi, .int dr, .int wi, .long he, .long fo, .int 0, .int 0, .int 0, .ref k0, .ref k1, .ref k2, .ref k3, .ref k4, .ref k5, .ref k6]))] s.heap := hP
  have hl := lv_entry ([.ref w]) (n := 3) (Nat.le_of_ble_eq_true rfl)
  rw [lg_entry_eq]
  generalize (lg_sl ([.ref w]) ++ List.replicate (3 - (lg_sl ([.ref w])).length) Slot.unset).toArray = ls at hl ⊢
  have hl : lv_has ls 3 [(0, .ref w)] := hl
  have z0_ := hts (.fieldLink RX4 35 "HeardSeen$Law" "g" "LHeardSeen$Garden;") (by decide +kernel)
  have zi4_ : ∀ w ∈ u_ws RX4 TX4 9, w ∈ wsX4_speakerCount := by decide +kernel
  have z2_ := hts (.fieldLink RX4 68 "HeardSeen$Garden" "people" "I") (by decide +kernel)
  have zi3_ : ∀ w ∈ u_ws RX3 TX3 16, w ∈ wsX4_speakerCount := by decide +kernel
  refine lv_iconst (v := 0) hx hb dX4_speakerCount_0 (by decide) ?_
  refine lv_istore_n (lv' := [(1, .int 0), (0, .ref w)]) hx hb dX4_speakerCount_1 rfl hl (by decide) rfl (fun ls hl => ?_)
  refine lv_iconst (v := 0) hx hb dX4_speakerCount_2 (by decide) ?_
  refine lv_istore_n (lv' := [(2, .int 0), (1, .int 0), (0, .ref w)]) hx hb dX4_speakerCount_3 rfl hl (by decide) rfl (fun ls hl => ?_)
  refine lv_iload_n hx hb dX4_speakerCount_4 rfl (lv_at hl 0 rfl) ?_
  refine lv_aload_n hx hb dX4_speakerCount_5 rfl (lv_at hl 2 rfl) ?_
  refine va_get (D := D) (ci := 4) (v := .ref g) (C := RX4) (T := TX4) (N := 9) hx hb hts zi4_ hown hK hP 0 rfl rfl 0 (by decide) z0_ (fun _ h9 => h9) rfl dX4_speakerCount_6 ?_
  refine va_get (D := D) (ci := 3) (v := .int 0) (C := RX3) (T := TX3) (N := 16) hx hb hts zi3_ hown hK hP 1 rfl rfl 6 (by decide) z2_ (fun _ h9 => h9) rfl dX4_speakerCount_9 ?_
  refine lv_icmp_ge (tgt := 40) hx hb dX4_speakerCount_12 (by decide) (fun c1 => ?_) (fun c1 => absurd c1 (by decide))
  refine lv_iload_n hx hb dX4_speakerCount_40 rfl (lv_at hl 1 rfl) ?_
  exact W.iret (v := 0) hx hb hr (fun t ht hW => ⟨⟨0, (), rfl, rfl, trivial⟩, hS.F ht⟩) hS.2.2 dX4_speakerCount_41

set_option maxHeartbeats 4000000 in
set_option maxRecDepth 100000 in
theorem c0_winds (l : Launch) (D : va_G) (cy : Nat → ClassId) (w g a0 a1 a2 a3 a4 a5 : Nat) (bd : Int32) (dn : Int64) (wd hi dr wi : Int32) (he fo : Int64) (k0 k1 k2 k3 k4 k5 k6 : Nat) (x : Int32) (sz : Nat)  : Met l yX4_windsWhereTold wsX4_windsWhereTold ({ frames := 4, cells := 0, slots := 0, locals := 90 }) (va_Pc [.ref w, .int x] (kPre D cy [(w, .inr (4, [.ref g, .ref a0, .ref a1, .ref a2, .ref a3, .ref a4, .ref a5, .int bd, .long dn])), (g, .inr (3, [.int wd, .int hi, .int dr, .int wi, .long he, .long fo, .int 0, .int 0, .int 0, .ref k0, .ref k1, .ref k2, .ref k3, .ref k4, .ref k5, .ref k6]))] sz)) (va_Qi (fun (r : Int32) (_ : Unit) => r = 7) (fun (u : Unit) t => va_P D vwCl ([]) t.heap ∧ va_D (va_A [(w, .inr (4, [.ref g, .ref a0, .ref a1, .ref a2, .ref a3, .ref a4, .ref a5, .int bd, .long dn])), (g, .inr (3, [.int wd, .int hi, .int dr, .int wi, .long he, .long fo, .int 0, .int 0, .int 0, .ref k0, .ref k1, .ref k2, .ref k3, .ref k4, .ref k5, .ref k6]))] sz) ([])) (va_A [(w, .inr (4, [.ref g, .ref a0, .ref a1, .ref a2, .ref a3, .ref a4, .ref a5, .int bd, .long dn])), (g, .inr (3, [.int wd, .int hi, .int dr, .int wi, .long he, .long fo, .int 0, .int 0, .int 0, .ref k0, .ref k1, .ref k2, .ref k3, .ref k4, .ref k5, .ref k6]))] sz)) 0 0 (va_A [(w, .inr (4, [.ref g, .ref a0, .ref a1, .ref a2, .ref a3, .ref a4, .ref a5, .int bd, .long dn])), (g, .inr (3, [.int wd, .int hi, .int dr, .int wi, .long he, .long fo, .int 0, .int 0, .int 0, .ref k0, .ref k1, .ref k2, .ref k3, .ref k4, .ref k5, .ref k6]))] sz) := by
  refine Met.ofW (cc := cX4_windsWhereTold) (maxL := 5) (ret := (some .int)) (by decide) rfl ?_
  intro p e s m args below meth c s₁ B hml hv
  obtain ⟨rfl, hsz, hP, hKA, hD0⟩ := hv
  have hx := B.exec
  have hb := B.bytes
  have hr := B.returns
  have hts := atoms_spec (ws := wsX4_windsWhereTold) B.pre
  have hown : s.vm.findClass RX4 = some m.cls := findClass_of_methodNamed B.named
  have hlocks := B.notSynchronized
  subst hsz
  have hK := hKA.1
  have hD := hD0.self (sz := s.heap.size)
  generalize hAe : va_A [(w, .inr (4, [.ref g, .ref a0, .ref a1, .ref a2, .ref a3, .ref a4, .ref a5, .int bd, .long dn])), (g, .inr (3, [.int wd, .int hi, .int dr, .int wi, .long he, .long fo, .int 0, .int 0, .int 0, .ref k0, .ref k1, .ref k2, .ref k3, .ref k4, .ref k5, .ref k6]))] s.heap.size = A at hD ⊢
  have hA : ∀ q : Nat, s.heap.size ≤ q → A q := fun q h => by rw [← hAe]; exact Or.inr h
  have hS : va_S A s.heap s.heap [] := va_S.rf
  have hP : va_P D vwCl [(w, .inr (4, [.ref g, .ref a0, .ref a1, .ref a2, .ref a3, .ref a4, .ref a5, .int bd, .long dn])), (g, .inr (3, [.int wd, .int hi, .int dr, .int wi, .long he, .long fo, .int 0, .int 0, .int 0, .ref k0, .ref k1, .ref k2, .ref k3, .ref k4, .ref k5, .ref k6]))] s.heap := hP
  have hl := lv_entry ([.ref w, .int x]) (n := 5) (Nat.le_of_ble_eq_true rfl)
  rw [lg_entry_eq]
  generalize (lg_sl ([.ref w, .int x]) ++ List.replicate (5 - (lg_sl ([.ref w, .int x])).length) Slot.unset).toArray = ls at hl ⊢
  have hl : lv_has ls 5 [(0, .ref w), (1, .int x)] := hl
  have z0_ := hts (.fieldLink RX4 35 "HeardSeen$Law" "g" "LHeardSeen$Garden;") (by decide +kernel)
  have zi4_ : ∀ w ∈ u_ws RX4 TX4 9, w ∈ wsX4_windsWhereTold := by decide +kernel
  have z2_ := hts (.fieldLink RX4 177 "HeardSeen$Garden" "wind" "I") (by decide +kernel)
  have zi3_ : ∀ w ∈ u_ws RX3 TX3 16, w ∈ wsX4_windsWhereTold := by decide +kernel
  refine lv_aload_n hx hb dX4_windsWhereTold_0 rfl (lv_at hl 0 rfl) ?_
  refine va_get (D := D) (ci := 4) (v := .ref g) (C := RX4) (T := TX4) (N := 9) hx hb hts zi4_ hown hK hP 0 rfl rfl 0 (by decide) z0_ (fun _ h9 => h9) rfl dX4_windsWhereTold_1 ?_
  refine va_get (D := D) (ci := 3) (v := .int wi) (C := RX3) (T := TX3) (N := 16) hx hb hts zi3_ hown hK hP 1 rfl rfl 3 (by decide) z2_ (fun _ h9 => h9) rfl dX4_windsWhereTold_4 ?_
  refine lv_istore_n (lv' := [(2, .int wi), (0, .ref w), (1, .int x)]) hx hb dX4_windsWhereTold_7 rfl hl (by decide) rfl (fun ls hl => ?_)
  refine lv_iconst (v := 0) hx hb dX4_windsWhereTold_8 (by decide) ?_
  refine lv_istore_n (lv' := [(3, .int 0), (2, .int wi), (0, .ref w), (1, .int x)]) hx hb dX4_windsWhereTold_9 rfl hl (by decide) rfl (fun ls hl => ?_)
  refine lv_iconst (v := (-1)) hx hb dX4_windsWhereTold_10 (by decide) ?_
  refine lv_istore (lv' := [(4, .int (-1)), (3, .int 0), (2, .int wi), (0, .ref w), (1, .int x)]) hx hb dX4_windsWhereTold_11 hl (by decide) rfl (fun ls hl => ?_)
  refine lv_iload hx hb dX4_windsWhereTold_13 (lv_at hl 0 rfl) ?_
  refine lv_iconst (v := 1) hx hb dX4_windsWhereTold_15 (by decide) ?_
  refine lv_icmp_gt (tgt := 55) hx hb dX4_windsWhereTold_16 (by decide) (fun c1 => absurd c1 (by decide)) (fun c1 => ?_)
  refine lv_aload_n hx hb dX4_windsWhereTold_19 rfl (lv_at hl 3 rfl) ?_
  refine va_get (D := D) (ci := 4) (v := .ref g) (C := RX4) (T := TX4) (N := 9) hx hb hts zi4_ hown hK hP 0 rfl rfl 0 (by decide) z0_ (fun _ h9 => h9) rfl dX4_windsWhereTold_20 ?_
  refine lv_iload hx hb dX4_windsWhereTold_23 (lv_at hl 0 rfl) ?_
  refine va_put (D := D) (ci := 3) (v := .int (-1)) (ty := .int) (C := RX3) (T := TX3) (N := 16) hx hb hts zi3_ tyX3 tyX3_ok nmX3 hown hK hP hD hS 1 rfl rfl 3 (by decide) z2_ (fun _ h9 => h9) rfl (by decide +kernel) rfl rfl (Nat.le_of_ble_eq_true rfl) dX4_windsWhereTold_25 (fun H locs hP hD hS => ?_)
  have hP : va_P D vwCl [(w, .inr (4, [.ref g, .ref a0, .ref a1, .ref a2, .ref a3, .ref a4, .ref a5, .int bd, .long dn])), (g, .inr (3, [.int wd, .int hi, .int dr, .int (-1), .long he, .long fo, .int 0, .int 0, .int 0, .ref k0, .ref k1, .ref k2, .ref k3, .ref k4, .ref k5, .ref k6]))] H := hP
  have hD : va_D A [(w, .inr (4, [.ref g, .ref a0, .ref a1, .ref a2, .ref a3, .ref a4, .ref a5, .int bd, .long dn])), (g, .inr (3, [.int wd, .int hi, .int dr, .int (-1), .long he, .long fo, .int 0, .int 0, .int 0, .ref k0, .ref k1, .ref k2, .ref k3, .ref k4, .ref k5, .ref k6]))] := hD
  refine lv_aload_n hx hb dX4_windsWhereTold_28 rfl (lv_at hl 3 rfl) ?_
  refine wr_v (wr := []) (va_runV (As := []) (rest := []) ⟨hx, hb, hml, hown, hts⟩ (c0_look l D cy w g a0 a1 a2 a3 a4 a5 bd dn wd hi dr (-1) he fo k0 k1 k2 k3 k4 k5 k6 _) (cwV 0 hts gX4_windsWhereTold_X4_look rfl rfl rfl (by decide +kernel) ⟨Nat.le_of_ble_eq_true rfl, Nat.le_of_ble_eq_true rfl⟩) (pV (ci := 4) (k := 0) hKA (hP.sub (ws' := [(w, .inr (4, [.ref g, .ref a0, .ref a1, .ref a2, .ref a3, .ref a4, .ref a5, .int bd, .long dn])), (g, .inr (3, [.int wd, .int hi, .int dr, .int (-1), .long he, .long fo, .int 0, .int 0, .int 0, .ref k0, .ref k1, .ref k2, .ref k3, .ref k4, .ref k5, .ref k6]))]) [0, 1] rfl) (hD.sub (ws' := [(w, .inr (4, [.ref g, .ref a0, .ref a1, .ref a2, .ref a3, .ref a4, .ref a5, .int bd, .long dn])), (g, .inr (3, [.int wd, .int hi, .int dr, .int (-1), .long he, .long fo, .int 0, .int 0, .int 0, .ref k0, .ref k1, .ref k2, .ref k3, .ref k4, .ref k5, .ref k6]))]) [0, 1] (by decide) rfl) rfl rfl) rfl rfl hl.1 rfl (lv_room (Nat.le_of_ble_eq_true rfl)) dX4_windsWhereTold_29 ⟨Nat.le_of_ble_eq_true rfl, Nat.le_of_ble_eq_true rfl⟩) hP hD hS hA [0, 1] [] rfl rfl (by decide +kernel) (by decide +kernel) (fun ur2 H locs hwr2 hP hD hS => ?_)
  obtain ⟨dn3, rfl⟩ : ∃ z, z = ur2 := ⟨_, rfl⟩
  have hP : va_P D vwCl [(w, .inr (4, [.ref g, .ref a0, .ref a1, .ref a2, .ref a3, .ref a4, .ref a5, .int 0, .long dn3])), (g, .inr (3, [.int wd, .int hi, .int dr, .int (-1), .long he, .long fo, .int 0, .int 0, .int 0, .ref k0, .ref k1, .ref k2, .ref k3, .ref k4, .ref k5, .ref k6]))] H := hP
  have hD : va_D A [(w, .inr (4, [.ref g, .ref a0, .ref a1, .ref a2, .ref a3, .ref a4, .ref a5, .int 0, .long dn3])), (g, .inr (3, [.int wd, .int hi, .int dr, .int (-1), .long he, .long fo, .int 0, .int 0, .int 0, .ref k0, .ref k1, .ref k2, .ref k3, .ref k4, .ref k5, .ref k6]))] := hD
  refine lv_aload_n hx hb dX4_windsWhereTold_32 rfl (lv_at hl 3 rfl) ?_
  refine lv_iload_n hx hb dX4_windsWhereTold_33 rfl (lv_at hl 4 rfl) ?_
  refine rd_i (va_runV (As := [.int x]) (rest := []) ⟨hx, hb, hml, hown, hts⟩ (c0_isAllTold l D cy w g a0 a1 a2 a3 a4 a5 0 dn3 wd hi dr (-1) he fo k0 k1 k2 k3 k4 k5 k6 x _) (cwV 1 hts gX4_windsWhereTold_X4_isAllTold rfl rfl rfl (by decide +kernel) ⟨Nat.le_of_ble_eq_true rfl, Nat.le_of_ble_eq_true rfl⟩) (pV (ci := 4) (k := 0) hKA (hP.sub (ws' := [(w, .inr (4, [.ref g, .ref a0, .ref a1, .ref a2, .ref a3, .ref a4, .ref a5, .int 0, .long dn3])), (g, .inr (3, [.int wd, .int hi, .int dr, .int (-1), .long he, .long fo, .int 0, .int 0, .int 0, .ref k0, .ref k1, .ref k2, .ref k3, .ref k4, .ref k5, .ref k6]))]) [0, 1] rfl) (hD.sub (ws' := [(w, .inr (4, [.ref g, .ref a0, .ref a1, .ref a2, .ref a3, .ref a4, .ref a5, .int 0, .long dn3])), (g, .inr (3, [.int wd, .int hi, .int dr, .int (-1), .long he, .long fo, .int 0, .int 0, .int 0, .ref k0, .ref k1, .ref k2, .ref k3, .ref k4, .ref k5, .ref k6]))]) [0, 1] (by decide) rfl) rfl rfl) rfl rfl hl.1 rfl (lv_room (Nat.le_of_ble_eq_true rfl)) dX4_windsWhereTold_34 ⟨Nat.le_of_ble_eq_true rfl, Nat.le_of_ble_eq_true rfl⟩) hP hS hA (fun r4 H locs hwr4 hP hS => ?_)
  rcases hwr4 with rfl
  · skip
    refine lv_if_eq (tgt := 49) hx hb dX4_windsWhereTold_37 (by decide) (fun c5 => absurd c5 (by decide)) (fun c5 => ?_)
    refine lv_iload_n hx hb dX4_windsWhereTold_40 rfl (lv_at hl 1 rfl) ?_
    refine lv_iconst (v := 1) hx hb dX4_windsWhereTold_41 (by decide) ?_
    refine lv_iload hx hb dX4_windsWhereTold_42 (lv_at hl 0 rfl) ?_
    refine lv_iconst (v := 1) hx hb dX4_windsWhereTold_44 (by decide) ?_
    refine lv_iadd hx hb dX4_windsWhereTold_45 ?_
    refine lv_topi (fun x6 ex6 => ?_)
    obtain rfl : x6 = 0 := by rw [ex6]; decide +kernel
    refine lv_ishl hx hb dX4_windsWhereTold_46 ?_
    refine lv_topi (fun x7 ex7 => ?_)
    obtain rfl : x7 = 1 := by rw [ex7]; decide +kernel
    refine lv_ior hx hb dX4_windsWhereTold_47 ?_
    refine lv_topi (fun x8 ex8 => ?_)
    obtain rfl : x8 = 1 := by rw [ex8]; decide +kernel
    refine lv_istore_n (lv' := [(3, .int 1), (4, .int (-1)), (2, .int wi), (0, .ref w), (1, .int x)]) hx hb dX4_windsWhereTold_48 rfl hl (by decide) rfl (fun ls hl => ?_)
    refine lv_iinc (v := 0) (lv' := [(4, .int 0), (3, .int 1), (2, .int wi), (0, .ref w), (1, .int x)]) hx hb dX4_windsWhereTold_49 hl (k := 1) rfl (by decide) (by decide) rfl (fun ls hl => ?_)
    refine lv_goto (tgt := 13) hx hb dX4_windsWhereTold_52 (by decide) ?_
    refine lv_iload hx hb dX4_windsWhereTold_13 (lv_at hl 0 rfl) ?_
    refine lv_iconst (v := 1) hx hb dX4_windsWhereTold_15 (by decide) ?_
    refine lv_icmp_gt (tgt := 55) hx hb dX4_windsWhereTold_16 (by decide) (fun c9 => absurd c9 (by decide)) (fun c9 => ?_)
    refine lv_aload_n hx hb dX4_windsWhereTold_19 rfl (lv_at hl 3 rfl) ?_
    refine va_get (D := D) (ci := 4) (v := .ref g) (C := RX4) (T := TX4) (N := 9) hx hb hts zi4_ hown hK hP 0 rfl rfl 0 (by decide) z0_ (fun _ h9 => h9) rfl dX4_windsWhereTold_20 ?_
    refine lv_iload hx hb dX4_windsWhereTold_23 (lv_at hl 0 rfl) ?_
    refine va_put (D := D) (ci := 3) (v := .int 0) (ty := .int) (C := RX3) (T := TX3) (N := 16) hx hb hts zi3_ tyX3 tyX3_ok nmX3 hown hK hP hD hS 1 rfl rfl 3 (by decide) z2_ (fun _ h9 => h9) rfl (by decide +kernel) rfl rfl (Nat.le_of_ble_eq_true rfl) dX4_windsWhereTold_25 (fun H locs hP hD hS => ?_)
    have hP : va_P D vwCl [(w, .inr (4, [.ref g, .ref a0, .ref a1, .ref a2, .ref a3, .ref a4, .ref a5, .int 0, .long dn3])), (g, .inr (3, [.int wd, .int hi, .int dr, .int 0, .long he, .long fo, .int 0, .int 0, .int 0, .ref k0, .ref k1, .ref k2, .ref k3, .ref k4, .ref k5, .ref k6]))] H := hP
    have hD : va_D A [(w, .inr (4, [.ref g, .ref a0, .ref a1, .ref a2, .ref a3, .ref a4, .ref a5, .int 0, .long dn3])), (g, .inr (3, [.int wd, .int hi, .int dr, .int 0, .long he, .long fo, .int 0, .int 0, .int 0, .ref k0, .ref k1, .ref k2, .ref k3, .ref k4, .ref k5, .ref k6]))] := hD
    refine lv_aload_n hx hb dX4_windsWhereTold_28 rfl (lv_at hl 3 rfl) ?_
    refine wr_v (wr := []) (va_runV (As := []) (rest := []) ⟨hx, hb, hml, hown, hts⟩ (c0_look l D cy w g a0 a1 a2 a3 a4 a5 0 dn3 wd hi dr 0 he fo k0 k1 k2 k3 k4 k5 k6 _) (cwV 0 hts gX4_windsWhereTold_X4_look rfl rfl rfl (by decide +kernel) ⟨Nat.le_of_ble_eq_true rfl, Nat.le_of_ble_eq_true rfl⟩) (pV (ci := 4) (k := 0) hKA (hP.sub (ws' := [(w, .inr (4, [.ref g, .ref a0, .ref a1, .ref a2, .ref a3, .ref a4, .ref a5, .int 0, .long dn3])), (g, .inr (3, [.int wd, .int hi, .int dr, .int 0, .long he, .long fo, .int 0, .int 0, .int 0, .ref k0, .ref k1, .ref k2, .ref k3, .ref k4, .ref k5, .ref k6]))]) [0, 1] rfl) (hD.sub (ws' := [(w, .inr (4, [.ref g, .ref a0, .ref a1, .ref a2, .ref a3, .ref a4, .ref a5, .int 0, .long dn3])), (g, .inr (3, [.int wd, .int hi, .int dr, .int 0, .long he, .long fo, .int 0, .int 0, .int 0, .ref k0, .ref k1, .ref k2, .ref k3, .ref k4, .ref k5, .ref k6]))]) [0, 1] (by decide) rfl) rfl rfl) rfl rfl hl.1 rfl (lv_room (Nat.le_of_ble_eq_true rfl)) dX4_windsWhereTold_29 ⟨Nat.le_of_ble_eq_true rfl, Nat.le_of_ble_eq_true rfl⟩) hP hD hS hA [0, 1] [] rfl rfl (by decide +kernel) (by decide +kernel) (fun ur10 H locs hwr10 hP hD hS => ?_)
    obtain ⟨dn11, rfl⟩ : ∃ z, z = ur10 := ⟨_, rfl⟩
    have hP : va_P D vwCl [(w, .inr (4, [.ref g, .ref a0, .ref a1, .ref a2, .ref a3, .ref a4, .ref a5, .int 0, .long dn11])), (g, .inr (3, [.int wd, .int hi, .int dr, .int 0, .long he, .long fo, .int 0, .int 0, .int 0, .ref k0, .ref k1, .ref k2, .ref k3, .ref k4, .ref k5, .ref k6]))] H := hP
    have hD : va_D A [(w, .inr (4, [.ref g, .ref a0, .ref a1, .ref a2, .ref a3, .ref a4, .ref a5, .int 0, .long dn11])), (g, .inr (3, [.int wd, .int hi, .int dr, .int 0, .long he, .long fo, .int 0, .int 0, .int 0, .ref k0, .ref k1, .ref k2, .ref k3, .ref k4, .ref k5, .ref k6]))] := hD
    refine lv_aload_n hx hb dX4_windsWhereTold_32 rfl (lv_at hl 3 rfl) ?_
    refine lv_iload_n hx hb dX4_windsWhereTold_33 rfl (lv_at hl 4 rfl) ?_
    refine rd_i (va_runV (As := [.int x]) (rest := []) ⟨hx, hb, hml, hown, hts⟩ (c0_isAllTold l D cy w g a0 a1 a2 a3 a4 a5 0 dn11 wd hi dr 0 he fo k0 k1 k2 k3 k4 k5 k6 x _) (cwV 1 hts gX4_windsWhereTold_X4_isAllTold rfl rfl rfl (by decide +kernel) ⟨Nat.le_of_ble_eq_true rfl, Nat.le_of_ble_eq_true rfl⟩) (pV (ci := 4) (k := 0) hKA (hP.sub (ws' := [(w, .inr (4, [.ref g, .ref a0, .ref a1, .ref a2, .ref a3, .ref a4, .ref a5, .int 0, .long dn11])), (g, .inr (3, [.int wd, .int hi, .int dr, .int 0, .long he, .long fo, .int 0, .int 0, .int 0, .ref k0, .ref k1, .ref k2, .ref k3, .ref k4, .ref k5, .ref k6]))]) [0, 1] rfl) (hD.sub (ws' := [(w, .inr (4, [.ref g, .ref a0, .ref a1, .ref a2, .ref a3, .ref a4, .ref a5, .int 0, .long dn11])), (g, .inr (3, [.int wd, .int hi, .int dr, .int 0, .long he, .long fo, .int 0, .int 0, .int 0, .ref k0, .ref k1, .ref k2, .ref k3, .ref k4, .ref k5, .ref k6]))]) [0, 1] (by decide) rfl) rfl rfl) rfl rfl hl.1 rfl (lv_room (Nat.le_of_ble_eq_true rfl)) dX4_windsWhereTold_34 ⟨Nat.le_of_ble_eq_true rfl, Nat.le_of_ble_eq_true rfl⟩) hP hS hA (fun r12 H locs hwr12 hP hS => ?_)
    rcases hwr12 with rfl
    · skip
      refine lv_if_eq (tgt := 49) hx hb dX4_windsWhereTold_37 (by decide) (fun c13 => absurd c13 (by decide)) (fun c13 => ?_)
      refine lv_iload_n hx hb dX4_windsWhereTold_40 rfl (lv_at hl 1 rfl) ?_
      refine lv_iconst (v := 1) hx hb dX4_windsWhereTold_41 (by decide) ?_
      refine lv_iload hx hb dX4_windsWhereTold_42 (lv_at hl 0 rfl) ?_
      refine lv_iconst (v := 1) hx hb dX4_windsWhereTold_44 (by decide) ?_
      refine lv_iadd hx hb dX4_windsWhereTold_45 ?_
      refine lv_topi (fun x14 ex14 => ?_)
      obtain rfl : x14 = 1 := by rw [ex14]; decide +kernel
      refine lv_ishl hx hb dX4_windsWhereTold_46 ?_
      refine lv_topi (fun x15 ex15 => ?_)
      obtain rfl : x15 = 2 := by rw [ex15]; decide +kernel
      refine lv_ior hx hb dX4_windsWhereTold_47 ?_
      refine lv_topi (fun x16 ex16 => ?_)
      obtain rfl : x16 = 3 := by rw [ex16]; decide +kernel
      refine lv_istore_n (lv' := [(3, .int 3), (4, .int 0), (2, .int wi), (0, .ref w), (1, .int x)]) hx hb dX4_windsWhereTold_48 rfl hl (by decide) rfl (fun ls hl => ?_)
      refine lv_iinc (v := 1) (lv' := [(4, .int 1), (3, .int 3), (2, .int wi), (0, .ref w), (1, .int x)]) hx hb dX4_windsWhereTold_49 hl (k := 1) rfl (by decide) (by decide) rfl (fun ls hl => ?_)
      refine lv_goto (tgt := 13) hx hb dX4_windsWhereTold_52 (by decide) ?_
      refine lv_iload hx hb dX4_windsWhereTold_13 (lv_at hl 0 rfl) ?_
      refine lv_iconst (v := 1) hx hb dX4_windsWhereTold_15 (by decide) ?_
      refine lv_icmp_gt (tgt := 55) hx hb dX4_windsWhereTold_16 (by decide) (fun c17 => absurd c17 (by decide)) (fun c17 => ?_)
      refine lv_aload_n hx hb dX4_windsWhereTold_19 rfl (lv_at hl 3 rfl) ?_
      refine va_get (D := D) (ci := 4) (v := .ref g) (C := RX4) (T := TX4) (N := 9) hx hb hts zi4_ hown hK hP 0 rfl rfl 0 (by decide) z0_ (fun _ h9 => h9) rfl dX4_windsWhereTold_20 ?_
      refine lv_iload hx hb dX4_windsWhereTold_23 (lv_at hl 0 rfl) ?_
      refine va_put (D := D) (ci := 3) (v := .int 1) (ty := .int) (C := RX3) (T := TX3) (N := 16) hx hb hts zi3_ tyX3 tyX3_ok nmX3 hown hK hP hD hS 1 rfl rfl 3 (by decide) z2_ (fun _ h9 => h9) rfl (by decide +kernel) rfl rfl (Nat.le_of_ble_eq_true rfl) dX4_windsWhereTold_25 (fun H locs hP hD hS => ?_)
      have hP : va_P D vwCl [(w, .inr (4, [.ref g, .ref a0, .ref a1, .ref a2, .ref a3, .ref a4, .ref a5, .int 0, .long dn11])), (g, .inr (3, [.int wd, .int hi, .int dr, .int 1, .long he, .long fo, .int 0, .int 0, .int 0, .ref k0, .ref k1, .ref k2, .ref k3, .ref k4, .ref k5, .ref k6]))] H := hP
      have hD : va_D A [(w, .inr (4, [.ref g, .ref a0, .ref a1, .ref a2, .ref a3, .ref a4, .ref a5, .int 0, .long dn11])), (g, .inr (3, [.int wd, .int hi, .int dr, .int 1, .long he, .long fo, .int 0, .int 0, .int 0, .ref k0, .ref k1, .ref k2, .ref k3, .ref k4, .ref k5, .ref k6]))] := hD
      refine lv_aload_n hx hb dX4_windsWhereTold_28 rfl (lv_at hl 3 rfl) ?_
      refine wr_v (wr := []) (va_runV (As := []) (rest := []) ⟨hx, hb, hml, hown, hts⟩ (c0_look l D cy w g a0 a1 a2 a3 a4 a5 0 dn11 wd hi dr 1 he fo k0 k1 k2 k3 k4 k5 k6 _) (cwV 0 hts gX4_windsWhereTold_X4_look rfl rfl rfl (by decide +kernel) ⟨Nat.le_of_ble_eq_true rfl, Nat.le_of_ble_eq_true rfl⟩) (pV (ci := 4) (k := 0) hKA (hP.sub (ws' := [(w, .inr (4, [.ref g, .ref a0, .ref a1, .ref a2, .ref a3, .ref a4, .ref a5, .int 0, .long dn11])), (g, .inr (3, [.int wd, .int hi, .int dr, .int 1, .long he, .long fo, .int 0, .int 0, .int 0, .ref k0, .ref k1, .ref k2, .ref k3, .ref k4, .ref k5, .ref k6]))]) [0, 1] rfl) (hD.sub (ws' := [(w, .inr (4, [.ref g, .ref a0, .ref a1, .ref a2, .ref a3, .ref a4, .ref a5, .int 0, .long dn11])), (g, .inr (3, [.int wd, .int hi, .int dr, .int 1, .long he, .long fo, .int 0, .int 0, .int 0, .ref k0, .ref k1, .ref k2, .ref k3, .ref k4, .ref k5, .ref k6]))]) [0, 1] (by decide) rfl) rfl rfl) rfl rfl hl.1 rfl (lv_room (Nat.le_of_ble_eq_true rfl)) dX4_windsWhereTold_29 ⟨Nat.le_of_ble_eq_true rfl, Nat.le_of_ble_eq_true rfl⟩) hP hD hS hA [0, 1] [] rfl rfl (by decide +kernel) (by decide +kernel) (fun ur18 H locs hwr18 hP hD hS => ?_)
      obtain ⟨dn19, rfl⟩ : ∃ z, z = ur18 := ⟨_, rfl⟩
      have hP : va_P D vwCl [(w, .inr (4, [.ref g, .ref a0, .ref a1, .ref a2, .ref a3, .ref a4, .ref a5, .int 0, .long dn19])), (g, .inr (3, [.int wd, .int hi, .int dr, .int 1, .long he, .long fo, .int 0, .int 0, .int 0, .ref k0, .ref k1, .ref k2, .ref k3, .ref k4, .ref k5, .ref k6]))] H := hP
      have hD : va_D A [(w, .inr (4, [.ref g, .ref a0, .ref a1, .ref a2, .ref a3, .ref a4, .ref a5, .int 0, .long dn19])), (g, .inr (3, [.int wd, .int hi, .int dr, .int 1, .long he, .long fo, .int 0, .int 0, .int 0, .ref k0, .ref k1, .ref k2, .ref k3, .ref k4, .ref k5, .ref k6]))] := hD
      refine lv_aload_n hx hb dX4_windsWhereTold_32 rfl (lv_at hl 3 rfl) ?_
      refine lv_iload_n hx hb dX4_windsWhereTold_33 rfl (lv_at hl 4 rfl) ?_
      refine rd_i (va_runV (As := [.int x]) (rest := []) ⟨hx, hb, hml, hown, hts⟩ (c0_isAllTold l D cy w g a0 a1 a2 a3 a4 a5 0 dn19 wd hi dr 1 he fo k0 k1 k2 k3 k4 k5 k6 x _) (cwV 1 hts gX4_windsWhereTold_X4_isAllTold rfl rfl rfl (by decide +kernel) ⟨Nat.le_of_ble_eq_true rfl, Nat.le_of_ble_eq_true rfl⟩) (pV (ci := 4) (k := 0) hKA (hP.sub (ws' := [(w, .inr (4, [.ref g, .ref a0, .ref a1, .ref a2, .ref a3, .ref a4, .ref a5, .int 0, .long dn19])), (g, .inr (3, [.int wd, .int hi, .int dr, .int 1, .long he, .long fo, .int 0, .int 0, .int 0, .ref k0, .ref k1, .ref k2, .ref k3, .ref k4, .ref k5, .ref k6]))]) [0, 1] rfl) (hD.sub (ws' := [(w, .inr (4, [.ref g, .ref a0, .ref a1, .ref a2, .ref a3, .ref a4, .ref a5, .int 0, .long dn19])), (g, .inr (3, [.int wd, .int hi, .int dr, .int 1, .long he, .long fo, .int 0, .int 0, .int 0, .ref k0, .ref k1, .ref k2, .ref k3, .ref k4, .ref k5, .ref k6]))]) [0, 1] (by decide) rfl) rfl rfl) rfl rfl hl.1 rfl (lv_room (Nat.le_of_ble_eq_true rfl)) dX4_windsWhereTold_34 ⟨Nat.le_of_ble_eq_true rfl, Nat.le_of_ble_eq_true rfl⟩) hP hS hA (fun r20 H locs hwr20 hP hS => ?_)
      rcases hwr20 with rfl
      · skip
        refine lv_if_eq (tgt := 49) hx hb dX4_windsWhereTold_37 (by decide) (fun c21 => absurd c21 (by decide)) (fun c21 => ?_)
        refine lv_iload_n hx hb dX4_windsWhereTold_40 rfl (lv_at hl 1 rfl) ?_
        refine lv_iconst (v := 1) hx hb dX4_windsWhereTold_41 (by decide) ?_
        refine lv_iload hx hb dX4_windsWhereTold_42 (lv_at hl 0 rfl) ?_
        refine lv_iconst (v := 1) hx hb dX4_windsWhereTold_44 (by decide) ?_
        refine lv_iadd hx hb dX4_windsWhereTold_45 ?_
        refine lv_topi (fun x22 ex22 => ?_)
        obtain rfl : x22 = 2 := by rw [ex22]; decide +kernel
        refine lv_ishl hx hb dX4_windsWhereTold_46 ?_
        refine lv_topi (fun x23 ex23 => ?_)
        obtain rfl : x23 = 4 := by rw [ex23]; decide +kernel
        refine lv_ior hx hb dX4_windsWhereTold_47 ?_
        refine lv_topi (fun x24 ex24 => ?_)
        obtain rfl : x24 = 7 := by rw [ex24]; decide +kernel
        refine lv_istore_n (lv' := [(3, .int 7), (4, .int 1), (2, .int wi), (0, .ref w), (1, .int x)]) hx hb dX4_windsWhereTold_48 rfl hl (by decide) rfl (fun ls hl => ?_)
        refine lv_iinc (v := 2) (lv' := [(4, .int 2), (3, .int 7), (2, .int wi), (0, .ref w), (1, .int x)]) hx hb dX4_windsWhereTold_49 hl (k := 1) rfl (by decide) (by decide) rfl (fun ls hl => ?_)
        refine lv_goto (tgt := 13) hx hb dX4_windsWhereTold_52 (by decide) ?_
        refine lv_iload hx hb dX4_windsWhereTold_13 (lv_at hl 0 rfl) ?_
        refine lv_iconst (v := 1) hx hb dX4_windsWhereTold_15 (by decide) ?_
        refine lv_icmp_gt (tgt := 55) hx hb dX4_windsWhereTold_16 (by decide) (fun c25 => ?_) (fun c25 => absurd c25 (by decide))
        refine lv_aload_n hx hb dX4_windsWhereTold_55 rfl (lv_at hl 3 rfl) ?_
        refine va_get (D := D) (ci := 4) (v := .ref g) (C := RX4) (T := TX4) (N := 9) hx hb hts zi4_ hown hK hP 0 rfl rfl 0 (by decide) z0_ (fun _ h9 => h9) rfl dX4_windsWhereTold_56 ?_
        refine lv_iload_n hx hb dX4_windsWhereTold_59 rfl (lv_at hl 2 rfl) ?_
        refine va_put (D := D) (ci := 3) (v := .int wi) (ty := .int) (C := RX3) (T := TX3) (N := 16) hx hb hts zi3_ tyX3 tyX3_ok nmX3 hown hK hP hD hS 1 rfl rfl 3 (by decide) z2_ (fun _ h9 => h9) rfl (by decide +kernel) rfl rfl (Nat.le_of_ble_eq_true rfl) dX4_windsWhereTold_60 (fun H locs hP hD hS => ?_)
        have hP : va_P D vwCl [(w, .inr (4, [.ref g, .ref a0, .ref a1, .ref a2, .ref a3, .ref a4, .ref a5, .int 0, .long dn19])), (g, .inr (3, [.int wd, .int hi, .int dr, .int wi, .long he, .long fo, .int 0, .int 0, .int 0, .ref k0, .ref k1, .ref k2, .ref k3, .ref k4, .ref k5, .ref k6]))] H := hP
        have hD : va_D A [(w, .inr (4, [.ref g, .ref a0, .ref a1, .ref a2, .ref a3, .ref a4, .ref a5, .int 0, .long dn19])), (g, .inr (3, [.int wd, .int hi, .int dr, .int wi, .long he, .long fo, .int 0, .int 0, .int 0, .ref k0, .ref k1, .ref k2, .ref k3, .ref k4, .ref k5, .ref k6]))] := hD
        refine lv_iload_n hx hb dX4_windsWhereTold_63 rfl (lv_at hl 1 rfl) ?_
        have hP9 := hP.sub (ws' := []) [] rfl
        have hD9 := hD.sub (ws' := []) [] (by decide) rfl
        exact W.iret (v := 7) hx hb hr (fun t ht hW => ⟨⟨7, (), rfl, rfl, by rw [ht]; exact hP9, hD9⟩, hS.F ht⟩) hS.2.2 dX4_windsWhereTold_64

set_option maxHeartbeats 4000000 in
set_option maxRecDepth 100000 in
theorem c0_best (l : Launch) (D : va_G) (cy : Nat → ClassId) (w g a0 a1 a2 a3 a4 a5 : Nat) (bd : Int32) (dn : Int64) (dr wi : Int32) (he fo : Int64) (k0 k1 k2 k3 k4 k5 k6 : Nat) (what : Int32) (sz : Nat)  : Met l yX4_bestSquare wsX4_bestSquare ({ frames := 4, cells := 0, slots := 0, locals := 90 }) (va_Pc [.ref w, .int what] (kPre D cy [(w, .inr (4, [.ref g, .ref a0, .ref a1, .ref a2, .ref a3, .ref a4, .ref a5, .int bd, .long dn])), (g, .inr (3, [.int 6, .int 6, .int dr, .int wi, .long he, .long fo, .int 0, .int 0, .int 0, .ref k0, .ref k1, .ref k2, .ref k3, .ref k4, .ref k5, .ref k6]))] sz)) (va_Qi (fun (r : Int32) (_ : Unit) => r = -1) (fun (u : Unit) t => va_P D vwCl ([]) t.heap ∧ va_D (va_A [(w, .inr (4, [.ref g, .ref a0, .ref a1, .ref a2, .ref a3, .ref a4, .ref a5, .int bd, .long dn])), (g, .inr (3, [.int 6, .int 6, .int dr, .int wi, .long he, .long fo, .int 0, .int 0, .int 0, .ref k0, .ref k1, .ref k2, .ref k3, .ref k4, .ref k5, .ref k6]))] sz) ([])) (va_A [(w, .inr (4, [.ref g, .ref a0, .ref a1, .ref a2, .ref a3, .ref a4, .ref a5, .int bd, .long dn])), (g, .inr (3, [.int 6, .int 6, .int dr, .int wi, .long he, .long fo, .int 0, .int 0, .int 0, .ref k0, .ref k1, .ref k2, .ref k3, .ref k4, .ref k5, .ref k6]))] sz)) 0 0 (va_A [(w, .inr (4, [.ref g, .ref a0, .ref a1, .ref a2, .ref a3, .ref a4, .ref a5, .int bd, .long dn])), (g, .inr (3, [.int 6, .int 6, .int dr, .int wi, .long he, .long fo, .int 0, .int 0, .int 0, .ref k0, .ref k1, .ref k2, .ref k3, .ref k4, .ref k5, .ref k6]))] sz) := by
  refine Met.ofW (cc := cX4_bestSquare) (maxL := 5) (ret := (some .int)) (by decide) rfl ?_
  intro p e s m args below meth c s₁ B hml hv
  obtain ⟨rfl, hsz, hP, hKA, hD0⟩ := hv
  have hx := B.exec
  have hb := B.bytes
  have hr := B.returns
  have hts := atoms_spec (ws := wsX4_bestSquare) B.pre
  have hown : s.vm.findClass RX4 = some m.cls := findClass_of_methodNamed B.named
  have hlocks := B.notSynchronized
  subst hsz
  have hK := hKA.1
  have hD := hD0.self (sz := s.heap.size)
  generalize hAe : va_A [(w, .inr (4, [.ref g, .ref a0, .ref a1, .ref a2, .ref a3, .ref a4, .ref a5, .int bd, .long dn])), (g, .inr (3, [.int 6, .int 6, .int dr, .int wi, .long he, .long fo, .int 0, .int 0, .int 0, .ref k0, .ref k1, .ref k2, .ref k3, .ref k4, .ref k5, .ref k6]))] s.heap.size = A at hD ⊢
  have hA : ∀ q : Nat, s.heap.size ≤ q → A q := fun q h => by rw [← hAe]; exact Or.inr h
  have hS : va_S A s.heap s.heap [] := va_S.rf
  have hP : va_P D vwCl [(w, .inr (4, [.ref g, .ref a0, .ref a1, .ref a2, .ref a3, .ref a4, .ref a5, .int bd, .long dn])), (g, .inr (3, [.int 6, .int 6, .int dr, .int wi, .long he, .long fo, .int 0, .int 0, .int 0, .ref k0, .ref k1, .ref k2, .ref k3, .ref k4, .ref k5, .ref k6]))] s.heap := hP
  have hl := lv_entry ([.ref w, .int what]) (n := 5) (Nat.le_of_ble_eq_true rfl)
  rw [lg_entry_eq]
  generalize (lg_sl ([.ref w, .int what]) ++ List.replicate (5 - (lg_sl ([.ref w, .int what])).length) Slot.unset).toArray = ls at hl ⊢
  have hl : lv_has ls 5 [(0, .ref w), (1, .int what)] := hl
  have z0_ := hts (.fieldLink RX4 35 "HeardSeen$Law" "g" "LHeardSeen$Garden;") (by decide +kernel)
  have zi4_ : ∀ w ∈ u_ws RX4 TX4 9, w ∈ wsX4_bestSquare := by decide +kernel
  refine lv_aload_n hx hb dX4_bestSquare_0 rfl (lv_at hl 0 rfl) ?_
  refine wr_v (wr := []) (va_runV (As := []) (rest := []) ⟨hx, hb, hml, hown, hts⟩ (c0_look l D cy w g a0 a1 a2 a3 a4 a5 bd dn 6 6 dr wi he fo k0 k1 k2 k3 k4 k5 k6 _) (cwV 0 hts gX4_bestSquare_X4_look rfl rfl rfl (by decide +kernel) ⟨Nat.le_of_ble_eq_true rfl, Nat.le_of_ble_eq_true rfl⟩) (pV (ci := 4) (k := 0) hKA (hP.sub (ws' := [(w, .inr (4, [.ref g, .ref a0, .ref a1, .ref a2, .ref a3, .ref a4, .ref a5, .int bd, .long dn])), (g, .inr (3, [.int 6, .int 6, .int dr, .int wi, .long he, .long fo, .int 0, .int 0, .int 0, .ref k0, .ref k1, .ref k2, .ref k3, .ref k4, .ref k5, .ref k6]))]) [0, 1] rfl) (hD.sub (ws' := [(w, .inr (4, [.ref g, .ref a0, .ref a1, .ref a2, .ref a3, .ref a4, .ref a5, .int bd, .long dn])), (g, .inr (3, [.int 6, .int 6, .int dr, .int wi, .long he, .long fo, .int 0, .int 0, .int 0, .ref k0, .ref k1, .ref k2, .ref k3, .ref k4, .ref k5, .ref k6]))]) [0, 1] (by decide) rfl) rfl rfl) rfl rfl hl.1 rfl (lv_room (Nat.le_of_ble_eq_true rfl)) dX4_bestSquare_1 ⟨Nat.le_of_ble_eq_true rfl, Nat.le_of_ble_eq_true rfl⟩) hP hD hS hA [0, 1] [] rfl rfl (by decide +kernel) (by decide +kernel) (fun ur1 H locs hwr1 hP hD hS => ?_)
  obtain ⟨dn2, rfl⟩ : ∃ z, z = ur1 := ⟨_, rfl⟩
  have hP : va_P D vwCl [(w, .inr (4, [.ref g, .ref a0, .ref a1, .ref a2, .ref a3, .ref a4, .ref a5, .int 0, .long dn2])), (g, .inr (3, [.int 6, .int 6, .int dr, .int wi, .long he, .long fo, .int 0, .int 0, .int 0, .ref k0, .ref k1, .ref k2, .ref k3, .ref k4, .ref k5, .ref k6]))] H := hP
  have hD : va_D A [(w, .inr (4, [.ref g, .ref a0, .ref a1, .ref a2, .ref a3, .ref a4, .ref a5, .int 0, .long dn2])), (g, .inr (3, [.int 6, .int 6, .int dr, .int wi, .long he, .long fo, .int 0, .int 0, .int 0, .ref k0, .ref k1, .ref k2, .ref k3, .ref k4, .ref k5, .ref k6]))] := hD
  refine lv_aload_n hx hb dX4_bestSquare_4 rfl (lv_at hl 0 rfl) ?_
  refine rd_i (va_runV (As := []) (rest := []) ⟨hx, hb, hml, hown, hts⟩ (c0_speakerCount l D cy w g a0 a1 a2 a3 a4 a5 0 dn2 6 6 dr wi he fo k0 k1 k2 k3 k4 k5 k6 _) (cwV 0 hts gX4_bestSquare_X4_speakerCount rfl rfl rfl (by decide +kernel) ⟨Nat.le_of_ble_eq_true rfl, Nat.le_of_ble_eq_true rfl⟩) (pV (ci := 4) (k := 0) hKA (hP.sub (ws' := [(w, .inr (4, [.ref g, .ref a0, .ref a1, .ref a2, .ref a3, .ref a4, .ref a5, .int 0, .long dn2])), (g, .inr (3, [.int 6, .int 6, .int dr, .int wi, .long he, .long fo, .int 0, .int 0, .int 0, .ref k0, .ref k1, .ref k2, .ref k3, .ref k4, .ref k5, .ref k6]))]) [0, 1] rfl) (hD.sub (ws' := [(w, .inr (4, [.ref g, .ref a0, .ref a1, .ref a2, .ref a3, .ref a4, .ref a5, .int 0, .long dn2])), (g, .inr (3, [.int 6, .int 6, .int dr, .int wi, .long he, .long fo, .int 0, .int 0, .int 0, .ref k0, .ref k1, .ref k2, .ref k3, .ref k4, .ref k5, .ref k6]))]) [0, 1] (by decide) rfl) rfl rfl) rfl rfl hl.1 rfl (lv_room (Nat.le_of_ble_eq_true rfl)) dX4_bestSquare_5 ⟨Nat.le_of_ble_eq_true rfl, Nat.le_of_ble_eq_true rfl⟩) hP hS hA (fun r3 H locs hwr3 hP hS => ?_)
  rcases hwr3 with rfl
  · skip
    refine lv_istore_n (lv' := [(2, .int 0), (0, .ref w), (1, .int what)]) hx hb dX4_bestSquare_8 rfl hl (by decide) rfl (fun ls hl => ?_)
    refine lv_iconst (v := (-1)) hx hb dX4_bestSquare_9 (by decide) ?_
    refine lv_istore_n (lv' := [(3, .int (-1)), (2, .int 0), (0, .ref w), (1, .int what)]) hx hb dX4_bestSquare_10 rfl hl (by decide) rfl (fun ls hl => ?_)
    refine lv_iconst (v := 0) hx hb dX4_bestSquare_11 (by decide) ?_
    refine lv_istore (lv' := [(4, .int 0), (3, .int (-1)), (2, .int 0), (0, .ref w), (1, .int what)]) hx hb dX4_bestSquare_12 hl (by decide) rfl (fun ls hl => ?_)
    have lp14 : ∀ (n14 : Nat) (k : Nat) (dz : Int64), k ≤ 36 → 36 - k < n14 → ∀ (H : Heap) (locs : List Loc), va_P D vwCl [(w, .inr (4, [.ref g, .ref a0, .ref a1, .ref a2, .ref a3, .ref a4, .ref a5, .int 0, .long dz])), (g, .inr (3, [.int 6, .int 6, .int dr, .int wi, .long he, .long fo, .int 0, .int 0, .int 0, .ref k0, .ref k1, .ref k2, .ref k3, .ref k4, .ref k5, .ref k6]))] H → va_D A [(w, .inr (4, [.ref g, .ref a0, .ref a1, .ref a2, .ref a3, .ref a4, .ref a5, .int 0, .long dz])), (g, .inr (3, [.int 6, .int 6, .int dr, .int wi, .long he, .long fo, .int 0, .int 0, .int 0, .ref k0, .ref k1, .ref k2, .ref k3, .ref k4, .ref k5, .ref k6]))] → va_S A s.heap H locs → ∀ ls : Array Slot, lv_has ls 5 [(0, .ref w), (1, .int what), (2, .int 0), (3, .int (-1)), (4, .int (nI k))] → W p l e (headSpec wsX4_bestSquare ({ frames := 4, cells := 0, slots := 0, locals := 90 })).room s m [.ref w, .int what].toArray below meth c H locs 0 0 (MQ below (va_Qi (fun (r : Int32) (_ : Unit) => r = -1) (fun (u : Unit) t => va_P D vwCl ([]) t.heap ∧ va_D A ([])) A) [.ref w, .int what].toArray s 0 0 A) (F0 m 14 ls []) := by
      intro n14
      induction n14 with
      | zero => intro k dz hk hm; exact absurd hm (Nat.not_lt_zero _)
      | succ n14 ih14 =>
        intro k dz hk hm14 H locs hP hD hS ls hl
        refine lv_iload hx hb dX4_bestSquare_14 (lv_at hl 4 rfl) ?_
        refine lv_aload_n hx hb dX4_bestSquare_16 rfl (lv_at hl 0 rfl) ?_
        refine va_get (D := D) (ci := 4) (v := .ref g) (C := RX4) (T := TX4) (N := 9) hx hb hts zi4_ hown hK hP 0 rfl rfl 0 (by decide) z0_ (fun _ h9 => h9) rfl dX4_bestSquare_17 ?_
        refine rd_i (va_runV (As := []) (rest := [.int (nI k)]) ⟨hx, hb, hml, hown, hts⟩ (c_X3_squareCount l D cy g 6 6 dr wi he fo 0 0 0 k0 k1 k2 k3 k4 k5 k6 _) (cwV 0 hts gX4_bestSquare_X3_squareCount rfl rfl rfl (by decide +kernel) ⟨Nat.le_of_ble_eq_true rfl, Nat.le_of_ble_eq_true rfl⟩) (pV (ci := 3) (k := 0) hKA (hP.sub (ws' := [(g, .inr (3, [.int 6, .int 6, .int dr, .int wi, .long he, .long fo, .int 0, .int 0, .int 0, .ref k0, .ref k1, .ref k2, .ref k3, .ref k4, .ref k5, .ref k6]))]) [1] rfl) (hD.sub (ws' := [(g, .inr (3, [.int 6, .int 6, .int dr, .int wi, .long he, .long fo, .int 0, .int 0, .int 0, .ref k0, .ref k1, .ref k2, .ref k3, .ref k4, .ref k5, .ref k6]))]) [1] (by decide) rfl) rfl rfl) rfl rfl hl.1 rfl (lv_room (Nat.le_of_ble_eq_true rfl)) dX4_bestSquare_20 ⟨Nat.le_of_ble_eq_true rfl, Nat.le_of_ble_eq_true rfl⟩) hP hS hA (fun r4 H locs hwr4 hP hS => ?_)
        obtain rfl : r4 = 36 := by rw [hwr4]; decide
        refine lv_icmp_ge (tgt := 97) hx hb dX4_bestSquare_23 (by decide) (fun c5 => ?_) (fun c5 => ?_)
        · skip
          refine lv_iload_n hx hb dX4_bestSquare_97 rfl (lv_at hl 3 rfl) ?_
          have hP9 := hP.sub (ws' := []) [] rfl
          have hD9 := hD.sub (ws' := []) [] (by decide) rfl
          exact W.iret (v := (-1)) hx hb hr (fun t ht hW => ⟨⟨(-1), (), rfl, rfl, by rw [ht]; exact hP9, hD9⟩, hS.F ht⟩) hS.2.2 dX4_bestSquare_98
        · skip
          refine lv_aload_n hx hb dX4_bestSquare_26 rfl (lv_at hl 0 rfl) ?_
          refine va_get (D := D) (ci := 4) (v := .ref g) (C := RX4) (T := TX4) (N := 9) hx hb hts zi4_ hown hK hP 0 rfl rfl 0 (by decide) z0_ (fun _ h9 => h9) rfl dX4_bestSquare_27 ?_
          refine lv_iload hx hb dX4_bestSquare_30 (lv_at hl 4 rfl) ?_
          refine rd_i (va_runV (As := [.int (nI k)]) (rest := []) ⟨hx, hb, hml, hown, hts⟩ (c0_isFree l D cy g 6 6 dr wi he fo k0 k1 k2 k3 k4 k5 k6 (nI k) _) (cwV 1 hts gX4_bestSquare_X3_isFree rfl rfl rfl (by decide +kernel) ⟨Nat.le_of_ble_eq_true rfl, Nat.le_of_ble_eq_true rfl⟩) (pV (ci := 3) (k := 0) hKA (hP.sub (ws' := [(g, .inr (3, [.int 6, .int 6, .int dr, .int wi, .long he, .long fo, .int 0, .int 0, .int 0, .ref k0, .ref k1, .ref k2, .ref k3, .ref k4, .ref k5, .ref k6]))]) [1] rfl) (hD.sub (ws' := [(g, .inr (3, [.int 6, .int 6, .int dr, .int wi, .long he, .long fo, .int 0, .int 0, .int 0, .ref k0, .ref k1, .ref k2, .ref k3, .ref k4, .ref k5, .ref k6]))]) [1] (by decide) rfl) rfl rfl) rfl rfl hl.1 rfl (lv_room (Nat.le_of_ble_eq_true rfl)) dX4_bestSquare_32 ⟨Nat.le_of_ble_eq_true rfl, Nat.le_of_ble_eq_true rfl⟩) hP hS hA (fun r6 H locs hwr6 hP hS => ?_)
          rcases hwr6 with ⟨rfl, hfr6⟩ | ⟨rfl, hfr6⟩
          · skip
            refine lv_if_eq (tgt := 91) hx hb dX4_bestSquare_35 (by decide) (fun c7 => absurd c7 (by decide)) (fun c7 => ?_)
            refine lv_aload_n hx hb dX4_bestSquare_38 rfl (lv_at hl 0 rfl) ?_
            refine va_get (D := D) (ci := 4) (v := .ref g) (C := RX4) (T := TX4) (N := 9) hx hb hts zi4_ hown hK hP 0 rfl rfl 0 (by decide) z0_ (fun _ h9 => h9) rfl dX4_bestSquare_39 ?_
            refine lv_iload_n hx hb dX4_bestSquare_42 rfl (lv_at hl 1 rfl) ?_
            refine lv_iload hx hb dX4_bestSquare_43 (lv_at hl 4 rfl) ?_
            refine rd_i (va_runV (As := [.int what, .int (nI k)]) (rest := []) ⟨hx, hb, hml, hown, hts⟩ (c_X3_has l D cy g 6 6 dr wi he fo 0 0 0 k0 k1 k2 k3 k4 k5 k6 what (nI k) _) (cwV 2 hts gX4_bestSquare_X3_has rfl rfl rfl (by decide +kernel) ⟨Nat.le_of_ble_eq_true rfl, Nat.le_of_ble_eq_true rfl⟩) (pV (ci := 3) (k := 0) hKA (hP.sub (ws' := [(g, .inr (3, [.int 6, .int 6, .int dr, .int wi, .long he, .long fo, .int 0, .int 0, .int 0, .ref k0, .ref k1, .ref k2, .ref k3, .ref k4, .ref k5, .ref k6]))]) [1] rfl) (hD.sub (ws' := [(g, .inr (3, [.int 6, .int 6, .int dr, .int wi, .long he, .long fo, .int 0, .int 0, .int 0, .ref k0, .ref k1, .ref k2, .ref k3, .ref k4, .ref k5, .ref k6]))]) [1] (by decide) rfl) rfl rfl) rfl rfl hl.1 rfl (lv_room (Nat.le_of_ble_eq_true rfl)) dX4_bestSquare_45 ⟨Nat.le_of_ble_eq_true rfl, Nat.le_of_ble_eq_true rfl⟩) hP hS hA (fun r8 H locs hwr8 hP hS => ?_)
            rcases hwr8 with ⟨rfl, hhr8⟩ | ⟨rfl, hhr8⟩
            · skip
              refine lv_if_ne (tgt := 91) hx hb dX4_bestSquare_48 (by decide) (fun c9 => ?_) (fun c9 => absurd c9 (by decide))
              refine lv_iinc (v := nI (k + 1)) (lv' := [(4, .int (nI (k + 1))), (0, .ref w), (1, .int what), (2, .int 0), (3, .int (-1))]) hx hb dX4_bestSquare_91 hl (k := 4) rfl (nI_1 _) (by decide) rfl (fun ls hl => ?_)
              refine lv_goto (tgt := 14) hx hb dX4_bestSquare_94 (by decide) ?_
              exact ih14 (k + 1) dz (nlt_of (n := 36) rfl hk (by decide) (by assumption)) (by have := nlt_of (n := 36) rfl hk (by decide) (by assumption); omega) _ _ (hP.sub (ws' := [(w, .inr (4, [.ref g, .ref a0, .ref a1, .ref a2, .ref a3, .ref a4, .ref a5, .int 0, .long dz])), (g, .inr (3, [.int 6, .int 6, .int dr, .int wi, .long he, .long fo, .int 0, .int 0, .int 0, .ref k0, .ref k1, .ref k2, .ref k3, .ref k4, .ref k5, .ref k6]))]) [0, 1] rfl) (hD.sub (ws' := [(w, .inr (4, [.ref g, .ref a0, .ref a1, .ref a2, .ref a3, .ref a4, .ref a5, .int 0, .long dz])), (g, .inr (3, [.int 6, .int 6, .int dr, .int wi, .long he, .long fo, .int 0, .int 0, .int 0, .ref k0, .ref k1, .ref k2, .ref k3, .ref k4, .ref k5, .ref k6]))]) [0, 1] (by decide) rfl) hS ls (lv_sub hl [1, 2, 3, 4, 0] rfl)
            · skip
              refine lv_if_ne (tgt := 91) hx hb dX4_bestSquare_48 (by decide) (fun c10 => absurd c10 (by decide)) (fun c10 => ?_)
              refine lv_aload_n hx hb dX4_bestSquare_51 rfl (lv_at hl 0 rfl) ?_
              refine va_get (D := D) (ci := 4) (v := .ref g) (C := RX4) (T := TX4) (N := 9) hx hb hts zi4_ hown hK hP 0 rfl rfl 0 (by decide) z0_ (fun _ h9 => h9) rfl dX4_bestSquare_52 ?_
              refine lv_iload_n hx hb dX4_bestSquare_55 rfl (lv_at hl 1 rfl) ?_
              refine lv_iload hx hb dX4_bestSquare_56 (lv_at hl 4 rfl) ?_
              refine wr_v (wr := [(w, .inr (4, [.ref g, .ref a0, .ref a1, .ref a2, .ref a3, .ref a4, .ref a5, .int 0, .long dz]))]) (va_runV (As := [.int what, .int (nI k)]) (rest := []) ⟨hx, hb, hml, hown, hts⟩ (c_X3_turn l D cy g 6 6 dr wi he fo 0 0 0 k0 k1 k2 k3 k4 k5 k6 what (nI k) _) (cwV 2 hts gX4_bestSquare_X3_turn rfl rfl rfl (by decide +kernel) ⟨Nat.le_of_ble_eq_true rfl, Nat.le_of_ble_eq_true rfl⟩) (pV (ci := 3) (k := 0) hKA (hP.sub (ws' := [(g, .inr (3, [.int 6, .int 6, .int dr, .int wi, .long he, .long fo, .int 0, .int 0, .int 0, .ref k0, .ref k1, .ref k2, .ref k3, .ref k4, .ref k5, .ref k6]))]) [1] rfl) (hD.sub (ws' := [(g, .inr (3, [.int 6, .int 6, .int dr, .int wi, .long he, .long fo, .int 0, .int 0, .int 0, .ref k0, .ref k1, .ref k2, .ref k3, .ref k4, .ref k5, .ref k6]))]) [1] (by decide) rfl) rfl rfl) rfl rfl hl.1 rfl (lv_room (Nat.le_of_ble_eq_true rfl)) dX4_bestSquare_58 ⟨Nat.le_of_ble_eq_true rfl, Nat.le_of_ble_eq_true rfl⟩) hP hD hS hA [1] [0] rfl rfl (by decide +kernel) (by decide +kernel) (fun ur11 H locs hwr11 hP hD hS => ?_)
              obtain ⟨he12, fo13⟩ := ur11
              obtain ⟨ehe12, efo13⟩ := hwr11
              dsimp only at ehe12 efo13
              have hP : va_P D vwCl [(w, .inr (4, [.ref g, .ref a0, .ref a1, .ref a2, .ref a3, .ref a4, .ref a5, .int 0, .long dz])), (g, .inr (3, [.int 6, .int 6, .int dr, .int wi, .long he12, .long fo13, .int 0, .int 0, .int 0, .ref k0, .ref k1, .ref k2, .ref k3, .ref k4, .ref k5, .ref k6]))] H := hP
              have hD : va_D A [(w, .inr (4, [.ref g, .ref a0, .ref a1, .ref a2, .ref a3, .ref a4, .ref a5, .int 0, .long dz])), (g, .inr (3, [.int 6, .int 6, .int dr, .int wi, .long he12, .long fo13, .int 0, .int 0, .int 0, .ref k0, .ref k1, .ref k2, .ref k3, .ref k4, .ref k5, .ref k6]))] := hD
              refine lv_aload_n hx hb dX4_bestSquare_61 rfl (lv_at hl 0 rfl) ?_
              refine wr_v (wr := []) (va_runV (As := []) (rest := []) ⟨hx, hb, hml, hown, hts⟩ (c0_look l D cy w g a0 a1 a2 a3 a4 a5 0 dz 6 6 dr wi he12 fo13 k0 k1 k2 k3 k4 k5 k6 _) (cwV 0 hts gX4_bestSquare_X4_look rfl rfl rfl (by decide +kernel) ⟨Nat.le_of_ble_eq_true rfl, Nat.le_of_ble_eq_true rfl⟩) (pV (ci := 4) (k := 0) hKA (hP.sub (ws' := [(w, .inr (4, [.ref g, .ref a0, .ref a1, .ref a2, .ref a3, .ref a4, .ref a5, .int 0, .long dz])), (g, .inr (3, [.int 6, .int 6, .int dr, .int wi, .long he12, .long fo13, .int 0, .int 0, .int 0, .ref k0, .ref k1, .ref k2, .ref k3, .ref k4, .ref k5, .ref k6]))]) [0, 1] rfl) (hD.sub (ws' := [(w, .inr (4, [.ref g, .ref a0, .ref a1, .ref a2, .ref a3, .ref a4, .ref a5, .int 0, .long dz])), (g, .inr (3, [.int 6, .int 6, .int dr, .int wi, .long he12, .long fo13, .int 0, .int 0, .int 0, .ref k0, .ref k1, .ref k2, .ref k3, .ref k4, .ref k5, .ref k6]))]) [0, 1] (by decide) rfl) rfl rfl) rfl rfl hl.1 rfl (lv_room (Nat.le_of_ble_eq_true rfl)) dX4_bestSquare_62 ⟨Nat.le_of_ble_eq_true rfl, Nat.le_of_ble_eq_true rfl⟩) hP hD hS hA [0, 1] [] rfl rfl (by decide +kernel) (by decide +kernel) (fun ur14 H locs hwr14 hP hD hS => ?_)
              obtain ⟨dn15, rfl⟩ : ∃ z, z = ur14 := ⟨_, rfl⟩
              have hP : va_P D vwCl [(w, .inr (4, [.ref g, .ref a0, .ref a1, .ref a2, .ref a3, .ref a4, .ref a5, .int 0, .long dn15])), (g, .inr (3, [.int 6, .int 6, .int dr, .int wi, .long he12, .long fo13, .int 0, .int 0, .int 0, .ref k0, .ref k1, .ref k2, .ref k3, .ref k4, .ref k5, .ref k6]))] H := hP
              have hD : va_D A [(w, .inr (4, [.ref g, .ref a0, .ref a1, .ref a2, .ref a3, .ref a4, .ref a5, .int 0, .long dn15])), (g, .inr (3, [.int 6, .int 6, .int dr, .int wi, .long he12, .long fo13, .int 0, .int 0, .int 0, .ref k0, .ref k1, .ref k2, .ref k3, .ref k4, .ref k5, .ref k6]))] := hD
              refine lv_aload_n hx hb dX4_bestSquare_65 rfl (lv_at hl 0 rfl) ?_
              refine va_get (D := D) (ci := 4) (v := .ref g) (C := RX4) (T := TX4) (N := 9) hx hb hts zi4_ hown hK hP 0 rfl rfl 0 (by decide) z0_ (fun _ h9 => h9) rfl dX4_bestSquare_66 ?_
              refine lv_iload_n hx hb dX4_bestSquare_69 rfl (lv_at hl 1 rfl) ?_
              refine lv_iload hx hb dX4_bestSquare_70 (lv_at hl 4 rfl) ?_
              refine wr_v (wr := [(w, .inr (4, [.ref g, .ref a0, .ref a1, .ref a2, .ref a3, .ref a4, .ref a5, .int 0, .long dn15]))]) (va_runV (As := [.int what, .int (nI k)]) (rest := []) ⟨hx, hb, hml, hown, hts⟩ (c_X3_turn l D cy g 6 6 dr wi he12 fo13 0 0 0 k0 k1 k2 k3 k4 k5 k6 what (nI k) _) (cwV 2 hts gX4_bestSquare_X3_turn rfl rfl rfl (by decide +kernel) ⟨Nat.le_of_ble_eq_true rfl, Nat.le_of_ble_eq_true rfl⟩) (pV (ci := 3) (k := 0) hKA (hP.sub (ws' := [(g, .inr (3, [.int 6, .int 6, .int dr, .int wi, .long he12, .long fo13, .int 0, .int 0, .int 0, .ref k0, .ref k1, .ref k2, .ref k3, .ref k4, .ref k5, .ref k6]))]) [1] rfl) (hD.sub (ws' := [(g, .inr (3, [.int 6, .int 6, .int dr, .int wi, .long he12, .long fo13, .int 0, .int 0, .int 0, .ref k0, .ref k1, .ref k2, .ref k3, .ref k4, .ref k5, .ref k6]))]) [1] (by decide) rfl) rfl rfl) rfl rfl hl.1 rfl (lv_room (Nat.le_of_ble_eq_true rfl)) dX4_bestSquare_72 ⟨Nat.le_of_ble_eq_true rfl, Nat.le_of_ble_eq_true rfl⟩) hP hD hS hA [1] [0] rfl rfl (by decide +kernel) (by decide +kernel) (fun ur16 H locs hwr16 hP hD hS => ?_)
              obtain ⟨he17, fo18⟩ := ur16
              obtain ⟨ehe17, efo18⟩ := hwr16
              dsimp only at ehe17 efo18
              have hP : va_P D vwCl [(w, .inr (4, [.ref g, .ref a0, .ref a1, .ref a2, .ref a3, .ref a4, .ref a5, .int 0, .long dn15])), (g, .inr (3, [.int 6, .int 6, .int dr, .int wi, .long he17, .long fo18, .int 0, .int 0, .int 0, .ref k0, .ref k1, .ref k2, .ref k3, .ref k4, .ref k5, .ref k6]))] H := hP
              have hD : va_D A [(w, .inr (4, [.ref g, .ref a0, .ref a1, .ref a2, .ref a3, .ref a4, .ref a5, .int 0, .long dn15])), (g, .inr (3, [.int 6, .int 6, .int dr, .int wi, .long he17, .long fo18, .int 0, .int 0, .int 0, .ref k0, .ref k1, .ref k2, .ref k3, .ref k4, .ref k5, .ref k6]))] := hD
              refine lv_aload_n hx hb dX4_bestSquare_75 rfl (lv_at hl 0 rfl) ?_
              refine rd_i (va_runV (As := []) (rest := []) ⟨hx, hb, hml, hown, hts⟩ (c0_speakerCount l D cy w g a0 a1 a2 a3 a4 a5 0 dn15 6 6 dr wi he17 fo18 k0 k1 k2 k3 k4 k5 k6 _) (cwV 0 hts gX4_bestSquare_X4_speakerCount rfl rfl rfl (by decide +kernel) ⟨Nat.le_of_ble_eq_true rfl, Nat.le_of_ble_eq_true rfl⟩) (pV (ci := 4) (k := 0) hKA (hP.sub (ws' := [(w, .inr (4, [.ref g, .ref a0, .ref a1, .ref a2, .ref a3, .ref a4, .ref a5, .int 0, .long dn15])), (g, .inr (3, [.int 6, .int 6, .int dr, .int wi, .long he17, .long fo18, .int 0, .int 0, .int 0, .ref k0, .ref k1, .ref k2, .ref k3, .ref k4, .ref k5, .ref k6]))]) [0, 1] rfl) (hD.sub (ws' := [(w, .inr (4, [.ref g, .ref a0, .ref a1, .ref a2, .ref a3, .ref a4, .ref a5, .int 0, .long dn15])), (g, .inr (3, [.int 6, .int 6, .int dr, .int wi, .long he17, .long fo18, .int 0, .int 0, .int 0, .ref k0, .ref k1, .ref k2, .ref k3, .ref k4, .ref k5, .ref k6]))]) [0, 1] (by decide) rfl) rfl rfl) rfl rfl hl.1 rfl (lv_room (Nat.le_of_ble_eq_true rfl)) dX4_bestSquare_76 ⟨Nat.le_of_ble_eq_true rfl, Nat.le_of_ble_eq_true rfl⟩) hP hS hA (fun r19 H locs hwr19 hP hS => ?_)
              rcases hwr19 with rfl
              · skip
                refine lv_iload_n hx hb dX4_bestSquare_79 rfl (lv_at hl 2 rfl) ?_
                refine lv_icmp_le (tgt := 91) hx hb dX4_bestSquare_80 (by decide) (fun c20 => ?_) (fun c20 => absurd c20 (by decide))
                refine lv_iinc (v := nI (k + 1)) (lv' := [(4, .int (nI (k + 1))), (0, .ref w), (1, .int what), (2, .int 0), (3, .int (-1))]) hx hb dX4_bestSquare_91 hl (k := 4) rfl (nI_1 _) (by decide) rfl (fun ls hl => ?_)
                refine lv_goto (tgt := 14) hx hb dX4_bestSquare_94 (by decide) ?_
                have q4 : he17 = he := by by_cases hz : what = 0 <;> simp only [ehe12, efo13, ehe17, efo18, hz, if_true, if_false, reduceIte, z_xx]
                have q5 : fo18 = fo := by by_cases hz : what = 0 <;> simp only [ehe12, efo13, ehe17, efo18, hz, if_true, if_false, reduceIte, z_xx]
                rw [q4, q5] at hP hD
                exact ih14 (k + 1) dn15 (nlt_of (n := 36) rfl hk (by decide) (by assumption)) (by have := nlt_of (n := 36) rfl hk (by decide) (by assumption); omega) _ _ (hP.sub (ws' := [(w, .inr (4, [.ref g, .ref a0, .ref a1, .ref a2, .ref a3, .ref a4, .ref a5, .int 0, .long dn15])), (g, .inr (3, [.int 6, .int 6, .int dr, .int wi, .long he, .long fo, .int 0, .int 0, .int 0, .ref k0, .ref k1, .ref k2, .ref k3, .ref k4, .ref k5, .ref k6]))]) [0, 1] rfl) (hD.sub (ws' := [(w, .inr (4, [.ref g, .ref a0, .ref a1, .ref a2, .ref a3, .ref a4, .ref a5, .int 0, .long dn15])), (g, .inr (3, [.int 6, .int 6, .int dr, .int wi, .long he, .long fo, .int 0, .int 0, .int 0, .ref k0, .ref k1, .ref k2, .ref k3, .ref k4, .ref k5, .ref k6]))]) [0, 1] (by decide) rfl) hS ls (lv_sub hl [1, 2, 3, 4, 0] rfl)
          · skip
            refine lv_if_eq (tgt := 91) hx hb dX4_bestSquare_35 (by decide) (fun c21 => ?_) (fun c21 => absurd c21 (by decide))
            refine lv_iinc (v := nI (k + 1)) (lv' := [(4, .int (nI (k + 1))), (0, .ref w), (1, .int what), (2, .int 0), (3, .int (-1))]) hx hb dX4_bestSquare_91 hl (k := 4) rfl (nI_1 _) (by decide) rfl (fun ls hl => ?_)
            refine lv_goto (tgt := 14) hx hb dX4_bestSquare_94 (by decide) ?_
            exact ih14 (k + 1) dz (nlt_of (n := 36) rfl hk (by decide) (by assumption)) (by have := nlt_of (n := 36) rfl hk (by decide) (by assumption); omega) _ _ (hP.sub (ws' := [(w, .inr (4, [.ref g, .ref a0, .ref a1, .ref a2, .ref a3, .ref a4, .ref a5, .int 0, .long dz])), (g, .inr (3, [.int 6, .int 6, .int dr, .int wi, .long he, .long fo, .int 0, .int 0, .int 0, .ref k0, .ref k1, .ref k2, .ref k3, .ref k4, .ref k5, .ref k6]))]) [0, 1] rfl) (hD.sub (ws' := [(w, .inr (4, [.ref g, .ref a0, .ref a1, .ref a2, .ref a3, .ref a4, .ref a5, .int 0, .long dz])), (g, .inr (3, [.int 6, .int 6, .int dr, .int wi, .long he, .long fo, .int 0, .int 0, .int 0, .ref k0, .ref k1, .ref k2, .ref k3, .ref k4, .ref k5, .ref k6]))]) [0, 1] (by decide) rfl) hS ls (lv_sub hl [1, 2, 3, 4, 0] rfl)
    exact lp14 (36 - 0 + 1) 0 dn2 (by omega) (Nat.lt_succ_self _) _ _ (hP.sub (ws' := [(w, .inr (4, [.ref g, .ref a0, .ref a1, .ref a2, .ref a3, .ref a4, .ref a5, .int 0, .long dn2])), (g, .inr (3, [.int 6, .int 6, .int dr, .int wi, .long he, .long fo, .int 0, .int 0, .int 0, .ref k0, .ref k1, .ref k2, .ref k3, .ref k4, .ref k5, .ref k6]))]) [0, 1] rfl) (hD.sub (ws' := [(w, .inr (4, [.ref g, .ref a0, .ref a1, .ref a2, .ref a3, .ref a4, .ref a5, .int 0, .long dn2])), (g, .inr (3, [.int 6, .int 6, .int dr, .int wi, .long he, .long fo, .int 0, .int 0, .int 0, .ref k0, .ref k1, .ref k2, .ref k3, .ref k4, .ref k5, .ref k6]))]) [0, 1] (by decide) rfl) hS ls (lv_sub hl [3, 4, 2, 1, 0] rfl)
