theorem dX8_byteAt_0 : decode cX8_byteAt 0 = .ok (.iload_n 1, 1) := by decide +kernel
theorem dX8_byteAt_1 : decode cX8_byteAt 1 = .ok (.ifCond .lt 33, 3) := by decide +kernel
theorem dX8_byteAt_34 : decode cX8_byteAt 34 = .ok (.iconst (-1), 1) := by decide +kernel
theorem dX8_byteAt_35 : decode cX8_byteAt 35 = .ok (.ireturn, 1) := by decide +kernel
theorem dX8_byteAt_4 : decode cX8_byteAt 4 = .ok (.iload_n 1, 1) := by decide +kernel
theorem dX8_byteAt_5 : decode cX8_byteAt 5 = .ok (.aload_n 0, 1) := by decide +kernel
theorem dX8_byteAt_6 : decode cX8_byteAt 6 = .ok (.getfield 15, 3) := by decide +kernel
theorem dX8_byteAt_9 : decode cX8_byteAt 9 = .ok (.if_icmp .ge 25, 3) := by decide +kernel
theorem dX8_byteAt_12 : decode cX8_byteAt 12 = .ok (.iload_n 1, 1) := by decide +kernel
theorem dX8_byteAt_13 : decode cX8_byteAt 13 = .ok (.aload_n 0, 1) := by decide +kernel
theorem dX8_byteAt_14 : decode cX8_byteAt 14 = .ok (.getfield 9, 3) := by decide +kernel
theorem dX8_byteAt_17 : decode cX8_byteAt 17 = .ok (.arraylength, 1) := by decide +kernel
theorem dX8_byteAt_18 : decode cX8_byteAt 18 = .ok (.if_icmp .ge 16, 3) := by decide +kernel
theorem dX8_byteAt_21 : decode cX8_byteAt 21 = .ok (.aload_n 0, 1) := by decide +kernel
theorem dX8_byteAt_22 : decode cX8_byteAt 22 = .ok (.getfield 9, 3) := by decide +kernel
theorem dX8_byteAt_25 : decode cX8_byteAt 25 = .ok (.iload_n 1, 1) := by decide +kernel
theorem dX8_byteAt_26 : decode cX8_byteAt 26 = .ok (.baload, 1) := by decide +kernel
theorem dX8_byteAt_27 : decode cX8_byteAt 27 = .ok (.sipush 255, 3) := by decide +kernel
theorem dX8_byteAt_30 : decode cX8_byteAt 30 = .ok (.iand, 1) := by decide +kernel
theorem dX8_byteAt_31 : decode cX8_byteAt 31 = .ok (.goto 4, 3) := by decide +kernel
theorem dX8_isLetter_0 : decode cX8_isLetter 0 = .ok (.iload_n 0, 1) := by decide +kernel
theorem dX8_isLetter_1 : decode cX8_isLetter 1 = .ok (.bipush 97, 2) := by decide +kernel
theorem dX8_isLetter_3 : decode cX8_isLetter 3 = .ok (.if_icmp .lt 13, 3) := by decide +kernel
theorem dX8_isLetter_16 : decode cX8_isLetter 16 = .ok (.iconst 0, 1) := by decide +kernel
theorem dX8_isLetter_17 : decode cX8_isLetter 17 = .ok (.ireturn, 1) := by decide +kernel
theorem dX8_isLetter_6 : decode cX8_isLetter 6 = .ok (.iload_n 0, 1) := by decide +kernel
theorem dX8_isLetter_7 : decode cX8_isLetter 7 = .ok (.bipush 122, 2) := by decide +kernel
theorem dX8_isLetter_9 : decode cX8_isLetter 9 = .ok (.if_icmp .gt 7, 3) := by decide +kernel
theorem dX8_isLetter_12 : decode cX8_isLetter 12 = .ok (.iconst 1, 1) := by decide +kernel
theorem dX8_isLetter_13 : decode cX8_isLetter 13 = .ok (.goto 4, 3) := by decide +kernel
theorem dX8_isFigure_0 : decode cX8_isFigure 0 = .ok (.iload_n 0, 1) := by decide +kernel
theorem dX8_isFigure_1 : decode cX8_isFigure 1 = .ok (.bipush 48, 2) := by decide +kernel
theorem dX8_isFigure_3 : decode cX8_isFigure 3 = .ok (.if_icmp .lt 13, 3) := by decide +kernel
theorem dX8_isFigure_16 : decode cX8_isFigure 16 = .ok (.iconst 0, 1) := by decide +kernel
theorem dX8_isFigure_17 : decode cX8_isFigure 17 = .ok (.ireturn, 1) := by decide +kernel
theorem dX8_isFigure_6 : decode cX8_isFigure 6 = .ok (.iload_n 0, 1) := by decide +kernel
theorem dX8_isFigure_7 : decode cX8_isFigure 7 = .ok (.bipush 57, 2) := by decide +kernel
theorem dX8_isFigure_9 : decode cX8_isFigure 9 = .ok (.if_icmp .gt 7, 3) := by decide +kernel
theorem dX8_isFigure_12 : decode cX8_isFigure 12 = .ok (.iconst 1, 1) := by decide +kernel
theorem dX8_isFigure_13 : decode cX8_isFigure 13 = .ok (.goto 4, 3) := by decide +kernel
theorem dX8_takeLetters_0 : decode cX8_takeLetters 0 = .ok (.aload_n 0, 1) := by decide +kernel
theorem dX8_takeLetters_1 : decode cX8_takeLetters 1 = .ok (.getfield 19, 3) := by decide +kernel
theorem dX8_takeLetters_4 : decode cX8_takeLetters 4 = .ok (.aload_n 0, 1) := by decide +kernel
theorem dX8_takeLetters_5 : decode cX8_takeLetters 5 = .ok (.getfield 15, 3) := by decide +kernel
theorem dX8_takeLetters_8 : decode cX8_takeLetters 8 = .ok (.if_icmp .ge 30, 3) := by decide +kernel
theorem dX8_takeLetters_38 : decode cX8_takeLetters 38 = .ok (.return_, 1) := by decide +kernel
theorem dX8_takeLetters_11 : decode cX8_takeLetters 11 = .ok (.aload_n 0, 1) := by decide +kernel
theorem dX8_takeLetters_12 : decode cX8_takeLetters 12 = .ok (.aload_n 0, 1) := by decide +kernel
theorem dX8_takeLetters_13 : decode cX8_takeLetters 13 = .ok (.getfield 19, 3) := by decide +kernel
set_option maxRecDepth 20000 in
theorem ggX8_takeLetters_X8_byteAt : GoodIn wsX8_takeLetters wsX8_byteAt := goodIn_r _ [7, 2, 8, 12, 13, 14, 15, 16, 17, 18] (by decide +kernel) (by decide +kernel)
set_option maxRecDepth 20000 in
theorem gX8_takeLetters_X8_byteAt : GoodIn wsX8_takeLetters (wsV RX8 117 RX8 yX8_byteAt wsX8_byteAt) := goodIn_app (goodIn_of _ (by decide +kernel)) ggX8_takeLetters_X8_byteAt
theorem dX8_takeLetters_16 : decode cX8_takeLetters 16 = .ok (.invokevirtual 117, 3) := by decide +kernel
set_option maxRecDepth 20000 in
theorem ggX8_takeLetters_X8_isLetter : GoodIn wsX8_takeLetters wsX8_isLetter := goodIn_r _ [11] (by decide +kernel) (by decide +kernel)
set_option maxRecDepth 20000 in
theorem gX8_takeLetters_X8_isLetter : GoodIn wsX8_takeLetters (va_wsS RX8 121 yX8_isLetter wsX8_isLetter) := goodIn_app (goodIn_of _ (by decide +kernel)) ggX8_takeLetters_X8_isLetter
theorem dX8_takeLetters_19 : decode cX8_takeLetters 19 = .ok (.invokestatic 121, 3) := by decide +kernel
theorem dX8_takeLetters_22 : decode cX8_takeLetters 22 = .ok (.ifCond .eq 16, 3) := by decide +kernel
theorem dX8_takeLetters_25 : decode cX8_takeLetters 25 = .ok (.aload_n 0, 1) := by decide +kernel
theorem dX8_takeLetters_26 : decode cX8_takeLetters 26 = .ok (.dup, 1) := by decide +kernel
theorem dX8_takeLetters_27 : decode cX8_takeLetters 27 = .ok (.getfield 19, 3) := by decide +kernel
theorem dX8_takeLetters_30 : decode cX8_takeLetters 30 = .ok (.iconst 1, 1) := by decide +kernel
theorem dX8_takeLetters_31 : decode cX8_takeLetters 31 = .ok (.iadd, 1) := by decide +kernel
theorem dX8_takeLetters_32 : decode cX8_takeLetters 32 = .ok (.putfield 19, 3) := by decide +kernel
theorem dX8_takeLetters_35 : decode cX8_takeLetters 35 = .ok (.goto (-35), 3) := by decide +kernel
theorem dX8_takeFigures_0 : decode cX8_takeFigures 0 = .ok (.iconst 0, 1) := by decide +kernel
theorem dX8_takeFigures_1 : decode cX8_takeFigures 1 = .ok (.istore_n 1, 1) := by decide +kernel
theorem dX8_takeFigures_2 : decode cX8_takeFigures 2 = .ok (.aload_n 0, 1) := by decide +kernel
theorem dX8_takeFigures_3 : decode cX8_takeFigures 3 = .ok (.getfield 19, 3) := by decide +kernel
theorem dX8_takeFigures_6 : decode cX8_takeFigures 6 = .ok (.aload_n 0, 1) := by decide +kernel
theorem dX8_takeFigures_7 : decode cX8_takeFigures 7 = .ok (.getfield 15, 3) := by decide +kernel
theorem dX8_takeFigures_10 : decode cX8_takeFigures 10 = .ok (.if_icmp .ge 64, 3) := by decide +kernel
theorem dX8_takeFigures_74 : decode cX8_takeFigures 74 = .ok (.aload_n 0, 1) := by decide +kernel
theorem dX8_takeFigures_75 : decode cX8_takeFigures 75 = .ok (.iload_n 1, 1) := by decide +kernel
theorem dX8_takeFigures_76 : decode cX8_takeFigures 76 = .ok (.putfield 114, 3) := by decide +kernel
theorem dX8_takeFigures_79 : decode cX8_takeFigures 79 = .ok (.return_, 1) := by decide +kernel
theorem dX8_takeFigures_13 : decode cX8_takeFigures 13 = .ok (.aload_n 0, 1) := by decide +kernel
theorem dX8_takeFigures_14 : decode cX8_takeFigures 14 = .ok (.aload_n 0, 1) := by decide +kernel
theorem dX8_takeFigures_15 : decode cX8_takeFigures 15 = .ok (.getfield 19, 3) := by decide +kernel
set_option maxRecDepth 20000 in
theorem ggX8_takeFigures_X8_byteAt : GoodIn wsX8_takeFigures wsX8_byteAt := goodIn_r _ [9, 2, 10, 14, 15, 16, 17, 18, 19, 20] (by decide +kernel) (by decide +kernel)
set_option maxRecDepth 20000 in
theorem gX8_takeFigures_X8_byteAt : GoodIn wsX8_takeFigures (wsV RX8 117 RX8 yX8_byteAt wsX8_byteAt) := goodIn_app (goodIn_of _ (by decide +kernel)) ggX8_takeFigures_X8_byteAt
theorem dX8_takeFigures_18 : decode cX8_takeFigures 18 = .ok (.invokevirtual 117, 3) := by decide +kernel
set_option maxRecDepth 20000 in
theorem ggX8_takeFigures_X8_isFigure : GoodIn wsX8_takeFigures wsX8_isFigure := goodIn_r _ [13] (by decide +kernel) (by decide +kernel)
set_option maxRecDepth 20000 in
theorem gX8_takeFigures_X8_isFigure : GoodIn wsX8_takeFigures (va_wsS RX8 127 yX8_isFigure wsX8_isFigure) := goodIn_app (goodIn_of _ (by decide +kernel)) ggX8_takeFigures_X8_isFigure
theorem dX8_takeFigures_21 : decode cX8_takeFigures 21 = .ok (.invokestatic 127, 3) := by decide +kernel
theorem dX8_takeFigures_24 : decode cX8_takeFigures 24 = .ok (.ifCond .eq 50, 3) := by decide +kernel
theorem dX8_takeFigures_27 : decode cX8_takeFigures 27 = .ok (.aload_n 0, 1) := by decide +kernel
theorem dX8_takeFigures_28 : decode cX8_takeFigures 28 = .ok (.getfield 19, 3) := by decide +kernel
theorem dX8_takeFigures_31 : decode cX8_takeFigures 31 = .ok (.aload_n 0, 1) := by decide +kernel
theorem dX8_takeFigures_32 : decode cX8_takeFigures 32 = .ok (.getfield 35, 3) := by decide +kernel
theorem dX8_takeFigures_35 : decode cX8_takeFigures 35 = .ok (.isub, 1) := by decide +kernel
theorem dX8_takeFigures_36 : decode cX8_takeFigures 36 = .ok (.iconst 2, 1) := by decide +kernel
theorem dX8_takeFigures_60 : decode cX8_takeFigures 60 = .ok (.istore_n 1, 1) := by decide +kernel
theorem dX8_takeFigures_61 : decode cX8_takeFigures 61 = .ok (.aload_n 0, 1) := by decide +kernel
theorem dX8_takeFigures_62 : decode cX8_takeFigures 62 = .ok (.dup, 1) := by decide +kernel
theorem dX8_takeFigures_63 : decode cX8_takeFigures 63 = .ok (.getfield 19, 3) := by decide +kernel
theorem dX8_takeFigures_66 : decode cX8_takeFigures 66 = .ok (.iconst 1, 1) := by decide +kernel
theorem dX8_takeFigures_67 : decode cX8_takeFigures 67 = .ok (.iadd, 1) := by decide +kernel
theorem dX8_takeFigures_68 : decode cX8_takeFigures 68 = .ok (.putfield 19, 3) := by decide +kernel
theorem dX8_takeFigures_71 : decode cX8_takeFigures 71 = .ok (.goto (-69), 3) := by decide +kernel
theorem dX8_takeFigures_37 : decode cX8_takeFigures 37 = .ok (.if_icmp .ge 22, 3) := by decide +kernel
theorem dX8_takeFigures_59 : decode cX8_takeFigures 59 = .ok (.iconst (-1), 1) := by decide +kernel
theorem dX8_takeFigures_40 : decode cX8_takeFigures 40 = .ok (.bipush 10, 2) := by decide +kernel
theorem dX8_takeFigures_42 : decode cX8_takeFigures 42 = .ok (.iload_n 1, 1) := by decide +kernel
theorem dX8_takeFigures_43 : decode cX8_takeFigures 43 = .ok (.imul, 1) := by decide +kernel
theorem dX8_takeFigures_44 : decode cX8_takeFigures 44 = .ok (.aload_n 0, 1) := by decide +kernel
theorem dX8_takeFigures_45 : decode cX8_takeFigures 45 = .ok (.aload_n 0, 1) := by decide +kernel
theorem dX8_takeFigures_46 : decode cX8_takeFigures 46 = .ok (.getfield 19, 3) := by decide +kernel
theorem dX8_takeFigures_49 : decode cX8_takeFigures 49 = .ok (.invokevirtual 117, 3) := by decide +kernel
theorem dX8_takeFigures_52 : decode cX8_takeFigures 52 = .ok (.iadd, 1) := by decide +kernel
theorem dX8_takeFigures_53 : decode cX8_takeFigures 53 = .ok (.bipush 48, 2) := by decide +kernel
theorem dX8_takeFigures_55 : decode cX8_takeFigures 55 = .ok (.isub, 1) := by decide +kernel
theorem dX8_takeFigures_56 : decode cX8_takeFigures 56 = .ok (.goto 4, 3) := by decide +kernel
theorem dX8_takeToken_0 : decode cX8_takeToken 0 = .ok (.aload_n 0, 1) := by decide +kernel
theorem dX8_takeToken_1 : decode cX8_takeToken 1 = .ok (.getfield 19, 3) := by decide +kernel
theorem dX8_takeToken_4 : decode cX8_takeToken 4 = .ok (.aload_n 0, 1) := by decide +kernel
theorem dX8_takeToken_5 : decode cX8_takeToken 5 = .ok (.getfield 15, 3) := by decide +kernel
theorem dX8_takeToken_37 : decode cX8_takeToken 37 = .ok (.aload_n 0, 1) := by decide +kernel
theorem dX8_takeToken_38 : decode cX8_takeToken 38 = .ok (.aload_n 0, 1) := by decide +kernel
theorem dX8_takeToken_39 : decode cX8_takeToken 39 = .ok (.getfield 19, 3) := by decide +kernel
theorem dX8_takeToken_42 : decode cX8_takeToken 42 = .ok (.putfield 35, 3) := by decide +kernel
theorem dX8_takeToken_45 : decode cX8_takeToken 45 = .ok (.aload_n 0, 1) := by decide +kernel
theorem dX8_takeToken_46 : decode cX8_takeToken 46 = .ok (.iconst (-1), 1) := by decide +kernel
theorem dX8_takeToken_47 : decode cX8_takeToken 47 = .ok (.putfield 114, 3) := by decide +kernel
theorem dX8_takeToken_50 : decode cX8_takeToken 50 = .ok (.aload_n 0, 1) := by decide +kernel
theorem dX8_takeToken_51 : decode cX8_takeToken 51 = .ok (.aload_n 0, 1) := by decide +kernel
theorem dX8_takeToken_52 : decode cX8_takeToken 52 = .ok (.getfield 19, 3) := by decide +kernel
set_option maxRecDepth 20000 in
theorem ggX8_takeToken_X8_byteAt : GoodIn wsX8_takeToken wsX8_byteAt := goodIn_r _ [10, 2, 11, 26, 27, 28, 29, 30, 31, 32] (by decide +kernel) (by decide +kernel)
set_option maxRecDepth 20000 in
theorem gX8_takeToken_X8_byteAt : GoodIn wsX8_takeToken (wsV RX8 117 RX8 yX8_byteAt wsX8_byteAt) := goodIn_app (goodIn_of _ (by decide +kernel)) ggX8_takeToken_X8_byteAt
theorem dX8_takeToken_55 : decode cX8_takeToken 55 = .ok (.invokevirtual 117, 3) := by decide +kernel
theorem dX8_takeToken_58 : decode cX8_takeToken 58 = .ok (.istore_n 1, 1) := by decide +kernel
theorem dX8_takeToken_59 : decode cX8_takeToken 59 = .ok (.iload_n 1, 1) := by decide +kernel
theorem dX8_takeToken_60 : decode cX8_takeToken 60 = .ok (.iconst (-1), 1) := by decide +kernel
theorem dX8_takeToken_61 : decode cX8_takeToken 61 = .ok (.if_icmp .ne 11, 3) := by decide +kernel
theorem dX8_takeToken_72 : decode cX8_takeToken 72 = .ok (.iload_n 1, 1) := by decide +kernel
set_option maxRecDepth 20000 in
theorem ggX8_takeToken_X8_isLetter : GoodIn wsX8_takeToken wsX8_isLetter := goodIn_r _ [14] (by decide +kernel) (by decide +kernel)
set_option maxRecDepth 20000 in
theorem gX8_takeToken_X8_isLetter : GoodIn wsX8_takeToken (va_wsS RX8 121 yX8_isLetter wsX8_isLetter) := goodIn_app (goodIn_of _ (by decide +kernel)) ggX8_takeToken_X8_isLetter
theorem dX8_takeToken_73 : decode cX8_takeToken 73 = .ok (.invokestatic 121, 3) := by decide +kernel
theorem dX8_takeToken_76 : decode cX8_takeToken 76 = .ok (.ifCond .eq 15, 3) := by decide +kernel
theorem dX8_takeToken_91 : decode cX8_takeToken 91 = .ok (.iload_n 1, 1) := by decide +kernel
set_option maxRecDepth 20000 in
theorem ggX8_takeToken_X8_isFigure : GoodIn wsX8_takeToken wsX8_isFigure := goodIn_r _ [21] (by decide +kernel) (by decide +kernel)
set_option maxRecDepth 20000 in
theorem gX8_takeToken_X8_isFigure : GoodIn wsX8_takeToken (va_wsS RX8 127 yX8_isFigure wsX8_isFigure) := goodIn_app (goodIn_of _ (by decide +kernel)) ggX8_takeToken_X8_isFigure
theorem dX8_takeToken_92 : decode cX8_takeToken 92 = .ok (.invokestatic 127, 3) := by decide +kernel
theorem dX8_takeToken_95 : decode cX8_takeToken 95 = .ok (.ifCond .eq 15, 3) := by decide +kernel
theorem dX8_takeToken_110 : decode cX8_takeToken 110 = .ok (.aload_n 0, 1) := by decide +kernel
theorem dX8_takeToken_111 : decode cX8_takeToken 111 = .ok (.iload_n 1, 1) := by decide +kernel
theorem dX8_takeToken_112 : decode cX8_takeToken 112 = .ok (.bipush 45, 2) := by decide +kernel
theorem dX8_takeToken_132 : decode cX8_takeToken 132 = .ok (.putfield 28, 3) := by decide +kernel
theorem dX8_takeToken_135 : decode cX8_takeToken 135 = .ok (.aload_n 0, 1) := by decide +kernel
theorem dX8_takeToken_136 : decode cX8_takeToken 136 = .ok (.dup, 1) := by decide +kernel
theorem dX8_takeToken_137 : decode cX8_takeToken 137 = .ok (.getfield 19, 3) := by decide +kernel
theorem dX8_takeToken_140 : decode cX8_takeToken 140 = .ok (.iconst 1, 1) := by decide +kernel
theorem dX8_takeToken_141 : decode cX8_takeToken 141 = .ok (.iadd, 1) := by decide +kernel
theorem dX8_takeToken_142 : decode cX8_takeToken 142 = .ok (.putfield 19, 3) := by decide +kernel
theorem dX8_takeToken_145 : decode cX8_takeToken 145 = .ok (.return_, 1) := by decide +kernel
theorem dX8_takeToken_114 : decode cX8_takeToken 114 = .ok (.if_icmp .ne 7, 3) := by decide +kernel
theorem dX8_takeToken_121 : decode cX8_takeToken 121 = .ok (.iload_n 1, 1) := by decide +kernel
theorem dX8_takeToken_122 : decode cX8_takeToken 122 = .ok (.bipush 59, 2) := by decide +kernel
theorem dX8_takeToken_124 : decode cX8_takeToken 124 = .ok (.if_icmp .ne 7, 3) := by decide +kernel
theorem dX8_takeToken_131 : decode cX8_takeToken 131 = .ok (.iconst 5, 1) := by decide +kernel
theorem dX8_takeToken_127 : decode cX8_takeToken 127 = .ok (.iconst 4, 1) := by decide +kernel
theorem dX8_takeToken_128 : decode cX8_takeToken 128 = .ok (.goto 4, 3) := by decide +kernel
theorem dX8_takeToken_117 : decode cX8_takeToken 117 = .ok (.iconst 3, 1) := by decide +kernel
theorem dX8_takeToken_118 : decode cX8_takeToken 118 = .ok (.goto 14, 3) := by decide +kernel
theorem dX8_takeToken_98 : decode cX8_takeToken 98 = .ok (.aload_n 0, 1) := by decide +kernel
theorem dX8_takeToken_99 : decode cX8_takeToken 99 = .ok (.iconst 2, 1) := by decide +kernel
theorem dX8_takeToken_100 : decode cX8_takeToken 100 = .ok (.putfield 28, 3) := by decide +kernel
theorem dX8_takeToken_103 : decode cX8_takeToken 103 = .ok (.aload_n 0, 1) := by decide +kernel
set_option maxRecDepth 20000 in
theorem ggX8_takeToken_X8_takeFigures : GoodIn wsX8_takeToken wsX8_takeFigures := goodIn_r _ [25, 1, 2, 3, 4, 6, 7, 8, 9, 10, 11, 19, 20, 21, 26, 27, 28, 29, 30, 31, 32] (by decide +kernel) (by decide +kernel)
set_option maxRecDepth 20000 in
theorem gX8_takeToken_X8_takeFigures : GoodIn wsX8_takeToken (wsV RX8 130 RX8 yX8_takeFigures wsX8_takeFigures) := goodIn_app (goodIn_of _ (by decide +kernel)) ggX8_takeToken_X8_takeFigures
theorem dX8_takeToken_104 : decode cX8_takeToken 104 = .ok (.invokevirtual 130, 3) := by decide +kernel
theorem dX8_takeToken_107 : decode cX8_takeToken 107 = .ok (.goto 38, 3) := by decide +kernel
theorem dX8_takeToken_79 : decode cX8_takeToken 79 = .ok (.aload_n 0, 1) := by decide +kernel
theorem dX8_takeToken_80 : decode cX8_takeToken 80 = .ok (.iconst 1, 1) := by decide +kernel
theorem dX8_takeToken_81 : decode cX8_takeToken 81 = .ok (.putfield 28, 3) := by decide +kernel
theorem dX8_takeToken_84 : decode cX8_takeToken 84 = .ok (.aload_n 0, 1) := by decide +kernel
set_option maxRecDepth 20000 in
theorem ggX8_takeToken_X8_takeLetters : GoodIn wsX8_takeToken wsX8_takeLetters := goodIn_r _ [18, 1, 2, 6, 7, 8, 9, 10, 11, 12, 13, 14, 26, 27, 28, 29, 30, 31, 32] (by decide +kernel) (by decide +kernel)
set_option maxRecDepth 20000 in
theorem gX8_takeToken_X8_takeLetters : GoodIn wsX8_takeToken (wsV RX8 124 RX8 yX8_takeLetters wsX8_takeLetters) := goodIn_app (goodIn_of _ (by decide +kernel)) ggX8_takeToken_X8_takeLetters
theorem dX8_takeToken_85 : decode cX8_takeToken 85 = .ok (.invokevirtual 124, 3) := by decide +kernel
theorem dX8_takeToken_88 : decode cX8_takeToken 88 = .ok (.goto 57, 3) := by decide +kernel
theorem dX8_takeToken_64 : decode cX8_takeToken 64 = .ok (.aload_n 0, 1) := by decide +kernel
theorem dX8_takeToken_65 : decode cX8_takeToken 65 = .ok (.iconst 0, 1) := by decide +kernel
theorem dX8_takeToken_66 : decode cX8_takeToken 66 = .ok (.putfield 28, 3) := by decide +kernel
theorem dX8_takeToken_69 : decode cX8_takeToken 69 = .ok (.goto 76, 3) := by decide +kernel
theorem dX8_takeToken_8 : decode cX8_takeToken 8 = .ok (.if_icmp .ge 29, 3) := by decide +kernel
theorem dX8_takeToken_11 : decode cX8_takeToken 11 = .ok (.aload_n 0, 1) := by decide +kernel
theorem dX8_takeToken_12 : decode cX8_takeToken 12 = .ok (.aload_n 0, 1) := by decide +kernel
theorem dX8_takeToken_13 : decode cX8_takeToken 13 = .ok (.getfield 19, 3) := by decide +kernel
theorem dX8_takeToken_16 : decode cX8_takeToken 16 = .ok (.invokevirtual 117, 3) := by decide +kernel
theorem dX8_takeToken_19 : decode cX8_takeToken 19 = .ok (.bipush 32, 2) := by decide +kernel
theorem dX8_takeToken_21 : decode cX8_takeToken 21 = .ok (.if_icmp .ne 16, 3) := by decide +kernel
theorem dX8_takeToken_24 : decode cX8_takeToken 24 = .ok (.aload_n 0, 1) := by decide +kernel
theorem dX8_takeToken_25 : decode cX8_takeToken 25 = .ok (.dup, 1) := by decide +kernel
theorem dX8_takeToken_26 : decode cX8_takeToken 26 = .ok (.getfield 19, 3) := by decide +kernel
theorem dX8_takeToken_29 : decode cX8_takeToken 29 = .ok (.iconst 1, 1) := by decide +kernel
theorem dX8_takeToken_30 : decode cX8_takeToken 30 = .ok (.iadd, 1) := by decide +kernel
theorem dX8_takeToken_31 : decode cX8_takeToken 31 = .ok (.putfield 19, 3) := by decide +kernel
theorem dX8_takeToken_34 : decode cX8_takeToken 34 = .ok (.goto (-34), 3) := by decide +kernel
theorem dX8_refuseToken_0 : decode cX8_refuseToken 0 = .ok (.aload_n 0, 1) := by decide +kernel
theorem dX8_refuseToken_1 : decode cX8_refuseToken 1 = .ok (.getfield 22, 3) := by decide +kernel
theorem dX8_refuseToken_4 : decode cX8_refuseToken 4 = .ok (.iconst (-1), 1) := by decide +kernel
theorem dX8_refuseToken_5 : decode cX8_refuseToken 5 = .ok (.if_icmp .ne 11, 3) := by decide +kernel
theorem dX8_refuseToken_16 : decode cX8_refuseToken 16 = .ok (.return_, 1) := by decide +kernel
theorem dX8_refuseToken_8 : decode cX8_refuseToken 8 = .ok (.aload_n 0, 1) := by decide +kernel
theorem dX8_refuseToken_9 : decode cX8_refuseToken 9 = .ok (.aload_n 0, 1) := by decide +kernel
theorem dX8_refuseToken_10 : decode cX8_refuseToken 10 = .ok (.getfield 35, 3) := by decide +kernel
theorem dX8_refuseToken_13 : decode cX8_refuseToken 13 = .ok (.putfield 22, 3) := by decide +kernel
theorem dX8_numberWithin_0 : decode cX8_numberWithin 0 = .ok (.aload_n 0, 1) := by decide +kernel
theorem dX8_numberWithin_1 : decode cX8_numberWithin 1 = .ok (.getfield 22, 3) := by decide +kernel
theorem dX8_numberWithin_4 : decode cX8_numberWithin 4 = .ok (.iconst (-1), 1) := by decide +kernel
theorem dX8_numberWithin_5 : decode cX8_numberWithin 5 = .ok (.if_icmp .eq 5, 3) := by decide +kernel
theorem dX8_numberWithin_10 : decode cX8_numberWithin 10 = .ok (.aload_n 0, 1) := by decide +kernel
set_option maxRecDepth 20000 in
theorem ggX8_numberWithin_X8_takeToken : GoodIn wsX8_numberWithin wsX8_takeToken := goodIn_r _ [8, 9, 10, 11, 3, 2, 12, 13, 14, 7, 15, 16, 17, 18, 19, 20, 21, 22, 23, 24, 25, 26, 27, 28, 29, 30, 35, 36, 37, 38, 39, 40, 41] (by decide +kernel) (by decide +kernel)
set_option maxRecDepth 20000 in
theorem gX8_numberWithin_X8_takeToken : GoodIn wsX8_numberWithin (wsV RX8 25 RX8 yX8_takeToken wsX8_takeToken) := goodIn_app (goodIn_of _ (by decide +kernel)) ggX8_numberWithin_X8_takeToken
theorem dX8_numberWithin_11 : decode cX8_numberWithin 11 = .ok (.invokevirtual 25, 3) := by decide +kernel
theorem dX8_numberWithin_14 : decode cX8_numberWithin 14 = .ok (.aload_n 0, 1) := by decide +kernel
theorem dX8_numberWithin_15 : decode cX8_numberWithin 15 = .ok (.getfield 28, 3) := by decide +kernel
theorem dX8_numberWithin_18 : decode cX8_numberWithin 18 = .ok (.iconst 2, 1) := by decide +kernel
theorem dX8_numberWithin_19 : decode cX8_numberWithin 19 = .ok (.if_icmp .ne 19, 3) := by decide +kernel
theorem dX8_numberWithin_38 : decode cX8_numberWithin 38 = .ok (.aload_n 0, 1) := by decide +kernel
set_option maxRecDepth 20000 in
theorem ggX8_numberWithin_X8_refuseToken : GoodIn wsX8_numberWithin wsX8_refuseToken := goodIn_r _ [34, 1, 11, 35, 36, 37, 38, 39, 40, 41] (by decide +kernel) (by decide +kernel)
set_option maxRecDepth 20000 in
theorem gX8_numberWithin_X8_refuseToken : GoodIn wsX8_numberWithin (wsV RX8 64 RX8 yX8_refuseToken wsX8_refuseToken) := goodIn_app (goodIn_of _ (by decide +kernel)) ggX8_numberWithin_X8_refuseToken
theorem dX8_numberWithin_39 : decode cX8_numberWithin 39 = .ok (.invokevirtual 64, 3) := by decide +kernel
theorem dX8_numberWithin_42 : decode cX8_numberWithin 42 = .ok (.aload_n 0, 1) := by decide +kernel
theorem dX8_numberWithin_43 : decode cX8_numberWithin 43 = .ok (.getfield 114, 3) := by decide +kernel
theorem dX8_numberWithin_46 : decode cX8_numberWithin 46 = .ok (.ireturn, 1) := by decide +kernel
theorem dX8_numberWithin_22 : decode cX8_numberWithin 22 = .ok (.aload_n 0, 1) := by decide +kernel
theorem dX8_numberWithin_23 : decode cX8_numberWithin 23 = .ok (.getfield 114, 3) := by decide +kernel
theorem dX8_numberWithin_26 : decode cX8_numberWithin 26 = .ok (.iload_n 1, 1) := by decide +kernel
theorem dX8_numberWithin_27 : decode cX8_numberWithin 27 = .ok (.if_icmp .lt 11, 3) := by decide +kernel
theorem dX8_numberWithin_30 : decode cX8_numberWithin 30 = .ok (.aload_n 0, 1) := by decide +kernel
theorem dX8_numberWithin_31 : decode cX8_numberWithin 31 = .ok (.getfield 114, 3) := by decide +kernel
theorem dX8_numberWithin_34 : decode cX8_numberWithin 34 = .ok (.iload_n 2, 1) := by decide +kernel
theorem dX8_numberWithin_35 : decode cX8_numberWithin 35 = .ok (.if_icmp .le 7, 3) := by decide +kernel
theorem dX8_numberWithin_8 : decode cX8_numberWithin 8 = .ok (.iconst (-1), 1) := by decide +kernel
theorem dX8_numberWithin_9 : decode cX8_numberWithin 9 = .ok (.ireturn, 1) := by decide +kernel
theorem dX8_isEnded_0 : decode cX8_isEnded 0 = .ok (.aload_n 0, 1) := by decide +kernel
theorem dX8_isEnded_1 : decode cX8_isEnded 1 = .ok (.getfield 22, 3) := by decide +kernel
theorem dX8_isEnded_4 : decode cX8_isEnded 4 = .ok (.iconst (-1), 1) := by decide +kernel
theorem dX8_isEnded_5 : decode cX8_isEnded 5 = .ok (.if_icmp .eq 5, 3) := by decide +kernel
theorem dX8_isEnded_10 : decode cX8_isEnded 10 = .ok (.aload_n 0, 1) := by decide +kernel
set_option maxRecDepth 20000 in
theorem ggX8_isEnded_X8_takeToken : GoodIn wsX8_isEnded wsX8_takeToken := goodIn_r _ [7, 8, 9, 10, 11, 2, 12, 13, 14, 6, 15, 16, 17, 18, 19, 20, 21, 22, 23, 24, 25, 26, 27, 28, 29, 30, 35, 36, 37, 38, 39, 40, 41] (by decide +kernel) (by decide +kernel)
set_option maxRecDepth 20000 in
theorem gX8_isEnded_X8_takeToken : GoodIn wsX8_isEnded (wsV RX8 25 RX8 yX8_takeToken wsX8_takeToken) := goodIn_app (goodIn_of _ (by decide +kernel)) ggX8_isEnded_X8_takeToken
theorem dX8_isEnded_11 : decode cX8_isEnded 11 = .ok (.invokevirtual 25, 3) := by decide +kernel
theorem dX8_isEnded_14 : decode cX8_isEnded 14 = .ok (.aload_n 0, 1) := by decide +kernel
theorem dX8_isEnded_15 : decode cX8_isEnded 15 = .ok (.getfield 28, 3) := by decide +kernel
theorem dX8_isEnded_18 : decode cX8_isEnded 18 = .ok (.iconst 4, 1) := by decide +kernel
theorem dX8_isEnded_19 : decode cX8_isEnded 19 = .ok (.if_icmp .eq 7, 3) := by decide +kernel
theorem dX8_isEnded_26 : decode cX8_isEnded 26 = .ok (.aload_n 0, 1) := by decide +kernel
theorem dX8_isEnded_27 : decode cX8_isEnded 27 = .ok (.getfield 22, 3) := by decide +kernel
theorem dX8_isEnded_30 : decode cX8_isEnded 30 = .ok (.iconst (-1), 1) := by decide +kernel
theorem dX8_isEnded_31 : decode cX8_isEnded 31 = .ok (.if_icmp .ne 7, 3) := by decide +kernel
theorem dX8_isEnded_38 : decode cX8_isEnded 38 = .ok (.iconst 0, 1) := by decide +kernel
theorem dX8_isEnded_39 : decode cX8_isEnded 39 = .ok (.ireturn, 1) := by decide +kernel
theorem dX8_isEnded_34 : decode cX8_isEnded 34 = .ok (.iconst 1, 1) := by decide +kernel
theorem dX8_isEnded_35 : decode cX8_isEnded 35 = .ok (.goto 4, 3) := by decide +kernel
theorem dX8_isEnded_22 : decode cX8_isEnded 22 = .ok (.aload_n 0, 1) := by decide +kernel
set_option maxRecDepth 20000 in
theorem ggX8_isEnded_X8_refuseToken : GoodIn wsX8_isEnded wsX8_refuseToken := goodIn_r _ [34, 1, 10, 35, 36, 37, 38, 39, 40, 41] (by decide +kernel) (by decide +kernel)
set_option maxRecDepth 20000 in
theorem gX8_isEnded_X8_refuseToken : GoodIn wsX8_isEnded (wsV RX8 64 RX8 yX8_refuseToken wsX8_refuseToken) := goodIn_app (goodIn_of _ (by decide +kernel)) ggX8_isEnded_X8_refuseToken
theorem dX8_isEnded_23 : decode cX8_isEnded 23 = .ok (.invokevirtual 64, 3) := by decide +kernel
theorem dX8_isEnded_8 : decode cX8_isEnded 8 = .ok (.iconst 0, 1) := by decide +kernel
theorem dX8_isEnded_9 : decode cX8_isEnded 9 = .ok (.ireturn, 1) := by decide +kernel
set_option maxHeartbeats 4000000 in
set_option maxRecDepth 100000 in
theorem n_X8_byteAt (l : Launch) (D : va_G) (cy : Nat → ClassId) (a_pn : Nat) (a_by : Nat) (pn_length : Int32) (pn_next : Int32) (pn_sort : Int32) (pn_start : Int32) (pn_value : Int32) (pn_fault : Int32) (by_f : Nat → Int32) (px : Int32) (sz : Nat)  : Met l yX8_byteAt wsX8_byteAt ({ frames := 0, cells := 0, slots := 0, locals := 0 }) (va_Pc [.ref a_pn, .int px] (kPre D cy [(a_pn, .inr (8, [.ref a_by, .int pn_length, .int pn_next, .int pn_sort, .int pn_start, .int pn_value, .int pn_fault])), (a_by, .inl (cy 0, 250, .inl by_f))] sz)) (va_Qi (fun (r : Int32) (u : Unit) => r = -1 ∨ px < 250) (fun _ _ => True) (fun q : Nat => sz ≤ q)) 0 0 (fun q : Nat => sz ≤ q) := by
  refine Met.ofW (cc := cX8_byteAt) (maxL := 2) (ret := (some .int)) (by decide) rfl ?_
  intro p e s m args below meth c s₁ B hml hv
  obtain ⟨rfl, hsz, hP, hKA, hD0⟩ := hv
  have hx := B.exec
  have hb := B.bytes
  have hr := B.returns
  have hts := atoms_spec (ws := wsX8_byteAt) B.pre
  have hown : s.vm.findClass RX8 = some m.cls := findClass_of_methodNamed B.named
  have hlocks := B.notSynchronized
  subst hsz
  have hK := hKA.1
  have hD := hD0
  generalize hAe : (fun q : Nat => s.heap.size ≤ q) = A
  have hA : ∀ q : Nat, s.heap.size ≤ q → A q := fun q h => by rw [← hAe]; exact h
  have hS : va_S A s.heap s.heap [] := va_S.rf
  have hP : va_P D vwCl [(a_pn, .inr (8, [.ref a_by, .int pn_length, .int pn_next, .int pn_sort, .int pn_start, .int pn_value, .int pn_fault])), (a_by, .inl (cy 0, 250, .inl by_f))] s.heap := hP
  have hl := lv_entry ([.ref a_pn, .int px]) (n := 2) (Nat.le_of_ble_eq_true rfl)
  rw [lg_entry_eq]
  generalize (lg_sl ([.ref a_pn, .int px]) ++ List.replicate (2 - (lg_sl ([.ref a_pn, .int px])).length) Slot.unset).toArray = ls at hl ⊢
  have hl : lv_has ls 2 [(0, .ref a_pn), (1, .int px)] := hl
  refine qW (fun QF hQF => ?_)
  have z0_ := hts (.fieldLink RX8 15 "HeardSeen$Plan" "length" "I") (by decide +kernel)
  have zi8_ : ∀ w ∈ u_ws RX8 TX8 7, w ∈ wsX8_byteAt := by decide +kernel
  have z2_ := hts (.fieldLink RX8 9 "HeardSeen$Plan" "bytes" "[B") (by decide +kernel)
  refine lv_iload_n hx hb dX8_byteAt_0 rfl (lv_at hl 1 rfl) ?_
  refine lv_if_lt (tgt := 34) hx hb dX8_byteAt_1 (by decide) (fun c1 => ?_) (fun c1 => ?_)
  · skip
    refine lv_iconst (v := (-1)) hx hb dX8_byteAt_34 (by decide) ?_
    subst hQF
    exact W.iret (v := (-1)) hx hb hr (fun t ht hW => ⟨⟨(-1), (), rfl, (Or.inl rfl), trivial⟩, hS.F ht⟩) hS.2.2 dX8_byteAt_35
  · skip
    refine lv_iload_n hx hb dX8_byteAt_4 rfl (lv_at hl 1 rfl) ?_
    refine lv_aload_n hx hb dX8_byteAt_5 rfl (lv_at hl 0 rfl) ?_
    refine va_get (D := D) (ci := 8) (v := .int pn_length) (C := RX8) (T := TX8) (N := 7) hx hb hts zi8_ hown hK hP 0 rfl rfl 1 (by decide) z0_ (fun _ h9 => h9) rfl dX8_byteAt_6 ?_
    refine lv_icmp_ge (tgt := 34) hx hb dX8_byteAt_9 (by decide) (fun c2 => ?_) (fun c2 => ?_)
    · skip
      refine lv_iconst (v := (-1)) hx hb dX8_byteAt_34 (by decide) ?_
      subst hQF
      exact W.iret (v := (-1)) hx hb hr (fun t ht hW => ⟨⟨(-1), (), rfl, (Or.inl rfl), trivial⟩, hS.F ht⟩) hS.2.2 dX8_byteAt_35
    · skip
      refine lv_iload_n hx hb dX8_byteAt_12 rfl (lv_at hl 1 rfl) ?_
      refine lv_aload_n hx hb dX8_byteAt_13 rfl (lv_at hl 0 rfl) ?_
      refine va_get (D := D) (ci := 8) (v := .ref a_by) (C := RX8) (T := TX8) (N := 7) hx hb hts zi8_ hown hK hP 0 rfl rfl 0 (by decide) z2_ (fun _ h9 => h9) rfl dX8_byteAt_14 ?_
      refine va_alen hx hb hK hP 1 0 rfl rfl (v := 250) rfl dX8_byteAt_17 ?_
      refine lv_icmp_ge (tgt := 34) hx hb dX8_byteAt_18 (by decide) (fun c3 => ?_) (fun c3 => ?_)
      · skip
        refine lv_iconst (v := (-1)) hx hb dX8_byteAt_34 (by decide) ?_
        subst hQF
        exact W.iret (v := (-1)) hx hb hr (fun t ht hW => ⟨⟨(-1), (), rfl, (Or.inl rfl), trivial⟩, hS.F ht⟩) hS.2.2 dX8_byteAt_35
      · skip
        refine lv_aload_n hx hb dX8_byteAt_21 rfl (lv_at hl 0 rfl) ?_
        refine va_get (D := D) (ci := 8) (v := .ref a_by) (C := RX8) (T := TX8) (N := 7) hx hb hts zi8_ hown hK hP 0 rfl rfl 0 (by decide) z2_ (fun _ h9 => h9) rfl dX8_byteAt_22 ?_
        refine lv_iload_n hx hb dX8_byteAt_25 rfl (lv_at hl 1 rfl) ?_
        refine my_bald hx hb hK hP 1 0 rfl rfl (by first | exact in_x (N := 250) (by decide) (by assumption) (by assumption) | exact in_y (N := 250) (by decide) (by assumption) (by assumption) | exact in_z (N := 250) (by decide) (by assumption) (by assumption)) rfl dX8_byteAt_26 ?_
        refine lv_sipush (v := 255) hx hb dX8_byteAt_27 (by decide) ?_
        refine lv_iand hx hb dX8_byteAt_30 ?_
        refine lv_goto (tgt := 35) hx hb dX8_byteAt_31 (by decide) ?_
        refine lv_topi (fun x4 ex4 => ?_)
        subst hQF
        exact W.iret (v := x4) hx hb hr (fun t ht hW => ⟨⟨x4, (), rfl, (Or.inr (Int32.not_le.mp (by assumption))), trivial⟩, hS.F ht⟩) hS.2.2 dX8_byteAt_35

set_option maxHeartbeats 4000000 in
set_option maxRecDepth 100000 in
theorem n_X8_isLetter (l : Launch) (D : va_G) (cy : Nat → ClassId) (px : Int32) (sz : Nat)  : Met l yX8_isLetter wsX8_isLetter ({ frames := 0, cells := 0, slots := 0, locals := 0 }) (va_Pc [.int px] (kPre D cy [] sz)) (va_Qi (fun (r : Int32) (u : Unit) => (r = 1 ∧ True) ∨ (r = 0 ∧ True)) (fun _ _ => True) (fun q : Nat => sz ≤ q)) 0 0 (fun q : Nat => sz ≤ q) := by
  refine Met.ofW (cc := cX8_isLetter) (maxL := 1) (ret := (some .boolean)) (by decide) rfl ?_
  intro p e s m args below meth c s₁ B hml hv
  obtain ⟨rfl, hsz, hP, hKA, hD0⟩ := hv
  have hx := B.exec
  have hb := B.bytes
  have hr := B.returns
  have hts := atoms_spec (ws := wsX8_isLetter) B.pre
  have hown : s.vm.findClass RX8 = some m.cls := findClass_of_methodNamed B.named
  have hlocks := B.notSynchronized
  subst hsz
  have hK := hKA.1
  have hD := hD0
  generalize hAe : (fun q : Nat => s.heap.size ≤ q) = A
  have hA : ∀ q : Nat, s.heap.size ≤ q → A q := fun q h => by rw [← hAe]; exact h
  have hS : va_S A s.heap s.heap [] := va_S.rf
  have hP : va_P D vwCl [] s.heap := hP
  have hl := lv_entry ([.int px]) (n := 1) (Nat.le_of_ble_eq_true rfl)
  rw [lg_entry_eq]
  generalize (lg_sl ([.int px]) ++ List.replicate (1 - (lg_sl ([.int px])).length) Slot.unset).toArray = ls at hl ⊢
  have hl : lv_has ls 1 [(0, .int px)] := hl
  refine qW (fun QF hQF => ?_)
  refine lv_iload_n hx hb dX8_isLetter_0 rfl (lv_at hl 0 rfl) ?_
  refine lv_bipush (v := 97) hx hb dX8_isLetter_1 (by decide) ?_
  refine lv_icmp_lt (tgt := 16) hx hb dX8_isLetter_3 (by decide) (fun c1 => ?_) (fun c1 => ?_)
  · skip
    refine lv_iconst (v := 0) hx hb dX8_isLetter_16 (by decide) ?_
    subst hQF
    exact W.zret (v := 0) hx hb hr rfl (fun t ht hW => ⟨⟨0, (), rfl, (Or.inr ⟨rfl, trivial⟩), trivial⟩, hS.F ht⟩) hS.2.2 dX8_isLetter_17
  · skip
    refine lv_iload_n hx hb dX8_isLetter_6 rfl (lv_at hl 0 rfl) ?_
    refine lv_bipush (v := 122) hx hb dX8_isLetter_7 (by decide) ?_
    refine lv_icmp_gt (tgt := 16) hx hb dX8_isLetter_9 (by decide) (fun c2 => ?_) (fun c2 => ?_)
    · skip
      refine lv_iconst (v := 0) hx hb dX8_isLetter_16 (by decide) ?_
      subst hQF
      exact W.zret (v := 0) hx hb hr rfl (fun t ht hW => ⟨⟨0, (), rfl, (Or.inr ⟨rfl, trivial⟩), trivial⟩, hS.F ht⟩) hS.2.2 dX8_isLetter_17
    · skip
      refine lv_iconst (v := 1) hx hb dX8_isLetter_12 (by decide) ?_
      refine lv_goto (tgt := 17) hx hb dX8_isLetter_13 (by decide) ?_
      subst hQF
      exact W.zret (v := 1) hx hb hr rfl (fun t ht hW => ⟨⟨1, (), rfl, (Or.inl ⟨rfl, trivial⟩), trivial⟩, hS.F ht⟩) hS.2.2 dX8_isLetter_17

set_option maxHeartbeats 4000000 in
set_option maxRecDepth 100000 in
theorem n_X8_isFigure (l : Launch) (D : va_G) (cy : Nat → ClassId) (px : Int32) (sz : Nat)  : Met l yX8_isFigure wsX8_isFigure ({ frames := 0, cells := 0, slots := 0, locals := 0 }) (va_Pc [.int px] (kPre D cy [] sz)) (va_Qi (fun (r : Int32) (u : Unit) => (r = 1 ∧ True) ∨ (r = 0 ∧ True)) (fun _ _ => True) (fun q : Nat => sz ≤ q)) 0 0 (fun q : Nat => sz ≤ q) := by
  refine Met.ofW (cc := cX8_isFigure) (maxL := 1) (ret := (some .boolean)) (by decide) rfl ?_
  intro p e s m args below meth c s₁ B hml hv
  obtain ⟨rfl, hsz, hP, hKA, hD0⟩ := hv
  have hx := B.exec
  have hb := B.bytes
  have hr := B.returns
  have hts := atoms_spec (ws := wsX8_isFigure) B.pre
  have hown : s.vm.findClass RX8 = some m.cls := findClass_of_methodNamed B.named
  have hlocks := B.notSynchronized
  subst hsz
  have hK := hKA.1
  have hD := hD0
  generalize hAe : (fun q : Nat => s.heap.size ≤ q) = A
  have hA : ∀ q : Nat, s.heap.size ≤ q → A q := fun q h => by rw [← hAe]; exact h
  have hS : va_S A s.heap s.heap [] := va_S.rf
  have hP : va_P D vwCl [] s.heap := hP
  have hl := lv_entry ([.int px]) (n := 1) (Nat.le_of_ble_eq_true rfl)
  rw [lg_entry_eq]
  generalize (lg_sl ([.int px]) ++ List.replicate (1 - (lg_sl ([.int px])).length) Slot.unset).toArray = ls at hl ⊢
  have hl : lv_has ls 1 [(0, .int px)] := hl
  refine qW (fun QF hQF => ?_)
  refine lv_iload_n hx hb dX8_isFigure_0 rfl (lv_at hl 0 rfl) ?_
  refine lv_bipush (v := 48) hx hb dX8_isFigure_1 (by decide) ?_
  refine lv_icmp_lt (tgt := 16) hx hb dX8_isFigure_3 (by decide) (fun c1 => ?_) (fun c1 => ?_)
  · skip
    refine lv_iconst (v := 0) hx hb dX8_isFigure_16 (by decide) ?_
    subst hQF
    exact W.zret (v := 0) hx hb hr rfl (fun t ht hW => ⟨⟨0, (), rfl, (Or.inr ⟨rfl, trivial⟩), trivial⟩, hS.F ht⟩) hS.2.2 dX8_isFigure_17
  · skip
    refine lv_iload_n hx hb dX8_isFigure_6 rfl (lv_at hl 0 rfl) ?_
    refine lv_bipush (v := 57) hx hb dX8_isFigure_7 (by decide) ?_
    refine lv_icmp_gt (tgt := 16) hx hb dX8_isFigure_9 (by decide) (fun c2 => ?_) (fun c2 => ?_)
    · skip
      refine lv_iconst (v := 0) hx hb dX8_isFigure_16 (by decide) ?_
      subst hQF
      exact W.zret (v := 0) hx hb hr rfl (fun t ht hW => ⟨⟨0, (), rfl, (Or.inr ⟨rfl, trivial⟩), trivial⟩, hS.F ht⟩) hS.2.2 dX8_isFigure_17
    · skip
      refine lv_iconst (v := 1) hx hb dX8_isFigure_12 (by decide) ?_
      refine lv_goto (tgt := 17) hx hb dX8_isFigure_13 (by decide) ?_
      subst hQF
      exact W.zret (v := 1) hx hb hr rfl (fun t ht hW => ⟨⟨1, (), rfl, (Or.inl ⟨rfl, trivial⟩), trivial⟩, hS.F ht⟩) hS.2.2 dX8_isFigure_17

set_option maxHeartbeats 4000000 in
set_option maxRecDepth 100000 in
theorem n_X8_takeLetters (l : Launch) (D : va_G) (cy : Nat → ClassId) (a_pn : Nat) (a_by : Nat) (pn_length : Int32) (pn_next : Int32) (pn_sort : Int32) (pn_start : Int32) (pn_value : Int32) (pn_fault : Int32) (by_f : Nat → Int32) (sz : Nat) (hnx : 0 ≤ pn_next) : Met l yX8_takeLetters wsX8_takeLetters ({ frames := 1, cells := 0, slots := 0, locals := 21 }) (va_Pc [.ref a_pn] (kPre D cy [(a_pn, .inr (8, [.ref a_by, .int pn_length, .int pn_next, .int pn_sort, .int pn_start, .int pn_value, .int pn_fault])), (a_by, .inl (cy 0, 250, .inl by_f))] sz)) (va_Qv (fun (u : Int32) => 0 ≤ u) (fun (u : Int32) t => va_P D vwCl ([(a_pn, .inr (8, [.ref a_by, .int pn_length, .int u, .int pn_sort, .int pn_start, .int pn_value, .int pn_fault])), (a_by, .inl (cy 0, 250, .inl by_f))]) t.heap ∧ va_D (va_A [(a_pn, .inr (8, [.ref a_by, .int pn_length, .int pn_next, .int pn_sort, .int pn_start, .int pn_value, .int pn_fault])), (a_by, .inl (cy 0, 250, .inl by_f))] sz) ([(a_pn, .inr (8, [.ref a_by, .int pn_length, .int u, .int pn_sort, .int pn_start, .int pn_value, .int pn_fault])), (a_by, .inl (cy 0, 250, .inl by_f))])) (va_A [(a_pn, .inr (8, [.ref a_by, .int pn_length, .int pn_next, .int pn_sort, .int pn_start, .int pn_value, .int pn_fault])), (a_by, .inl (cy 0, 250, .inl by_f))] sz)) 0 0 (va_A [(a_pn, .inr (8, [.ref a_by, .int pn_length, .int pn_next, .int pn_sort, .int pn_start, .int pn_value, .int pn_fault])), (a_by, .inl (cy 0, 250, .inl by_f))] sz) := by
  refine Met.ofW (cc := cX8_takeLetters) (maxL := 1) (ret := none) (by decide) rfl ?_
  intro p e s m args below meth c s₁ B hml hv
  obtain ⟨rfl, hsz, hP, hKA, hD0⟩ := hv
  have hx := B.exec
  have hb := B.bytes
  have hr := B.returns
  have hts := atoms_spec (ws := wsX8_takeLetters) B.pre
  have hown : s.vm.findClass RX8 = some m.cls := findClass_of_methodNamed B.named
  have hlocks := B.notSynchronized
  subst hsz
  have hK := hKA.1
  have hD := hD0.self (sz := s.heap.size)
  generalize hAe : va_A [(a_pn, .inr (8, [.ref a_by, .int pn_length, .int pn_next, .int pn_sort, .int pn_start, .int pn_value, .int pn_fault])), (a_by, .inl (cy 0, 250, .inl by_f))] s.heap.size = A at hD ⊢
  have hA : ∀ q : Nat, s.heap.size ≤ q → A q := fun q h => by rw [← hAe]; exact Or.inr h
  have hS : va_S A s.heap s.heap [] := va_S.rf
  have hP : va_P D vwCl [(a_pn, .inr (8, [.ref a_by, .int pn_length, .int pn_next, .int pn_sort, .int pn_start, .int pn_value, .int pn_fault])), (a_by, .inl (cy 0, 250, .inl by_f))] s.heap := hP
  have hl := lv_entry ([.ref a_pn]) (n := 1) (Nat.le_of_ble_eq_true rfl)
  rw [lg_entry_eq]
  generalize (lg_sl ([.ref a_pn]) ++ List.replicate (1 - (lg_sl ([.ref a_pn])).length) Slot.unset).toArray = ls at hl ⊢
  have hl : lv_has ls 1 [(0, .ref a_pn)] := hl
  refine qW (fun QF hQF => ?_)
  have z0_ := hts (.fieldLink RX8 19 "HeardSeen$Plan" "next" "I") (by decide +kernel)
  have zi8_ : ∀ w ∈ u_ws RX8 TX8 7, w ∈ wsX8_takeLetters := by decide +kernel
  have z2_ := hts (.fieldLink RX8 15 "HeardSeen$Plan" "length" "I") (by decide +kernel)
  have lp0 : ∀ (n0 : Nat) (u_pn_2_0 : Int32) (hn0 : 0 ≤ u_pn_2_0), (2147483647 - (u_pn_2_0 : Int32).toInt).toNat < n0 → ∀ (H : Heap) (locs : List Loc), va_P D vwCl [(a_pn, .inr (8, [.ref a_by, .int pn_length, .int u_pn_2_0, .int pn_sort, .int pn_start, .int pn_value, .int pn_fault])), (a_by, .inl (cy 0, 250, .inl by_f))] H → va_D A [(a_pn, .inr (8, [.ref a_by, .int pn_length, .int u_pn_2_0, .int pn_sort, .int pn_start, .int pn_value, .int pn_fault])), (a_by, .inl (cy 0, 250, .inl by_f))] → va_S A s.heap H locs → ∀ ls : Array Slot, lv_has ls 1 [(0, .ref a_pn)] → W p l e (headSpec wsX8_takeLetters ({ frames := 1, cells := 0, slots := 0, locals := 21 })).room s m [.ref a_pn].toArray below meth c H locs 0 0 QF (F0 m 0 ls []) := by
    intro n0
    induction n0 with
    | zero => intro u_pn_2_0 hn0 hm; exact absurd hm (Nat.not_lt_zero _)
    | succ n0 ih0 =>
      intro u_pn_2_0 hn0 hm0 H locs hP hD hS ls hl
      refine lv_aload_n hx hb dX8_takeLetters_0 rfl (lv_at hl 0 rfl) ?_
      refine va_get (D := D) (ci := 8) (v := .int u_pn_2_0) (C := RX8) (T := TX8) (N := 7) hx hb hts zi8_ hown hK hP 0 rfl rfl 2 (by decide) z0_ (fun _ h9 => h9) rfl dX8_takeLetters_1 ?_
      refine lv_aload_n hx hb dX8_takeLetters_4 rfl (lv_at hl 0 rfl) ?_
      refine va_get (D := D) (ci := 8) (v := .int pn_length) (C := RX8) (T := TX8) (N := 7) hx hb hts zi8_ hown hK hP 0 rfl rfl 1 (by decide) z2_ (fun _ h9 => h9) rfl dX8_takeLetters_5 ?_
      refine lv_icmp_ge (tgt := 38) hx hb dX8_takeLetters_8 (by decide) (fun c1 => ?_) (fun c1 => ?_)
      · skip
        subst hQF
        have hP9 := hP
        have hD9 := hD
        exact W.vret hx hb hr (fun t ht hW => ⟨⟨u_pn_2_0, rfl, (by assumption), by rw [ht]; exact hP9, hD9⟩, hS.F ht⟩) hS.2.2 dX8_takeLetters_38
      · skip
        refine lv_aload_n hx hb dX8_takeLetters_11 rfl (lv_at hl 0 rfl) ?_
        refine lv_aload_n hx hb dX8_takeLetters_12 rfl (lv_at hl 0 rfl) ?_
        refine va_get (D := D) (ci := 8) (v := .int u_pn_2_0) (C := RX8) (T := TX8) (N := 7) hx hb hts zi8_ hown hK hP 0 rfl rfl 2 (by decide) z0_ (fun _ h9 => h9) rfl dX8_takeLetters_13 ?_
        refine rd_i (va_runV (As := [.int u_pn_2_0]) (rest := []) ⟨hx, hb, hml, hown, hts⟩ (n_X8_byteAt l D cy a_pn a_by pn_length u_pn_2_0 pn_sort pn_start pn_value pn_fault by_f u_pn_2_0 _ ) (cwV 1 hts gX8_takeLetters_X8_byteAt rfl rfl rfl (by decide +kernel) ⟨Nat.le_of_ble_eq_true rfl, Nat.le_of_ble_eq_true rfl⟩) (pV (ci := 8) (k := 0) hKA (hP.sub (ws' := [(a_pn, .inr (8, [.ref a_by, .int pn_length, .int u_pn_2_0, .int pn_sort, .int pn_start, .int pn_value, .int pn_fault])), (a_by, .inl (cy 0, 250, .inl by_f))]) [0, 1] rfl) (hD.sub (ws' := [(a_pn, .inr (8, [.ref a_by, .int pn_length, .int u_pn_2_0, .int pn_sort, .int pn_start, .int pn_value, .int pn_fault])), (a_by, .inl (cy 0, 250, .inl by_f))]) [0, 1] (by decide) rfl) rfl rfl) rfl rfl hl.1 rfl (lv_room (Nat.le_of_ble_eq_true rfl)) dX8_takeLetters_16 ⟨Nat.le_of_ble_eq_true rfl, Nat.le_of_ble_eq_true rfl⟩) hP hS hA (fun r2 H locs hwr2 hP hS => ?_)
        have hwr2 : r2 = -1 ∨ u_pn_2_0 < 250 := hwr2
        refine rd_i (va_runS (As := [.int r2]) (rest := []) ⟨hx, hb, hml, hown, hts⟩ (n_X8_isLetter l D cy r2 _ ) (va_cwS 1 hts gX8_takeLetters_X8_isLetter rfl rfl rfl (by decide +kernel) ⟨Nat.le_of_ble_eq_true rfl, Nat.le_of_ble_eq_true rfl⟩) (pS hKA pE (dE (A := A))) rfl rfl hl.1 rfl (lv_room (Nat.le_of_ble_eq_true rfl)) dX8_takeLetters_19 ⟨Nat.le_of_ble_eq_true rfl, Nat.le_of_ble_eq_true rfl⟩) hP hS hA (fun r3 H locs hwr3 hP hS => ?_)
        have hwr3 : (r3 = 1 ∧ True) ∨ (r3 = 0 ∧ True) := hwr3
        refine lv_if_eq (tgt := 38) hx hb dX8_takeLetters_22 (by decide) (fun c4 => ?_) (fun c4 => ?_)
        · skip
          subst hQF
          have hP9 := hP
          have hD9 := hD
          exact W.vret hx hb hr (fun t ht hW => ⟨⟨u_pn_2_0, rfl, (by assumption), by rw [ht]; exact hP9, hD9⟩, hS.F ht⟩) hS.2.2 dX8_takeLetters_38
        · skip
          refine lv_aload_n hx hb dX8_takeLetters_25 rfl (lv_at hl 0 rfl) ?_
          refine lv_dup hx hb dX8_takeLetters_26 rfl ?_
          refine va_get (D := D) (ci := 8) (v := .int u_pn_2_0) (C := RX8) (T := TX8) (N := 7) hx hb hts zi8_ hown hK hP 0 rfl rfl 2 (by decide) z0_ (fun _ h9 => h9) rfl dX8_takeLetters_27 ?_
          refine lv_iconst (v := 1) hx hb dX8_takeLetters_30 (by decide) ?_
          refine lv_iadd hx hb dX8_takeLetters_31 ?_
          refine va_put (D := D) (ci := 8) (v := .int (u_pn_2_0 + 1)) (ty := .int) (C := RX8) (T := TX8) (N := 7) hx hb hts zi8_ tyX8 tyX8_ok nmX8 hown hK hP hD hS 0 rfl rfl 2 (by decide) z0_ (fun _ h9 => h9) rfl (by decide +kernel) rfl rfl (Nat.le_of_ble_eq_true rfl) dX8_takeLetters_32 (fun H locs hP hD hS => ?_)
          have hP : va_P D vwCl [(a_pn, .inr (8, [.ref a_by, .int pn_length, .int (u_pn_2_0 + 1), .int pn_sort, .int pn_start, .int pn_value, .int pn_fault])), (a_by, .inl (cy 0, 250, .inl by_f))] H := hP
          have hD : va_D A [(a_pn, .inr (8, [.ref a_by, .int pn_length, .int (u_pn_2_0 + 1), .int pn_sort, .int pn_start, .int pn_value, .int pn_fault])), (a_by, .inl (cy 0, 250, .inl by_f))] := hD
          refine lv_goto (tgt := 0) hx hb dX8_takeLetters_35 (by decide) ?_
          exact ih0 (u_pn_2_0 + 1) (z_nnL (by assumption) hn0) (z_upL (by assumption) hm0 rfl) _ _ hP hD hS ls hl
  exact lp0 ((2147483647 - (pn_next : Int32).toInt).toNat + 1) pn_next hnx (Nat.lt_succ_self _) _ _ hP hD hS ls hl

set_option maxHeartbeats 4000000 in
set_option maxRecDepth 100000 in
theorem n_X8_takeFigures (l : Launch) (D : va_G) (cy : Nat → ClassId) (a_pn : Nat) (a_by : Nat) (pn_length : Int32) (pn_next : Int32) (pn_sort : Int32) (pn_start : Int32) (pn_value : Int32) (pn_fault : Int32) (by_f : Nat → Int32) (sz : Nat) (hnx : 0 ≤ pn_next) : Met l yX8_takeFigures wsX8_takeFigures ({ frames := 1, cells := 0, slots := 0, locals := 21 }) (va_Pc [.ref a_pn] (kPre D cy [(a_pn, .inr (8, [.ref a_by, .int pn_length, .int pn_next, .int pn_sort, .int pn_start, .int pn_value, .int pn_fault])), (a_by, .inl (cy 0, 250, .inl by_f))] sz)) (va_Qv (fun (u : Int32 × Int32) => 0 ≤ u.1) (fun (u : Int32 × Int32) t => va_P D vwCl ([(a_pn, .inr (8, [.ref a_by, .int pn_length, .int u.1, .int pn_sort, .int pn_start, .int u.2, .int pn_fault])), (a_by, .inl (cy 0, 250, .inl by_f))]) t.heap ∧ va_D (va_A [(a_pn, .inr (8, [.ref a_by, .int pn_length, .int pn_next, .int pn_sort, .int pn_start, .int pn_value, .int pn_fault])), (a_by, .inl (cy 0, 250, .inl by_f))] sz) ([(a_pn, .inr (8, [.ref a_by, .int pn_length, .int u.1, .int pn_sort, .int pn_start, .int u.2, .int pn_fault])), (a_by, .inl (cy 0, 250, .inl by_f))])) (va_A [(a_pn, .inr (8, [.ref a_by, .int pn_length, .int pn_next, .int pn_sort, .int pn_start, .int pn_value, .int pn_fault])), (a_by, .inl (cy 0, 250, .inl by_f))] sz)) 0 0 (va_A [(a_pn, .inr (8, [.ref a_by, .int pn_length, .int pn_next, .int pn_sort, .int pn_start, .int pn_value, .int pn_fault])), (a_by, .inl (cy 0, 250, .inl by_f))] sz) := by
  refine Met.ofW (cc := cX8_takeFigures) (maxL := 2) (ret := none) (by decide) rfl ?_
  intro p e s m args below meth c s₁ B hml hv
  obtain ⟨rfl, hsz, hP, hKA, hD0⟩ := hv
  have hx := B.exec
  have hb := B.bytes
  have hr := B.returns
  have hts := atoms_spec (ws := wsX8_takeFigures) B.pre
  have hown : s.vm.findClass RX8 = some m.cls := findClass_of_methodNamed B.named
  have hlocks := B.notSynchronized
  subst hsz
  have hK := hKA.1
  have hD := hD0.self (sz := s.heap.size)
  generalize hAe : va_A [(a_pn, .inr (8, [.ref a_by, .int pn_length, .int pn_next, .int pn_sort, .int pn_start, .int pn_value, .int pn_fault])), (a_by, .inl (cy 0, 250, .inl by_f))] s.heap.size = A at hD ⊢
  have hA : ∀ q : Nat, s.heap.size ≤ q → A q := fun q h => by rw [← hAe]; exact Or.inr h
  have hS : va_S A s.heap s.heap [] := va_S.rf
  have hP : va_P D vwCl [(a_pn, .inr (8, [.ref a_by, .int pn_length, .int pn_next, .int pn_sort, .int pn_start, .int pn_value, .int pn_fault])), (a_by, .inl (cy 0, 250, .inl by_f))] s.heap := hP
  have hl := lv_entry ([.ref a_pn]) (n := 2) (Nat.le_of_ble_eq_true rfl)
  rw [lg_entry_eq]
  generalize (lg_sl ([.ref a_pn]) ++ List.replicate (2 - (lg_sl ([.ref a_pn])).length) Slot.unset).toArray = ls at hl ⊢
  have hl : lv_has ls 2 [(0, .ref a_pn)] := hl
  refine qW (fun QF hQF => ?_)
  have z0_ := hts (.fieldLink RX8 19 "HeardSeen$Plan" "next" "I") (by decide +kernel)
  have zi8_ : ∀ w ∈ u_ws RX8 TX8 7, w ∈ wsX8_takeFigures := by decide +kernel
  have z2_ := hts (.fieldLink RX8 15 "HeardSeen$Plan" "length" "I") (by decide +kernel)
  have z3_ := hts (.fieldLink RX8 114 "HeardSeen$Plan" "value" "I") (by decide +kernel)
  have z4_ := hts (.fieldLink RX8 35 "HeardSeen$Plan" "start" "I") (by decide +kernel)
  refine lv_iconst (v := 0) hx hb dX8_takeFigures_0 (by decide) ?_
  refine lv_istore_n (lv' := [(1, .int 0), (0, .ref a_pn)]) hx hb dX8_takeFigures_1 rfl hl (by decide) rfl (fun ls hl => ?_)
  have lp2 : ∀ (n2 : Nat) (v1_2 : Int32) (u_pn_2_2 : Int32) (hn2 : 0 ≤ u_pn_2_2), (2147483647 - (u_pn_2_2 : Int32).toInt).toNat < n2 → ∀ (H : Heap) (locs : List Loc), va_P D vwCl [(a_pn, .inr (8, [.ref a_by, .int pn_length, .int u_pn_2_2, .int pn_sort, .int pn_start, .int pn_value, .int pn_fault])), (a_by, .inl (cy 0, 250, .inl by_f))] H → va_D A [(a_pn, .inr (8, [.ref a_by, .int pn_length, .int u_pn_2_2, .int pn_sort, .int pn_start, .int pn_value, .int pn_fault])), (a_by, .inl (cy 0, 250, .inl by_f))] → va_S A s.heap H locs → ∀ ls : Array Slot, lv_has ls 2 [(1, .int v1_2), (0, .ref a_pn)] → W p l e (headSpec wsX8_takeFigures ({ frames := 1, cells := 0, slots := 0, locals := 21 })).room s m [.ref a_pn].toArray below meth c H locs 0 0 QF (F0 m 2 ls []) := by
    intro n2
    induction n2 with
    | zero => intro v1_2 u_pn_2_2 hn2 hm; exact absurd hm (Nat.not_lt_zero _)
    | succ n2 ih2 =>
      intro v1_2 u_pn_2_2 hn2 hm2 H locs hP hD hS ls hl
      refine lv_aload_n hx hb dX8_takeFigures_2 rfl (lv_at hl 1 rfl) ?_
      refine va_get (D := D) (ci := 8) (v := .int u_pn_2_2) (C := RX8) (T := TX8) (N := 7) hx hb hts zi8_ hown hK hP 0 rfl rfl 2 (by decide) z0_ (fun _ h9 => h9) rfl dX8_takeFigures_3 ?_
      refine lv_aload_n hx hb dX8_takeFigures_6 rfl (lv_at hl 1 rfl) ?_
      refine va_get (D := D) (ci := 8) (v := .int pn_length) (C := RX8) (T := TX8) (N := 7) hx hb hts zi8_ hown hK hP 0 rfl rfl 1 (by decide) z2_ (fun _ h9 => h9) rfl dX8_takeFigures_7 ?_
      refine lv_icmp_ge (tgt := 74) hx hb dX8_takeFigures_10 (by decide) (fun c1 => ?_) (fun c1 => ?_)
      · skip
        refine lv_aload_n hx hb dX8_takeFigures_74 rfl (lv_at hl 1 rfl) ?_
        refine lv_iload_n hx hb dX8_takeFigures_75 rfl (lv_at hl 0 rfl) ?_
        refine va_put (D := D) (ci := 8) (v := .int v1_2) (ty := .int) (C := RX8) (T := TX8) (N := 7) hx hb hts zi8_ tyX8 tyX8_ok nmX8 hown hK hP hD hS 0 rfl rfl 5 (by decide) z3_ (fun _ h9 => h9) rfl (by decide +kernel) rfl rfl (Nat.le_of_ble_eq_true rfl) dX8_takeFigures_76 (fun H locs hP hD hS => ?_)
        have hP : va_P D vwCl [(a_pn, .inr (8, [.ref a_by, .int pn_length, .int u_pn_2_2, .int pn_sort, .int pn_start, .int v1_2, .int pn_fault])), (a_by, .inl (cy 0, 250, .inl by_f))] H := hP
        have hD : va_D A [(a_pn, .inr (8, [.ref a_by, .int pn_length, .int u_pn_2_2, .int pn_sort, .int pn_start, .int v1_2, .int pn_fault])), (a_by, .inl (cy 0, 250, .inl by_f))] := hD
        subst hQF
        have hP9 := hP
        have hD9 := hD
        exact W.vret hx hb hr (fun t ht hW => ⟨⟨(u_pn_2_2, v1_2), rfl, (by assumption), by rw [ht]; exact hP9, hD9⟩, hS.F ht⟩) hS.2.2 dX8_takeFigures_79
      · skip
        refine lv_aload_n hx hb dX8_takeFigures_13 rfl (lv_at hl 1 rfl) ?_
        refine lv_aload_n hx hb dX8_takeFigures_14 rfl (lv_at hl 1 rfl) ?_
        refine va_get (D := D) (ci := 8) (v := .int u_pn_2_2) (C := RX8) (T := TX8) (N := 7) hx hb hts zi8_ hown hK hP 0 rfl rfl 2 (by decide) z0_ (fun _ h9 => h9) rfl dX8_takeFigures_15 ?_
        refine rd_i (va_runV (As := [.int u_pn_2_2]) (rest := []) ⟨hx, hb, hml, hown, hts⟩ (n_X8_byteAt l D cy a_pn a_by pn_length u_pn_2_2 pn_sort pn_start pn_value pn_fault by_f u_pn_2_2 _ ) (cwV 1 hts gX8_takeFigures_X8_byteAt rfl rfl rfl (by decide +kernel) ⟨Nat.le_of_ble_eq_true rfl, Nat.le_of_ble_eq_true rfl⟩) (pV (ci := 8) (k := 0) hKA (hP.sub (ws' := [(a_pn, .inr (8, [.ref a_by, .int pn_length, .int u_pn_2_2, .int pn_sort, .int pn_start, .int pn_value, .int pn_fault])), (a_by, .inl (cy 0, 250, .inl by_f))]) [0, 1] rfl) (hD.sub (ws' := [(a_pn, .inr (8, [.ref a_by, .int pn_length, .int u_pn_2_2, .int pn_sort, .int pn_start, .int pn_value, .int pn_fault])), (a_by, .inl (cy 0, 250, .inl by_f))]) [0, 1] (by decide) rfl) rfl rfl) rfl rfl hl.1 rfl (lv_room (Nat.le_of_ble_eq_true rfl)) dX8_takeFigures_18 ⟨Nat.le_of_ble_eq_true rfl, Nat.le_of_ble_eq_true rfl⟩) hP hS hA (fun r2 H locs hwr2 hP hS => ?_)
        have hwr2 : r2 = -1 ∨ u_pn_2_2 < 250 := hwr2
        refine rd_i (va_runS (As := [.int r2]) (rest := []) ⟨hx, hb, hml, hown, hts⟩ (n_X8_isFigure l D cy r2 _ ) (va_cwS 1 hts gX8_takeFigures_X8_isFigure rfl rfl rfl (by decide +kernel) ⟨Nat.le_of_ble_eq_true rfl, Nat.le_of_ble_eq_true rfl⟩) (pS hKA pE (dE (A := A))) rfl rfl hl.1 rfl (lv_room (Nat.le_of_ble_eq_true rfl)) dX8_takeFigures_21 ⟨Nat.le_of_ble_eq_true rfl, Nat.le_of_ble_eq_true rfl⟩) hP hS hA (fun r3 H locs hwr3 hP hS => ?_)
        have hwr3 : (r3 = 1 ∧ True) ∨ (r3 = 0 ∧ True) := hwr3
        refine lv_if_eq (tgt := 74) hx hb dX8_takeFigures_24 (by decide) (fun c4 => ?_) (fun c4 => ?_)
        · skip
          refine lv_aload_n hx hb dX8_takeFigures_74 rfl (lv_at hl 1 rfl) ?_
          refine lv_iload_n hx hb dX8_takeFigures_75 rfl (lv_at hl 0 rfl) ?_
          refine va_put (D := D) (ci := 8) (v := .int v1_2) (ty := .int) (C := RX8) (T := TX8) (N := 7) hx hb hts zi8_ tyX8 tyX8_ok nmX8 hown hK hP hD hS 0 rfl rfl 5 (by decide) z3_ (fun _ h9 => h9) rfl (by decide +kernel) rfl rfl (Nat.le_of_ble_eq_true rfl) dX8_takeFigures_76 (fun H locs hP hD hS => ?_)
          have hP : va_P D vwCl [(a_pn, .inr (8, [.ref a_by, .int pn_length, .int u_pn_2_2, .int pn_sort, .int pn_start, .int v1_2, .int pn_fault])), (a_by, .inl (cy 0, 250, .inl by_f))] H := hP
          have hD : va_D A [(a_pn, .inr (8, [.ref a_by, .int pn_length, .int u_pn_2_2, .int pn_sort, .int pn_start, .int v1_2, .int pn_fault])), (a_by, .inl (cy 0, 250, .inl by_f))] := hD
          subst hQF
          have hP9 := hP
          have hD9 := hD
          exact W.vret hx hb hr (fun t ht hW => ⟨⟨(u_pn_2_2, v1_2), rfl, (by assumption), by rw [ht]; exact hP9, hD9⟩, hS.F ht⟩) hS.2.2 dX8_takeFigures_79
        · skip
          refine lv_aload_n hx hb dX8_takeFigures_27 rfl (lv_at hl 1 rfl) ?_
          refine va_get (D := D) (ci := 8) (v := .int u_pn_2_2) (C := RX8) (T := TX8) (N := 7) hx hb hts zi8_ hown hK hP 0 rfl rfl 2 (by decide) z0_ (fun _ h9 => h9) rfl dX8_takeFigures_28 ?_
          refine lv_aload_n hx hb dX8_takeFigures_31 rfl (lv_at hl 1 rfl) ?_
          refine va_get (D := D) (ci := 8) (v := .int pn_start) (C := RX8) (T := TX8) (N := 7) hx hb hts zi8_ hown hK hP 0 rfl rfl 4 (by decide) z4_ (fun _ h9 => h9) rfl dX8_takeFigures_32 ?_
          refine lv_isub hx hb dX8_takeFigures_35 ?_
          refine lv_iconst (v := 2) hx hb dX8_takeFigures_36 (by decide) ?_
          have j60 : ∀ (s1_60 : Int32) (H : Heap) (locs : List Loc), va_P D vwCl [(a_pn, .inr (8, [.ref a_by, .int pn_length, .int u_pn_2_2, .int pn_sort, .int pn_start, .int pn_value, .int pn_fault])), (a_by, .inl (cy 0, 250, .inl by_f))] H → va_D A [(a_pn, .inr (8, [.ref a_by, .int pn_length, .int u_pn_2_2, .int pn_sort, .int pn_start, .int pn_value, .int pn_fault])), (a_by, .inl (cy 0, 250, .inl by_f))] → va_S A s.heap H locs → ∀ ls : Array Slot, lv_has ls 2 [(1, .int v1_2), (0, .ref a_pn)] → W p l e (headSpec wsX8_takeFigures ({ frames := 1, cells := 0, slots := 0, locals := 21 })).room s m [.ref a_pn].toArray below meth c H locs 0 0 QF (F0 m 60 ls [.int s1_60]) := by
            intro s1_60 H locs hP hD hS ls hl
            refine lv_istore_n (lv' := [(1, .int s1_60), (0, .ref a_pn)]) hx hb dX8_takeFigures_60 rfl hl (by decide) rfl (fun ls hl => ?_)
            refine lv_aload_n hx hb dX8_takeFigures_61 rfl (lv_at hl 1 rfl) ?_
            refine lv_dup hx hb dX8_takeFigures_62 rfl ?_
            refine va_get (D := D) (ci := 8) (v := .int u_pn_2_2) (C := RX8) (T := TX8) (N := 7) hx hb hts zi8_ hown hK hP 0 rfl rfl 2 (by decide) z0_ (fun _ h9 => h9) rfl dX8_takeFigures_63 ?_
            refine lv_iconst (v := 1) hx hb dX8_takeFigures_66 (by decide) ?_
            refine lv_iadd hx hb dX8_takeFigures_67 ?_
            refine va_put (D := D) (ci := 8) (v := .int (u_pn_2_2 + 1)) (ty := .int) (C := RX8) (T := TX8) (N := 7) hx hb hts zi8_ tyX8 tyX8_ok nmX8 hown hK hP hD hS 0 rfl rfl 2 (by decide) z0_ (fun _ h9 => h9) rfl (by decide +kernel) rfl rfl (Nat.le_of_ble_eq_true rfl) dX8_takeFigures_68 (fun H locs hP hD hS => ?_)
            have hP : va_P D vwCl [(a_pn, .inr (8, [.ref a_by, .int pn_length, .int (u_pn_2_2 + 1), .int pn_sort, .int pn_start, .int pn_value, .int pn_fault])), (a_by, .inl (cy 0, 250, .inl by_f))] H := hP
            have hD : va_D A [(a_pn, .inr (8, [.ref a_by, .int pn_length, .int (u_pn_2_2 + 1), .int pn_sort, .int pn_start, .int pn_value, .int pn_fault])), (a_by, .inl (cy 0, 250, .inl by_f))] := hD
            refine lv_goto (tgt := 2) hx hb dX8_takeFigures_71 (by decide) ?_
            exact ih2 s1_60 (u_pn_2_2 + 1) (z_nnL (by assumption) hn2) (z_upL (by assumption) hm2 rfl) _ _ hP hD hS ls hl
          refine lv_icmp_ge (tgt := 59) hx hb dX8_takeFigures_37 (by decide) (fun c5 => ?_) (fun c5 => ?_)
          · skip
            refine lv_iconst (v := (-1)) hx hb dX8_takeFigures_59 (by decide) ?_
            exact j60 (-1) _ _ hP hD hS ls hl
          · skip
            refine lv_bipush (v := 10) hx hb dX8_takeFigures_40 (by decide) ?_
            refine lv_iload_n hx hb dX8_takeFigures_42 rfl (lv_at hl 0 rfl) ?_
            refine lv_imul hx hb dX8_takeFigures_43 ?_
            refine lv_aload_n hx hb dX8_takeFigures_44 rfl (lv_at hl 1 rfl) ?_
            refine lv_aload_n hx hb dX8_takeFigures_45 rfl (lv_at hl 1 rfl) ?_
            refine va_get (D := D) (ci := 8) (v := .int u_pn_2_2) (C := RX8) (T := TX8) (N := 7) hx hb hts zi8_ hown hK hP 0 rfl rfl 2 (by decide) z0_ (fun _ h9 => h9) rfl dX8_takeFigures_46 ?_
            refine rd_i (va_runV (As := [.int u_pn_2_2]) (rest := [.int (10 * v1_2)]) ⟨hx, hb, hml, hown, hts⟩ (n_X8_byteAt l D cy a_pn a_by pn_length u_pn_2_2 pn_sort pn_start pn_value pn_fault by_f u_pn_2_2 _ ) (cwV 1 hts gX8_takeFigures_X8_byteAt rfl rfl rfl (by decide +kernel) ⟨Nat.le_of_ble_eq_true rfl, Nat.le_of_ble_eq_true rfl⟩) (pV (ci := 8) (k := 0) hKA (hP.sub (ws' := [(a_pn, .inr (8, [.ref a_by, .int pn_length, .int u_pn_2_2, .int pn_sort, .int pn_start, .int pn_value, .int pn_fault])), (a_by, .inl (cy 0, 250, .inl by_f))]) [0, 1] rfl) (hD.sub (ws' := [(a_pn, .inr (8, [.ref a_by, .int pn_length, .int u_pn_2_2, .int pn_sort, .int pn_start, .int pn_value, .int pn_fault])), (a_by, .inl (cy 0, 250, .inl by_f))]) [0, 1] (by decide) rfl) rfl rfl) rfl rfl hl.1 rfl (lv_room (Nat.le_of_ble_eq_true rfl)) dX8_takeFigures_49 ⟨Nat.le_of_ble_eq_true rfl, Nat.le_of_ble_eq_true rfl⟩) hP hS hA (fun r6 H locs hwr6 hP hS => ?_)
            have hwr6 : r6 = -1 ∨ u_pn_2_2 < 250 := hwr6
            refine lv_iadd hx hb dX8_takeFigures_52 ?_
            refine lv_bipush (v := 48) hx hb dX8_takeFigures_53 (by decide) ?_
            refine lv_isub hx hb dX8_takeFigures_55 ?_
            refine lv_goto (tgt := 60) hx hb dX8_takeFigures_56 (by decide) ?_
            exact j60 (((10 * v1_2) + r6) - 48) _ _ hP hD hS ls hl
  exact lp2 ((2147483647 - (pn_next : Int32).toInt).toNat + 1) 0 pn_next hnx (Nat.lt_succ_self _) _ _ hP hD hS ls hl

set_option maxHeartbeats 4000000 in
set_option maxRecDepth 100000 in
theorem n_X8_takeToken (l : Launch) (D : va_G) (cy : Nat → ClassId) (a_pn : Nat) (a_by : Nat) (pn_length : Int32) (pn_next : Int32) (pn_sort : Int32) (pn_start : Int32) (pn_value : Int32) (pn_fault : Int32) (by_f : Nat → Int32) (sz : Nat) (hnx : 0 ≤ pn_next) : Met l yX8_takeToken wsX8_takeToken ({ frames := 2, cells := 0, slots := 0, locals := 42 }) (va_Pc [.ref a_pn] (kPre D cy [(a_pn, .inr (8, [.ref a_by, .int pn_length, .int pn_next, .int pn_sort, .int pn_start, .int pn_value, .int pn_fault])), (a_by, .inl (cy 0, 250, .inl by_f))] sz)) (va_Qv (fun (u : Int32 × Int32 × Int32 × Int32) => 0 ≤ u.1 ∧ 0 ≤ u.2.2.1) (fun (u : Int32 × Int32 × Int32 × Int32) t => va_P D vwCl ([(a_pn, .inr (8, [.ref a_by, .int pn_length, .int u.1, .int u.2.1, .int u.2.2.1, .int u.2.2.2, .int pn_fault])), (a_by, .inl (cy 0, 250, .inl by_f))]) t.heap ∧ va_D (va_A [(a_pn, .inr (8, [.ref a_by, .int pn_length, .int pn_next, .int pn_sort, .int pn_start, .int pn_value, .int pn_fault])), (a_by, .inl (cy 0, 250, .inl by_f))] sz) ([(a_pn, .inr (8, [.ref a_by, .int pn_length, .int u.1, .int u.2.1, .int u.2.2.1, .int u.2.2.2, .int pn_fault])), (a_by, .inl (cy 0, 250, .inl by_f))])) (va_A [(a_pn, .inr (8, [.ref a_by, .int pn_length, .int pn_next, .int pn_sort, .int pn_start, .int pn_value, .int pn_fault])), (a_by, .inl (cy 0, 250, .inl by_f))] sz)) 0 0 (va_A [(a_pn, .inr (8, [.ref a_by, .int pn_length, .int pn_next, .int pn_sort, .int pn_start, .int pn_value, .int pn_fault])), (a_by, .inl (cy 0, 250, .inl by_f))] sz) := by
  refine Met.ofW (cc := cX8_takeToken) (maxL := 2) (ret := none) (by decide) rfl ?_
  intro p e s m args below meth c s₁ B hml hv
  obtain ⟨rfl, hsz, hP, hKA, hD0⟩ := hv
  have hx := B.exec
  have hb := B.bytes
  have hr := B.returns
  have hts := atoms_spec (ws := wsX8_takeToken) B.pre
  have hown : s.vm.findClass RX8 = some m.cls := findClass_of_methodNamed B.named
  have hlocks := B.notSynchronized
  subst hsz
  have hK := hKA.1
  have hD := hD0.self (sz := s.heap.size)
  generalize hAe : va_A [(a_pn, .inr (8, [.ref a_by, .int pn_length, .int pn_next, .int pn_sort, .int pn_start, .int pn_value, .int pn_fault])), (a_by, .inl (cy 0, 250, .inl by_f))] s.heap.size = A at hD ⊢
  have hA : ∀ q : Nat, s.heap.size ≤ q → A q := fun q h => by rw [← hAe]; exact Or.inr h
  have hS : va_S A s.heap s.heap [] := va_S.rf
  have hP : va_P D vwCl [(a_pn, .inr (8, [.ref a_by, .int pn_length, .int pn_next, .int pn_sort, .int pn_start, .int pn_value, .int pn_fault])), (a_by, .inl (cy 0, 250, .inl by_f))] s.heap := hP
  have hl := lv_entry ([.ref a_pn]) (n := 2) (Nat.le_of_ble_eq_true rfl)
  rw [lg_entry_eq]
  generalize (lg_sl ([.ref a_pn]) ++ List.replicate (2 - (lg_sl ([.ref a_pn])).length) Slot.unset).toArray = ls at hl ⊢
  have hl : lv_has ls 2 [(0, .ref a_pn)] := hl
  refine qW (fun QF hQF => ?_)
  have z0_ := hts (.fieldLink RX8 19 "HeardSeen$Plan" "next" "I") (by decide +kernel)
  have zi8_ : ∀ w ∈ u_ws RX8 TX8 7, w ∈ wsX8_takeToken := by decide +kernel
  have z2_ := hts (.fieldLink RX8 15 "HeardSeen$Plan" "length" "I") (by decide +kernel)
  have z3_ := hts (.fieldLink RX8 35 "HeardSeen$Plan" "start" "I") (by decide +kernel)
  have z4_ := hts (.fieldLink RX8 114 "HeardSeen$Plan" "value" "I") (by decide +kernel)
  have z5_ := hts (.fieldLink RX8 28 "HeardSeen$Plan" "sort" "I") (by decide +kernel)
  have lp0 : ∀ (n0 : Nat) (u_pn_2_0 : Int32) (hn0 : 0 ≤ u_pn_2_0), (2147483647 - (u_pn_2_0 : Int32).toInt).toNat < n0 → ∀ (H : Heap) (locs : List Loc), va_P D vwCl [(a_pn, .inr (8, [.ref a_by, .int pn_length, .int u_pn_2_0, .int pn_sort, .int pn_start, .int pn_value, .int pn_fault])), (a_by, .inl (cy 0, 250, .inl by_f))] H → va_D A [(a_pn, .inr (8, [.ref a_by, .int pn_length, .int u_pn_2_0, .int pn_sort, .int pn_start, .int pn_value, .int pn_fault])), (a_by, .inl (cy 0, 250, .inl by_f))] → va_S A s.heap H locs → ∀ ls : Array Slot, lv_has ls 2 [(0, .ref a_pn)] → W p l e (headSpec wsX8_takeToken ({ frames := 2, cells := 0, slots := 0, locals := 42 })).room s m [.ref a_pn].toArray below meth c H locs 0 0 QF (F0 m 0 ls []) := by
    intro n0
    induction n0 with
    | zero => intro u_pn_2_0 hn0 hm; exact absurd hm (Nat.not_lt_zero _)
    | succ n0 ih0 =>
      intro u_pn_2_0 hn0 hm0 H locs hP hD hS ls hl
      refine lv_aload_n hx hb dX8_takeToken_0 rfl (lv_at hl 0 rfl) ?_
      refine va_get (D := D) (ci := 8) (v := .int u_pn_2_0) (C := RX8) (T := TX8) (N := 7) hx hb hts zi8_ hown hK hP 0 rfl rfl 2 (by decide) z0_ (fun _ h9 => h9) rfl dX8_takeToken_1 ?_
      refine lv_aload_n hx hb dX8_takeToken_4 rfl (lv_at hl 0 rfl) ?_
      refine va_get (D := D) (ci := 8) (v := .int pn_length) (C := RX8) (T := TX8) (N := 7) hx hb hts zi8_ hown hK hP 0 rfl rfl 1 (by decide) z2_ (fun _ h9 => h9) rfl dX8_takeToken_5 ?_
      have j37 : ∀ (H : Heap) (locs : List Loc), va_P D vwCl [(a_pn, .inr (8, [.ref a_by, .int pn_length, .int u_pn_2_0, .int pn_sort, .int pn_start, .int pn_value, .int pn_fault])), (a_by, .inl (cy 0, 250, .inl by_f))] H → va_D A [(a_pn, .inr (8, [.ref a_by, .int pn_length, .int u_pn_2_0, .int pn_sort, .int pn_start, .int pn_value, .int pn_fault])), (a_by, .inl (cy 0, 250, .inl by_f))] → va_S A s.heap H locs → ∀ ls : Array Slot, lv_has ls 2 [(0, .ref a_pn)] → W p l e (headSpec wsX8_takeToken ({ frames := 2, cells := 0, slots := 0, locals := 42 })).room s m [.ref a_pn].toArray below meth c H locs 0 0 QF (F0 m 37 ls []) := by
        intro  H locs hP hD hS ls hl
        refine lv_aload_n hx hb dX8_takeToken_37 rfl (lv_at hl 0 rfl) ?_
        refine lv_aload_n hx hb dX8_takeToken_38 rfl (lv_at hl 0 rfl) ?_
        refine va_get (D := D) (ci := 8) (v := .int u_pn_2_0) (C := RX8) (T := TX8) (N := 7) hx hb hts zi8_ hown hK hP 0 rfl rfl 2 (by decide) z0_ (fun _ h9 => h9) rfl dX8_takeToken_39 ?_
        refine va_put (D := D) (ci := 8) (v := .int u_pn_2_0) (ty := .int) (C := RX8) (T := TX8) (N := 7) hx hb hts zi8_ tyX8 tyX8_ok nmX8 hown hK hP hD hS 0 rfl rfl 4 (by decide) z3_ (fun _ h9 => h9) rfl (by decide +kernel) rfl rfl (Nat.le_of_ble_eq_true rfl) dX8_takeToken_42 (fun H locs hP hD hS => ?_)
        have hP : va_P D vwCl [(a_pn, .inr (8, [.ref a_by, .int pn_length, .int u_pn_2_0, .int pn_sort, .int u_pn_2_0, .int pn_value, .int pn_fault])), (a_by, .inl (cy 0, 250, .inl by_f))] H := hP
        have hD : va_D A [(a_pn, .inr (8, [.ref a_by, .int pn_length, .int u_pn_2_0, .int pn_sort, .int u_pn_2_0, .int pn_value, .int pn_fault])), (a_by, .inl (cy 0, 250, .inl by_f))] := hD
        refine lv_aload_n hx hb dX8_takeToken_45 rfl (lv_at hl 0 rfl) ?_
        refine lv_iconst (v := (-1)) hx hb dX8_takeToken_46 (by decide) ?_
        refine va_put (D := D) (ci := 8) (v := .int (-1)) (ty := .int) (C := RX8) (T := TX8) (N := 7) hx hb hts zi8_ tyX8 tyX8_ok nmX8 hown hK hP hD hS 0 rfl rfl 5 (by decide) z4_ (fun _ h9 => h9) rfl (by decide +kernel) rfl rfl (Nat.le_of_ble_eq_true rfl) dX8_takeToken_47 (fun H locs hP hD hS => ?_)
        have hP : va_P D vwCl [(a_pn, .inr (8, [.ref a_by, .int pn_length, .int u_pn_2_0, .int pn_sort, .int u_pn_2_0, .int (-1), .int pn_fault])), (a_by, .inl (cy 0, 250, .inl by_f))] H := hP
        have hD : va_D A [(a_pn, .inr (8, [.ref a_by, .int pn_length, .int u_pn_2_0, .int pn_sort, .int u_pn_2_0, .int (-1), .int pn_fault])), (a_by, .inl (cy 0, 250, .inl by_f))] := hD
        refine lv_aload_n hx hb dX8_takeToken_50 rfl (lv_at hl 0 rfl) ?_
        refine lv_aload_n hx hb dX8_takeToken_51 rfl (lv_at hl 0 rfl) ?_
        refine va_get (D := D) (ci := 8) (v := .int u_pn_2_0) (C := RX8) (T := TX8) (N := 7) hx hb hts zi8_ hown hK hP 0 rfl rfl 2 (by decide) z0_ (fun _ h9 => h9) rfl dX8_takeToken_52 ?_
        refine rd_i (va_runV (As := [.int u_pn_2_0]) (rest := []) ⟨hx, hb, hml, hown, hts⟩ (n_X8_byteAt l D cy a_pn a_by pn_length u_pn_2_0 pn_sort u_pn_2_0 (-1) pn_fault by_f u_pn_2_0 _ ) (cwV 1 hts gX8_takeToken_X8_byteAt rfl rfl rfl (by decide +kernel) ⟨Nat.le_of_ble_eq_true rfl, Nat.le_of_ble_eq_true rfl⟩) (pV (ci := 8) (k := 0) hKA (hP.sub (ws' := [(a_pn, .inr (8, [.ref a_by, .int pn_length, .int u_pn_2_0, .int pn_sort, .int u_pn_2_0, .int (-1), .int pn_fault])), (a_by, .inl (cy 0, 250, .inl by_f))]) [0, 1] rfl) (hD.sub (ws' := [(a_pn, .inr (8, [.ref a_by, .int pn_length, .int u_pn_2_0, .int pn_sort, .int u_pn_2_0, .int (-1), .int pn_fault])), (a_by, .inl (cy 0, 250, .inl by_f))]) [0, 1] (by decide) rfl) rfl rfl) rfl rfl hl.1 rfl (lv_room (Nat.le_of_ble_eq_true rfl)) dX8_takeToken_55 ⟨Nat.le_of_ble_eq_true rfl, Nat.le_of_ble_eq_true rfl⟩) hP hS hA (fun r1 H locs hwr1 hP hS => ?_)
        have hwr1 : r1 = -1 ∨ u_pn_2_0 < 250 := hwr1
        refine lv_istore_n (lv' := [(1, .int r1), (0, .ref a_pn)]) hx hb dX8_takeToken_58 rfl hl (by decide) rfl (fun ls hl => ?_)
        refine lv_iload_n hx hb dX8_takeToken_59 rfl (lv_at hl 0 rfl) ?_
        refine lv_iconst (v := (-1)) hx hb dX8_takeToken_60 (by decide) ?_
        refine lv_icmp_ne (tgt := 72) hx hb dX8_takeToken_61 (by decide) (fun c2 => ?_) (fun c2 => ?_)
        · skip
          refine lv_iload_n hx hb dX8_takeToken_72 rfl (lv_at hl 0 rfl) ?_
          refine rd_i (va_runS (As := [.int r1]) (rest := []) ⟨hx, hb, hml, hown, hts⟩ (n_X8_isLetter l D cy r1 _ ) (va_cwS 1 hts gX8_takeToken_X8_isLetter rfl rfl rfl (by decide +kernel) ⟨Nat.le_of_ble_eq_true rfl, Nat.le_of_ble_eq_true rfl⟩) (pS hKA pE (dE (A := A))) rfl rfl hl.1 rfl (lv_room (Nat.le_of_ble_eq_true rfl)) dX8_takeToken_73 ⟨Nat.le_of_ble_eq_true rfl, Nat.le_of_ble_eq_true rfl⟩) hP hS hA (fun r3 H locs hwr3 hP hS => ?_)
          have hwr3 : (r3 = 1 ∧ True) ∨ (r3 = 0 ∧ True) := hwr3
          refine lv_if_eq (tgt := 91) hx hb dX8_takeToken_76 (by decide) (fun c4 => ?_) (fun c4 => ?_)
          · skip
            refine lv_iload_n hx hb dX8_takeToken_91 rfl (lv_at hl 0 rfl) ?_
            refine rd_i (va_runS (As := [.int r1]) (rest := []) ⟨hx, hb, hml, hown, hts⟩ (n_X8_isFigure l D cy r1 _ ) (va_cwS 1 hts gX8_takeToken_X8_isFigure rfl rfl rfl (by decide +kernel) ⟨Nat.le_of_ble_eq_true rfl, Nat.le_of_ble_eq_true rfl⟩) (pS hKA pE (dE (A := A))) rfl rfl hl.1 rfl (lv_room (Nat.le_of_ble_eq_true rfl)) dX8_takeToken_92 ⟨Nat.le_of_ble_eq_true rfl, Nat.le_of_ble_eq_true rfl⟩) hP hS hA (fun r5 H locs hwr5 hP hS => ?_)
            have hwr5 : (r5 = 1 ∧ True) ∨ (r5 = 0 ∧ True) := hwr5
            refine lv_if_eq (tgt := 110) hx hb dX8_takeToken_95 (by decide) (fun c6 => ?_) (fun c6 => ?_)
            · skip
              refine lv_aload_n hx hb dX8_takeToken_110 rfl (lv_at hl 1 rfl) ?_
              refine lv_iload_n hx hb dX8_takeToken_111 rfl (lv_at hl 0 rfl) ?_
              refine lv_bipush (v := 45) hx hb dX8_takeToken_112 (by decide) ?_
              have j132 : ∀ (s2_132 : Int32) (H : Heap) (locs : List Loc), va_P D vwCl [(a_pn, .inr (8, [.ref a_by, .int pn_length, .int u_pn_2_0, .int pn_sort, .int u_pn_2_0, .int (-1), .int pn_fault])), (a_by, .inl (cy 0, 250, .inl by_f))] H → va_D A [(a_pn, .inr (8, [.ref a_by, .int pn_length, .int u_pn_2_0, .int pn_sort, .int u_pn_2_0, .int (-1), .int pn_fault])), (a_by, .inl (cy 0, 250, .inl by_f))] → va_S A s.heap H locs → ∀ ls : Array Slot, lv_has ls 2 [(1, .int r1), (0, .ref a_pn)] → W p l e (headSpec wsX8_takeToken ({ frames := 2, cells := 0, slots := 0, locals := 42 })).room s m [.ref a_pn].toArray below meth c H locs 0 0 QF (F0 m 132 ls [.int s2_132, .ref a_pn]) := by
                intro s2_132 H locs hP hD hS ls hl
                refine va_put (D := D) (ci := 8) (v := .int s2_132) (ty := .int) (C := RX8) (T := TX8) (N := 7) hx hb hts zi8_ tyX8 tyX8_ok nmX8 hown hK hP hD hS 0 rfl rfl 3 (by decide) z5_ (fun _ h9 => h9) rfl (by decide +kernel) rfl rfl (Nat.le_of_ble_eq_true rfl) dX8_takeToken_132 (fun H locs hP hD hS => ?_)
                have hP : va_P D vwCl [(a_pn, .inr (8, [.ref a_by, .int pn_length, .int u_pn_2_0, .int s2_132, .int u_pn_2_0, .int (-1), .int pn_fault])), (a_by, .inl (cy 0, 250, .inl by_f))] H := hP
                have hD : va_D A [(a_pn, .inr (8, [.ref a_by, .int pn_length, .int u_pn_2_0, .int s2_132, .int u_pn_2_0, .int (-1), .int pn_fault])), (a_by, .inl (cy 0, 250, .inl by_f))] := hD
                refine lv_aload_n hx hb dX8_takeToken_135 rfl (lv_at hl 1 rfl) ?_
                refine lv_dup hx hb dX8_takeToken_136 rfl ?_
                refine va_get (D := D) (ci := 8) (v := .int u_pn_2_0) (C := RX8) (T := TX8) (N := 7) hx hb hts zi8_ hown hK hP 0 rfl rfl 2 (by decide) z0_ (fun _ h9 => h9) rfl dX8_takeToken_137 ?_
                refine lv_iconst (v := 1) hx hb dX8_takeToken_140 (by decide) ?_
                refine lv_iadd hx hb dX8_takeToken_141 ?_
                refine va_put (D := D) (ci := 8) (v := .int (u_pn_2_0 + 1)) (ty := .int) (C := RX8) (T := TX8) (N := 7) hx hb hts zi8_ tyX8 tyX8_ok nmX8 hown hK hP hD hS 0 rfl rfl 2 (by decide) z0_ (fun _ h9 => h9) rfl (by decide +kernel) rfl rfl (Nat.le_of_ble_eq_true rfl) dX8_takeToken_142 (fun H locs hP hD hS => ?_)
                have hP : va_P D vwCl [(a_pn, .inr (8, [.ref a_by, .int pn_length, .int (u_pn_2_0 + 1), .int s2_132, .int u_pn_2_0, .int (-1), .int pn_fault])), (a_by, .inl (cy 0, 250, .inl by_f))] H := hP
                have hD : va_D A [(a_pn, .inr (8, [.ref a_by, .int pn_length, .int (u_pn_2_0 + 1), .int s2_132, .int u_pn_2_0, .int (-1), .int pn_fault])), (a_by, .inl (cy 0, 250, .inl by_f))] := hD
                subst hQF
                have hP9 := hP
                have hD9 := hD
                exact W.vret hx hb hr (fun t ht hW => ⟨⟨(u_pn_2_0 + 1, s2_132, u_pn_2_0, (-1)), rfl, (by first | exact ⟨by assumption, by assumption⟩ | exact ⟨z_nn250 (by assumption) (z_or (by assumption) (by assumption)), by assumption⟩), by rw [ht]; exact hP9, hD9⟩, hS.F ht⟩) hS.2.2 dX8_takeToken_145
              refine lv_icmp_ne (tgt := 121) hx hb dX8_takeToken_114 (by decide) (fun c7 => ?_) (fun c7 => ?_)
              · skip
                refine lv_iload_n hx hb dX8_takeToken_121 rfl (lv_at hl 0 rfl) ?_
                refine lv_bipush (v := 59) hx hb dX8_takeToken_122 (by decide) ?_
                refine lv_icmp_ne (tgt := 131) hx hb dX8_takeToken_124 (by decide) (fun c8 => ?_) (fun c8 => ?_)
                · skip
                  refine lv_iconst (v := 5) hx hb dX8_takeToken_131 (by decide) ?_
                  exact j132 5 _ _ hP hD hS ls hl
                · skip
                  refine lv_iconst (v := 4) hx hb dX8_takeToken_127 (by decide) ?_
                  refine lv_goto (tgt := 132) hx hb dX8_takeToken_128 (by decide) ?_
                  exact j132 4 _ _ hP hD hS ls hl
              · skip
                refine lv_iconst (v := 3) hx hb dX8_takeToken_117 (by decide) ?_
                refine lv_goto (tgt := 132) hx hb dX8_takeToken_118 (by decide) ?_
                exact j132 3 _ _ hP hD hS ls hl
            · skip
              refine lv_aload_n hx hb dX8_takeToken_98 rfl (lv_at hl 1 rfl) ?_
              refine lv_iconst (v := 2) hx hb dX8_takeToken_99 (by decide) ?_
              refine va_put (D := D) (ci := 8) (v := .int 2) (ty := .int) (C := RX8) (T := TX8) (N := 7) hx hb hts zi8_ tyX8 tyX8_ok nmX8 hown hK hP hD hS 0 rfl rfl 3 (by decide) z5_ (fun _ h9 => h9) rfl (by decide +kernel) rfl rfl (Nat.le_of_ble_eq_true rfl) dX8_takeToken_100 (fun H locs hP hD hS => ?_)
              have hP : va_P D vwCl [(a_pn, .inr (8, [.ref a_by, .int pn_length, .int u_pn_2_0, .int 2, .int u_pn_2_0, .int (-1), .int pn_fault])), (a_by, .inl (cy 0, 250, .inl by_f))] H := hP
              have hD : va_D A [(a_pn, .inr (8, [.ref a_by, .int pn_length, .int u_pn_2_0, .int 2, .int u_pn_2_0, .int (-1), .int pn_fault])), (a_by, .inl (cy 0, 250, .inl by_f))] := hD
              refine lv_aload_n hx hb dX8_takeToken_103 rfl (lv_at hl 1 rfl) ?_
              refine wr_v (wr := []) (va_runV (As := []) (rest := []) ⟨hx, hb, hml, hown, hts⟩ (n_X8_takeFigures l D cy a_pn a_by pn_length u_pn_2_0 (2) u_pn_2_0 (-1) pn_fault by_f _ (by first | assumption | omega)) (cwV 0 hts gX8_takeToken_X8_takeFigures rfl rfl rfl (by decide +kernel) ⟨Nat.le_of_ble_eq_true rfl, Nat.le_of_ble_eq_true rfl⟩) (pV (ci := 8) (k := 0) hKA (hP.sub (ws' := [(a_pn, .inr (8, [.ref a_by, .int pn_length, .int u_pn_2_0, .int 2, .int u_pn_2_0, .int (-1), .int pn_fault])), (a_by, .inl (cy 0, 250, .inl by_f))]) [0, 1] rfl) (hD.sub (ws' := [(a_pn, .inr (8, [.ref a_by, .int pn_length, .int u_pn_2_0, .int 2, .int u_pn_2_0, .int (-1), .int pn_fault])), (a_by, .inl (cy 0, 250, .inl by_f))]) [0, 1] (by decide) rfl) rfl rfl) rfl rfl hl.1 rfl (lv_room (Nat.le_of_ble_eq_true rfl)) dX8_takeToken_104 ⟨Nat.le_of_ble_eq_true rfl, Nat.le_of_ble_eq_true rfl⟩) hP hD hS hA [0, 1] [] rfl rfl (by decide +kernel) (by decide +kernel) (fun ur9 H locs hwr9 hP hD hS => ?_)
              obtain ⟨z10, z11⟩ := ur9
              have hP : va_P D vwCl [(a_pn, .inr (8, [.ref a_by, .int pn_length, .int z10, .int 2, .int u_pn_2_0, .int z11, .int pn_fault])), (a_by, .inl (cy 0, 250, .inl by_f))] H := hP
              have hD : va_D A [(a_pn, .inr (8, [.ref a_by, .int pn_length, .int z10, .int 2, .int u_pn_2_0, .int z11, .int pn_fault])), (a_by, .inl (cy 0, 250, .inl by_f))] := hD
              have hwr9 : 0 ≤ z10 := hwr9
              refine lv_goto (tgt := 145) hx hb dX8_takeToken_107 (by decide) ?_
              subst hQF
              have hP9 := hP
              have hD9 := hD
              exact W.vret hx hb hr (fun t ht hW => ⟨⟨(z10, 2, u_pn_2_0, z11), rfl, (by first | exact ⟨by assumption, by assumption⟩ | exact ⟨z_nn250 (by assumption) (z_or (by assumption) (by assumption)), by assumption⟩), by rw [ht]; exact hP9, hD9⟩, hS.F ht⟩) hS.2.2 dX8_takeToken_145
          · skip
            refine lv_aload_n hx hb dX8_takeToken_79 rfl (lv_at hl 1 rfl) ?_
            refine lv_iconst (v := 1) hx hb dX8_takeToken_80 (by decide) ?_
            refine va_put (D := D) (ci := 8) (v := .int 1) (ty := .int) (C := RX8) (T := TX8) (N := 7) hx hb hts zi8_ tyX8 tyX8_ok nmX8 hown hK hP hD hS 0 rfl rfl 3 (by decide) z5_ (fun _ h9 => h9) rfl (by decide +kernel) rfl rfl (Nat.le_of_ble_eq_true rfl) dX8_takeToken_81 (fun H locs hP hD hS => ?_)
            have hP : va_P D vwCl [(a_pn, .inr (8, [.ref a_by, .int pn_length, .int u_pn_2_0, .int 1, .int u_pn_2_0, .int (-1), .int pn_fault])), (a_by, .inl (cy 0, 250, .inl by_f))] H := hP
            have hD : va_D A [(a_pn, .inr (8, [.ref a_by, .int pn_length, .int u_pn_2_0, .int 1, .int u_pn_2_0, .int (-1), .int pn_fault])), (a_by, .inl (cy 0, 250, .inl by_f))] := hD
            refine lv_aload_n hx hb dX8_takeToken_84 rfl (lv_at hl 1 rfl) ?_
            refine wr_v (wr := []) (va_runV (As := []) (rest := []) ⟨hx, hb, hml, hown, hts⟩ (n_X8_takeLetters l D cy a_pn a_by pn_length u_pn_2_0 (1) u_pn_2_0 (-1) pn_fault by_f _ (by first | assumption | omega)) (cwV 0 hts gX8_takeToken_X8_takeLetters rfl rfl rfl (by decide +kernel) ⟨Nat.le_of_ble_eq_true rfl, Nat.le_of_ble_eq_true rfl⟩) (pV (ci := 8) (k := 0) hKA (hP.sub (ws' := [(a_pn, .inr (8, [.ref a_by, .int pn_length, .int u_pn_2_0, .int 1, .int u_pn_2_0, .int (-1), .int pn_fault])), (a_by, .inl (cy 0, 250, .inl by_f))]) [0, 1] rfl) (hD.sub (ws' := [(a_pn, .inr (8, [.ref a_by, .int pn_length, .int u_pn_2_0, .int 1, .int u_pn_2_0, .int (-1), .int pn_fault])), (a_by, .inl (cy 0, 250, .inl by_f))]) [0, 1] (by decide) rfl) rfl rfl) rfl rfl hl.1 rfl (lv_room (Nat.le_of_ble_eq_true rfl)) dX8_takeToken_85 ⟨Nat.le_of_ble_eq_true rfl, Nat.le_of_ble_eq_true rfl⟩) hP hD hS hA [0, 1] [] rfl rfl (by decide +kernel) (by decide +kernel) (fun ur12 H locs hwr12 hP hD hS => ?_)
            obtain ⟨z13, rfl⟩ : ∃ z, z = ur12 := ⟨_, rfl⟩
            have hP : va_P D vwCl [(a_pn, .inr (8, [.ref a_by, .int pn_length, .int z13, .int 1, .int u_pn_2_0, .int (-1), .int pn_fault])), (a_by, .inl (cy 0, 250, .inl by_f))] H := hP
            have hD : va_D A [(a_pn, .inr (8, [.ref a_by, .int pn_length, .int z13, .int 1, .int u_pn_2_0, .int (-1), .int pn_fault])), (a_by, .inl (cy 0, 250, .inl by_f))] := hD
            have hwr12 : 0 ≤ z13 := hwr12
            refine lv_goto (tgt := 145) hx hb dX8_takeToken_88 (by decide) ?_
            subst hQF
            have hP9 := hP
            have hD9 := hD
            exact W.vret hx hb hr (fun t ht hW => ⟨⟨(z13, 1, u_pn_2_0, (-1)), rfl, (by first | exact ⟨by assumption, by assumption⟩ | exact ⟨z_nn250 (by assumption) (z_or (by assumption) (by assumption)), by assumption⟩), by rw [ht]; exact hP9, hD9⟩, hS.F ht⟩) hS.2.2 dX8_takeToken_145
        · skip
          refine lv_aload_n hx hb dX8_takeToken_64 rfl (lv_at hl 1 rfl) ?_
          refine lv_iconst (v := 0) hx hb dX8_takeToken_65 (by decide) ?_
          refine va_put (D := D) (ci := 8) (v := .int 0) (ty := .int) (C := RX8) (T := TX8) (N := 7) hx hb hts zi8_ tyX8 tyX8_ok nmX8 hown hK hP hD hS 0 rfl rfl 3 (by decide) z5_ (fun _ h9 => h9) rfl (by decide +kernel) rfl rfl (Nat.le_of_ble_eq_true rfl) dX8_takeToken_66 (fun H locs hP hD hS => ?_)
          have hP : va_P D vwCl [(a_pn, .inr (8, [.ref a_by, .int pn_length, .int u_pn_2_0, .int 0, .int u_pn_2_0, .int (-1), .int pn_fault])), (a_by, .inl (cy 0, 250, .inl by_f))] H := hP
          have hD : va_D A [(a_pn, .inr (8, [.ref a_by, .int pn_length, .int u_pn_2_0, .int 0, .int u_pn_2_0, .int (-1), .int pn_fault])), (a_by, .inl (cy 0, 250, .inl by_f))] := hD
          refine lv_goto (tgt := 145) hx hb dX8_takeToken_69 (by decide) ?_
          subst hQF
          have hP9 := hP
          have hD9 := hD
          exact W.vret hx hb hr (fun t ht hW => ⟨⟨(u_pn_2_0, 0, u_pn_2_0, (-1)), rfl, (by first | exact ⟨by assumption, by assumption⟩ | exact ⟨z_nn250 (by assumption) (z_or (by assumption) (by assumption)), by assumption⟩), by rw [ht]; exact hP9, hD9⟩, hS.F ht⟩) hS.2.2 dX8_takeToken_145
      refine lv_icmp_ge (tgt := 37) hx hb dX8_takeToken_8 (by decide) (fun c14 => ?_) (fun c14 => ?_)
      · skip
        exact j37 _ _ hP hD hS ls hl
      · skip
        refine lv_aload_n hx hb dX8_takeToken_11 rfl (lv_at hl 0 rfl) ?_
        refine lv_aload_n hx hb dX8_takeToken_12 rfl (lv_at hl 0 rfl) ?_
        refine va_get (D := D) (ci := 8) (v := .int u_pn_2_0) (C := RX8) (T := TX8) (N := 7) hx hb hts zi8_ hown hK hP 0 rfl rfl 2 (by decide) z0_ (fun _ h9 => h9) rfl dX8_takeToken_13 ?_
        refine rd_i (va_runV (As := [.int u_pn_2_0]) (rest := []) ⟨hx, hb, hml, hown, hts⟩ (n_X8_byteAt l D cy a_pn a_by pn_length u_pn_2_0 pn_sort pn_start pn_value pn_fault by_f u_pn_2_0 _ ) (cwV 1 hts gX8_takeToken_X8_byteAt rfl rfl rfl (by decide +kernel) ⟨Nat.le_of_ble_eq_true rfl, Nat.le_of_ble_eq_true rfl⟩) (pV (ci := 8) (k := 0) hKA (hP.sub (ws' := [(a_pn, .inr (8, [.ref a_by, .int pn_length, .int u_pn_2_0, .int pn_sort, .int pn_start, .int pn_value, .int pn_fault])), (a_by, .inl (cy 0, 250, .inl by_f))]) [0, 1] rfl) (hD.sub (ws' := [(a_pn, .inr (8, [.ref a_by, .int pn_length, .int u_pn_2_0, .int pn_sort, .int pn_start, .int pn_value, .int pn_fault])), (a_by, .inl (cy 0, 250, .inl by_f))]) [0, 1] (by decide) rfl) rfl rfl) rfl rfl hl.1 rfl (lv_room (Nat.le_of_ble_eq_true rfl)) dX8_takeToken_16 ⟨Nat.le_of_ble_eq_true rfl, Nat.le_of_ble_eq_true rfl⟩) hP hS hA (fun r15 H locs hwr15 hP hS => ?_)
        have hwr15 : r15 = -1 ∨ u_pn_2_0 < 250 := hwr15
        refine lv_bipush (v := 32) hx hb dX8_takeToken_19 (by decide) ?_
        refine lv_icmp_ne (tgt := 37) hx hb dX8_takeToken_21 (by decide) (fun c16 => ?_) (fun c16 => ?_)
        · skip
          exact j37 _ _ hP hD hS ls hl
        · skip
          refine lv_aload_n hx hb dX8_takeToken_24 rfl (lv_at hl 0 rfl) ?_
          refine lv_dup hx hb dX8_takeToken_25 rfl ?_
          refine va_get (D := D) (ci := 8) (v := .int u_pn_2_0) (C := RX8) (T := TX8) (N := 7) hx hb hts zi8_ hown hK hP 0 rfl rfl 2 (by decide) z0_ (fun _ h9 => h9) rfl dX8_takeToken_26 ?_
          refine lv_iconst (v := 1) hx hb dX8_takeToken_29 (by decide) ?_
          refine lv_iadd hx hb dX8_takeToken_30 ?_
          refine va_put (D := D) (ci := 8) (v := .int (u_pn_2_0 + 1)) (ty := .int) (C := RX8) (T := TX8) (N := 7) hx hb hts zi8_ tyX8 tyX8_ok nmX8 hown hK hP hD hS 0 rfl rfl 2 (by decide) z0_ (fun _ h9 => h9) rfl (by decide +kernel) rfl rfl (Nat.le_of_ble_eq_true rfl) dX8_takeToken_31 (fun H locs hP hD hS => ?_)
          have hP : va_P D vwCl [(a_pn, .inr (8, [.ref a_by, .int pn_length, .int (u_pn_2_0 + 1), .int pn_sort, .int pn_start, .int pn_value, .int pn_fault])), (a_by, .inl (cy 0, 250, .inl by_f))] H := hP
          have hD : va_D A [(a_pn, .inr (8, [.ref a_by, .int pn_length, .int (u_pn_2_0 + 1), .int pn_sort, .int pn_start, .int pn_value, .int pn_fault])), (a_by, .inl (cy 0, 250, .inl by_f))] := hD
          refine lv_goto (tgt := 0) hx hb dX8_takeToken_34 (by decide) ?_
          exact ih0 (u_pn_2_0 + 1) (z_nnL (by assumption) hn0) (z_upL (by assumption) hm0 rfl) _ _ hP hD hS ls hl
  exact lp0 ((2147483647 - (pn_next : Int32).toInt).toNat + 1) pn_next hnx (Nat.lt_succ_self _) _ _ hP hD hS ls hl

set_option maxHeartbeats 4000000 in
set_option maxRecDepth 100000 in
theorem n_X8_refuseToken (l : Launch) (D : va_G) (cy : Nat → ClassId) (a_pn : Nat) (a_by : Nat) (pn_length : Int32) (pn_next : Int32) (pn_sort : Int32) (pn_start : Int32) (pn_value : Int32) (pn_fault : Int32) (sz : Nat) (hst : 0 ≤ pn_start) : Met l yX8_refuseToken wsX8_refuseToken ({ frames := 0, cells := 0, slots := 0, locals := 0 }) (va_Pc [.ref a_pn] (kPre D cy [(a_pn, .inr (8, [.ref a_by, .int pn_length, .int pn_next, .int pn_sort, .int pn_start, .int pn_value, .int pn_fault]))] sz)) (va_Qv (fun (u : Int32) => ¬ u = -1) (fun (u : Int32) t => va_P D vwCl ([(a_pn, .inr (8, [.ref a_by, .int pn_length, .int pn_next, .int pn_sort, .int pn_start, .int pn_value, .int u]))]) t.heap ∧ va_D (va_A [(a_pn, .inr (8, [.ref a_by, .int pn_length, .int pn_next, .int pn_sort, .int pn_start, .int pn_value, .int pn_fault]))] sz) ([(a_pn, .inr (8, [.ref a_by, .int pn_length, .int pn_next, .int pn_sort, .int pn_start, .int pn_value, .int u]))])) (va_A [(a_pn, .inr (8, [.ref a_by, .int pn_length, .int pn_next, .int pn_sort, .int pn_start, .int pn_value, .int pn_fault]))] sz)) 0 0 (va_A [(a_pn, .inr (8, [.ref a_by, .int pn_length, .int pn_next, .int pn_sort, .int pn_start, .int pn_value, .int pn_fault]))] sz) := by
  refine Met.ofW (cc := cX8_refuseToken) (maxL := 1) (ret := none) (by decide) rfl ?_
  intro p e s m args below meth c s₁ B hml hv
  obtain ⟨rfl, hsz, hP, hKA, hD0⟩ := hv
  have hx := B.exec
  have hb := B.bytes
  have hr := B.returns
  have hts := atoms_spec (ws := wsX8_refuseToken) B.pre
  have hown : s.vm.findClass RX8 = some m.cls := findClass_of_methodNamed B.named
  have hlocks := B.notSynchronized
  subst hsz
  have hK := hKA.1
  have hD := hD0.self (sz := s.heap.size)
  generalize hAe : va_A [(a_pn, .inr (8, [.ref a_by, .int pn_length, .int pn_next, .int pn_sort, .int pn_start, .int pn_value, .int pn_fault]))] s.heap.size = A at hD ⊢
  have hA : ∀ q : Nat, s.heap.size ≤ q → A q := fun q h => by rw [← hAe]; exact Or.inr h
  have hS : va_S A s.heap s.heap [] := va_S.rf
  have hP : va_P D vwCl [(a_pn, .inr (8, [.ref a_by, .int pn_length, .int pn_next, .int pn_sort, .int pn_start, .int pn_value, .int pn_fault]))] s.heap := hP
  have hl := lv_entry ([.ref a_pn]) (n := 1) (Nat.le_of_ble_eq_true rfl)
  rw [lg_entry_eq]
  generalize (lg_sl ([.ref a_pn]) ++ List.replicate (1 - (lg_sl ([.ref a_pn])).length) Slot.unset).toArray = ls at hl ⊢
  have hl : lv_has ls 1 [(0, .ref a_pn)] := hl
  refine qW (fun QF hQF => ?_)
  have z0_ := hts (.fieldLink RX8 22 "HeardSeen$Plan" "fault" "I") (by decide +kernel)
  have zi8_ : ∀ w ∈ u_ws RX8 TX8 7, w ∈ wsX8_refuseToken := by decide +kernel
  have z2_ := hts (.fieldLink RX8 35 "HeardSeen$Plan" "start" "I") (by decide +kernel)
  refine lv_aload_n hx hb dX8_refuseToken_0 rfl (lv_at hl 0 rfl) ?_
  refine va_get (D := D) (ci := 8) (v := .int pn_fault) (C := RX8) (T := TX8) (N := 7) hx hb hts zi8_ hown hK hP 0 rfl rfl 6 (by decide) z0_ (fun _ h9 => h9) rfl dX8_refuseToken_1 ?_
  refine lv_iconst (v := (-1)) hx hb dX8_refuseToken_4 (by decide) ?_
  refine lv_icmp_ne (tgt := 16) hx hb dX8_refuseToken_5 (by decide) (fun c1 => ?_) (fun c1 => ?_)
  · skip
    subst hQF
    have hP9 := hP
    have hD9 := hD
    exact W.vret hx hb hr (fun t ht hW => ⟨⟨pn_fault, rfl, (by first | assumption | exact z_m1 hst), by rw [ht]; exact hP9, hD9⟩, hS.F ht⟩) hS.2.2 dX8_refuseToken_16
  · skip
    refine lv_aload_n hx hb dX8_refuseToken_8 rfl (lv_at hl 0 rfl) ?_
    refine lv_aload_n hx hb dX8_refuseToken_9 rfl (lv_at hl 0 rfl) ?_
    refine va_get (D := D) (ci := 8) (v := .int pn_start) (C := RX8) (T := TX8) (N := 7) hx hb hts zi8_ hown hK hP 0 rfl rfl 4 (by decide) z2_ (fun _ h9 => h9) rfl dX8_refuseToken_10 ?_
    refine va_put (D := D) (ci := 8) (v := .int pn_start) (ty := .int) (C := RX8) (T := TX8) (N := 7) hx hb hts zi8_ tyX8 tyX8_ok nmX8 hown hK hP hD hS 0 rfl rfl 6 (by decide) z0_ (fun _ h9 => h9) rfl (by decide +kernel) rfl rfl (Nat.le_of_ble_eq_true rfl) dX8_refuseToken_13 (fun H locs hP hD hS => ?_)
    have hP : va_P D vwCl [(a_pn, .inr (8, [.ref a_by, .int pn_length, .int pn_next, .int pn_sort, .int pn_start, .int pn_value, .int pn_start]))] H := hP
    have hD : va_D A [(a_pn, .inr (8, [.ref a_by, .int pn_length, .int pn_next, .int pn_sort, .int pn_start, .int pn_value, .int pn_start]))] := hD
    subst hQF
    have hP9 := hP
    have hD9 := hD
    exact W.vret hx hb hr (fun t ht hW => ⟨⟨pn_start, rfl, (by first | assumption | exact z_m1 hst), by rw [ht]; exact hP9, hD9⟩, hS.F ht⟩) hS.2.2 dX8_refuseToken_16

set_option maxHeartbeats 4000000 in
set_option maxRecDepth 100000 in
theorem n_X8_numberWithin (l : Launch) (D : va_G) (cy : Nat → ClassId) (a_pn : Nat) (a_by : Nat) (pn_length : Int32) (pn_next : Int32) (pn_sort : Int32) (pn_start : Int32) (pn_value : Int32) (pn_fault : Int32) (by_f : Nat → Int32) (px : Int32) (py : Int32) (sz : Nat) (hnx : 0 ≤ pn_next) (hst : 0 ≤ pn_start) : Met l yX8_numberWithin wsX8_numberWithin ({ frames := 3, cells := 0, slots := 0, locals := 63 }) (va_Pc [.ref a_pn, .int px, .int py] (kPre D cy [(a_pn, .inr (8, [.ref a_by, .int pn_length, .int pn_next, .int pn_sort, .int pn_start, .int pn_value, .int pn_fault])), (a_by, .inl (cy 0, 250, .inl by_f))] sz)) (va_Qi (fun (r : Int32) (u : Int32 × Int32 × Int32 × Int32 × Int32) => 0 ≤ u.1 ∧ 0 ≤ u.2.2.1 ∧ (u.2.2.2.2 = -1 → pn_fault = -1 ∧ px ≤ r ∧ r ≤ py)) (fun (u : Int32 × Int32 × Int32 × Int32 × Int32) t => va_P D vwCl ([(a_pn, .inr (8, [.ref a_by, .int pn_length, .int u.1, .int u.2.1, .int u.2.2.1, .int u.2.2.2.1, .int u.2.2.2.2])), (a_by, .inl (cy 0, 250, .inl by_f))]) t.heap ∧ va_D (va_A [(a_pn, .inr (8, [.ref a_by, .int pn_length, .int pn_next, .int pn_sort, .int pn_start, .int pn_value, .int pn_fault])), (a_by, .inl (cy 0, 250, .inl by_f))] sz) ([(a_pn, .inr (8, [.ref a_by, .int pn_length, .int u.1, .int u.2.1, .int u.2.2.1, .int u.2.2.2.1, .int u.2.2.2.2])), (a_by, .inl (cy 0, 250, .inl by_f))])) (va_A [(a_pn, .inr (8, [.ref a_by, .int pn_length, .int pn_next, .int pn_sort, .int pn_start, .int pn_value, .int pn_fault])), (a_by, .inl (cy 0, 250, .inl by_f))] sz)) 0 0 (va_A [(a_pn, .inr (8, [.ref a_by, .int pn_length, .int pn_next, .int pn_sort, .int pn_start, .int pn_value, .int pn_fault])), (a_by, .inl (cy 0, 250, .inl by_f))] sz) := by
  refine Met.ofW (cc := cX8_numberWithin) (maxL := 3) (ret := (some .int)) (by decide) rfl ?_
  intro p e s m args below meth c s₁ B hml hv
  obtain ⟨rfl, hsz, hP, hKA, hD0⟩ := hv
  have hx := B.exec
  have hb := B.bytes
  have hr := B.returns
  have hts := atoms_spec (ws := wsX8_numberWithin) B.pre
  have hown : s.vm.findClass RX8 = some m.cls := findClass_of_methodNamed B.named
  have hlocks := B.notSynchronized
  subst hsz
  have hK := hKA.1
  have hD := hD0.self (sz := s.heap.size)
  generalize hAe : va_A [(a_pn, .inr (8, [.ref a_by, .int pn_length, .int pn_next, .int pn_sort, .int pn_start, .int pn_value, .int pn_fault])), (a_by, .inl (cy 0, 250, .inl by_f))] s.heap.size = A at hD ⊢
  have hA : ∀ q : Nat, s.heap.size ≤ q → A q := fun q h => by rw [← hAe]; exact Or.inr h
  have hS : va_S A s.heap s.heap [] := va_S.rf
  have hP : va_P D vwCl [(a_pn, .inr (8, [.ref a_by, .int pn_length, .int pn_next, .int pn_sort, .int pn_start, .int pn_value, .int pn_fault])), (a_by, .inl (cy 0, 250, .inl by_f))] s.heap := hP
  have hl := lv_entry ([.ref a_pn, .int px, .int py]) (n := 3) (Nat.le_of_ble_eq_true rfl)
  rw [lg_entry_eq]
  generalize (lg_sl ([.ref a_pn, .int px, .int py]) ++ List.replicate (3 - (lg_sl ([.ref a_pn, .int px, .int py])).length) Slot.unset).toArray = ls at hl ⊢
  have hl : lv_has ls 3 [(0, .ref a_pn), (1, .int px), (2, .int py)] := hl
  refine qW (fun QF hQF => ?_)
  have z0_ := hts (.fieldLink RX8 22 "HeardSeen$Plan" "fault" "I") (by decide +kernel)
  have zi8_ : ∀ w ∈ u_ws RX8 TX8 7, w ∈ wsX8_numberWithin := by decide +kernel
  have z2_ := hts (.fieldLink RX8 28 "HeardSeen$Plan" "sort" "I") (by decide +kernel)
  have z3_ := hts (.fieldLink RX8 114 "HeardSeen$Plan" "value" "I") (by decide +kernel)
  refine lv_aload_n hx hb dX8_numberWithin_0 rfl (lv_at hl 0 rfl) ?_
  refine va_get (D := D) (ci := 8) (v := .int pn_fault) (C := RX8) (T := TX8) (N := 7) hx hb hts zi8_ hown hK hP 0 rfl rfl 6 (by decide) z0_ (fun _ h9 => h9) rfl dX8_numberWithin_1 ?_
  refine lv_iconst (v := (-1)) hx hb dX8_numberWithin_4 (by decide) ?_
  refine lv_icmp_eq (tgt := 10) hx hb dX8_numberWithin_5 (by decide) (fun c1 => ?_) (fun c1 => ?_)
  · skip
    refine lv_aload_n hx hb dX8_numberWithin_10 rfl (lv_at hl 0 rfl) ?_
    refine wr_v (wr := []) (va_runV (As := []) (rest := []) ⟨hx, hb, hml, hown, hts⟩ (n_X8_takeToken l D cy a_pn a_by pn_length pn_next pn_sort pn_start pn_value pn_fault by_f _ (by first | assumption | omega)) (cwV 0 hts gX8_numberWithin_X8_takeToken rfl rfl rfl (by decide +kernel) ⟨Nat.le_of_ble_eq_true rfl, Nat.le_of_ble_eq_true rfl⟩) (pV (ci := 8) (k := 0) hKA (hP.sub (ws' := [(a_pn, .inr (8, [.ref a_by, .int pn_length, .int pn_next, .int pn_sort, .int pn_start, .int pn_value, .int pn_fault])), (a_by, .inl (cy 0, 250, .inl by_f))]) [0, 1] rfl) (hD.sub (ws' := [(a_pn, .inr (8, [.ref a_by, .int pn_length, .int pn_next, .int pn_sort, .int pn_start, .int pn_value, .int pn_fault])), (a_by, .inl (cy 0, 250, .inl by_f))]) [0, 1] (by decide) rfl) rfl rfl) rfl rfl hl.1 rfl (lv_room (Nat.le_of_ble_eq_true rfl)) dX8_numberWithin_11 ⟨Nat.le_of_ble_eq_true rfl, Nat.le_of_ble_eq_true rfl⟩) hP hD hS hA [0, 1] [] rfl rfl (by decide +kernel) (by decide +kernel) (fun ur2 H locs hwr2 hP hD hS => ?_)
    obtain ⟨z3, z4, z5, z6⟩ := ur2
    have hP : va_P D vwCl [(a_pn, .inr (8, [.ref a_by, .int pn_length, .int z3, .int z4, .int z5, .int z6, .int pn_fault])), (a_by, .inl (cy 0, 250, .inl by_f))] H := hP
    have hD : va_D A [(a_pn, .inr (8, [.ref a_by, .int pn_length, .int z3, .int z4, .int z5, .int z6, .int pn_fault])), (a_by, .inl (cy 0, 250, .inl by_f))] := hD
    have hwr2 : 0 ≤ z3 ∧ 0 ≤ z5 := hwr2
    obtain ⟨hna, hsa⟩ := hwr2
    refine lv_aload_n hx hb dX8_numberWithin_14 rfl (lv_at hl 0 rfl) ?_
    refine va_get (D := D) (ci := 8) (v := .int z4) (C := RX8) (T := TX8) (N := 7) hx hb hts zi8_ hown hK hP 0 rfl rfl 3 (by decide) z2_ (fun _ h9 => h9) rfl dX8_numberWithin_15 ?_
    refine lv_iconst (v := 2) hx hb dX8_numberWithin_18 (by decide) ?_
    refine lv_icmp_ne (tgt := 38) hx hb dX8_numberWithin_19 (by decide) (fun c7 => ?_) (fun c7 => ?_)
    · skip
      refine lv_aload_n hx hb dX8_numberWithin_38 rfl (lv_at hl 0 rfl) ?_
      refine wr_v (wr := [(a_by, .inl (cy 0, 250, .inl by_f))]) (va_runV (As := []) (rest := []) ⟨hx, hb, hml, hown, hts⟩ (n_X8_refuseToken l D cy a_pn a_by pn_length z3 z4 z5 z6 pn_fault _ (by first | assumption | omega)) (cwV 0 hts gX8_numberWithin_X8_refuseToken rfl rfl rfl (by decide +kernel) ⟨Nat.le_of_ble_eq_true rfl, Nat.le_of_ble_eq_true rfl⟩) (pV (ci := 8) (k := 0) hKA (hP.sub (ws' := [(a_pn, .inr (8, [.ref a_by, .int pn_length, .int z3, .int z4, .int z5, .int z6, .int pn_fault]))]) [0] rfl) (hD.sub (ws' := [(a_pn, .inr (8, [.ref a_by, .int pn_length, .int z3, .int z4, .int z5, .int z6, .int pn_fault]))]) [0] (by decide) rfl) rfl rfl) rfl rfl hl.1 rfl (lv_room (Nat.le_of_ble_eq_true rfl)) dX8_numberWithin_39 ⟨Nat.le_of_ble_eq_true rfl, Nat.le_of_ble_eq_true rfl⟩) hP hD hS hA [0] [1] rfl rfl (by decide +kernel) (by decide +kernel) (fun ur8 H locs hwr8 hP hD hS => ?_)
      obtain ⟨z9, rfl⟩ : ∃ z, z = ur8 := ⟨_, rfl⟩
      have hP : va_P D vwCl [(a_by, .inl (cy 0, 250, .inl by_f)), (a_pn, .inr (8, [.ref a_by, .int pn_length, .int z3, .int z4, .int z5, .int z6, .int z9]))] H := hP
      have hD : va_D A [(a_by, .inl (cy 0, 250, .inl by_f)), (a_pn, .inr (8, [.ref a_by, .int pn_length, .int z3, .int z4, .int z5, .int z6, .int z9]))] := hD
      have hwr8 : ¬ z9 = -1 := hwr8
      refine lv_aload_n hx hb dX8_numberWithin_42 rfl (lv_at hl 0 rfl) ?_
      refine va_get (D := D) (ci := 8) (v := .int z6) (C := RX8) (T := TX8) (N := 7) hx hb hts zi8_ hown hK hP 1 rfl rfl 5 (by decide) z3_ (fun _ h9 => h9) rfl dX8_numberWithin_43 ?_
      subst hQF
      have hP9 := hP.sub (ws' := [(a_pn, .inr (8, [.ref a_by, .int pn_length, .int z3, .int z4, .int z5, .int z6, .int z9])), (a_by, .inl (cy 0, 250, .inl by_f))]) [1, 0] rfl
      have hD9 := hD.sub (ws' := [(a_pn, .inr (8, [.ref a_by, .int pn_length, .int z3, .int z4, .int z5, .int z6, .int z9])), (a_by, .inl (cy 0, 250, .inl by_f))]) [1, 0] (by decide) rfl
      exact W.iret (v := z6) hx hb hr (fun t ht hW => ⟨⟨z6, (z3, z4, z5, z6, z9), rfl, ⟨by assumption, by assumption, fun q => (by first | exact absurd q (by assumption) | exact ⟨by assumption, Int32.not_lt.mp (by assumption), by assumption⟩)⟩, by rw [ht]; exact hP9, hD9⟩, hS.F ht⟩) hS.2.2 dX8_numberWithin_46
    · skip
      refine lv_aload_n hx hb dX8_numberWithin_22 rfl (lv_at hl 0 rfl) ?_
      refine va_get (D := D) (ci := 8) (v := .int z6) (C := RX8) (T := TX8) (N := 7) hx hb hts zi8_ hown hK hP 0 rfl rfl 5 (by decide) z3_ (fun _ h9 => h9) rfl dX8_numberWithin_23 ?_
      refine lv_iload_n hx hb dX8_numberWithin_26 rfl (lv_at hl 1 rfl) ?_
      refine lv_icmp_lt (tgt := 38) hx hb dX8_numberWithin_27 (by decide) (fun c10 => ?_) (fun c10 => ?_)
      · skip
        refine lv_aload_n hx hb dX8_numberWithin_38 rfl (lv_at hl 0 rfl) ?_
        refine wr_v (wr := [(a_by, .inl (cy 0, 250, .inl by_f))]) (va_runV (As := []) (rest := []) ⟨hx, hb, hml, hown, hts⟩ (n_X8_refuseToken l D cy a_pn a_by pn_length z3 z4 z5 z6 pn_fault _ (by first | assumption | omega)) (cwV 0 hts gX8_numberWithin_X8_refuseToken rfl rfl rfl (by decide +kernel) ⟨Nat.le_of_ble_eq_true rfl, Nat.le_of_ble_eq_true rfl⟩) (pV (ci := 8) (k := 0) hKA (hP.sub (ws' := [(a_pn, .inr (8, [.ref a_by, .int pn_length, .int z3, .int z4, .int z5, .int z6, .int pn_fault]))]) [0] rfl) (hD.sub (ws' := [(a_pn, .inr (8, [.ref a_by, .int pn_length, .int z3, .int z4, .int z5, .int z6, .int pn_fault]))]) [0] (by decide) rfl) rfl rfl) rfl rfl hl.1 rfl (lv_room (Nat.le_of_ble_eq_true rfl)) dX8_numberWithin_39 ⟨Nat.le_of_ble_eq_true rfl, Nat.le_of_ble_eq_true rfl⟩) hP hD hS hA [0] [1] rfl rfl (by decide +kernel) (by decide +kernel) (fun ur11 H locs hwr11 hP hD hS => ?_)
        obtain ⟨z12, rfl⟩ : ∃ z, z = ur11 := ⟨_, rfl⟩
        have hP : va_P D vwCl [(a_by, .inl (cy 0, 250, .inl by_f)), (a_pn, .inr (8, [.ref a_by, .int pn_length, .int z3, .int z4, .int z5, .int z6, .int z12]))] H := hP
        have hD : va_D A [(a_by, .inl (cy 0, 250, .inl by_f)), (a_pn, .inr (8, [.ref a_by, .int pn_length, .int z3, .int z4, .int z5, .int z6, .int z12]))] := hD
        have hwr11 : ¬ z12 = -1 := hwr11
        refine lv_aload_n hx hb dX8_numberWithin_42 rfl (lv_at hl 0 rfl) ?_
        refine va_get (D := D) (ci := 8) (v := .int z6) (C := RX8) (T := TX8) (N := 7) hx hb hts zi8_ hown hK hP 1 rfl rfl 5 (by decide) z3_ (fun _ h9 => h9) rfl dX8_numberWithin_43 ?_
        subst hQF
        have hP9 := hP.sub (ws' := [(a_pn, .inr (8, [.ref a_by, .int pn_length, .int z3, .int z4, .int z5, .int z6, .int z12])), (a_by, .inl (cy 0, 250, .inl by_f))]) [1, 0] rfl
        have hD9 := hD.sub (ws' := [(a_pn, .inr (8, [.ref a_by, .int pn_length, .int z3, .int z4, .int z5, .int z6, .int z12])), (a_by, .inl (cy 0, 250, .inl by_f))]) [1, 0] (by decide) rfl
        exact W.iret (v := z6) hx hb hr (fun t ht hW => ⟨⟨z6, (z3, z4, z5, z6, z12), rfl, ⟨by assumption, by assumption, fun q => (by first | exact absurd q (by assumption) | exact ⟨by assumption, Int32.not_lt.mp (by assumption), by assumption⟩)⟩, by rw [ht]; exact hP9, hD9⟩, hS.F ht⟩) hS.2.2 dX8_numberWithin_46
      · skip
        refine lv_aload_n hx hb dX8_numberWithin_30 rfl (lv_at hl 0 rfl) ?_
        refine va_get (D := D) (ci := 8) (v := .int z6) (C := RX8) (T := TX8) (N := 7) hx hb hts zi8_ hown hK hP 0 rfl rfl 5 (by decide) z3_ (fun _ h9 => h9) rfl dX8_numberWithin_31 ?_
        refine lv_iload_n hx hb dX8_numberWithin_34 rfl (lv_at hl 2 rfl) ?_
        refine lv_icmp_le (tgt := 42) hx hb dX8_numberWithin_35 (by decide) (fun c13 => ?_) (fun c13 => ?_)
        · skip
          refine lv_aload_n hx hb dX8_numberWithin_42 rfl (lv_at hl 0 rfl) ?_
          refine va_get (D := D) (ci := 8) (v := .int z6) (C := RX8) (T := TX8) (N := 7) hx hb hts zi8_ hown hK hP 0 rfl rfl 5 (by decide) z3_ (fun _ h9 => h9) rfl dX8_numberWithin_43 ?_
          subst hQF
          have hP9 := hP
          have hD9 := hD
          exact W.iret (v := z6) hx hb hr (fun t ht hW => ⟨⟨z6, (z3, z4, z5, z6, pn_fault), rfl, ⟨by assumption, by assumption, fun q => (by first | exact absurd q (by assumption) | exact ⟨by assumption, Int32.not_lt.mp (by assumption), by assumption⟩)⟩, by rw [ht]; exact hP9, hD9⟩, hS.F ht⟩) hS.2.2 dX8_numberWithin_46
        · skip
          refine lv_aload_n hx hb dX8_numberWithin_38 rfl (lv_at hl 0 rfl) ?_
          refine wr_v (wr := [(a_by, .inl (cy 0, 250, .inl by_f))]) (va_runV (As := []) (rest := []) ⟨hx, hb, hml, hown, hts⟩ (n_X8_refuseToken l D cy a_pn a_by pn_length z3 z4 z5 z6 pn_fault _ (by first | assumption | omega)) (cwV 0 hts gX8_numberWithin_X8_refuseToken rfl rfl rfl (by decide +kernel) ⟨Nat.le_of_ble_eq_true rfl, Nat.le_of_ble_eq_true rfl⟩) (pV (ci := 8) (k := 0) hKA (hP.sub (ws' := [(a_pn, .inr (8, [.ref a_by, .int pn_length, .int z3, .int z4, .int z5, .int z6, .int pn_fault]))]) [0] rfl) (hD.sub (ws' := [(a_pn, .inr (8, [.ref a_by, .int pn_length, .int z3, .int z4, .int z5, .int z6, .int pn_fault]))]) [0] (by decide) rfl) rfl rfl) rfl rfl hl.1 rfl (lv_room (Nat.le_of_ble_eq_true rfl)) dX8_numberWithin_39 ⟨Nat.le_of_ble_eq_true rfl, Nat.le_of_ble_eq_true rfl⟩) hP hD hS hA [0] [1] rfl rfl (by decide +kernel) (by decide +kernel) (fun ur14 H locs hwr14 hP hD hS => ?_)
          obtain ⟨z15, rfl⟩ : ∃ z, z = ur14 := ⟨_, rfl⟩
          have hP : va_P D vwCl [(a_by, .inl (cy 0, 250, .inl by_f)), (a_pn, .inr (8, [.ref a_by, .int pn_length, .int z3, .int z4, .int z5, .int z6, .int z15]))] H := hP
          have hD : va_D A [(a_by, .inl (cy 0, 250, .inl by_f)), (a_pn, .inr (8, [.ref a_by, .int pn_length, .int z3, .int z4, .int z5, .int z6, .int z15]))] := hD
          have hwr14 : ¬ z15 = -1 := hwr14
          refine lv_aload_n hx hb dX8_numberWithin_42 rfl (lv_at hl 0 rfl) ?_
          refine va_get (D := D) (ci := 8) (v := .int z6) (C := RX8) (T := TX8) (N := 7) hx hb hts zi8_ hown hK hP 1 rfl rfl 5 (by decide) z3_ (fun _ h9 => h9) rfl dX8_numberWithin_43 ?_
          subst hQF
          have hP9 := hP.sub (ws' := [(a_pn, .inr (8, [.ref a_by, .int pn_length, .int z3, .int z4, .int z5, .int z6, .int z15])), (a_by, .inl (cy 0, 250, .inl by_f))]) [1, 0] rfl
          have hD9 := hD.sub (ws' := [(a_pn, .inr (8, [.ref a_by, .int pn_length, .int z3, .int z4, .int z5, .int z6, .int z15])), (a_by, .inl (cy 0, 250, .inl by_f))]) [1, 0] (by decide) rfl
          exact W.iret (v := z6) hx hb hr (fun t ht hW => ⟨⟨z6, (z3, z4, z5, z6, z15), rfl, ⟨by assumption, by assumption, fun q => (by first | exact absurd q (by assumption) | exact ⟨by assumption, Int32.not_lt.mp (by assumption), by assumption⟩)⟩, by rw [ht]; exact hP9, hD9⟩, hS.F ht⟩) hS.2.2 dX8_numberWithin_46
  · skip
    refine lv_iconst (v := (-1)) hx hb dX8_numberWithin_8 (by decide) ?_
    subst hQF
    have hP9 := hP
    have hD9 := hD
    exact W.iret (v := (-1)) hx hb hr (fun t ht hW => ⟨⟨(-1), (pn_next, pn_sort, pn_start, pn_value, pn_fault), rfl, ⟨hnx, hst, fun q => absurd q (by assumption)⟩, by rw [ht]; exact hP9, hD9⟩, hS.F ht⟩) hS.2.2 dX8_numberWithin_9

set_option maxHeartbeats 4000000 in
set_option maxRecDepth 100000 in
theorem n_X8_isEnded (l : Launch) (D : va_G) (cy : Nat → ClassId) (a_pn : Nat) (a_by : Nat) (pn_length : Int32) (pn_next : Int32) (pn_sort : Int32) (pn_start : Int32) (pn_value : Int32) (pn_fault : Int32) (by_f : Nat → Int32) (sz : Nat) (hnx : 0 ≤ pn_next) (hst : 0 ≤ pn_start) : Met l yX8_isEnded wsX8_isEnded ({ frames := 3, cells := 0, slots := 0, locals := 63 }) (va_Pc [.ref a_pn] (kPre D cy [(a_pn, .inr (8, [.ref a_by, .int pn_length, .int pn_next, .int pn_sort, .int pn_start, .int pn_value, .int pn_fault])), (a_by, .inl (cy 0, 250, .inl by_f))] sz)) (va_Qi (fun (r : Int32) (u : Int32 × Int32 × Int32 × Int32 × Int32) => (r = 1 ∧ (0 ≤ u.1 ∧ 0 ≤ u.2.2.1 ∧ pn_fault = -1 ∧ u.2.2.2.2 = -1)) ∨ (r = 0 ∧ (0 ≤ u.1 ∧ 0 ≤ u.2.2.1))) (fun (u : Int32 × Int32 × Int32 × Int32 × Int32) t => va_P D vwCl ([(a_pn, .inr (8, [.ref a_by, .int pn_length, .int u.1, .int u.2.1, .int u.2.2.1, .int u.2.2.2.1, .int u.2.2.2.2])), (a_by, .inl (cy 0, 250, .inl by_f))]) t.heap ∧ va_D (va_A [(a_pn, .inr (8, [.ref a_by, .int pn_length, .int pn_next, .int pn_sort, .int pn_start, .int pn_value, .int pn_fault])), (a_by, .inl (cy 0, 250, .inl by_f))] sz) ([(a_pn, .inr (8, [.ref a_by, .int pn_length, .int u.1, .int u.2.1, .int u.2.2.1, .int u.2.2.2.1, .int u.2.2.2.2])), (a_by, .inl (cy 0, 250, .inl by_f))])) (va_A [(a_pn, .inr (8, [.ref a_by, .int pn_length, .int pn_next, .int pn_sort, .int pn_start, .int pn_value, .int pn_fault])), (a_by, .inl (cy 0, 250, .inl by_f))] sz)) 0 0 (va_A [(a_pn, .inr (8, [.ref a_by, .int pn_length, .int pn_next, .int pn_sort, .int pn_start, .int pn_value, .int pn_fault])), (a_by, .inl (cy 0, 250, .inl by_f))] sz) := by
  refine Met.ofW (cc := cX8_isEnded) (maxL := 1) (ret := (some .boolean)) (by decide) rfl ?_
  intro p e s m args below meth c s₁ B hml hv
  obtain ⟨rfl, hsz, hP, hKA, hD0⟩ := hv
  have hx := B.exec
  have hb := B.bytes
  have hr := B.returns
  have hts := atoms_spec (ws := wsX8_isEnded) B.pre
  have hown : s.vm.findClass RX8 = some m.cls := findClass_of_methodNamed B.named
  have hlocks := B.notSynchronized
  subst hsz
  have hK := hKA.1
  have hD := hD0.self (sz := s.heap.size)
  generalize hAe : va_A [(a_pn, .inr (8, [.ref a_by, .int pn_length, .int pn_next, .int pn_sort, .int pn_start, .int pn_value, .int pn_fault])), (a_by, .inl (cy 0, 250, .inl by_f))] s.heap.size = A at hD ⊢
  have hA : ∀ q : Nat, s.heap.size ≤ q → A q := fun q h => by rw [← hAe]; exact Or.inr h
  have hS : va_S A s.heap s.heap [] := va_S.rf
  have hP : va_P D vwCl [(a_pn, .inr (8, [.ref a_by, .int pn_length, .int pn_next, .int pn_sort, .int pn_start, .int pn_value, .int pn_fault])), (a_by, .inl (cy 0, 250, .inl by_f))] s.heap := hP
  have hl := lv_entry ([.ref a_pn]) (n := 1) (Nat.le_of_ble_eq_true rfl)
  rw [lg_entry_eq]
  generalize (lg_sl ([.ref a_pn]) ++ List.replicate (1 - (lg_sl ([.ref a_pn])).length) Slot.unset).toArray = ls at hl ⊢
  have hl : lv_has ls 1 [(0, .ref a_pn)] := hl
  refine qW (fun QF hQF => ?_)
  have z0_ := hts (.fieldLink RX8 22 "HeardSeen$Plan" "fault" "I") (by decide +kernel)
  have zi8_ : ∀ w ∈ u_ws RX8 TX8 7, w ∈ wsX8_isEnded := by decide +kernel
  have z2_ := hts (.fieldLink RX8 28 "HeardSeen$Plan" "sort" "I") (by decide +kernel)
  refine lv_aload_n hx hb dX8_isEnded_0 rfl (lv_at hl 0 rfl) ?_
  refine va_get (D := D) (ci := 8) (v := .int pn_fault) (C := RX8) (T := TX8) (N := 7) hx hb hts zi8_ hown hK hP 0 rfl rfl 6 (by decide) z0_ (fun _ h9 => h9) rfl dX8_isEnded_1 ?_
  refine lv_iconst (v := (-1)) hx hb dX8_isEnded_4 (by decide) ?_
  refine lv_icmp_eq (tgt := 10) hx hb dX8_isEnded_5 (by decide) (fun c1 => ?_) (fun c1 => ?_)
  · skip
    refine lv_aload_n hx hb dX8_isEnded_10 rfl (lv_at hl 0 rfl) ?_
    refine wr_v (wr := []) (va_runV (As := []) (rest := []) ⟨hx, hb, hml, hown, hts⟩ (n_X8_takeToken l D cy a_pn a_by pn_length pn_next pn_sort pn_start pn_value pn_fault by_f _ (by first | assumption | omega)) (cwV 0 hts gX8_isEnded_X8_takeToken rfl rfl rfl (by decide +kernel) ⟨Nat.le_of_ble_eq_true rfl, Nat.le_of_ble_eq_true rfl⟩) (pV (ci := 8) (k := 0) hKA (hP.sub (ws' := [(a_pn, .inr (8, [.ref a_by, .int pn_length, .int pn_next, .int pn_sort, .int pn_start, .int pn_value, .int pn_fault])), (a_by, .inl (cy 0, 250, .inl by_f))]) [0, 1] rfl) (hD.sub (ws' := [(a_pn, .inr (8, [.ref a_by, .int pn_length, .int pn_next, .int pn_sort, .int pn_start, .int pn_value, .int pn_fault])), (a_by, .inl (cy 0, 250, .inl by_f))]) [0, 1] (by decide) rfl) rfl rfl) rfl rfl hl.1 rfl (lv_room (Nat.le_of_ble_eq_true rfl)) dX8_isEnded_11 ⟨Nat.le_of_ble_eq_true rfl, Nat.le_of_ble_eq_true rfl⟩) hP hD hS hA [0, 1] [] rfl rfl (by decide +kernel) (by decide +kernel) (fun ur2 H locs hwr2 hP hD hS => ?_)
    obtain ⟨z3, z4, z5, z6⟩ := ur2
    have hP : va_P D vwCl [(a_pn, .inr (8, [.ref a_by, .int pn_length, .int z3, .int z4, .int z5, .int z6, .int pn_fault])), (a_by, .inl (cy 0, 250, .inl by_f))] H := hP
    have hD : va_D A [(a_pn, .inr (8, [.ref a_by, .int pn_length, .int z3, .int z4, .int z5, .int z6, .int pn_fault])), (a_by, .inl (cy 0, 250, .inl by_f))] := hD
    have hwr2 : 0 ≤ z3 ∧ 0 ≤ z5 := hwr2
    obtain ⟨hna, hsa⟩ := hwr2
    refine lv_aload_n hx hb dX8_isEnded_14 rfl (lv_at hl 0 rfl) ?_
    refine va_get (D := D) (ci := 8) (v := .int z4) (C := RX8) (T := TX8) (N := 7) hx hb hts zi8_ hown hK hP 0 rfl rfl 3 (by decide) z2_ (fun _ h9 => h9) rfl dX8_isEnded_15 ?_
    refine lv_iconst (v := 4) hx hb dX8_isEnded_18 (by decide) ?_
    refine lv_icmp_eq (tgt := 26) hx hb dX8_isEnded_19 (by decide) (fun c7 => ?_) (fun c7 => ?_)
    · skip
      refine lv_aload_n hx hb dX8_isEnded_26 rfl (lv_at hl 0 rfl) ?_
      refine va_get (D := D) (ci := 8) (v := .int pn_fault) (C := RX8) (T := TX8) (N := 7) hx hb hts zi8_ hown hK hP 0 rfl rfl 6 (by decide) z0_ (fun _ h9 => h9) rfl dX8_isEnded_27 ?_
      refine lv_iconst (v := (-1)) hx hb dX8_isEnded_30 (by decide) ?_
      refine lv_icmp_ne (tgt := 38) hx hb dX8_isEnded_31 (by decide) (fun c8 => ?_) (fun c8 => ?_)
      · skip
        refine lv_iconst (v := 0) hx hb dX8_isEnded_38 (by decide) ?_
        subst hQF
        have hP9 := hP
        have hD9 := hD
        exact W.zret (v := 0) hx hb hr rfl (fun t ht hW => ⟨⟨0, (z3, z4, z5, z6, pn_fault), rfl, (Or.inr ⟨rfl, by assumption, by assumption⟩), by rw [ht]; exact hP9, hD9⟩, hS.F ht⟩) hS.2.2 dX8_isEnded_39
      · skip
        refine lv_iconst (v := 1) hx hb dX8_isEnded_34 (by decide) ?_
        refine lv_goto (tgt := 39) hx hb dX8_isEnded_35 (by decide) ?_
        subst hQF
        have hP9 := hP
        have hD9 := hD
        exact W.zret (v := 1) hx hb hr rfl (fun t ht hW => ⟨⟨1, (z3, z4, z5, z6, pn_fault), rfl, (Or.inl ⟨rfl, by assumption, by assumption, by assumption, by assumption⟩), by rw [ht]; exact hP9, hD9⟩, hS.F ht⟩) hS.2.2 dX8_isEnded_39
    · skip
      refine lv_aload_n hx hb dX8_isEnded_22 rfl (lv_at hl 0 rfl) ?_
      refine wr_v (wr := [(a_by, .inl (cy 0, 250, .inl by_f))]) (va_runV (As := []) (rest := []) ⟨hx, hb, hml, hown, hts⟩ (n_X8_refuseToken l D cy a_pn a_by pn_length z3 z4 z5 z6 pn_fault _ (by first | assumption | omega)) (cwV 0 hts gX8_isEnded_X8_refuseToken rfl rfl rfl (by decide +kernel) ⟨Nat.le_of_ble_eq_true rfl, Nat.le_of_ble_eq_true rfl⟩) (pV (ci := 8) (k := 0) hKA (hP.sub (ws' := [(a_pn, .inr (8, [.ref a_by, .int pn_length, .int z3, .int z4, .int z5, .int z6, .int pn_fault]))]) [0] rfl) (hD.sub (ws' := [(a_pn, .inr (8, [.ref a_by, .int pn_length, .int z3, .int z4, .int z5, .int z6, .int pn_fault]))]) [0] (by decide) rfl) rfl rfl) rfl rfl hl.1 rfl (lv_room (Nat.le_of_ble_eq_true rfl)) dX8_isEnded_23 ⟨Nat.le_of_ble_eq_true rfl, Nat.le_of_ble_eq_true rfl⟩) hP hD hS hA [0] [1] rfl rfl (by decide +kernel) (by decide +kernel) (fun ur9 H locs hwr9 hP hD hS => ?_)
      obtain ⟨z10, rfl⟩ : ∃ z, z = ur9 := ⟨_, rfl⟩
      have hP : va_P D vwCl [(a_by, .inl (cy 0, 250, .inl by_f)), (a_pn, .inr (8, [.ref a_by, .int pn_length, .int z3, .int z4, .int z5, .int z6, .int z10]))] H := hP
      have hD : va_D A [(a_by, .inl (cy 0, 250, .inl by_f)), (a_pn, .inr (8, [.ref a_by, .int pn_length, .int z3, .int z4, .int z5, .int z6, .int z10]))] := hD
      have hwr9 : ¬ z10 = -1 := hwr9
      refine lv_aload_n hx hb dX8_isEnded_26 rfl (lv_at hl 0 rfl) ?_
      refine va_get (D := D) (ci := 8) (v := .int z10) (C := RX8) (T := TX8) (N := 7) hx hb hts zi8_ hown hK hP 1 rfl rfl 6 (by decide) z0_ (fun _ h9 => h9) rfl dX8_isEnded_27 ?_
      refine lv_iconst (v := (-1)) hx hb dX8_isEnded_30 (by decide) ?_
      refine lv_icmp_ne (tgt := 38) hx hb dX8_isEnded_31 (by decide) (fun c11 => ?_) (fun c11 => ?_)
      · skip
        refine lv_iconst (v := 0) hx hb dX8_isEnded_38 (by decide) ?_
        subst hQF
        have hP9 := hP.sub (ws' := [(a_pn, .inr (8, [.ref a_by, .int pn_length, .int z3, .int z4, .int z5, .int z6, .int z10])), (a_by, .inl (cy 0, 250, .inl by_f))]) [1, 0] rfl
        have hD9 := hD.sub (ws' := [(a_pn, .inr (8, [.ref a_by, .int pn_length, .int z3, .int z4, .int z5, .int z6, .int z10])), (a_by, .inl (cy 0, 250, .inl by_f))]) [1, 0] (by decide) rfl
        exact W.zret (v := 0) hx hb hr rfl (fun t ht hW => ⟨⟨0, (z3, z4, z5, z6, z10), rfl, (Or.inr ⟨rfl, by assumption, by assumption⟩), by rw [ht]; exact hP9, hD9⟩, hS.F ht⟩) hS.2.2 dX8_isEnded_39
      · skip
        refine lv_iconst (v := 1) hx hb dX8_isEnded_34 (by decide) ?_
        refine lv_goto (tgt := 39) hx hb dX8_isEnded_35 (by decide) ?_
        subst hQF
        have hP9 := hP.sub (ws' := [(a_pn, .inr (8, [.ref a_by, .int pn_length, .int z3, .int z4, .int z5, .int z6, .int z10])), (a_by, .inl (cy 0, 250, .inl by_f))]) [1, 0] rfl
        have hD9 := hD.sub (ws' := [(a_pn, .inr (8, [.ref a_by, .int pn_length, .int z3, .int z4, .int z5, .int z6, .int z10])), (a_by, .inl (cy 0, 250, .inl by_f))]) [1, 0] (by decide) rfl
        exact W.zret (v := 1) hx hb hr rfl (fun t ht hW => ⟨⟨1, (z3, z4, z5, z6, z10), rfl, (Or.inl ⟨rfl, by assumption, by assumption, by assumption, by assumption⟩), by rw [ht]; exact hP9, hD9⟩, hS.F ht⟩) hS.2.2 dX8_isEnded_39
  · skip
    refine lv_iconst (v := 0) hx hb dX8_isEnded_8 (by decide) ?_
    subst hQF
    have hP9 := hP
    have hD9 := hD
    exact W.zret (v := 0) hx hb hr rfl (fun t ht hW => ⟨⟨0, (pn_next, pn_sort, pn_start, pn_value, pn_fault), rfl, (Or.inr ⟨rfl, by assumption, by assumption⟩), by rw [ht]; exact hP9, hD9⟩, hS.F ht⟩) hS.2.2 dX8_isEnded_9
