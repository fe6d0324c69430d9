theorem dX3_isCut_0 : decode cX3_isCut 0 = .ok (.aload_n 0, 1) := by decide +kernel
theorem dX3_isCut_1 : decode cX3_isCut 1 = .ok (.iload_n 2, 1) := by decide +kernel
set_option maxRecDepth 20000 in
theorem ggX3_isCut_X3_xOf : GoodIn wsX3_isCut wsX3_xOf := goodIn_r _ [9, 10, 15, 16, 17, 18, 19, 20, 21, 22, 23, 24, 25, 26, 27, 28, 29, 30] (by decide +kernel) (by decide +kernel)
set_option maxRecDepth 20000 in
theorem gX3_isCut_X3_xOf : GoodIn wsX3_isCut (wsV RX3 87 RX3 yX3_xOf wsX3_xOf) := goodIn_app (goodIn_of _ (by decide +kernel)) ggX3_isCut_X3_xOf
theorem dX3_isCut_2 : decode cX3_isCut 2 = .ok (.invokevirtual 87, 3) := by decide +kernel
theorem dX3_isCut_5 : decode cX3_isCut 5 = .ok (.aload_n 0, 1) := by decide +kernel
theorem dX3_isCut_6 : decode cX3_isCut 6 = .ok (.iload_n 1, 1) := by decide +kernel
theorem dX3_isCut_7 : decode cX3_isCut 7 = .ok (.invokevirtual 87, 3) := by decide +kernel
theorem dX3_isCut_10 : decode cX3_isCut 10 = .ok (.isub, 1) := by decide +kernel
theorem dX3_isCut_11 : decode cX3_isCut 11 = .ok (.istore 5, 2) := by decide +kernel
theorem dX3_isCut_13 : decode cX3_isCut 13 = .ok (.aload_n 0, 1) := by decide +kernel
theorem dX3_isCut_14 : decode cX3_isCut 14 = .ok (.iload_n 2, 1) := by decide +kernel
set_option maxRecDepth 20000 in
theorem ggX3_isCut_X3_yOf : GoodIn wsX3_isCut wsX3_yOf := goodIn_r _ [14, 10, 15, 16, 17, 18, 19, 20, 21, 22, 23, 24, 25, 26, 27, 28, 29, 30] (by decide +kernel) (by decide +kernel)
set_option maxRecDepth 20000 in
theorem gX3_isCut_X3_yOf : GoodIn wsX3_isCut (wsV RX3 96 RX3 yX3_yOf wsX3_yOf) := goodIn_app (goodIn_of _ (by decide +kernel)) ggX3_isCut_X3_yOf
theorem dX3_isCut_15 : decode cX3_isCut 15 = .ok (.invokevirtual 96, 3) := by decide +kernel
theorem dX3_isCut_18 : decode cX3_isCut 18 = .ok (.aload_n 0, 1) := by decide +kernel
theorem dX3_isCut_19 : decode cX3_isCut 19 = .ok (.iload_n 1, 1) := by decide +kernel
theorem dX3_isCut_20 : decode cX3_isCut 20 = .ok (.invokevirtual 96, 3) := by decide +kernel
theorem dX3_isCut_23 : decode cX3_isCut 23 = .ok (.isub, 1) := by decide +kernel
theorem dX3_isCut_24 : decode cX3_isCut 24 = .ok (.istore 6, 2) := by decide +kernel
theorem dX3_isCut_26 : decode cX3_isCut 26 = .ok (.iload 5, 2) := by decide +kernel
theorem dX3_isCut_28 : decode cX3_isCut 28 = .ok (.iload 4, 2) := by decide +kernel
theorem dX3_isCut_30 : decode cX3_isCut 30 = .ok (.aload_n 0, 1) := by decide +kernel
theorem dX3_isCut_31 : decode cX3_isCut 31 = .ok (.iload_n 1, 1) := by decide +kernel
theorem dX3_isCut_32 : decode cX3_isCut 32 = .ok (.invokevirtual 96, 3) := by decide +kernel
theorem dX3_isCut_35 : decode cX3_isCut 35 = .ok (.isub, 1) := by decide +kernel
theorem dX3_isCut_36 : decode cX3_isCut 36 = .ok (.imul, 1) := by decide +kernel
theorem dX3_isCut_37 : decode cX3_isCut 37 = .ok (.iload 6, 2) := by decide +kernel
theorem dX3_isCut_39 : decode cX3_isCut 39 = .ok (.iload_n 3, 1) := by decide +kernel
theorem dX3_isCut_40 : decode cX3_isCut 40 = .ok (.aload_n 0, 1) := by decide +kernel
theorem dX3_isCut_41 : decode cX3_isCut 41 = .ok (.iload_n 1, 1) := by decide +kernel
theorem dX3_isCut_42 : decode cX3_isCut 42 = .ok (.invokevirtual 87, 3) := by decide +kernel
theorem dX3_isCut_45 : decode cX3_isCut 45 = .ok (.isub, 1) := by decide +kernel
theorem dX3_isCut_46 : decode cX3_isCut 46 = .ok (.imul, 1) := by decide +kernel
theorem dX3_isCut_47 : decode cX3_isCut 47 = .ok (.isub, 1) := by decide +kernel
theorem dX3_isCut_48 : decode cX3_isCut 48 = .ok (.istore 7, 2) := by decide +kernel
theorem dX3_isCut_50 : decode cX3_isCut 50 = .ok (.iload 5, 2) := by decide +kernel
theorem dX3_isCut_52 : decode cX3_isCut 52 = .ok (.invokestatic 91, 3) := by decide +kernel
theorem dX3_isCut_55 : decode cX3_isCut 55 = .ok (.iload 6, 2) := by decide +kernel
theorem dX3_isCut_57 : decode cX3_isCut 57 = .ok (.invokestatic 91, 3) := by decide +kernel
theorem dX3_isCut_60 : decode cX3_isCut 60 = .ok (.iadd, 1) := by decide +kernel
theorem dX3_isCut_61 : decode cX3_isCut 61 = .ok (.istore 8, 2) := by decide +kernel
theorem dX3_isCut_63 : decode cX3_isCut 63 = .ok (.iconst 2, 1) := by decide +kernel
theorem dX3_isCut_64 : decode cX3_isCut 64 = .ok (.iload 7, 2) := by decide +kernel
theorem dX3_isCut_66 : decode cX3_isCut 66 = .ok (.invokestatic 91, 3) := by decide +kernel
theorem dX3_isCut_69 : decode cX3_isCut 69 = .ok (.imul, 1) := by decide +kernel
theorem dX3_isCut_70 : decode cX3_isCut 70 = .ok (.iload 8, 2) := by decide +kernel
theorem dX3_isCut_72 : decode cX3_isCut 72 = .ok (.if_icmp .ge 7, 3) := by decide +kernel
theorem dX3_isCut_79 : decode cX3_isCut 79 = .ok (.iconst 0, 1) := by decide +kernel
theorem dX3_isCut_80 : decode cX3_isCut 80 = .ok (.ireturn, 1) := by decide +kernel
theorem dX3_isCut_75 : decode cX3_isCut 75 = .ok (.iconst 1, 1) := by decide +kernel
theorem dX3_isCut_76 : decode cX3_isCut 76 = .ok (.goto 4, 3) := by decide +kernel
theorem dX3_isClear_0 : decode cX3_isClear 0 = .ok (.aload_n 0, 1) := by decide +kernel
theorem dX3_isClear_1 : decode cX3_isClear 1 = .ok (.iload_n 1, 1) := by decide +kernel
set_option maxRecDepth 20000 in
theorem ggX3_isClear_X3_xOf : GoodIn wsX3_isClear wsX3_xOf := goodIn_r _ [13, 8, 34, 35, 36, 37, 38, 39, 40, 41, 42, 43, 44, 45, 46, 47, 48, 49] (by decide +kernel) (by decide +kernel)
set_option maxRecDepth 20000 in
theorem gX3_isClear_X3_xOf : GoodIn wsX3_isClear (wsV RX3 87 RX3 yX3_xOf wsX3_xOf) := goodIn_app (goodIn_of _ (by decide +kernel)) ggX3_isClear_X3_xOf
theorem dX3_isClear_2 : decode cX3_isClear 2 = .ok (.invokevirtual 87, 3) := by decide +kernel
theorem dX3_isClear_5 : decode cX3_isClear 5 = .ok (.aload_n 0, 1) := by decide +kernel
theorem dX3_isClear_6 : decode cX3_isClear 6 = .ok (.iload_n 2, 1) := by decide +kernel
theorem dX3_isClear_7 : decode cX3_isClear 7 = .ok (.invokevirtual 87, 3) := by decide +kernel
theorem dX3_isClear_10 : decode cX3_isClear 10 = .ok (.invokestatic 99, 3) := by decide +kernel
theorem dX3_isClear_13 : decode cX3_isClear 13 = .ok (.istore_n 3, 1) := by decide +kernel
theorem dX3_isClear_14 : decode cX3_isClear 14 = .ok (.aload_n 0, 1) := by decide +kernel
theorem dX3_isClear_15 : decode cX3_isClear 15 = .ok (.iload_n 1, 1) := by decide +kernel
set_option maxRecDepth 20000 in
theorem ggX3_isClear_X3_yOf : GoodIn wsX3_isClear wsX3_yOf := goodIn_r _ [17, 8, 34, 35, 36, 37, 38, 39, 40, 41, 42, 43, 44, 45, 46, 47, 48, 49] (by decide +kernel) (by decide +kernel)
set_option maxRecDepth 20000 in
theorem gX3_isClear_X3_yOf : GoodIn wsX3_isClear (wsV RX3 96 RX3 yX3_yOf wsX3_yOf) := goodIn_app (goodIn_of _ (by decide +kernel)) ggX3_isClear_X3_yOf
theorem dX3_isClear_16 : decode cX3_isClear 16 = .ok (.invokevirtual 96, 3) := by decide +kernel
theorem dX3_isClear_19 : decode cX3_isClear 19 = .ok (.aload_n 0, 1) := by decide +kernel
theorem dX3_isClear_20 : decode cX3_isClear 20 = .ok (.iload_n 2, 1) := by decide +kernel
theorem dX3_isClear_21 : decode cX3_isClear 21 = .ok (.invokevirtual 96, 3) := by decide +kernel
theorem dX3_isClear_24 : decode cX3_isClear 24 = .ok (.invokestatic 99, 3) := by decide +kernel
theorem dX3_isClear_27 : decode cX3_isClear 27 = .ok (.istore 4, 2) := by decide +kernel
theorem dX3_isClear_29 : decode cX3_isClear 29 = .ok (.aload_n 0, 1) := by decide +kernel
theorem dX3_isClear_30 : decode cX3_isClear 30 = .ok (.iload_n 1, 1) := by decide +kernel
theorem dX3_isClear_31 : decode cX3_isClear 31 = .ok (.invokevirtual 96, 3) := by decide +kernel
theorem dX3_isClear_34 : decode cX3_isClear 34 = .ok (.aload_n 0, 1) := by decide +kernel
theorem dX3_isClear_35 : decode cX3_isClear 35 = .ok (.iload_n 2, 1) := by decide +kernel
theorem dX3_isClear_36 : decode cX3_isClear 36 = .ok (.invokevirtual 96, 3) := by decide +kernel
theorem dX3_isClear_39 : decode cX3_isClear 39 = .ok (.invokestatic 103, 3) := by decide +kernel
theorem dX3_isClear_42 : decode cX3_isClear 42 = .ok (.istore 5, 2) := by decide +kernel
theorem dX3_isClear_44 : decode cX3_isClear 44 = .ok (.iload 5, 2) := by decide +kernel
theorem dX3_isClear_46 : decode cX3_isClear 46 = .ok (.iload 4, 2) := by decide +kernel
theorem dX3_isClear_48 : decode cX3_isClear 48 = .ok (.if_icmp .gt 85, 3) := by decide +kernel
theorem dX3_isClear_133 : decode cX3_isClear 133 = .ok (.iconst 1, 1) := by decide +kernel
theorem dX3_isClear_134 : decode cX3_isClear 134 = .ok (.ireturn, 1) := by decide +kernel
theorem dX3_isClear_51 : decode cX3_isClear 51 = .ok (.aload_n 0, 1) := by decide +kernel
theorem dX3_isClear_52 : decode cX3_isClear 52 = .ok (.iload_n 1, 1) := by decide +kernel
theorem dX3_isClear_53 : decode cX3_isClear 53 = .ok (.invokevirtual 87, 3) := by decide +kernel
theorem dX3_isClear_56 : decode cX3_isClear 56 = .ok (.aload_n 0, 1) := by decide +kernel
theorem dX3_isClear_57 : decode cX3_isClear 57 = .ok (.iload_n 2, 1) := by decide +kernel
theorem dX3_isClear_58 : decode cX3_isClear 58 = .ok (.invokevirtual 87, 3) := by decide +kernel
theorem dX3_isClear_61 : decode cX3_isClear 61 = .ok (.invokestatic 103, 3) := by decide +kernel
theorem dX3_isClear_64 : decode cX3_isClear 64 = .ok (.istore 6, 2) := by decide +kernel
theorem dX3_isClear_66 : decode cX3_isClear 66 = .ok (.iload 6, 2) := by decide +kernel
theorem dX3_isClear_68 : decode cX3_isClear 68 = .ok (.iload_n 3, 1) := by decide +kernel
theorem dX3_isClear_69 : decode cX3_isClear 69 = .ok (.if_icmp .gt 58, 3) := by decide +kernel
theorem dX3_isClear_127 : decode cX3_isClear 127 = .ok (.iinc 5 1, 3) := by decide +kernel
theorem dX3_isClear_130 : decode cX3_isClear 130 = .ok (.goto (-86), 3) := by decide +kernel
theorem dX3_isClear_72 : decode cX3_isClear 72 = .ok (.iload 5, 2) := by decide +kernel
theorem dX3_isClear_74 : decode cX3_isClear 74 = .ok (.aload_n 0, 1) := by decide +kernel
theorem dX3_isClear_75 : decode cX3_isClear 75 = .ok (.getfield 33, 3) := by decide +kernel
theorem dX3_isClear_78 : decode cX3_isClear 78 = .ok (.imul, 1) := by decide +kernel
theorem dX3_isClear_79 : decode cX3_isClear 79 = .ok (.iload 6, 2) := by decide +kernel
theorem dX3_isClear_81 : decode cX3_isClear 81 = .ok (.iadd, 1) := by decide +kernel
theorem dX3_isClear_82 : decode cX3_isClear 82 = .ok (.istore 7, 2) := by decide +kernel
theorem dX3_isClear_84 : decode cX3_isClear 84 = .ok (.iload 7, 2) := by decide +kernel
theorem dX3_isClear_86 : decode cX3_isClear 86 = .ok (.iload_n 1, 1) := by decide +kernel
theorem dX3_isClear_87 : decode cX3_isClear 87 = .ok (.if_icmp .eq 34, 3) := by decide +kernel
theorem dX3_isClear_121 : decode cX3_isClear 121 = .ok (.iinc 6 1, 3) := by decide +kernel
theorem dX3_isClear_124 : decode cX3_isClear 124 = .ok (.goto (-58), 3) := by decide +kernel
theorem dX3_isClear_90 : decode cX3_isClear 90 = .ok (.iload 7, 2) := by decide +kernel
theorem dX3_isClear_92 : decode cX3_isClear 92 = .ok (.iload_n 2, 1) := by decide +kernel
theorem dX3_isClear_93 : decode cX3_isClear 93 = .ok (.if_icmp .eq 28, 3) := by decide +kernel
theorem dX3_isClear_96 : decode cX3_isClear 96 = .ok (.aload_n 0, 1) := by decide +kernel
theorem dX3_isClear_97 : decode cX3_isClear 97 = .ok (.iconst 0, 1) := by decide +kernel
theorem dX3_isClear_98 : decode cX3_isClear 98 = .ok (.iload 7, 2) := by decide +kernel
set_option maxRecDepth 20000 in
theorem ggX3_isClear_X3_has : GoodIn wsX3_isClear wsX3_has := goodIn_r _ [21, 22, 23, 24, 25, 26, 34, 35, 36, 37, 38, 39, 40, 41, 42, 43, 44, 45, 46, 47, 48, 49] (by decide +kernel) (by decide +kernel)
set_option maxRecDepth 20000 in
theorem gX3_isClear_X3_has : GoodIn wsX3_isClear (wsV RX3 80 RX3 yX3_has wsX3_has) := goodIn_app (goodIn_of _ (by decide +kernel)) ggX3_isClear_X3_has
theorem dX3_isClear_100 : decode cX3_isClear 100 = .ok (.invokevirtual 80, 3) := by decide +kernel
theorem dX3_isClear_103 : decode cX3_isClear 103 = .ok (.ifCond .eq 18, 3) := by decide +kernel
theorem dX3_isClear_106 : decode cX3_isClear 106 = .ok (.aload_n 0, 1) := by decide +kernel
theorem dX3_isClear_107 : decode cX3_isClear 107 = .ok (.iload_n 1, 1) := by decide +kernel
theorem dX3_isClear_108 : decode cX3_isClear 108 = .ok (.iload_n 2, 1) := by decide +kernel
theorem dX3_isClear_109 : decode cX3_isClear 109 = .ok (.iload 6, 2) := by decide +kernel
theorem dX3_isClear_111 : decode cX3_isClear 111 = .ok (.iload 5, 2) := by decide +kernel
set_option maxRecDepth 20000 in
theorem ggX3_isClear_X3_isCut : GoodIn wsX3_isClear wsX3_isCut := goodIn_r _ [30, 31, 32, 3, 33, 9, 10, 11, 12, 13, 8, 14, 15, 16, 17, 34, 35, 36, 37, 38, 39, 40, 41, 42, 43, 44, 45, 46, 47, 48, 49] (by decide +kernel) (by decide +kernel)
set_option maxRecDepth 20000 in
theorem gX3_isClear_X3_isCut : GoodIn wsX3_isClear (wsV RX3 106 RX3 yX3_isCut wsX3_isCut) := goodIn_app (goodIn_of _ (by decide +kernel)) ggX3_isClear_X3_isCut
theorem dX3_isClear_113 : decode cX3_isClear 113 = .ok (.invokevirtual 106, 3) := by decide +kernel
theorem dX3_isClear_116 : decode cX3_isClear 116 = .ok (.ifCond .eq 5, 3) := by decide +kernel
theorem dX3_isClear_119 : decode cX3_isClear 119 = .ok (.iconst 0, 1) := by decide +kernel
theorem dX3_isClear_120 : decode cX3_isClear 120 = .ok (.ireturn, 1) := by decide +kernel
theorem dX3_drownedSquares_0 : decode cX3_drownedSquares 0 = .ok (.lconst 0, 1) := by decide +kernel
theorem dX3_drownedSquares_1 : decode cX3_drownedSquares 1 = .ok (.lstore_n 1, 1) := by decide +kernel
theorem dX3_drownedSquares_2 : decode cX3_drownedSquares 2 = .ok (.iconst 0, 1) := by decide +kernel
theorem dX3_drownedSquares_3 : decode cX3_drownedSquares 3 = .ok (.istore_n 3, 1) := by decide +kernel
theorem dX3_drownedSquares_4 : decode cX3_drownedSquares 4 = .ok (.iload_n 3, 1) := by decide +kernel
theorem dX3_drownedSquares_5 : decode cX3_drownedSquares 5 = .ok (.aload_n 0, 1) := by decide +kernel
set_option maxRecDepth 20000 in
theorem ggX3_drownedSquares_X3_squareCount : GoodIn wsX3_drownedSquares wsX3_squareCount := goodIn_r _ [6, 7, 8, 34, 35, 36, 37, 38, 39, 40, 41, 42, 43, 44, 45, 46, 47, 48, 49] (by decide +kernel) (by decide +kernel)
set_option maxRecDepth 20000 in
theorem gX3_drownedSquares_X3_squareCount : GoodIn wsX3_drownedSquares (wsV RX3 68 RX3 yX3_squareCount wsX3_squareCount) := goodIn_app (goodIn_of _ (by decide +kernel)) ggX3_drownedSquares_X3_squareCount
theorem dX3_drownedSquares_6 : decode cX3_drownedSquares 6 = .ok (.invokevirtual 68, 3) := by decide +kernel
theorem dX3_drownedSquares_9 : decode cX3_drownedSquares 9 = .ok (.if_icmp .ge 57, 3) := by decide +kernel
theorem dX3_drownedSquares_66 : decode cX3_drownedSquares 66 = .ok (.lload_n 1, 1) := by decide +kernel
theorem dX3_drownedSquares_67 : decode cX3_drownedSquares 67 = .ok (.lreturn, 1) := by decide +kernel
theorem dX3_drownedSquares_12 : decode cX3_drownedSquares 12 = .ok (.iconst 0, 1) := by decide +kernel
theorem dX3_drownedSquares_13 : decode cX3_drownedSquares 13 = .ok (.istore 4, 2) := by decide +kernel
theorem dX3_drownedSquares_15 : decode cX3_drownedSquares 15 = .ok (.iload 4, 2) := by decide +kernel
theorem dX3_drownedSquares_17 : decode cX3_drownedSquares 17 = .ok (.aload_n 0, 1) := by decide +kernel
theorem dX3_drownedSquares_18 : decode cX3_drownedSquares 18 = .ok (.invokevirtual 68, 3) := by decide +kernel
theorem dX3_drownedSquares_21 : decode cX3_drownedSquares 21 = .ok (.if_icmp .ge 39, 3) := by decide +kernel
theorem dX3_drownedSquares_60 : decode cX3_drownedSquares 60 = .ok (.iinc 3 1, 3) := by decide +kernel
theorem dX3_drownedSquares_63 : decode cX3_drownedSquares 63 = .ok (.goto (-59), 3) := by decide +kernel
theorem dX3_drownedSquares_24 : decode cX3_drownedSquares 24 = .ok (.aload_n 0, 1) := by decide +kernel
theorem dX3_drownedSquares_25 : decode cX3_drownedSquares 25 = .ok (.iconst 1, 1) := by decide +kernel
theorem dX3_drownedSquares_26 : decode cX3_drownedSquares 26 = .ok (.iload_n 3, 1) := by decide +kernel
set_option maxRecDepth 20000 in
theorem ggX3_drownedSquares_X3_has : GoodIn wsX3_drownedSquares wsX3_has := goodIn_r _ [12, 13, 14, 15, 16, 17, 34, 35, 36, 37, 38, 39, 40, 41, 42, 43, 44, 45, 46, 47, 48, 49] (by decide +kernel) (by decide +kernel)
set_option maxRecDepth 20000 in
theorem gX3_drownedSquares_X3_has : GoodIn wsX3_drownedSquares (wsV RX3 80 RX3 yX3_has wsX3_has) := goodIn_app (goodIn_of _ (by decide +kernel)) ggX3_drownedSquares_X3_has
theorem dX3_drownedSquares_27 : decode cX3_drownedSquares 27 = .ok (.invokevirtual 80, 3) := by decide +kernel
theorem dX3_drownedSquares_30 : decode cX3_drownedSquares 30 = .ok (.ifCond .eq 30, 3) := by decide +kernel
theorem dX3_drownedSquares_33 : decode cX3_drownedSquares 33 = .ok (.aload_n 0, 1) := by decide +kernel
theorem dX3_drownedSquares_34 : decode cX3_drownedSquares 34 = .ok (.iload 4, 2) := by decide +kernel
theorem dX3_drownedSquares_36 : decode cX3_drownedSquares 36 = .ok (.iload_n 3, 1) := by decide +kernel
set_option maxRecDepth 20000 in
theorem ggX3_drownedSquares_X3_yardsOf : GoodIn wsX3_drownedSquares wsX3_yardsOf := goodIn_r _ [21, 22, 23, 24, 25, 26, 27, 28, 5, 29, 7, 30, 31, 32, 33, 34, 35, 36, 37, 38, 39, 40, 41, 42, 43, 44, 45, 46, 47, 48, 49] (by decide +kernel) (by decide +kernel)
set_option maxRecDepth 20000 in
theorem gX3_drownedSquares_X3_yardsOf : GoodIn wsX3_drownedSquares (wsV RX3 110 RX3 yX3_yardsOf wsX3_yardsOf) := goodIn_app (goodIn_of _ (by decide +kernel)) ggX3_drownedSquares_X3_yardsOf
theorem dX3_drownedSquares_37 : decode cX3_drownedSquares 37 = .ok (.invokevirtual 110, 3) := by decide +kernel
theorem dX3_drownedSquares_40 : decode cX3_drownedSquares 40 = .ok (.aload_n 0, 1) := by decide +kernel
theorem dX3_drownedSquares_41 : decode cX3_drownedSquares 41 = .ok (.getfield 40, 3) := by decide +kernel
theorem dX3_drownedSquares_44 : decode cX3_drownedSquares 44 = .ok (.if_icmp .gt 10, 3) := by decide +kernel
theorem dX3_drownedSquares_54 : decode cX3_drownedSquares 54 = .ok (.iinc 4 1, 3) := by decide +kernel
theorem dX3_drownedSquares_57 : decode cX3_drownedSquares 57 = .ok (.goto (-42), 3) := by decide +kernel
theorem dX3_drownedSquares_47 : decode cX3_drownedSquares 47 = .ok (.lload_n 1, 1) := by decide +kernel
theorem dX3_drownedSquares_48 : decode cX3_drownedSquares 48 = .ok (.lconst 1, 1) := by decide +kernel
theorem dX3_drownedSquares_49 : decode cX3_drownedSquares 49 = .ok (.iload 4, 2) := by decide +kernel
theorem dX3_drownedSquares_51 : decode cX3_drownedSquares 51 = .ok (.lshl, 1) := by decide +kernel
theorem dX3_drownedSquares_52 : decode cX3_drownedSquares 52 = .ok (.lor, 1) := by decide +kernel
theorem dX3_drownedSquares_53 : decode cX3_drownedSquares 53 = .ok (.lstore_n 1, 1) := by decide +kernel
theorem dX3_reaches_0 : decode cX3_reaches 0 = .ok (.aload_n 0, 1) := by decide +kernel
theorem dX3_reaches_1 : decode cX3_reaches 1 = .ok (.iload_n 1, 1) := by decide +kernel
set_option maxRecDepth 20000 in
theorem ggX3_reaches_X3_squareOf : GoodIn wsX3_reaches wsX3_squareOf := goodIn_r _ [6, 7, 8, 9, 10, 5, 11, 12, 42, 43, 44, 45, 46, 47, 48, 49, 50, 51, 52, 53, 54, 55, 56, 57] (by decide +kernel) (by decide +kernel)
set_option maxRecDepth 20000 in
theorem gX3_reaches_X3_squareOf : GoodIn wsX3_reaches (wsV RX3 113 RX3 yX3_squareOf wsX3_squareOf) := goodIn_app (goodIn_of _ (by decide +kernel)) ggX3_reaches_X3_squareOf
theorem dX3_reaches_2 : decode cX3_reaches 2 = .ok (.invokevirtual 113, 3) := by decide +kernel
theorem dX3_reaches_5 : decode cX3_reaches 5 = .ok (.istore 5, 2) := by decide +kernel
theorem dX3_reaches_7 : decode cX3_reaches 7 = .ok (.aload_n 0, 1) := by decide +kernel
theorem dX3_reaches_8 : decode cX3_reaches 8 = .ok (.iload_n 2, 1) := by decide +kernel
theorem dX3_reaches_9 : decode cX3_reaches 9 = .ok (.invokevirtual 113, 3) := by decide +kernel
theorem dX3_reaches_12 : decode cX3_reaches 12 = .ok (.istore 6, 2) := by decide +kernel
theorem dX3_reaches_14 : decode cX3_reaches 14 = .ok (.aload_n 0, 1) := by decide +kernel
theorem dX3_reaches_15 : decode cX3_reaches 15 = .ok (.iload 5, 2) := by decide +kernel
theorem dX3_reaches_17 : decode cX3_reaches 17 = .ok (.iload 6, 2) := by decide +kernel
set_option maxRecDepth 20000 in
theorem ggX3_reaches_X3_yardsOf : GoodIn wsX3_reaches wsX3_yardsOf := goodIn_r _ [16, 17, 18, 19, 20, 21, 22, 23, 5, 24, 25, 26, 27, 28, 29, 42, 43, 44, 45, 46, 47, 48, 49, 50, 51, 52, 53, 54, 55, 56, 57] (by decide +kernel) (by decide +kernel)
set_option maxRecDepth 20000 in
theorem gX3_reaches_X3_yardsOf : GoodIn wsX3_reaches (wsV RX3 110 RX3 yX3_yardsOf wsX3_yardsOf) := goodIn_app (goodIn_of _ (by decide +kernel)) ggX3_reaches_X3_yardsOf
theorem dX3_reaches_19 : decode cX3_reaches 19 = .ok (.invokevirtual 110, 3) := by decide +kernel
theorem dX3_reaches_22 : decode cX3_reaches 22 = .ok (.istore 7, 2) := by decide +kernel
theorem dX3_reaches_24 : decode cX3_reaches 24 = .ok (.lload_n 3, 1) := by decide +kernel
theorem dX3_reaches_25 : decode cX3_reaches 25 = .ok (.iload 5, 2) := by decide +kernel
set_option maxRecDepth 20000 in
theorem ggX3_reaches_X10_isOn : GoodIn wsX3_reaches wsX10_isOn := goodIn_r _ [32] (by decide +kernel) (by decide +kernel)
set_option maxRecDepth 20000 in
theorem gX3_reaches_X10_isOn_n76 : GoodIn wsX3_reaches (wsX10_isOn) := ggX3_reaches_X10_isOn
theorem dX3_reaches_27 : decode cX3_reaches 27 = .ok (.invokestatic 76, 3) := by decide +kernel
theorem dX3_reaches_30 : decode cX3_reaches 30 = .ok (.ifCond .ne 12, 3) := by decide +kernel
theorem dX3_reaches_42 : decode cX3_reaches 42 = .ok (.iload 7, 2) := by decide +kernel
theorem dX3_reaches_44 : decode cX3_reaches 44 = .ok (.iconst 1, 1) := by decide +kernel
theorem dX3_reaches_45 : decode cX3_reaches 45 = .ok (.if_icmp .gt 16, 3) := by decide +kernel
theorem dX3_reaches_61 : decode cX3_reaches 61 = .ok (.iconst 0, 1) := by decide +kernel
theorem dX3_reaches_62 : decode cX3_reaches 62 = .ok (.ireturn, 1) := by decide +kernel
theorem dX3_reaches_48 : decode cX3_reaches 48 = .ok (.aload_n 0, 1) := by decide +kernel
theorem dX3_reaches_49 : decode cX3_reaches 49 = .ok (.iload_n 1, 1) := by decide +kernel
set_option maxRecDepth 20000 in
theorem ggX3_reaches_X3_voiceOf : GoodIn wsX3_reaches wsX3_voiceOf := goodIn_r _ [36, 37, 8, 9, 10, 5, 11, 12, 42, 43, 44, 45, 46, 47, 48, 49, 50, 51, 52, 53, 54, 55, 56, 57] (by decide +kernel) (by decide +kernel)
set_option maxRecDepth 20000 in
theorem gX3_reaches_X3_voiceOf : GoodIn wsX3_reaches (wsV RX3 116 RX3 yX3_voiceOf wsX3_voiceOf) := goodIn_app (goodIn_of _ (by decide +kernel)) ggX3_reaches_X3_voiceOf
theorem dX3_reaches_50 : decode cX3_reaches 50 = .ok (.invokevirtual 116, 3) := by decide +kernel
theorem dX3_reaches_53 : decode cX3_reaches 53 = .ok (.iconst 1, 1) := by decide +kernel
theorem dX3_reaches_54 : decode cX3_reaches 54 = .ok (.if_icmp .lt 7, 3) := by decide +kernel
theorem dX3_reaches_57 : decode cX3_reaches 57 = .ok (.iconst 1, 1) := by decide +kernel
theorem dX3_reaches_58 : decode cX3_reaches 58 = .ok (.goto 4, 3) := by decide +kernel
theorem dX3_reaches_33 : decode cX3_reaches 33 = .ok (.lload_n 3, 1) := by decide +kernel
theorem dX3_reaches_34 : decode cX3_reaches 34 = .ok (.iload 6, 2) := by decide +kernel
theorem dX3_reaches_36 : decode cX3_reaches 36 = .ok (.invokestatic 76, 3) := by decide +kernel
theorem dX3_reaches_39 : decode cX3_reaches 39 = .ok (.ifCond .eq 24, 3) := by decide +kernel
theorem dX3_reaches_63 : decode cX3_reaches 63 = .ok (.iload 7, 2) := by decide +kernel
theorem dX3_reaches_65 : decode cX3_reaches 65 = .ok (.aload_n 0, 1) := by decide +kernel
theorem dX3_reaches_66 : decode cX3_reaches 66 = .ok (.iload_n 1, 1) := by decide +kernel
theorem dX3_reaches_67 : decode cX3_reaches 67 = .ok (.invokevirtual 116, 3) := by decide +kernel
theorem dX3_reaches_70 : decode cX3_reaches 70 = .ok (.aload_n 0, 1) := by decide +kernel
theorem dX3_reaches_71 : decode cX3_reaches 71 = .ok (.getfield 43, 3) := by decide +kernel
theorem dX3_reaches_74 : decode cX3_reaches 74 = .ok (.aload_n 0, 1) := by decide +kernel
theorem dX3_reaches_75 : decode cX3_reaches 75 = .ok (.iload 6, 2) := by decide +kernel
set_option maxRecDepth 20000 in
theorem ggX3_reaches_X3_xOf : GoodIn wsX3_reaches wsX3_xOf := goodIn_r _ [24, 25, 42, 43, 44, 45, 46, 47, 48, 49, 50, 51, 52, 53, 54, 55, 56, 57] (by decide +kernel) (by decide +kernel)
set_option maxRecDepth 20000 in
theorem gX3_reaches_X3_xOf : GoodIn wsX3_reaches (wsV RX3 87 RX3 yX3_xOf wsX3_xOf) := goodIn_app (goodIn_of _ (by decide +kernel)) ggX3_reaches_X3_xOf
theorem dX3_reaches_77 : decode cX3_reaches 77 = .ok (.invokevirtual 87, 3) := by decide +kernel
theorem dX3_reaches_80 : decode cX3_reaches 80 = .ok (.aload_n 0, 1) := by decide +kernel
theorem dX3_reaches_81 : decode cX3_reaches 81 = .ok (.iload 5, 2) := by decide +kernel
theorem dX3_reaches_83 : decode cX3_reaches 83 = .ok (.invokevirtual 87, 3) := by decide +kernel
set_option maxRecDepth 20000 in
theorem ggX3_reaches_J6_compare_7cf53 : GoodIn wsX3_reaches wsJ6_compare_7cf53 := goodIn_r _ [41] (by decide +kernel) (by decide +kernel)
set_option maxRecDepth 20000 in
theorem gX3_reaches_J6_compare_7cf53 : GoodIn wsX3_reaches (va_wsS RX3 119 yJ6_compare_7cf53 wsJ6_compare_7cf53) := goodIn_app (goodIn_of _ (by decide +kernel)) ggX3_reaches_J6_compare_7cf53
theorem dX3_reaches_86 : decode cX3_reaches 86 = .ok (.invokestatic 119, 3) := by decide +kernel
theorem dX3_reaches_89 : decode cX3_reaches 89 = .ok (.imul, 1) := by decide +kernel
theorem dX3_reaches_90 : decode cX3_reaches 90 = .ok (.iadd, 1) := by decide +kernel
theorem dX3_reaches_91 : decode cX3_reaches 91 = .ok (.if_icmp .gt 7, 3) := by decide +kernel
theorem dX3_reaches_98 : decode cX3_reaches 98 = .ok (.iconst 0, 1) := by decide +kernel
theorem dX3_reaches_99 : decode cX3_reaches 99 = .ok (.ireturn, 1) := by decide +kernel
theorem dX3_reaches_94 : decode cX3_reaches 94 = .ok (.iconst 1, 1) := by decide +kernel
theorem dX3_reaches_95 : decode cX3_reaches 95 = .ok (.goto 4, 3) := by decide +kernel
theorem dX3_digestAfter_0 : decode cX3_digestAfter 0 = .ok (.ldc2_w 124, 3) := by decide +kernel
theorem dX3_digestAfter_3 : decode cX3_digestAfter 3 = .ok (.lload_n 1, 1) := by decide +kernel
theorem dX3_digestAfter_4 : decode cX3_digestAfter 4 = .ok (.lmul, 1) := by decide +kernel
theorem dX3_digestAfter_5 : decode cX3_digestAfter 5 = .ok (.aload_n 0, 1) := by decide +kernel
theorem dX3_digestAfter_6 : decode cX3_digestAfter 6 = .ok (.getfield 33, 3) := by decide +kernel
theorem dX3_digestAfter_9 : decode cX3_digestAfter 9 = .ok (.i2l, 1) := by decide +kernel
theorem dX3_digestAfter_10 : decode cX3_digestAfter 10 = .ok (.ladd, 1) := by decide +kernel
theorem dX3_digestAfter_11 : decode cX3_digestAfter 11 = .ok (.lstore_n 1, 1) := by decide +kernel
theorem dX3_digestAfter_12 : decode cX3_digestAfter 12 = .ok (.ldc2_w 124, 3) := by decide +kernel
theorem dX3_digestAfter_15 : decode cX3_digestAfter 15 = .ok (.lload_n 1, 1) := by decide +kernel
theorem dX3_digestAfter_16 : decode cX3_digestAfter 16 = .ok (.lmul, 1) := by decide +kernel
theorem dX3_digestAfter_17 : decode cX3_digestAfter 17 = .ok (.aload_n 0, 1) := by decide +kernel
theorem dX3_digestAfter_18 : decode cX3_digestAfter 18 = .ok (.getfield 40, 3) := by decide +kernel
theorem dX3_digestAfter_21 : decode cX3_digestAfter 21 = .ok (.i2l, 1) := by decide +kernel
theorem dX3_digestAfter_22 : decode cX3_digestAfter 22 = .ok (.ladd, 1) := by decide +kernel
theorem dX3_digestAfter_23 : decode cX3_digestAfter 23 = .ok (.lstore_n 1, 1) := by decide +kernel
theorem dX3_digestAfter_24 : decode cX3_digestAfter 24 = .ok (.ldc2_w 124, 3) := by decide +kernel
theorem dX3_digestAfter_27 : decode cX3_digestAfter 27 = .ok (.lload_n 1, 1) := by decide +kernel
theorem dX3_digestAfter_28 : decode cX3_digestAfter 28 = .ok (.lmul, 1) := by decide +kernel
theorem dX3_digestAfter_29 : decode cX3_digestAfter 29 = .ok (.aload_n 0, 1) := by decide +kernel
theorem dX3_digestAfter_30 : decode cX3_digestAfter 30 = .ok (.getfield 43, 3) := by decide +kernel
theorem dX3_digestAfter_33 : decode cX3_digestAfter 33 = .ok (.i2l, 1) := by decide +kernel
theorem dX3_digestAfter_34 : decode cX3_digestAfter 34 = .ok (.ladd, 1) := by decide +kernel
theorem dX3_digestAfter_35 : decode cX3_digestAfter 35 = .ok (.lstore_n 1, 1) := by decide +kernel
theorem dX3_digestAfter_36 : decode cX3_digestAfter 36 = .ok (.iconst 0, 1) := by decide +kernel
theorem dX3_digestAfter_37 : decode cX3_digestAfter 37 = .ok (.istore_n 3, 1) := by decide +kernel
theorem dX3_digestAfter_38 : decode cX3_digestAfter 38 = .ok (.iload_n 3, 1) := by decide +kernel
theorem dX3_digestAfter_39 : decode cX3_digestAfter 39 = .ok (.aload_n 0, 1) := by decide +kernel
theorem dX3_digestAfter_40 : decode cX3_digestAfter 40 = .ok (.getfield 53, 3) := by decide +kernel
theorem dX3_digestAfter_99 : decode cX3_digestAfter 99 = .ok (.iconst 0, 1) := by decide +kernel
theorem dX3_digestAfter_100 : decode cX3_digestAfter 100 = .ok (.istore_n 3, 1) := by decide +kernel
theorem dX3_digestAfter_101 : decode cX3_digestAfter 101 = .ok (.iload_n 3, 1) := by decide +kernel
theorem dX3_digestAfter_102 : decode cX3_digestAfter 102 = .ok (.aload_n 0, 1) := by decide +kernel
set_option maxRecDepth 20000 in
theorem ggX3_digestAfter_X3_squareCount : GoodIn wsX3_digestAfter wsX3_squareCount := goodIn_r _ [19, 2, 20, 30, 31, 32, 33, 34, 35, 36, 37, 38, 39, 40, 41, 42, 43, 44, 45] (by decide +kernel) (by decide +kernel)
set_option maxRecDepth 20000 in
theorem gX3_digestAfter_X3_squareCount : GoodIn wsX3_digestAfter (wsV RX3 68 RX3 yX3_squareCount wsX3_squareCount) := goodIn_app (goodIn_of _ (by decide +kernel)) ggX3_digestAfter_X3_squareCount
theorem dX3_digestAfter_103 : decode cX3_digestAfter 103 = .ok (.invokevirtual 68, 3) := by decide +kernel
theorem dX3_digestAfter_106 : decode cX3_digestAfter 106 = .ok (.if_icmp .ge 53, 3) := by decide +kernel
theorem dX3_digestAfter_159 : decode cX3_digestAfter 159 = .ok (.iconst 0, 1) := by decide +kernel
theorem dX3_digestAfter_160 : decode cX3_digestAfter 160 = .ok (.istore_n 3, 1) := by decide +kernel
theorem dX3_digestAfter_161 : decode cX3_digestAfter 161 = .ok (.iload_n 3, 1) := by decide +kernel
theorem dX3_digestAfter_162 : decode cX3_digestAfter 162 = .ok (.aload_n 0, 1) := by decide +kernel
theorem dX3_digestAfter_163 : decode cX3_digestAfter 163 = .ok (.getfield 56, 3) := by decide +kernel
theorem dX3_digestAfter_209 : decode cX3_digestAfter 209 = .ok (.iconst 0, 1) := by decide +kernel
theorem dX3_digestAfter_210 : decode cX3_digestAfter 210 = .ok (.istore_n 3, 1) := by decide +kernel
theorem dX3_digestAfter_211 : decode cX3_digestAfter 211 = .ok (.iload_n 3, 1) := by decide +kernel
theorem dX3_digestAfter_212 : decode cX3_digestAfter 212 = .ok (.aload_n 0, 1) := by decide +kernel
theorem dX3_digestAfter_213 : decode cX3_digestAfter 213 = .ok (.getfield 59, 3) := by decide +kernel
theorem dX3_digestAfter_216 : decode cX3_digestAfter 216 = .ok (.if_icmp .ge 43, 3) := by decide +kernel
theorem dX3_digestAfter_259 : decode cX3_digestAfter 259 = .ok (.lload_n 1, 1) := by decide +kernel
theorem dX3_digestAfter_260 : decode cX3_digestAfter 260 = .ok (.lreturn, 1) := by decide +kernel
theorem dX3_digestAfter_219 : decode cX3_digestAfter 219 = .ok (.iload_n 3, 1) := by decide +kernel
theorem dX3_digestAfter_220 : decode cX3_digestAfter 220 = .ok (.bipush 8, 2) := by decide +kernel
theorem dX3_digestAfter_222 : decode cX3_digestAfter 222 = .ok (.if_icmp .ge 37, 3) := by decide +kernel
theorem dX3_digestAfter_225 : decode cX3_digestAfter 225 = .ok (.ldc2_w 124, 3) := by decide +kernel
theorem dX3_digestAfter_228 : decode cX3_digestAfter 228 = .ok (.lload_n 1, 1) := by decide +kernel
theorem dX3_digestAfter_229 : decode cX3_digestAfter 229 = .ok (.lmul, 1) := by decide +kernel
theorem dX3_digestAfter_230 : decode cX3_digestAfter 230 = .ok (.aload_n 0, 1) := by decide +kernel
theorem dX3_digestAfter_231 : decode cX3_digestAfter 231 = .ok (.getfield 27, 3) := by decide +kernel
theorem dX3_digestAfter_234 : decode cX3_digestAfter 234 = .ok (.iload_n 3, 1) := by decide +kernel
theorem dX3_digestAfter_235 : decode cX3_digestAfter 235 = .ok (.iaload, 1) := by decide +kernel
theorem dX3_digestAfter_236 : decode cX3_digestAfter 236 = .ok (.i2l, 1) := by decide +kernel
theorem dX3_digestAfter_237 : decode cX3_digestAfter 237 = .ok (.ladd, 1) := by decide +kernel
theorem dX3_digestAfter_238 : decode cX3_digestAfter 238 = .ok (.lstore_n 1, 1) := by decide +kernel
theorem dX3_digestAfter_239 : decode cX3_digestAfter 239 = .ok (.ldc2_w 124, 3) := by decide +kernel
theorem dX3_digestAfter_242 : decode cX3_digestAfter 242 = .ok (.lload_n 1, 1) := by decide +kernel
theorem dX3_digestAfter_243 : decode cX3_digestAfter 243 = .ok (.lmul, 1) := by decide +kernel
theorem dX3_digestAfter_244 : decode cX3_digestAfter 244 = .ok (.aload_n 0, 1) := by decide +kernel
theorem dX3_digestAfter_245 : decode cX3_digestAfter 245 = .ok (.getfield 30, 3) := by decide +kernel
theorem dX3_digestAfter_248 : decode cX3_digestAfter 248 = .ok (.iload_n 3, 1) := by decide +kernel
theorem dX3_digestAfter_249 : decode cX3_digestAfter 249 = .ok (.iaload, 1) := by decide +kernel
theorem dX3_digestAfter_250 : decode cX3_digestAfter 250 = .ok (.i2l, 1) := by decide +kernel
theorem dX3_digestAfter_251 : decode cX3_digestAfter 251 = .ok (.ladd, 1) := by decide +kernel
theorem dX3_digestAfter_252 : decode cX3_digestAfter 252 = .ok (.lstore_n 1, 1) := by decide +kernel
theorem dX3_digestAfter_253 : decode cX3_digestAfter 253 = .ok (.iinc 3 1, 3) := by decide +kernel
theorem dX3_digestAfter_256 : decode cX3_digestAfter 256 = .ok (.goto (-45), 3) := by decide +kernel
theorem dX3_digestAfter_166 : decode cX3_digestAfter 166 = .ok (.if_icmp .ge 43, 3) := by decide +kernel
theorem dX3_digestAfter_169 : decode cX3_digestAfter 169 = .ok (.iload_n 3, 1) := by decide +kernel
theorem dX3_digestAfter_170 : decode cX3_digestAfter 170 = .ok (.bipush 6, 2) := by decide +kernel
theorem dX3_digestAfter_172 : decode cX3_digestAfter 172 = .ok (.if_icmp .ge 37, 3) := by decide +kernel
theorem dX3_digestAfter_175 : decode cX3_digestAfter 175 = .ok (.ldc2_w 124, 3) := by decide +kernel
theorem dX3_digestAfter_178 : decode cX3_digestAfter 178 = .ok (.lload_n 1, 1) := by decide +kernel
theorem dX3_digestAfter_179 : decode cX3_digestAfter 179 = .ok (.lmul, 1) := by decide +kernel
theorem dX3_digestAfter_180 : decode cX3_digestAfter 180 = .ok (.aload_n 0, 1) := by decide +kernel
theorem dX3_digestAfter_181 : decode cX3_digestAfter 181 = .ok (.getfield 21, 3) := by decide +kernel
theorem dX3_digestAfter_184 : decode cX3_digestAfter 184 = .ok (.iload_n 3, 1) := by decide +kernel
theorem dX3_digestAfter_185 : decode cX3_digestAfter 185 = .ok (.iaload, 1) := by decide +kernel
theorem dX3_digestAfter_186 : decode cX3_digestAfter 186 = .ok (.i2l, 1) := by decide +kernel
theorem dX3_digestAfter_187 : decode cX3_digestAfter 187 = .ok (.ladd, 1) := by decide +kernel
theorem dX3_digestAfter_188 : decode cX3_digestAfter 188 = .ok (.lstore_n 1, 1) := by decide +kernel
theorem dX3_digestAfter_189 : decode cX3_digestAfter 189 = .ok (.ldc2_w 124, 3) := by decide +kernel
theorem dX3_digestAfter_192 : decode cX3_digestAfter 192 = .ok (.lload_n 1, 1) := by decide +kernel
theorem dX3_digestAfter_193 : decode cX3_digestAfter 193 = .ok (.lmul, 1) := by decide +kernel
theorem dX3_digestAfter_194 : decode cX3_digestAfter 194 = .ok (.aload_n 0, 1) := by decide +kernel
theorem dX3_digestAfter_195 : decode cX3_digestAfter 195 = .ok (.getfield 24, 3) := by decide +kernel
theorem dX3_digestAfter_198 : decode cX3_digestAfter 198 = .ok (.iload_n 3, 1) := by decide +kernel
theorem dX3_digestAfter_199 : decode cX3_digestAfter 199 = .ok (.iaload, 1) := by decide +kernel
theorem dX3_digestAfter_200 : decode cX3_digestAfter 200 = .ok (.i2l, 1) := by decide +kernel
theorem dX3_digestAfter_201 : decode cX3_digestAfter 201 = .ok (.ladd, 1) := by decide +kernel
theorem dX3_digestAfter_202 : decode cX3_digestAfter 202 = .ok (.lstore_n 1, 1) := by decide +kernel
theorem dX3_digestAfter_203 : decode cX3_digestAfter 203 = .ok (.iinc 3 1, 3) := by decide +kernel
theorem dX3_digestAfter_206 : decode cX3_digestAfter 206 = .ok (.goto (-45), 3) := by decide +kernel
theorem dX3_digestAfter_109 : decode cX3_digestAfter 109 = .ok (.ldc2_w 124, 3) := by decide +kernel
theorem dX3_digestAfter_112 : decode cX3_digestAfter 112 = .ok (.lload_n 1, 1) := by decide +kernel
theorem dX3_digestAfter_113 : decode cX3_digestAfter 113 = .ok (.lmul, 1) := by decide +kernel
theorem dX3_digestAfter_114 : decode cX3_digestAfter 114 = .ok (.aload_n 0, 1) := by decide +kernel
theorem dX3_digestAfter_115 : decode cX3_digestAfter 115 = .ok (.iconst 0, 1) := by decide +kernel
theorem dX3_digestAfter_116 : decode cX3_digestAfter 116 = .ok (.iload_n 3, 1) := by decide +kernel
set_option maxRecDepth 20000 in
theorem ggX3_digestAfter_X3_has : GoodIn wsX3_digestAfter wsX3_has := goodIn_r _ [24, 25, 26, 27, 28, 29, 30, 31, 32, 33, 34, 35, 36, 37, 38, 39, 40, 41, 42, 43, 44, 45] (by decide +kernel) (by decide +kernel)
set_option maxRecDepth 20000 in
theorem gX3_digestAfter_X3_has : GoodIn wsX3_digestAfter (wsV RX3 80 RX3 yX3_has wsX3_has) := goodIn_app (goodIn_of _ (by decide +kernel)) ggX3_digestAfter_X3_has
theorem dX3_digestAfter_117 : decode cX3_digestAfter 117 = .ok (.invokevirtual 80, 3) := by decide +kernel
theorem dX3_digestAfter_128 : decode cX3_digestAfter 128 = .ok (.i2l, 1) := by decide +kernel
theorem dX3_digestAfter_129 : decode cX3_digestAfter 129 = .ok (.ladd, 1) := by decide +kernel
theorem dX3_digestAfter_130 : decode cX3_digestAfter 130 = .ok (.lstore_n 1, 1) := by decide +kernel
theorem dX3_digestAfter_131 : decode cX3_digestAfter 131 = .ok (.ldc2_w 124, 3) := by decide +kernel
theorem dX3_digestAfter_134 : decode cX3_digestAfter 134 = .ok (.lload_n 1, 1) := by decide +kernel
theorem dX3_digestAfter_135 : decode cX3_digestAfter 135 = .ok (.lmul, 1) := by decide +kernel
theorem dX3_digestAfter_136 : decode cX3_digestAfter 136 = .ok (.aload_n 0, 1) := by decide +kernel
theorem dX3_digestAfter_137 : decode cX3_digestAfter 137 = .ok (.iconst 1, 1) := by decide +kernel
theorem dX3_digestAfter_138 : decode cX3_digestAfter 138 = .ok (.iload_n 3, 1) := by decide +kernel
theorem dX3_digestAfter_139 : decode cX3_digestAfter 139 = .ok (.invokevirtual 80, 3) := by decide +kernel
theorem dX3_digestAfter_150 : decode cX3_digestAfter 150 = .ok (.i2l, 1) := by decide +kernel
theorem dX3_digestAfter_151 : decode cX3_digestAfter 151 = .ok (.ladd, 1) := by decide +kernel
theorem dX3_digestAfter_152 : decode cX3_digestAfter 152 = .ok (.lstore_n 1, 1) := by decide +kernel
theorem dX3_digestAfter_153 : decode cX3_digestAfter 153 = .ok (.iinc 3 1, 3) := by decide +kernel
theorem dX3_digestAfter_156 : decode cX3_digestAfter 156 = .ok (.goto (-55), 3) := by decide +kernel
theorem dX3_digestAfter_142 : decode cX3_digestAfter 142 = .ok (.ifCond .eq 7, 3) := by decide +kernel
theorem dX3_digestAfter_149 : decode cX3_digestAfter 149 = .ok (.iconst 0, 1) := by decide +kernel
theorem dX3_digestAfter_145 : decode cX3_digestAfter 145 = .ok (.iconst 1, 1) := by decide +kernel
theorem dX3_digestAfter_146 : decode cX3_digestAfter 146 = .ok (.goto 4, 3) := by decide +kernel
theorem dX3_digestAfter_120 : decode cX3_digestAfter 120 = .ok (.ifCond .eq 7, 3) := by decide +kernel
theorem dX3_digestAfter_127 : decode cX3_digestAfter 127 = .ok (.iconst 0, 1) := by decide +kernel
theorem dX3_digestAfter_123 : decode cX3_digestAfter 123 = .ok (.iconst 1, 1) := by decide +kernel
theorem dX3_digestAfter_124 : decode cX3_digestAfter 124 = .ok (.goto 4, 3) := by decide +kernel
theorem dX3_digestAfter_43 : decode cX3_digestAfter 43 = .ok (.if_icmp .ge 56, 3) := by decide +kernel
theorem dX3_digestAfter_46 : decode cX3_digestAfter 46 = .ok (.iload_n 3, 1) := by decide +kernel
theorem dX3_digestAfter_47 : decode cX3_digestAfter 47 = .ok (.iconst 5, 1) := by decide +kernel
theorem dX3_digestAfter_48 : decode cX3_digestAfter 48 = .ok (.if_icmp .ge 51, 3) := by decide +kernel
theorem dX3_digestAfter_51 : decode cX3_digestAfter 51 = .ok (.ldc2_w 124, 3) := by decide +kernel
theorem dX3_digestAfter_54 : decode cX3_digestAfter 54 = .ok (.lload_n 1, 1) := by decide +kernel
theorem dX3_digestAfter_55 : decode cX3_digestAfter 55 = .ok (.lmul, 1) := by decide +kernel
theorem dX3_digestAfter_56 : decode cX3_digestAfter 56 = .ok (.aload_n 0, 1) := by decide +kernel
theorem dX3_digestAfter_57 : decode cX3_digestAfter 57 = .ok (.getfield 9, 3) := by decide +kernel
theorem dX3_digestAfter_60 : decode cX3_digestAfter 60 = .ok (.iload_n 3, 1) := by decide +kernel
theorem dX3_digestAfter_61 : decode cX3_digestAfter 61 = .ok (.iaload, 1) := by decide +kernel
theorem dX3_digestAfter_62 : decode cX3_digestAfter 62 = .ok (.i2l, 1) := by decide +kernel
theorem dX3_digestAfter_63 : decode cX3_digestAfter 63 = .ok (.ladd, 1) := by decide +kernel
theorem dX3_digestAfter_64 : decode cX3_digestAfter 64 = .ok (.lstore_n 1, 1) := by decide +kernel
theorem dX3_digestAfter_65 : decode cX3_digestAfter 65 = .ok (.ldc2_w 124, 3) := by decide +kernel
theorem dX3_digestAfter_68 : decode cX3_digestAfter 68 = .ok (.lload_n 1, 1) := by decide +kernel
theorem dX3_digestAfter_69 : decode cX3_digestAfter 69 = .ok (.lmul, 1) := by decide +kernel
theorem dX3_digestAfter_70 : decode cX3_digestAfter 70 = .ok (.aload_n 0, 1) := by decide +kernel
theorem dX3_digestAfter_71 : decode cX3_digestAfter 71 = .ok (.getfield 15, 3) := by decide +kernel
theorem dX3_digestAfter_74 : decode cX3_digestAfter 74 = .ok (.iload_n 3, 1) := by decide +kernel
theorem dX3_digestAfter_75 : decode cX3_digestAfter 75 = .ok (.iaload, 1) := by decide +kernel
theorem dX3_digestAfter_76 : decode cX3_digestAfter 76 = .ok (.i2l, 1) := by decide +kernel
theorem dX3_digestAfter_77 : decode cX3_digestAfter 77 = .ok (.ladd, 1) := by decide +kernel
theorem dX3_digestAfter_78 : decode cX3_digestAfter 78 = .ok (.lstore_n 1, 1) := by decide +kernel
theorem dX3_digestAfter_79 : decode cX3_digestAfter 79 = .ok (.ldc2_w 124, 3) := by decide +kernel
theorem dX3_digestAfter_82 : decode cX3_digestAfter 82 = .ok (.lload_n 1, 1) := by decide +kernel
theorem dX3_digestAfter_83 : decode cX3_digestAfter 83 = .ok (.lmul, 1) := by decide +kernel
theorem dX3_digestAfter_84 : decode cX3_digestAfter 84 = .ok (.aload_n 0, 1) := by decide +kernel
theorem dX3_digestAfter_85 : decode cX3_digestAfter 85 = .ok (.getfield 18, 3) := by decide +kernel
theorem dX3_digestAfter_88 : decode cX3_digestAfter 88 = .ok (.iload_n 3, 1) := by decide +kernel
theorem dX3_digestAfter_89 : decode cX3_digestAfter 89 = .ok (.iaload, 1) := by decide +kernel
theorem dX3_digestAfter_90 : decode cX3_digestAfter 90 = .ok (.i2l, 1) := by decide +kernel
theorem dX3_digestAfter_91 : decode cX3_digestAfter 91 = .ok (.ladd, 1) := by decide +kernel
theorem dX3_digestAfter_92 : decode cX3_digestAfter 92 = .ok (.lstore_n 1, 1) := by decide +kernel
theorem dX3_digestAfter_93 : decode cX3_digestAfter 93 = .ok (.iinc 3 1, 3) := by decide +kernel
theorem dX3_digestAfter_96 : decode cX3_digestAfter 96 = .ok (.goto (-58), 3) := by decide +kernel
set_option maxHeartbeats 4000000 in
set_option maxRecDepth 100000 in
theorem n_X3_isCut (l : Launch) (D : va_G) (cy : Nat → ClassId) (a_g : Nat) (g_wide : Int32) (g_high : Int32) (g_drown : Int32) (g_wind : Int32) (g_hedges : Int64) (g_fountains : Int64) (g_people : Int32) (g_tellings : Int32) (g_reports : Int32) (a_g_kinds : Nat) (a_g_squares : Nat) (a_g_voices : Nat) (a_g_tellers : Nat) (a_g_listeners : Nat) (a_g_witnesses : Nat) (a_g_claims : Nat) (px : Int32) (py : Int32) (pz : Int32) (pt : Int32) (sz : Nat)  : Met l yX3_isCut wsX3_isCut ({ frames := 1, cells := 0, slots := 0, locals := 21 }) (va_Pc [.ref a_g, .int px, .int py, .int pz, .int pt] (kPre D cy [(a_g, .inr (3, [.int g_wide, .int g_high, .int g_drown, .int g_wind, .long g_hedges, .long g_fountains, .int g_people, .int g_tellings, .int g_reports, .ref a_g_kinds, .ref a_g_squares, .ref a_g_voices, .ref a_g_tellers, .ref a_g_listeners, .ref a_g_witnesses, .ref a_g_claims]))] sz)) (va_Qi (fun (r : Int32) (u : Unit) => (r = 1 ∧ True) ∨ (r = 0 ∧ True)) (fun _ _ => True) (fun q : Nat => sz ≤ q)) 0 0 (fun q : Nat => sz ≤ q) := by
  refine Met.ofW (cc := cX3_isCut) (maxL := 9) (ret := (some .boolean)) (by decide) rfl ?_
  intro p e s m args below meth c s₁ B hml hv
  obtain ⟨rfl, hsz, hP, hKA, hD0⟩ := hv
  have hx := B.exec
  have hb := B.bytes
  have hr := B.returns
  have hts := atoms_spec (ws := wsX3_isCut) B.pre
  have hown : s.vm.findClass RX3 = some m.cls := findClass_of_methodNamed B.named
  have hlocks := B.notSynchronized
  subst hsz
  have hK := hKA.1
  have hD := hD0
  generalize hAe : (fun q : Nat => s.heap.size ≤ q) = A
  have hA : ∀ q : Nat, s.heap.size ≤ q → A q := fun q h => by rw [← hAe]; exact h
  have hS : va_S A s.heap s.heap [] := va_S.rf
  have hP : va_P D vwCl [(a_g, .inr (3, [.int g_wide, .int g_high, .int g_drown, .int g_wind, .long g_hedges, .long g_fountains, .int g_people, .int g_tellings, .int g_reports, .ref a_g_kinds, .ref a_g_squares, .ref a_g_voices, .ref a_g_tellers, .ref a_g_listeners, .ref a_g_witnesses, .ref a_g_claims]))] s.heap := hP
  have hl := lv_entry ([.ref a_g, .int px, .int py, .int pz, .int pt]) (n := 9) (Nat.le_of_ble_eq_true rfl)
  rw [lg_entry_eq]
  generalize (lg_sl ([.ref a_g, .int px, .int py, .int pz, .int pt]) ++ List.replicate (9 - (lg_sl ([.ref a_g, .int px, .int py, .int pz, .int pt])).length) Slot.unset).toArray = ls at hl ⊢
  have hl : lv_has ls 9 [(0, .ref a_g), (1, .int px), (2, .int py), (3, .int pz), (4, .int pt)] := hl
  refine qW (fun QF hQF => ?_)
  have z0_ := hts (.methodLink RX3 91 Lib.Math.abs.name) (by decide +kernel)
  have z1_ := hts (.static Lib.Math.abs.name) (by decide +kernel)
  have z2_ := hts (.initialized "java/lang/Math") (by decide +kernel)
  have z3_ := hts (.code Lib.Math.abs.name Lib.Math.abs.code 1 (some .int)) (by decide +kernel)
  refine lv_aload_n hx hb dX3_isCut_0 rfl (lv_at hl 0 rfl) ?_
  refine lv_iload_n hx hb dX3_isCut_1 rfl (lv_at hl 2 rfl) ?_
  refine rd_i (va_runV (As := [.int py]) (rest := []) ⟨hx, hb, hml, hown, hts⟩ (n_X3_xOf l D cy a_g g_wide g_high g_drown g_wind g_hedges g_fountains g_people g_tellings g_reports a_g_kinds a_g_squares a_g_voices a_g_tellers a_g_listeners a_g_witnesses a_g_claims py _ ) (cwV 1 hts gX3_isCut_X3_xOf rfl rfl rfl (by decide +kernel) ⟨Nat.le_of_ble_eq_true rfl, Nat.le_of_ble_eq_true rfl⟩) (pV (ci := 3) (k := 0) hKA (hP.sub (ws' := [(a_g, .inr (3, [.int g_wide, .int g_high, .int g_drown, .int g_wind, .long g_hedges, .long g_fountains, .int g_people, .int g_tellings, .int g_reports, .ref a_g_kinds, .ref a_g_squares, .ref a_g_voices, .ref a_g_tellers, .ref a_g_listeners, .ref a_g_witnesses, .ref a_g_claims]))]) [0] rfl) (hD.sub (ws' := [(a_g, .inr (3, [.int g_wide, .int g_high, .int g_drown, .int g_wind, .long g_hedges, .long g_fountains, .int g_people, .int g_tellings, .int g_reports, .ref a_g_kinds, .ref a_g_squares, .ref a_g_voices, .ref a_g_tellers, .ref a_g_listeners, .ref a_g_witnesses, .ref a_g_claims]))]) [0] (by decide) rfl) rfl rfl) rfl rfl hl.1 rfl (lv_room (Nat.le_of_ble_eq_true rfl)) dX3_isCut_2 ⟨Nat.le_of_ble_eq_true rfl, Nat.le_of_ble_eq_true rfl⟩) hP hS hA (fun r1 H locs hwr1 hP hS => ?_)
  have hwr1 : r1.toInt < 2147483647 := hwr1
  refine lv_aload_n hx hb dX3_isCut_5 rfl (lv_at hl 0 rfl) ?_
  refine lv_iload_n hx hb dX3_isCut_6 rfl (lv_at hl 1 rfl) ?_
  refine rd_i (va_runV (As := [.int px]) (rest := [.int r1]) ⟨hx, hb, hml, hown, hts⟩ (n_X3_xOf l D cy a_g g_wide g_high g_drown g_wind g_hedges g_fountains g_people g_tellings g_reports a_g_kinds a_g_squares a_g_voices a_g_tellers a_g_listeners a_g_witnesses a_g_claims px _ ) (cwV 1 hts gX3_isCut_X3_xOf rfl rfl rfl (by decide +kernel) ⟨Nat.le_of_ble_eq_true rfl, Nat.le_of_ble_eq_true rfl⟩) (pV (ci := 3) (k := 0) hKA (hP.sub (ws' := [(a_g, .inr (3, [.int g_wide, .int g_high, .int g_drown, .int g_wind, .long g_hedges, .long g_fountains, .int g_people, .int g_tellings, .int g_reports, .ref a_g_kinds, .ref a_g_squares, .ref a_g_voices, .ref a_g_tellers, .ref a_g_listeners, .ref a_g_witnesses, .ref a_g_claims]))]) [0] rfl) (hD.sub (ws' := [(a_g, .inr (3, [.int g_wide, .int g_high, .int g_drown, .int g_wind, .long g_hedges, .long g_fountains, .int g_people, .int g_tellings, .int g_reports, .ref a_g_kinds, .ref a_g_squares, .ref a_g_voices, .ref a_g_tellers, .ref a_g_listeners, .ref a_g_witnesses, .ref a_g_claims]))]) [0] (by decide) rfl) rfl rfl) rfl rfl hl.1 rfl (lv_room (Nat.le_of_ble_eq_true rfl)) dX3_isCut_7 ⟨Nat.le_of_ble_eq_true rfl, Nat.le_of_ble_eq_true rfl⟩) hP hS hA (fun r2 H locs hwr2 hP hS => ?_)
  have hwr2 : r2.toInt < 2147483647 := hwr2
  refine lv_isub hx hb dX3_isCut_10 ?_
  refine lv_topi (fun x3 ex3 => ?_)
  refine lv_istore (lv' := [(5, .int x3), (0, .ref a_g), (1, .int px), (2, .int py), (3, .int pz), (4, .int pt)]) hx hb dX3_isCut_11 hl (by decide) rfl (fun ls hl => ?_)
  refine lv_aload_n hx hb dX3_isCut_13 rfl (lv_at hl 1 rfl) ?_
  refine lv_iload_n hx hb dX3_isCut_14 rfl (lv_at hl 3 rfl) ?_
  refine rd_i (va_runV (As := [.int py]) (rest := []) ⟨hx, hb, hml, hown, hts⟩ (n_yOf0 l D cy a_g g_wide g_high g_drown g_wind g_hedges g_fountains g_people g_tellings g_reports a_g_kinds a_g_squares a_g_voices a_g_tellers a_g_listeners a_g_witnesses a_g_claims py _ ) (cwV 1 hts gX3_isCut_X3_yOf rfl rfl rfl (by decide +kernel) ⟨Nat.le_of_ble_eq_true rfl, Nat.le_of_ble_eq_true rfl⟩) (pV (ci := 3) (k := 0) hKA (hP.sub (ws' := [(a_g, .inr (3, [.int g_wide, .int g_high, .int g_drown, .int g_wind, .long g_hedges, .long g_fountains, .int g_people, .int g_tellings, .int g_reports, .ref a_g_kinds, .ref a_g_squares, .ref a_g_voices, .ref a_g_tellers, .ref a_g_listeners, .ref a_g_witnesses, .ref a_g_claims]))]) [0] rfl) (hD.sub (ws' := [(a_g, .inr (3, [.int g_wide, .int g_high, .int g_drown, .int g_wind, .long g_hedges, .long g_fountains, .int g_people, .int g_tellings, .int g_reports, .ref a_g_kinds, .ref a_g_squares, .ref a_g_voices, .ref a_g_tellers, .ref a_g_listeners, .ref a_g_witnesses, .ref a_g_claims]))]) [0] (by decide) rfl) rfl rfl) rfl rfl hl.1 rfl (lv_room (Nat.le_of_ble_eq_true rfl)) dX3_isCut_15 ⟨Nat.le_of_ble_eq_true rfl, Nat.le_of_ble_eq_true rfl⟩) hP hS hA (fun r4 H locs hwr4 hP hS => ?_)
  refine lv_aload_n hx hb dX3_isCut_18 rfl (lv_at hl 1 rfl) ?_
  refine lv_iload_n hx hb dX3_isCut_19 rfl (lv_at hl 2 rfl) ?_
  refine rd_i (va_runV (As := [.int px]) (rest := [.int r4]) ⟨hx, hb, hml, hown, hts⟩ (n_yOf0 l D cy a_g g_wide g_high g_drown g_wind g_hedges g_fountains g_people g_tellings g_reports a_g_kinds a_g_squares a_g_voices a_g_tellers a_g_listeners a_g_witnesses a_g_claims px _ ) (cwV 1 hts gX3_isCut_X3_yOf rfl rfl rfl (by decide +kernel) ⟨Nat.le_of_ble_eq_true rfl, Nat.le_of_ble_eq_true rfl⟩) (pV (ci := 3) (k := 0) hKA (hP.sub (ws' := [(a_g, .inr (3, [.int g_wide, .int g_high, .int g_drown, .int g_wind, .long g_hedges, .long g_fountains, .int g_people, .int g_tellings, .int g_reports, .ref a_g_kinds, .ref a_g_squares, .ref a_g_voices, .ref a_g_tellers, .ref a_g_listeners, .ref a_g_witnesses, .ref a_g_claims]))]) [0] rfl) (hD.sub (ws' := [(a_g, .inr (3, [.int g_wide, .int g_high, .int g_drown, .int g_wind, .long g_hedges, .long g_fountains, .int g_people, .int g_tellings, .int g_reports, .ref a_g_kinds, .ref a_g_squares, .ref a_g_voices, .ref a_g_tellers, .ref a_g_listeners, .ref a_g_witnesses, .ref a_g_claims]))]) [0] (by decide) rfl) rfl rfl) rfl rfl hl.1 rfl (lv_room (Nat.le_of_ble_eq_true rfl)) dX3_isCut_20 ⟨Nat.le_of_ble_eq_true rfl, Nat.le_of_ble_eq_true rfl⟩) hP hS hA (fun r5 H locs hwr5 hP hS => ?_)
  refine lv_isub hx hb dX3_isCut_23 ?_
  refine lv_topi (fun x6 ex6 => ?_)
  refine lv_istore (lv' := [(6, .int x6), (5, .int x3), (0, .ref a_g), (1, .int px), (2, .int py), (3, .int pz), (4, .int pt)]) hx hb dX3_isCut_24 hl (by decide) rfl (fun ls hl => ?_)
  refine lv_iload hx hb dX3_isCut_26 (lv_at hl 1 rfl) ?_
  refine lv_iload hx hb dX3_isCut_28 (lv_at hl 6 rfl) ?_
  refine lv_aload_n hx hb dX3_isCut_30 rfl (lv_at hl 2 rfl) ?_
  refine lv_iload_n hx hb dX3_isCut_31 rfl (lv_at hl 3 rfl) ?_
  refine rd_i (va_runV (As := [.int px]) (rest := [.int pt, .int x3]) ⟨hx, hb, hml, hown, hts⟩ (n_yOf0 l D cy a_g g_wide g_high g_drown g_wind g_hedges g_fountains g_people g_tellings g_reports a_g_kinds a_g_squares a_g_voices a_g_tellers a_g_listeners a_g_witnesses a_g_claims px _ ) (cwV 1 hts gX3_isCut_X3_yOf rfl rfl rfl (by decide +kernel) ⟨Nat.le_of_ble_eq_true rfl, Nat.le_of_ble_eq_true rfl⟩) (pV (ci := 3) (k := 0) hKA (hP.sub (ws' := [(a_g, .inr (3, [.int g_wide, .int g_high, .int g_drown, .int g_wind, .long g_hedges, .long g_fountains, .int g_people, .int g_tellings, .int g_reports, .ref a_g_kinds, .ref a_g_squares, .ref a_g_voices, .ref a_g_tellers, .ref a_g_listeners, .ref a_g_witnesses, .ref a_g_claims]))]) [0] rfl) (hD.sub (ws' := [(a_g, .inr (3, [.int g_wide, .int g_high, .int g_drown, .int g_wind, .long g_hedges, .long g_fountains, .int g_people, .int g_tellings, .int g_reports, .ref a_g_kinds, .ref a_g_squares, .ref a_g_voices, .ref a_g_tellers, .ref a_g_listeners, .ref a_g_witnesses, .ref a_g_claims]))]) [0] (by decide) rfl) rfl rfl) rfl rfl hl.1 rfl (lv_room (Nat.le_of_ble_eq_true rfl)) dX3_isCut_32 ⟨Nat.le_of_ble_eq_true rfl, Nat.le_of_ble_eq_true rfl⟩) hP hS hA (fun r7 H locs hwr7 hP hS => ?_)
  refine lv_isub hx hb dX3_isCut_35 ?_
  refine lv_imul hx hb dX3_isCut_36 ?_
  refine lv_iload hx hb dX3_isCut_37 (lv_at hl 0 rfl) ?_
  refine lv_iload_n hx hb dX3_isCut_39 rfl (lv_at hl 5 rfl) ?_
  refine lv_aload_n hx hb dX3_isCut_40 rfl (lv_at hl 2 rfl) ?_
  refine lv_iload_n hx hb dX3_isCut_41 rfl (lv_at hl 3 rfl) ?_
  refine rd_i (va_runV (As := [.int px]) (rest := [.int pz, .int x6, .int (x3 * (pt - r7))]) ⟨hx, hb, hml, hown, hts⟩ (n_X3_xOf l D cy a_g g_wide g_high g_drown g_wind g_hedges g_fountains g_people g_tellings g_reports a_g_kinds a_g_squares a_g_voices a_g_tellers a_g_listeners a_g_witnesses a_g_claims px _ ) (cwV 1 hts gX3_isCut_X3_xOf rfl rfl rfl (by decide +kernel) ⟨Nat.le_of_ble_eq_true rfl, Nat.le_of_ble_eq_true rfl⟩) (pV (ci := 3) (k := 0) hKA (hP.sub (ws' := [(a_g, .inr (3, [.int g_wide, .int g_high, .int g_drown, .int g_wind, .long g_hedges, .long g_fountains, .int g_people, .int g_tellings, .int g_reports, .ref a_g_kinds, .ref a_g_squares, .ref a_g_voices, .ref a_g_tellers, .ref a_g_listeners, .ref a_g_witnesses, .ref a_g_claims]))]) [0] rfl) (hD.sub (ws' := [(a_g, .inr (3, [.int g_wide, .int g_high, .int g_drown, .int g_wind, .long g_hedges, .long g_fountains, .int g_people, .int g_tellings, .int g_reports, .ref a_g_kinds, .ref a_g_squares, .ref a_g_voices, .ref a_g_tellers, .ref a_g_listeners, .ref a_g_witnesses, .ref a_g_claims]))]) [0] (by decide) rfl) rfl rfl) rfl rfl hl.1 rfl (lv_room (Nat.le_of_ble_eq_true rfl)) dX3_isCut_42 ⟨Nat.le_of_ble_eq_true rfl, Nat.le_of_ble_eq_true rfl⟩) hP hS hA (fun r8 H locs hwr8 hP hS => ?_)
  have hwr8 : r8.toInt < 2147483647 := hwr8
  refine lv_isub hx hb dX3_isCut_45 ?_
  refine lv_imul hx hb dX3_isCut_46 ?_
  refine lv_isub hx hb dX3_isCut_47 ?_
  refine lv_topi (fun x9 ex9 => ?_)
  refine lv_istore (lv' := [(7, .int x9), (6, .int x6), (5, .int x3), (0, .ref a_g), (1, .int px), (2, .int py), (3, .int pz), (4, .int pt)]) hx hb dX3_isCut_48 hl (by decide) rfl (fun ls hl => ?_)
  refine lv_iload hx hb dX3_isCut_50 (lv_at hl 2 rfl) ?_
  refine va_mabs hx hb (by rw [hml]; exact hl.1.symm) hown z0_ z1_ z2_ z3_ (Nat.le_of_ble_eq_true rfl) (Nat.le_of_ble_eq_true rfl) (Nat.zero_le _) (Nat.zero_le _) dX3_isCut_52 ?_
  refine lv_topi (fun x10 ex10 => ?_)
  refine lv_iload hx hb dX3_isCut_55 (lv_at hl 1 rfl) ?_
  refine va_mabs hx hb (by rw [hml]; exact hl.1.symm) hown z0_ z1_ z2_ z3_ (Nat.le_of_ble_eq_true rfl) (Nat.le_of_ble_eq_true rfl) (Nat.zero_le _) (Nat.zero_le _) dX3_isCut_57 ?_
  refine lv_topi (fun x11 ex11 => ?_)
  refine lv_iadd hx hb dX3_isCut_60 ?_
  refine lv_topi (fun x12 ex12 => ?_)
  refine lv_istore (lv' := [(8, .int x12), (7, .int x9), (6, .int x6), (5, .int x3), (0, .ref a_g), (1, .int px), (2, .int py), (3, .int pz), (4, .int pt)]) hx hb dX3_isCut_61 hl (by decide) rfl (fun ls hl => ?_)
  refine lv_iconst (v := 2) hx hb dX3_isCut_63 (by decide) ?_
  refine lv_iload hx hb dX3_isCut_64 (lv_at hl 1 rfl) ?_
  refine va_mabs hx hb (by rw [hml]; exact hl.1.symm) hown z0_ z1_ z2_ z3_ (Nat.le_of_ble_eq_true rfl) (Nat.le_of_ble_eq_true rfl) (Nat.zero_le _) (Nat.zero_le _) dX3_isCut_66 ?_
  refine lv_topi (fun x13 ex13 => ?_)
  refine lv_imul hx hb dX3_isCut_69 ?_
  refine lv_iload hx hb dX3_isCut_70 (lv_at hl 0 rfl) ?_
  refine lv_icmp_ge (tgt := 79) hx hb dX3_isCut_72 (by decide) (fun c14 => ?_) (fun c14 => ?_)
  · skip
    refine lv_iconst (v := 0) hx hb dX3_isCut_79 (by decide) ?_
    subst hQF
    exact W.zret (v := 0) hx hb hr rfl (fun t ht hW => ⟨⟨0, (), rfl, (Or.inr ⟨rfl, trivial⟩), trivial⟩, hS.F ht⟩) hS.2.2 dX3_isCut_80
  · skip
    refine lv_iconst (v := 1) hx hb dX3_isCut_75 (by decide) ?_
    refine lv_goto (tgt := 80) hx hb dX3_isCut_76 (by decide) ?_
    subst hQF
    exact W.zret (v := 1) hx hb hr rfl (fun t ht hW => ⟨⟨1, (), rfl, (Or.inl ⟨rfl, trivial⟩), trivial⟩, hS.F ht⟩) hS.2.2 dX3_isCut_80

set_option maxHeartbeats 4000000 in
set_option maxRecDepth 100000 in
theorem n_X3_isClear (l : Launch) (D : va_G) (cy : Nat → ClassId) (a_g : Nat) (g_wide : Int32) (g_high : Int32) (g_drown : Int32) (g_wind : Int32) (g_hedges : Int64) (g_fountains : Int64) (g_people : Int32) (g_tellings : Int32) (g_reports : Int32) (a_g_kinds : Nat) (a_g_squares : Nat) (a_g_voices : Nat) (a_g_tellers : Nat) (a_g_listeners : Nat) (a_g_witnesses : Nat) (a_g_claims : Nat) (px : Int32) (py : Int32) (sz : Nat) (hW2 : 2 ≤ g_wide) : Met l yX3_isClear wsX3_isClear ({ frames := 2, cells := 0, slots := 0, locals := 49 }) (va_Pc [.ref a_g, .int px, .int py] (kPre D cy [(a_g, .inr (3, [.int g_wide, .int g_high, .int g_drown, .int g_wind, .long g_hedges, .long g_fountains, .int g_people, .int g_tellings, .int g_reports, .ref a_g_kinds, .ref a_g_squares, .ref a_g_voices, .ref a_g_tellers, .ref a_g_listeners, .ref a_g_witnesses, .ref a_g_claims]))] sz)) (va_Qi (fun (r : Int32) (u : Unit) => (r = 1 ∧ True) ∨ (r = 0 ∧ True)) (fun _ _ => True) (fun q : Nat => sz ≤ q)) 0 0 (fun q : Nat => sz ≤ q) := by
  refine Met.ofW (cc := cX3_isClear) (maxL := 8) (ret := (some .boolean)) (by decide) rfl ?_
  intro p e s m args below meth c s₁ B hml hv
  obtain ⟨rfl, hsz, hP, hKA, hD0⟩ := hv
  have hx := B.exec
  have hb := B.bytes
  have hr := B.returns
  have hts := atoms_spec (ws := wsX3_isClear) B.pre
  have hown : s.vm.findClass RX3 = some m.cls := findClass_of_methodNamed B.named
  have hlocks := B.notSynchronized
  subst hsz
  have hK := hKA.1
  have hD := hD0
  generalize hAe : (fun q : Nat => s.heap.size ≤ q) = A
  have hA : ∀ q : Nat, s.heap.size ≤ q → A q := fun q h => by rw [← hAe]; exact h
  have hS : va_S A s.heap s.heap [] := va_S.rf
  have hP : va_P D vwCl [(a_g, .inr (3, [.int g_wide, .int g_high, .int g_drown, .int g_wind, .long g_hedges, .long g_fountains, .int g_people, .int g_tellings, .int g_reports, .ref a_g_kinds, .ref a_g_squares, .ref a_g_voices, .ref a_g_tellers, .ref a_g_listeners, .ref a_g_witnesses, .ref a_g_claims]))] s.heap := hP
  have hl := lv_entry ([.ref a_g, .int px, .int py]) (n := 8) (Nat.le_of_ble_eq_true rfl)
  rw [lg_entry_eq]
  generalize (lg_sl ([.ref a_g, .int px, .int py]) ++ List.replicate (8 - (lg_sl ([.ref a_g, .int px, .int py])).length) Slot.unset).toArray = ls at hl ⊢
  have hl : lv_has ls 8 [(0, .ref a_g), (1, .int px), (2, .int py)] := hl
  refine qW (fun QF hQF => ?_)
  have z0_ := hts (.methodLink RX3 99 Lib.Math.max.name) (by decide +kernel)
  have z1_ := hts (.static Lib.Math.max.name) (by decide +kernel)
  have z2_ := hts (.initialized "java/lang/Math") (by decide +kernel)
  have z3_ := hts (.code Lib.Math.max.name Lib.Math.max.code 2 (some .int)) (by decide +kernel)
  have z4_ := hts (.methodLink RX3 103 Lib.Math.min.name) (by decide +kernel)
  have z5_ := hts (.static Lib.Math.min.name) (by decide +kernel)
  have z6_ := hts (.code Lib.Math.min.name Lib.Math.min.code 2 (some .int)) (by decide +kernel)
  have z7_ := hts (.fieldLink RX3 33 "HeardSeen$Garden" "wide" "I") (by decide +kernel)
  have zi3_ : ∀ w ∈ u_ws RX3 TX3 16, w ∈ wsX3_isClear := by decide +kernel
  refine lv_aload_n hx hb dX3_isClear_0 rfl (lv_at hl 0 rfl) ?_
  refine lv_iload_n hx hb dX3_isClear_1 rfl (lv_at hl 1 rfl) ?_
  refine rd_i (va_runV (As := [.int px]) (rest := []) ⟨hx, hb, hml, hown, hts⟩ (n_X3_xOf l D cy a_g g_wide g_high g_drown g_wind g_hedges g_fountains g_people g_tellings g_reports a_g_kinds a_g_squares a_g_voices a_g_tellers a_g_listeners a_g_witnesses a_g_claims px _ ) (cwV 1 hts gX3_isClear_X3_xOf rfl rfl rfl (by decide +kernel) ⟨Nat.le_of_ble_eq_true rfl, Nat.le_of_ble_eq_true rfl⟩) (pV (ci := 3) (k := 0) hKA (hP.sub (ws' := [(a_g, .inr (3, [.int g_wide, .int g_high, .int g_drown, .int g_wind, .long g_hedges, .long g_fountains, .int g_people, .int g_tellings, .int g_reports, .ref a_g_kinds, .ref a_g_squares, .ref a_g_voices, .ref a_g_tellers, .ref a_g_listeners, .ref a_g_witnesses, .ref a_g_claims]))]) [0] rfl) (hD.sub (ws' := [(a_g, .inr (3, [.int g_wide, .int g_high, .int g_drown, .int g_wind, .long g_hedges, .long g_fountains, .int g_people, .int g_tellings, .int g_reports, .ref a_g_kinds, .ref a_g_squares, .ref a_g_voices, .ref a_g_tellers, .ref a_g_listeners, .ref a_g_witnesses, .ref a_g_claims]))]) [0] (by decide) rfl) rfl rfl) rfl rfl hl.1 rfl (lv_room (Nat.le_of_ble_eq_true rfl)) dX3_isClear_2 ⟨Nat.le_of_ble_eq_true rfl, Nat.le_of_ble_eq_true rfl⟩) hP hS hA (fun r1 H locs hwr1 hP hS => ?_)
  have hwr1 : r1.toInt < 2147483647 := hwr1
  refine lv_aload_n hx hb dX3_isClear_5 rfl (lv_at hl 0 rfl) ?_
  refine lv_iload_n hx hb dX3_isClear_6 rfl (lv_at hl 2 rfl) ?_
  refine rd_i (va_runV (As := [.int py]) (rest := [.int r1]) ⟨hx, hb, hml, hown, hts⟩ (n_X3_xOf l D cy a_g g_wide g_high g_drown g_wind g_hedges g_fountains g_people g_tellings g_reports a_g_kinds a_g_squares a_g_voices a_g_tellers a_g_listeners a_g_witnesses a_g_claims py _ ) (cwV 1 hts gX3_isClear_X3_xOf rfl rfl rfl (by decide +kernel) ⟨Nat.le_of_ble_eq_true rfl, Nat.le_of_ble_eq_true rfl⟩) (pV (ci := 3) (k := 0) hKA (hP.sub (ws' := [(a_g, .inr (3, [.int g_wide, .int g_high, .int g_drown, .int g_wind, .long g_hedges, .long g_fountains, .int g_people, .int g_tellings, .int g_reports, .ref a_g_kinds, .ref a_g_squares, .ref a_g_voices, .ref a_g_tellers, .ref a_g_listeners, .ref a_g_witnesses, .ref a_g_claims]))]) [0] rfl) (hD.sub (ws' := [(a_g, .inr (3, [.int g_wide, .int g_high, .int g_drown, .int g_wind, .long g_hedges, .long g_fountains, .int g_people, .int g_tellings, .int g_reports, .ref a_g_kinds, .ref a_g_squares, .ref a_g_voices, .ref a_g_tellers, .ref a_g_listeners, .ref a_g_witnesses, .ref a_g_claims]))]) [0] (by decide) rfl) rfl rfl) rfl rfl hl.1 rfl (lv_room (Nat.le_of_ble_eq_true rfl)) dX3_isClear_7 ⟨Nat.le_of_ble_eq_true rfl, Nat.le_of_ble_eq_true rfl⟩) hP hS hA (fun r2 H locs hwr2 hP hS => ?_)
  have hwr2 : r2.toInt < 2147483647 := hwr2
  refine va_mmax hx hb (by rw [hml]; exact hl.1.symm) hown z0_ z1_ z2_ z3_ (Nat.le_of_ble_eq_true rfl) (Nat.le_of_ble_eq_true rfl) (Nat.zero_le _) (Nat.zero_le _) dX3_isClear_10 ?_
  refine lv_topi (fun x3 ex3 => ?_)
  refine lv_istore_n (lv' := [(3, .int x3), (0, .ref a_g), (1, .int px), (2, .int py)]) hx hb dX3_isClear_13 rfl hl (by decide) rfl (fun ls hl => ?_)
  refine lv_aload_n hx hb dX3_isClear_14 rfl (lv_at hl 1 rfl) ?_
  refine lv_iload_n hx hb dX3_isClear_15 rfl (lv_at hl 2 rfl) ?_
  refine rd_i (va_runV (As := [.int px]) (rest := []) ⟨hx, hb, hml, hown, hts⟩ (n_X3_yOf l D cy a_g g_wide g_high g_drown g_wind g_hedges g_fountains g_people g_tellings g_reports a_g_kinds a_g_squares a_g_voices a_g_tellers a_g_listeners a_g_witnesses a_g_claims px _ (by first | assumption | omega)) (cwV 1 hts gX3_isClear_X3_yOf rfl rfl rfl (by decide +kernel) ⟨Nat.le_of_ble_eq_true rfl, Nat.le_of_ble_eq_true rfl⟩) (pV (ci := 3) (k := 0) hKA (hP.sub (ws' := [(a_g, .inr (3, [.int g_wide, .int g_high, .int g_drown, .int g_wind, .long g_hedges, .long g_fountains, .int g_people, .int g_tellings, .int g_reports, .ref a_g_kinds, .ref a_g_squares, .ref a_g_voices, .ref a_g_tellers, .ref a_g_listeners, .ref a_g_witnesses, .ref a_g_claims]))]) [0] rfl) (hD.sub (ws' := [(a_g, .inr (3, [.int g_wide, .int g_high, .int g_drown, .int g_wind, .long g_hedges, .long g_fountains, .int g_people, .int g_tellings, .int g_reports, .ref a_g_kinds, .ref a_g_squares, .ref a_g_voices, .ref a_g_tellers, .ref a_g_listeners, .ref a_g_witnesses, .ref a_g_claims]))]) [0] (by decide) rfl) rfl rfl) rfl rfl hl.1 rfl (lv_room (Nat.le_of_ble_eq_true rfl)) dX3_isClear_16 ⟨Nat.le_of_ble_eq_true rfl, Nat.le_of_ble_eq_true rfl⟩) hP hS hA (fun r4 H locs hwr4 hP hS => ?_)
  have hwr4 : r4.toInt < 2147483647 := hwr4
  refine lv_aload_n hx hb dX3_isClear_19 rfl (lv_at hl 1 rfl) ?_
  refine lv_iload_n hx hb dX3_isClear_20 rfl (lv_at hl 3 rfl) ?_
  refine rd_i (va_runV (As := [.int py]) (rest := [.int r4]) ⟨hx, hb, hml, hown, hts⟩ (n_X3_yOf l D cy a_g g_wide g_high g_drown g_wind g_hedges g_fountains g_people g_tellings g_reports a_g_kinds a_g_squares a_g_voices a_g_tellers a_g_listeners a_g_witnesses a_g_claims py _ (by first | assumption | omega)) (cwV 1 hts gX3_isClear_X3_yOf rfl rfl rfl (by decide +kernel) ⟨Nat.le_of_ble_eq_true rfl, Nat.le_of_ble_eq_true rfl⟩) (pV (ci := 3) (k := 0) hKA (hP.sub (ws' := [(a_g, .inr (3, [.int g_wide, .int g_high, .int g_drown, .int g_wind, .long g_hedges, .long g_fountains, .int g_people, .int g_tellings, .int g_reports, .ref a_g_kinds, .ref a_g_squares, .ref a_g_voices, .ref a_g_tellers, .ref a_g_listeners, .ref a_g_witnesses, .ref a_g_claims]))]) [0] rfl) (hD.sub (ws' := [(a_g, .inr (3, [.int g_wide, .int g_high, .int g_drown, .int g_wind, .long g_hedges, .long g_fountains, .int g_people, .int g_tellings, .int g_reports, .ref a_g_kinds, .ref a_g_squares, .ref a_g_voices, .ref a_g_tellers, .ref a_g_listeners, .ref a_g_witnesses, .ref a_g_claims]))]) [0] (by decide) rfl) rfl rfl) rfl rfl hl.1 rfl (lv_room (Nat.le_of_ble_eq_true rfl)) dX3_isClear_21 ⟨Nat.le_of_ble_eq_true rfl, Nat.le_of_ble_eq_true rfl⟩) hP hS hA (fun r5 H locs hwr5 hP hS => ?_)
  have hwr5 : r5.toInt < 2147483647 := hwr5
  refine va_mmax hx hb (by rw [hml]; exact hl.1.symm) hown z0_ z1_ z2_ z3_ (Nat.le_of_ble_eq_true rfl) (Nat.le_of_ble_eq_true rfl) (Nat.zero_le _) (Nat.zero_le _) dX3_isClear_24 ?_
  refine lv_topi (fun x6 ex6 => ?_)
  refine lv_istore (lv' := [(4, .int x6), (3, .int x3), (0, .ref a_g), (1, .int px), (2, .int py)]) hx hb dX3_isClear_27 hl (by decide) rfl (fun ls hl => ?_)
  refine lv_aload_n hx hb dX3_isClear_29 rfl (lv_at hl 2 rfl) ?_
  refine lv_iload_n hx hb dX3_isClear_30 rfl (lv_at hl 3 rfl) ?_
  refine rd_i (va_runV (As := [.int px]) (rest := []) ⟨hx, hb, hml, hown, hts⟩ (n_yOf0 l D cy a_g g_wide g_high g_drown g_wind g_hedges g_fountains g_people g_tellings g_reports a_g_kinds a_g_squares a_g_voices a_g_tellers a_g_listeners a_g_witnesses a_g_claims px _ ) (cwV 1 hts gX3_isClear_X3_yOf rfl rfl rfl (by decide +kernel) ⟨Nat.le_of_ble_eq_true rfl, Nat.le_of_ble_eq_true rfl⟩) (pV (ci := 3) (k := 0) hKA (hP.sub (ws' := [(a_g, .inr (3, [.int g_wide, .int g_high, .int g_drown, .int g_wind, .long g_hedges, .long g_fountains, .int g_people, .int g_tellings, .int g_reports, .ref a_g_kinds, .ref a_g_squares, .ref a_g_voices, .ref a_g_tellers, .ref a_g_listeners, .ref a_g_witnesses, .ref a_g_claims]))]) [0] rfl) (hD.sub (ws' := [(a_g, .inr (3, [.int g_wide, .int g_high, .int g_drown, .int g_wind, .long g_hedges, .long g_fountains, .int g_people, .int g_tellings, .int g_reports, .ref a_g_kinds, .ref a_g_squares, .ref a_g_voices, .ref a_g_tellers, .ref a_g_listeners, .ref a_g_witnesses, .ref a_g_claims]))]) [0] (by decide) rfl) rfl rfl) rfl rfl hl.1 rfl (lv_room (Nat.le_of_ble_eq_true rfl)) dX3_isClear_31 ⟨Nat.le_of_ble_eq_true rfl, Nat.le_of_ble_eq_true rfl⟩) hP hS hA (fun r7 H locs hwr7 hP hS => ?_)
  refine lv_aload_n hx hb dX3_isClear_34 rfl (lv_at hl 2 rfl) ?_
  refine lv_iload_n hx hb dX3_isClear_35 rfl (lv_at hl 4 rfl) ?_
  refine rd_i (va_runV (As := [.int py]) (rest := [.int r7]) ⟨hx, hb, hml, hown, hts⟩ (n_yOf0 l D cy a_g g_wide g_high g_drown g_wind g_hedges g_fountains g_people g_tellings g_reports a_g_kinds a_g_squares a_g_voices a_g_tellers a_g_listeners a_g_witnesses a_g_claims py _ ) (cwV 1 hts gX3_isClear_X3_yOf rfl rfl rfl (by decide +kernel) ⟨Nat.le_of_ble_eq_true rfl, Nat.le_of_ble_eq_true rfl⟩) (pV (ci := 3) (k := 0) hKA (hP.sub (ws' := [(a_g, .inr (3, [.int g_wide, .int g_high, .int g_drown, .int g_wind, .long g_hedges, .long g_fountains, .int g_people, .int g_tellings, .int g_reports, .ref a_g_kinds, .ref a_g_squares, .ref a_g_voices, .ref a_g_tellers, .ref a_g_listeners, .ref a_g_witnesses, .ref a_g_claims]))]) [0] rfl) (hD.sub (ws' := [(a_g, .inr (3, [.int g_wide, .int g_high, .int g_drown, .int g_wind, .long g_hedges, .long g_fountains, .int g_people, .int g_tellings, .int g_reports, .ref a_g_kinds, .ref a_g_squares, .ref a_g_voices, .ref a_g_tellers, .ref a_g_listeners, .ref a_g_witnesses, .ref a_g_claims]))]) [0] (by decide) rfl) rfl rfl) rfl rfl hl.1 rfl (lv_room (Nat.le_of_ble_eq_true rfl)) dX3_isClear_36 ⟨Nat.le_of_ble_eq_true rfl, Nat.le_of_ble_eq_true rfl⟩) hP hS hA (fun r8 H locs hwr8 hP hS => ?_)
  refine va_mmin hx hb (by rw [hml]; exact hl.1.symm) hown z4_ z5_ z2_ z6_ (Nat.le_of_ble_eq_true rfl) (Nat.le_of_ble_eq_true rfl) (Nat.zero_le _) (Nat.zero_le _) dX3_isClear_39 ?_
  refine lv_topi (fun x9 ex9 => ?_)
  refine lv_istore (lv' := [(5, .int x9), (4, .int x6), (3, .int x3), (0, .ref a_g), (1, .int px), (2, .int py)]) hx hb dX3_isClear_42 hl (by decide) rfl (fun ls hl => ?_)
  have hmy := z_mx hwr4 hwr5 ex6
  have hmx := z_mx hwr1 hwr2 ex3
  have lp44 : ∀ (n44 : Nat) (v5_44 : Int32), (2147483647 - (v5_44).toInt).toNat < n44 → ∀ (H : Heap) (locs : List Loc), va_P D vwCl [(a_g, .inr (3, [.int g_wide, .int g_high, .int g_drown, .int g_wind, .long g_hedges, .long g_fountains, .int g_people, .int g_tellings, .int g_reports, .ref a_g_kinds, .ref a_g_squares, .ref a_g_voices, .ref a_g_tellers, .ref a_g_listeners, .ref a_g_witnesses, .ref a_g_claims]))] H → va_D (fun _ => True) [(a_g, .inr (3, [.int g_wide, .int g_high, .int g_drown, .int g_wind, .long g_hedges, .long g_fountains, .int g_people, .int g_tellings, .int g_reports, .ref a_g_kinds, .ref a_g_squares, .ref a_g_voices, .ref a_g_tellers, .ref a_g_listeners, .ref a_g_witnesses, .ref a_g_claims]))] → va_S A s.heap H locs → ∀ ls : Array Slot, lv_has ls 8 [(5, .int v5_44), (4, .int x6), (3, .int x3), (0, .ref a_g), (1, .int px), (2, .int py)] → W p l e (headSpec wsX3_isClear ({ frames := 2, cells := 0, slots := 0, locals := 49 })).room s m [.ref a_g, .int px, .int py].toArray below meth c H locs 0 0 QF (F0 m 44 ls []) := by
    intro n44
    induction n44 with
    | zero => intro v5_44 hm; exact absurd hm (Nat.not_lt_zero _)
    | succ n44 ih44 =>
      intro v5_44 hm44 H locs hP hD hS ls hl
      refine lv_iload hx hb dX3_isClear_44 (lv_at hl 0 rfl) ?_
      refine lv_iload hx hb dX3_isClear_46 (lv_at hl 1 rfl) ?_
      refine lv_icmp_gt (tgt := 133) hx hb dX3_isClear_48 (by decide) (fun c10 => ?_) (fun c10 => ?_)
      · skip
        refine lv_iconst (v := 1) hx hb dX3_isClear_133 (by decide) ?_
        subst hQF
        exact W.zret (v := 1) hx hb hr rfl (fun t ht hW => ⟨⟨1, (), rfl, (Or.inl ⟨rfl, trivial⟩), trivial⟩, hS.F ht⟩) hS.2.2 dX3_isClear_134
      · skip
        refine lv_aload_n hx hb dX3_isClear_51 rfl (lv_at hl 3 rfl) ?_
        refine lv_iload_n hx hb dX3_isClear_52 rfl (lv_at hl 4 rfl) ?_
        refine rd_i (va_runV (As := [.int px]) (rest := []) ⟨hx, hb, hml, hown, hts⟩ (n_X3_xOf l D cy a_g g_wide g_high g_drown g_wind g_hedges g_fountains g_people g_tellings g_reports a_g_kinds a_g_squares a_g_voices a_g_tellers a_g_listeners a_g_witnesses a_g_claims px _ ) (cwV 1 hts gX3_isClear_X3_xOf rfl rfl rfl (by decide +kernel) ⟨Nat.le_of_ble_eq_true rfl, Nat.le_of_ble_eq_true rfl⟩) (pV (ci := 3) (k := 0) hKA (hP.sub (ws' := [(a_g, .inr (3, [.int g_wide, .int g_high, .int g_drown, .int g_wind, .long g_hedges, .long g_fountains, .int g_people, .int g_tellings, .int g_reports, .ref a_g_kinds, .ref a_g_squares, .ref a_g_voices, .ref a_g_tellers, .ref a_g_listeners, .ref a_g_witnesses, .ref a_g_claims]))]) [0] rfl) (hD.sub (ws' := [(a_g, .inr (3, [.int g_wide, .int g_high, .int g_drown, .int g_wind, .long g_hedges, .long g_fountains, .int g_people, .int g_tellings, .int g_reports, .ref a_g_kinds, .ref a_g_squares, .ref a_g_voices, .ref a_g_tellers, .ref a_g_listeners, .ref a_g_witnesses, .ref a_g_claims]))]) [0] (by decide) rfl) rfl rfl) rfl rfl hl.1 rfl (lv_room (Nat.le_of_ble_eq_true rfl)) dX3_isClear_53 ⟨Nat.le_of_ble_eq_true rfl, Nat.le_of_ble_eq_true rfl⟩) hP hS hA (fun r11 H locs hwr11 hP hS => ?_)
        have hwr11 : r11.toInt < 2147483647 := hwr11
        refine lv_aload_n hx hb dX3_isClear_56 rfl (lv_at hl 3 rfl) ?_
        refine lv_iload_n hx hb dX3_isClear_57 rfl (lv_at hl 5 rfl) ?_
        refine rd_i (va_runV (As := [.int py]) (rest := [.int r11]) ⟨hx, hb, hml, hown, hts⟩ (n_X3_xOf l D cy a_g g_wide g_high g_drown g_wind g_hedges g_fountains g_people g_tellings g_reports a_g_kinds a_g_squares a_g_voices a_g_tellers a_g_listeners a_g_witnesses a_g_claims py _ ) (cwV 1 hts gX3_isClear_X3_xOf rfl rfl rfl (by decide +kernel) ⟨Nat.le_of_ble_eq_true rfl, Nat.le_of_ble_eq_true rfl⟩) (pV (ci := 3) (k := 0) hKA (hP.sub (ws' := [(a_g, .inr (3, [.int g_wide, .int g_high, .int g_drown, .int g_wind, .long g_hedges, .long g_fountains, .int g_people, .int g_tellings, .int g_reports, .ref a_g_kinds, .ref a_g_squares, .ref a_g_voices, .ref a_g_tellers, .ref a_g_listeners, .ref a_g_witnesses, .ref a_g_claims]))]) [0] rfl) (hD.sub (ws' := [(a_g, .inr (3, [.int g_wide, .int g_high, .int g_drown, .int g_wind, .long g_hedges, .long g_fountains, .int g_people, .int g_tellings, .int g_reports, .ref a_g_kinds, .ref a_g_squares, .ref a_g_voices, .ref a_g_tellers, .ref a_g_listeners, .ref a_g_witnesses, .ref a_g_claims]))]) [0] (by decide) rfl) rfl rfl) rfl rfl hl.1 rfl (lv_room (Nat.le_of_ble_eq_true rfl)) dX3_isClear_58 ⟨Nat.le_of_ble_eq_true rfl, Nat.le_of_ble_eq_true rfl⟩) hP hS hA (fun r12 H locs hwr12 hP hS => ?_)
        have hwr12 : r12.toInt < 2147483647 := hwr12
        refine va_mmin hx hb (by rw [hml]; exact hl.1.symm) hown z4_ z5_ z2_ z6_ (Nat.le_of_ble_eq_true rfl) (Nat.le_of_ble_eq_true rfl) (Nat.zero_le _) (Nat.zero_le _) dX3_isClear_61 ?_
        refine lv_topi (fun x13 ex13 => ?_)
        refine lv_istore (lv' := [(6, .int x13), (5, .int v5_44), (4, .int x6), (3, .int x3), (0, .ref a_g), (1, .int px), (2, .int py)]) hx hb dX3_isClear_64 hl (by decide) rfl (fun ls hl => ?_)
        have lp66 : ∀ (n66 : Nat) (v6_66 : Int32), (2147483647 - (v6_66).toInt).toNat < n66 → ∀ (H : Heap) (locs : List Loc), va_P D vwCl [(a_g, .inr (3, [.int g_wide, .int g_high, .int g_drown, .int g_wind, .long g_hedges, .long g_fountains, .int g_people, .int g_tellings, .int g_reports, .ref a_g_kinds, .ref a_g_squares, .ref a_g_voices, .ref a_g_tellers, .ref a_g_listeners, .ref a_g_witnesses, .ref a_g_claims]))] H → va_D (fun _ => True) [(a_g, .inr (3, [.int g_wide, .int g_high, .int g_drown, .int g_wind, .long g_hedges, .long g_fountains, .int g_people, .int g_tellings, .int g_reports, .ref a_g_kinds, .ref a_g_squares, .ref a_g_voices, .ref a_g_tellers, .ref a_g_listeners, .ref a_g_witnesses, .ref a_g_claims]))] → va_S A s.heap H locs → ∀ ls : Array Slot, lv_has ls 8 [(6, .int v6_66), (5, .int v5_44), (4, .int x6), (3, .int x3), (0, .ref a_g), (1, .int px), (2, .int py)] → W p l e (headSpec wsX3_isClear ({ frames := 2, cells := 0, slots := 0, locals := 49 })).room s m [.ref a_g, .int px, .int py].toArray below meth c H locs 0 0 QF (F0 m 66 ls []) := by
          intro n66
          induction n66 with
          | zero => intro v6_66 hm; exact absurd hm (Nat.not_lt_zero _)
          | succ n66 ih66 =>
            intro v6_66 hm66 H locs hP hD hS ls hl
            refine lv_iload hx hb dX3_isClear_66 (lv_at hl 0 rfl) ?_
            refine lv_iload_n hx hb dX3_isClear_68 rfl (lv_at hl 3 rfl) ?_
            refine lv_icmp_gt (tgt := 127) hx hb dX3_isClear_69 (by decide) (fun c14 => ?_) (fun c14 => ?_)
            · skip
              obtain ⟨x15, ex15⟩ : ∃ y : Int32, y = v5_44 + 1 := ⟨_, rfl⟩
              refine lv_iinc (v := x15) (lv' := [(5, .int x15), (6, .int v6_66), (4, .int x6), (3, .int x3), (0, .ref a_g), (1, .int px), (2, .int py)]) hx hb dX3_isClear_127 hl (k := 1) rfl (by rw [ex15]; rfl) (by decide) rfl (fun ls hl => ?_)
              refine lv_goto (tgt := 44) hx hb dX3_isClear_130 (by decide) ?_
              exact ih44 x15 (z_up (by assumption) hmy hm44 ex15) _ _ hP hD hS ls (lv_sub hl [0, 2, 3, 4, 5, 6] rfl)
            · skip
              refine lv_iload hx hb dX3_isClear_72 (lv_at hl 1 rfl) ?_
              refine lv_aload_n hx hb dX3_isClear_74 rfl (lv_at hl 4 rfl) ?_
              refine va_get (D := D) (ci := 3) (v := .int g_wide) (C := RX3) (T := TX3) (N := 16) hx hb hts zi3_ hown hK hP 0 rfl rfl 0 (by decide) z7_ (fun _ h9 => h9) rfl dX3_isClear_75 ?_
              refine lv_imul hx hb dX3_isClear_78 ?_
              refine lv_iload hx hb dX3_isClear_79 (lv_at hl 0 rfl) ?_
              refine lv_iadd hx hb dX3_isClear_81 ?_
              refine lv_topi (fun x16 ex16 => ?_)
              refine lv_istore (lv' := [(7, .int x16), (6, .int v6_66), (5, .int v5_44), (4, .int x6), (3, .int x3), (0, .ref a_g), (1, .int px), (2, .int py)]) hx hb dX3_isClear_82 hl (by decide) rfl (fun ls hl => ?_)
              refine lv_iload hx hb dX3_isClear_84 (lv_at hl 0 rfl) ?_
              refine lv_iload_n hx hb dX3_isClear_86 rfl (lv_at hl 6 rfl) ?_
              refine lv_icmp_eq (tgt := 121) hx hb dX3_isClear_87 (by decide) (fun c17 => ?_) (fun c17 => ?_)
              · skip
                obtain ⟨x18, ex18⟩ : ∃ y : Int32, y = v6_66 + 1 := ⟨_, rfl⟩
                refine lv_iinc (v := x18) (lv' := [(6, .int x18), (7, .int x16), (5, .int v5_44), (4, .int x6), (3, .int x3), (0, .ref a_g), (1, .int px), (2, .int py)]) hx hb dX3_isClear_121 hl (k := 1) rfl (by rw [ex18]; rfl) (by decide) rfl (fun ls hl => ?_)
                refine lv_goto (tgt := 66) hx hb dX3_isClear_124 (by decide) ?_
                exact ih66 x18 (z_up (by assumption) hmx hm66 ex18) _ _ hP hD hS ls (lv_sub hl [0, 2, 3, 4, 5, 6, 7] rfl)
              · skip
                refine lv_iload hx hb dX3_isClear_90 (lv_at hl 0 rfl) ?_
                refine lv_iload_n hx hb dX3_isClear_92 rfl (lv_at hl 7 rfl) ?_
                refine lv_icmp_eq (tgt := 121) hx hb dX3_isClear_93 (by decide) (fun c19 => ?_) (fun c19 => ?_)
                · skip
                  obtain ⟨x20, ex20⟩ : ∃ y : Int32, y = v6_66 + 1 := ⟨_, rfl⟩
                  refine lv_iinc (v := x20) (lv' := [(6, .int x20), (7, .int x16), (5, .int v5_44), (4, .int x6), (3, .int x3), (0, .ref a_g), (1, .int px), (2, .int py)]) hx hb dX3_isClear_121 hl (k := 1) rfl (by rw [ex20]; rfl) (by decide) rfl (fun ls hl => ?_)
                  refine lv_goto (tgt := 66) hx hb dX3_isClear_124 (by decide) ?_
                  exact ih66 x20 (z_up (by assumption) hmx hm66 ex20) _ _ hP hD hS ls (lv_sub hl [0, 2, 3, 4, 5, 6, 7] rfl)
                · skip
                  refine lv_aload_n hx hb dX3_isClear_96 rfl (lv_at hl 5 rfl) ?_
                  refine lv_iconst (v := 0) hx hb dX3_isClear_97 (by decide) ?_
                  refine lv_iload hx hb dX3_isClear_98 (lv_at hl 0 rfl) ?_
                  refine rd_i (va_runV (As := [.int 0, .int x16]) (rest := []) ⟨hx, hb, hml, hown, hts⟩ (n_X3_has l D cy a_g g_wide g_high g_drown g_wind g_hedges g_fountains g_people g_tellings g_reports a_g_kinds a_g_squares a_g_voices a_g_tellers a_g_listeners a_g_witnesses a_g_claims (0) x16 _ ) (cwV 2 hts gX3_isClear_X3_has rfl rfl rfl (by decide +kernel) ⟨Nat.le_of_ble_eq_true rfl, Nat.le_of_ble_eq_true rfl⟩) (pV (ci := 3) (k := 0) hKA (hP.sub (ws' := [(a_g, .inr (3, [.int g_wide, .int g_high, .int g_drown, .int g_wind, .long g_hedges, .long g_fountains, .int g_people, .int g_tellings, .int g_reports, .ref a_g_kinds, .ref a_g_squares, .ref a_g_voices, .ref a_g_tellers, .ref a_g_listeners, .ref a_g_witnesses, .ref a_g_claims]))]) [0] rfl) (hD.sub (ws' := [(a_g, .inr (3, [.int g_wide, .int g_high, .int g_drown, .int g_wind, .long g_hedges, .long g_fountains, .int g_people, .int g_tellings, .int g_reports, .ref a_g_kinds, .ref a_g_squares, .ref a_g_voices, .ref a_g_tellers, .ref a_g_listeners, .ref a_g_witnesses, .ref a_g_claims]))]) [0] (by decide) rfl) rfl rfl) rfl rfl hl.1 rfl (lv_room (Nat.le_of_ble_eq_true rfl)) dX3_isClear_100 ⟨Nat.le_of_ble_eq_true rfl, Nat.le_of_ble_eq_true rfl⟩) hP hS hA (fun r21 H locs hwr21 hP hS => ?_)
                  have hwr21 : (r21 = 1 ∧ True) ∨ (r21 = 0 ∧ True) := hwr21
                  refine lv_if_eq (tgt := 121) hx hb dX3_isClear_103 (by decide) (fun c22 => ?_) (fun c22 => ?_)
                  · skip
                    obtain ⟨x23, ex23⟩ : ∃ y : Int32, y = v6_66 + 1 := ⟨_, rfl⟩
                    refine lv_iinc (v := x23) (lv' := [(6, .int x23), (7, .int x16), (5, .int v5_44), (4, .int x6), (3, .int x3), (0, .ref a_g), (1, .int px), (2, .int py)]) hx hb dX3_isClear_121 hl (k := 1) rfl (by rw [ex23]; rfl) (by decide) rfl (fun ls hl => ?_)
                    refine lv_goto (tgt := 66) hx hb dX3_isClear_124 (by decide) ?_
                    exact ih66 x23 (z_up (by assumption) hmx hm66 ex23) _ _ hP hD hS ls (lv_sub hl [0, 2, 3, 4, 5, 6, 7] rfl)
                  · skip
                    refine lv_aload_n hx hb dX3_isClear_106 rfl (lv_at hl 5 rfl) ?_
                    refine lv_iload_n hx hb dX3_isClear_107 rfl (lv_at hl 6 rfl) ?_
                    refine lv_iload_n hx hb dX3_isClear_108 rfl (lv_at hl 7 rfl) ?_
                    refine lv_iload hx hb dX3_isClear_109 (lv_at hl 1 rfl) ?_
                    refine lv_iload hx hb dX3_isClear_111 (lv_at hl 2 rfl) ?_
                    refine rd_i (va_runV (As := [.int px, .int py, .int v6_66, .int v5_44]) (rest := []) ⟨hx, hb, hml, hown, hts⟩ (n_X3_isCut l D cy a_g g_wide g_high g_drown g_wind g_hedges g_fountains g_people g_tellings g_reports a_g_kinds a_g_squares a_g_voices a_g_tellers a_g_listeners a_g_witnesses a_g_claims px py v6_66 v5_44 _ ) (cwV 4 hts gX3_isClear_X3_isCut rfl rfl rfl (by decide +kernel) ⟨Nat.le_of_ble_eq_true rfl, Nat.le_of_ble_eq_true rfl⟩) (pV (ci := 3) (k := 0) hKA (hP.sub (ws' := [(a_g, .inr (3, [.int g_wide, .int g_high, .int g_drown, .int g_wind, .long g_hedges, .long g_fountains, .int g_people, .int g_tellings, .int g_reports, .ref a_g_kinds, .ref a_g_squares, .ref a_g_voices, .ref a_g_tellers, .ref a_g_listeners, .ref a_g_witnesses, .ref a_g_claims]))]) [0] rfl) (hD.sub (ws' := [(a_g, .inr (3, [.int g_wide, .int g_high, .int g_drown, .int g_wind, .long g_hedges, .long g_fountains, .int g_people, .int g_tellings, .int g_reports, .ref a_g_kinds, .ref a_g_squares, .ref a_g_voices, .ref a_g_tellers, .ref a_g_listeners, .ref a_g_witnesses, .ref a_g_claims]))]) [0] (by decide) rfl) rfl rfl) rfl rfl hl.1 rfl (lv_room (Nat.le_of_ble_eq_true rfl)) dX3_isClear_113 ⟨Nat.le_of_ble_eq_true rfl, Nat.le_of_ble_eq_true rfl⟩) hP hS hA (fun r24 H locs hwr24 hP hS => ?_)
                    have hwr24 : (r24 = 1 ∧ True) ∨ (r24 = 0 ∧ True) := hwr24
                    refine lv_if_eq (tgt := 121) hx hb dX3_isClear_116 (by decide) (fun c25 => ?_) (fun c25 => ?_)
                    · skip
                      obtain ⟨x26, ex26⟩ : ∃ y : Int32, y = v6_66 + 1 := ⟨_, rfl⟩
                      refine lv_iinc (v := x26) (lv' := [(6, .int x26), (7, .int x16), (5, .int v5_44), (4, .int x6), (3, .int x3), (0, .ref a_g), (1, .int px), (2, .int py)]) hx hb dX3_isClear_121 hl (k := 1) rfl (by rw [ex26]; rfl) (by decide) rfl (fun ls hl => ?_)
                      refine lv_goto (tgt := 66) hx hb dX3_isClear_124 (by decide) ?_
                      exact ih66 x26 (z_up (by assumption) hmx hm66 ex26) _ _ hP hD hS ls (lv_sub hl [0, 2, 3, 4, 5, 6, 7] rfl)
                    · skip
                      refine lv_iconst (v := 0) hx hb dX3_isClear_119 (by decide) ?_
                      subst hQF
                      exact W.zret (v := 0) hx hb hr rfl (fun t ht hW => ⟨⟨0, (), rfl, (Or.inr ⟨rfl, trivial⟩), trivial⟩, hS.F ht⟩) hS.2.2 dX3_isClear_120
        exact lp66 ((2147483647 - (x13).toInt).toNat + 1) x13 (Nat.lt_succ_self _) _ _ hP hD hS ls hl
  exact lp44 ((2147483647 - (x9).toInt).toNat + 1) x9 (Nat.lt_succ_self _) _ _ hP hD hS ls hl

set_option maxHeartbeats 4000000 in
set_option maxRecDepth 100000 in
theorem n_X3_drownedSquares (l : Launch) (D : va_G) (cy : Nat → ClassId) (a_g : Nat) (g_wide : Int32) (g_high : Int32) (g_drown : Int32) (g_wind : Int32) (g_hedges : Int64) (g_fountains : Int64) (g_people : Int32) (g_tellings : Int32) (g_reports : Int32) (a_g_kinds : Nat) (a_g_squares : Nat) (a_g_voices : Nat) (a_g_tellers : Nat) (a_g_listeners : Nat) (a_g_witnesses : Nat) (a_g_claims : Nat) (sz : Nat)  : Met l yX3_drownedSquares wsX3_drownedSquares ({ frames := 2, cells := 0, slots := 0, locals := 44 }) (va_Pc [.ref a_g] (kPre D cy [(a_g, .inr (3, [.int g_wide, .int g_high, .int g_drown, .int g_wind, .long g_hedges, .long g_fountains, .int g_people, .int g_tellings, .int g_reports, .ref a_g_kinds, .ref a_g_squares, .ref a_g_voices, .ref a_g_tellers, .ref a_g_listeners, .ref a_g_witnesses, .ref a_g_claims]))] sz)) (va_Ql (fun (r : Int64) (u : Unit) => True) (fun _ _ => True) (fun q : Nat => sz ≤ q)) 0 0 (fun q : Nat => sz ≤ q) := by
  refine Met.ofW (cc := cX3_drownedSquares) (maxL := 5) (ret := (some .long)) (by decide) rfl ?_
  intro p e s m args below meth c s₁ B hml hv
  obtain ⟨rfl, hsz, hP, hKA, hD0⟩ := hv
  have hx := B.exec
  have hb := B.bytes
  have hr := B.returns
  have hts := atoms_spec (ws := wsX3_drownedSquares) B.pre
  have hown : s.vm.findClass RX3 = some m.cls := findClass_of_methodNamed B.named
  have hlocks := B.notSynchronized
  subst hsz
  have hK := hKA.1
  have hD := hD0
  generalize hAe : (fun q : Nat => s.heap.size ≤ q) = A
  have hA : ∀ q : Nat, s.heap.size ≤ q → A q := fun q h => by rw [← hAe]; exact h
  have hS : va_S A s.heap s.heap [] := va_S.rf
  have hP : va_P D vwCl [(a_g, .inr (3, [.int g_wide, .int g_high, .int g_drown, .int g_wind, .long g_hedges, .long g_fountains, .int g_people, .int g_tellings, .int g_reports, .ref a_g_kinds, .ref a_g_squares, .ref a_g_voices, .ref a_g_tellers, .ref a_g_listeners, .ref a_g_witnesses, .ref a_g_claims]))] s.heap := hP
  have hl := lv_entry ([.ref a_g]) (n := 5) (Nat.le_of_ble_eq_true rfl)
  rw [lg_entry_eq]
  generalize (lg_sl ([.ref a_g]) ++ List.replicate (5 - (lg_sl ([.ref a_g])).length) Slot.unset).toArray = ls at hl ⊢
  have hl : lv_has ls 5 [(0, .ref a_g)] := hl
  refine qW (fun QF hQF => ?_)
  have z0_ := hts (.fieldLink RX3 40 "HeardSeen$Garden" "drown" "I") (by decide +kernel)
  have zi3_ : ∀ w ∈ u_ws RX3 TX3 16, w ∈ wsX3_drownedSquares := by decide +kernel
  refine lv_lconst (v := 0) hx hb dX3_drownedSquares_0 (by decide) ?_
  refine lv_lstore_n (lv' := [(1, .long 0), (0, .ref a_g)]) hx hb dX3_drownedSquares_1 rfl hl (by decide) rfl (fun ls hl => ?_)
  refine lv_iconst (v := 0) hx hb dX3_drownedSquares_2 (by decide) ?_
  refine lv_istore_n (lv' := [(3, .int 0), (1, .long 0), (0, .ref a_g)]) hx hb dX3_drownedSquares_3 rfl hl (by decide) rfl (fun ls hl => ?_)
  have lp4 : ∀ (n4 : Nat) (v3_4 : Nat) (v1_4 : Int64) (hv3_4 : v3_4 < 2147483648), 2147483648 - v3_4 < n4 → ∀ (H : Heap) (locs : List Loc), va_P D vwCl [(a_g, .inr (3, [.int g_wide, .int g_high, .int g_drown, .int g_wind, .long g_hedges, .long g_fountains, .int g_people, .int g_tellings, .int g_reports, .ref a_g_kinds, .ref a_g_squares, .ref a_g_voices, .ref a_g_tellers, .ref a_g_listeners, .ref a_g_witnesses, .ref a_g_claims]))] H → va_D (fun _ => True) [(a_g, .inr (3, [.int g_wide, .int g_high, .int g_drown, .int g_wind, .long g_hedges, .long g_fountains, .int g_people, .int g_tellings, .int g_reports, .ref a_g_kinds, .ref a_g_squares, .ref a_g_voices, .ref a_g_tellers, .ref a_g_listeners, .ref a_g_witnesses, .ref a_g_claims]))] → va_S A s.heap H locs → ∀ ls : Array Slot, lv_has ls 5 [(3, .int (nI v3_4)), (1, .long v1_4), (0, .ref a_g)] → W p l e (headSpec wsX3_drownedSquares ({ frames := 2, cells := 0, slots := 0, locals := 44 })).room s m [.ref a_g].toArray below meth c H locs 0 0 QF (F0 m 4 ls []) := by
    intro n4
    induction n4 with
    | zero => intro v3_4 v1_4 hv3_4 hm; exact absurd hm (Nat.not_lt_zero _)
    | succ n4 ih4 =>
      intro v3_4 v1_4 hv3_4 hm4 H locs hP hD hS ls hl
      refine lv_iload_n hx hb dX3_drownedSquares_4 rfl (lv_at hl 0 rfl) ?_
      refine lv_aload_n hx hb dX3_drownedSquares_5 rfl (lv_at hl 2 rfl) ?_
      refine rd_i (va_runV (As := []) (rest := [.int (nI v3_4)]) ⟨hx, hb, hml, hown, hts⟩ (n_X3_squareCount l D cy a_g g_wide g_high g_drown g_wind g_hedges g_fountains g_people g_tellings g_reports a_g_kinds a_g_squares a_g_voices a_g_tellers a_g_listeners a_g_witnesses a_g_claims _ ) (cwV 0 hts gX3_drownedSquares_X3_squareCount rfl rfl rfl (by decide +kernel) ⟨Nat.le_of_ble_eq_true rfl, Nat.le_of_ble_eq_true rfl⟩) (pV (ci := 3) (k := 0) hKA (hP.sub (ws' := [(a_g, .inr (3, [.int g_wide, .int g_high, .int g_drown, .int g_wind, .long g_hedges, .long g_fountains, .int g_people, .int g_tellings, .int g_reports, .ref a_g_kinds, .ref a_g_squares, .ref a_g_voices, .ref a_g_tellers, .ref a_g_listeners, .ref a_g_witnesses, .ref a_g_claims]))]) [0] rfl) (hD.sub (ws' := [(a_g, .inr (3, [.int g_wide, .int g_high, .int g_drown, .int g_wind, .long g_hedges, .long g_fountains, .int g_people, .int g_tellings, .int g_reports, .ref a_g_kinds, .ref a_g_squares, .ref a_g_voices, .ref a_g_tellers, .ref a_g_listeners, .ref a_g_witnesses, .ref a_g_claims]))]) [0] (by decide) rfl) rfl rfl) rfl rfl hl.1 rfl (lv_room (Nat.le_of_ble_eq_true rfl)) dX3_drownedSquares_6 ⟨Nat.le_of_ble_eq_true rfl, Nat.le_of_ble_eq_true rfl⟩) hP hS hA (fun r1 H locs hwr1 hP hS => ?_)
      have hwr1 : r1 = g_wide * g_high := hwr1
      subst hwr1
      refine lv_icmp_ge (tgt := 66) hx hb dX3_drownedSquares_9 (by decide) (fun c2 => ?_) (fun c2 => ?_)
      · skip
        refine lv_lload_n hx hb dX3_drownedSquares_66 rfl (lv_at hl 1 rfl) ?_
        subst hQF
        exact W.lret (v := v1_4) hx hb hr (fun t ht hW => ⟨⟨v1_4, (), rfl, trivial, trivial⟩, hS.F ht⟩) hS.2.2 dX3_drownedSquares_67
      · skip
        refine lv_iconst (v := 0) hx hb dX3_drownedSquares_12 (by decide) ?_
        refine lv_istore (lv' := [(4, .int 0), (3, .int (nI v3_4)), (1, .long v1_4), (0, .ref a_g)]) hx hb dX3_drownedSquares_13 hl (by decide) rfl (fun ls hl => ?_)
        have lp15 : ∀ (n15 : Nat) (v4_15 : Nat) (v1_15 : Int64) (hv4_15 : v4_15 < 2147483648), 2147483648 - v4_15 < n15 → ∀ (H : Heap) (locs : List Loc), va_P D vwCl [(a_g, .inr (3, [.int g_wide, .int g_high, .int g_drown, .int g_wind, .long g_hedges, .long g_fountains, .int g_people, .int g_tellings, .int g_reports, .ref a_g_kinds, .ref a_g_squares, .ref a_g_voices, .ref a_g_tellers, .ref a_g_listeners, .ref a_g_witnesses, .ref a_g_claims]))] H → va_D (fun _ => True) [(a_g, .inr (3, [.int g_wide, .int g_high, .int g_drown, .int g_wind, .long g_hedges, .long g_fountains, .int g_people, .int g_tellings, .int g_reports, .ref a_g_kinds, .ref a_g_squares, .ref a_g_voices, .ref a_g_tellers, .ref a_g_listeners, .ref a_g_witnesses, .ref a_g_claims]))] → va_S A s.heap H locs → ∀ ls : Array Slot, lv_has ls 5 [(4, .int (nI v4_15)), (3, .int (nI v3_4)), (1, .long v1_15), (0, .ref a_g)] → W p l e (headSpec wsX3_drownedSquares ({ frames := 2, cells := 0, slots := 0, locals := 44 })).room s m [.ref a_g].toArray below meth c H locs 0 0 QF (F0 m 15 ls []) := by
          intro n15
          induction n15 with
          | zero => intro v4_15 v1_15 hv4_15 hm; exact absurd hm (Nat.not_lt_zero _)
          | succ n15 ih15 =>
            intro v4_15 v1_15 hv4_15 hm15 H locs hP hD hS ls hl
            refine lv_iload hx hb dX3_drownedSquares_15 (lv_at hl 0 rfl) ?_
            refine lv_aload_n hx hb dX3_drownedSquares_17 rfl (lv_at hl 3 rfl) ?_
            refine rd_i (va_runV (As := []) (rest := [.int (nI v4_15)]) ⟨hx, hb, hml, hown, hts⟩ (n_X3_squareCount l D cy a_g g_wide g_high g_drown g_wind g_hedges g_fountains g_people g_tellings g_reports a_g_kinds a_g_squares a_g_voices a_g_tellers a_g_listeners a_g_witnesses a_g_claims _ ) (cwV 0 hts gX3_drownedSquares_X3_squareCount rfl rfl rfl (by decide +kernel) ⟨Nat.le_of_ble_eq_true rfl, Nat.le_of_ble_eq_true rfl⟩) (pV (ci := 3) (k := 0) hKA (hP.sub (ws' := [(a_g, .inr (3, [.int g_wide, .int g_high, .int g_drown, .int g_wind, .long g_hedges, .long g_fountains, .int g_people, .int g_tellings, .int g_reports, .ref a_g_kinds, .ref a_g_squares, .ref a_g_voices, .ref a_g_tellers, .ref a_g_listeners, .ref a_g_witnesses, .ref a_g_claims]))]) [0] rfl) (hD.sub (ws' := [(a_g, .inr (3, [.int g_wide, .int g_high, .int g_drown, .int g_wind, .long g_hedges, .long g_fountains, .int g_people, .int g_tellings, .int g_reports, .ref a_g_kinds, .ref a_g_squares, .ref a_g_voices, .ref a_g_tellers, .ref a_g_listeners, .ref a_g_witnesses, .ref a_g_claims]))]) [0] (by decide) rfl) rfl rfl) rfl rfl hl.1 rfl (lv_room (Nat.le_of_ble_eq_true rfl)) dX3_drownedSquares_18 ⟨Nat.le_of_ble_eq_true rfl, Nat.le_of_ble_eq_true rfl⟩) hP hS hA (fun r3 H locs hwr3 hP hS => ?_)
            have hwr3 : r3 = g_wide * g_high := hwr3
            subst hwr3
            refine lv_icmp_ge (tgt := 60) hx hb dX3_drownedSquares_21 (by decide) (fun c4 => ?_) (fun c4 => ?_)
            · skip
              refine lv_iinc (v := nI (v3_4 + 1)) (lv' := [(3, .int (nI (v3_4 + 1))), (4, .int (nI v4_15)), (1, .long v1_15), (0, .ref a_g)]) hx hb dX3_drownedSquares_60 hl (k := 1) rfl (nI_1 _) (by decide) rfl (fun ls hl => ?_)
              refine lv_goto (tgt := 4) hx hb dX3_drownedSquares_63 (by decide) ?_
              exact ih4 (v3_4 + 1) v1_15 (by first | omega | exact nlt_max hv3_4 (by assumption)) (by first | omega | (have := nlt_max hv3_4 (by assumption); omega)) _ _ hP hD hS ls (lv_sub hl [0, 2, 3] rfl)
            · skip
              refine lv_aload_n hx hb dX3_drownedSquares_24 rfl (lv_at hl 3 rfl) ?_
              refine lv_iconst (v := 1) hx hb dX3_drownedSquares_25 (by decide) ?_
              refine lv_iload_n hx hb dX3_drownedSquares_26 rfl (lv_at hl 1 rfl) ?_
              refine rd_i (va_runV (As := [.int 1, .int (nI v3_4)]) (rest := []) ⟨hx, hb, hml, hown, hts⟩ (n_X3_has l D cy a_g g_wide g_high g_drown g_wind g_hedges g_fountains g_people g_tellings g_reports a_g_kinds a_g_squares a_g_voices a_g_tellers a_g_listeners a_g_witnesses a_g_claims (1) (nI v3_4) _ ) (cwV 2 hts gX3_drownedSquares_X3_has rfl rfl rfl (by decide +kernel) ⟨Nat.le_of_ble_eq_true rfl, Nat.le_of_ble_eq_true rfl⟩) (pV (ci := 3) (k := 0) hKA (hP.sub (ws' := [(a_g, .inr (3, [.int g_wide, .int g_high, .int g_drown, .int g_wind, .long g_hedges, .long g_fountains, .int g_people, .int g_tellings, .int g_reports, .ref a_g_kinds, .ref a_g_squares, .ref a_g_voices, .ref a_g_tellers, .ref a_g_listeners, .ref a_g_witnesses, .ref a_g_claims]))]) [0] rfl) (hD.sub (ws' := [(a_g, .inr (3, [.int g_wide, .int g_high, .int g_drown, .int g_wind, .long g_hedges, .long g_fountains, .int g_people, .int g_tellings, .int g_reports, .ref a_g_kinds, .ref a_g_squares, .ref a_g_voices, .ref a_g_tellers, .ref a_g_listeners, .ref a_g_witnesses, .ref a_g_claims]))]) [0] (by decide) rfl) rfl rfl) rfl rfl hl.1 rfl (lv_room (Nat.le_of_ble_eq_true rfl)) dX3_drownedSquares_27 ⟨Nat.le_of_ble_eq_true rfl, Nat.le_of_ble_eq_true rfl⟩) hP hS hA (fun r5 H locs hwr5 hP hS => ?_)
              have hwr5 : (r5 = 1 ∧ True) ∨ (r5 = 0 ∧ True) := hwr5
              refine lv_if_eq (tgt := 60) hx hb dX3_drownedSquares_30 (by decide) (fun c6 => ?_) (fun c6 => ?_)
              · skip
                refine lv_iinc (v := nI (v3_4 + 1)) (lv' := [(3, .int (nI (v3_4 + 1))), (4, .int (nI v4_15)), (1, .long v1_15), (0, .ref a_g)]) hx hb dX3_drownedSquares_60 hl (k := 1) rfl (nI_1 _) (by decide) rfl (fun ls hl => ?_)
                refine lv_goto (tgt := 4) hx hb dX3_drownedSquares_63 (by decide) ?_
                exact ih4 (v3_4 + 1) v1_15 (by first | omega | exact nlt_max hv3_4 (by assumption)) (by first | omega | (have := nlt_max hv3_4 (by assumption); omega)) _ _ hP hD hS ls (lv_sub hl [0, 2, 3] rfl)
              · skip
                refine lv_aload_n hx hb dX3_drownedSquares_33 rfl (lv_at hl 3 rfl) ?_
                refine lv_iload hx hb dX3_drownedSquares_34 (lv_at hl 0 rfl) ?_
                refine lv_iload_n hx hb dX3_drownedSquares_36 rfl (lv_at hl 1 rfl) ?_
                refine rd_i (va_runV (As := [.int (nI v4_15), .int (nI v3_4)]) (rest := []) ⟨hx, hb, hml, hown, hts⟩ (n_X3_yardsOf l D cy a_g g_wide g_high g_drown g_wind g_hedges g_fountains g_people g_tellings g_reports a_g_kinds a_g_squares a_g_voices a_g_tellers a_g_listeners a_g_witnesses a_g_claims (nI v4_15) (nI v3_4) _ ) (cwV 2 hts gX3_drownedSquares_X3_yardsOf rfl rfl rfl (by decide +kernel) ⟨Nat.le_of_ble_eq_true rfl, Nat.le_of_ble_eq_true rfl⟩) (pV (ci := 3) (k := 0) hKA (hP.sub (ws' := [(a_g, .inr (3, [.int g_wide, .int g_high, .int g_drown, .int g_wind, .long g_hedges, .long g_fountains, .int g_people, .int g_tellings, .int g_reports, .ref a_g_kinds, .ref a_g_squares, .ref a_g_voices, .ref a_g_tellers, .ref a_g_listeners, .ref a_g_witnesses, .ref a_g_claims]))]) [0] rfl) (hD.sub (ws' := [(a_g, .inr (3, [.int g_wide, .int g_high, .int g_drown, .int g_wind, .long g_hedges, .long g_fountains, .int g_people, .int g_tellings, .int g_reports, .ref a_g_kinds, .ref a_g_squares, .ref a_g_voices, .ref a_g_tellers, .ref a_g_listeners, .ref a_g_witnesses, .ref a_g_claims]))]) [0] (by decide) rfl) rfl rfl) rfl rfl hl.1 rfl (lv_room (Nat.le_of_ble_eq_true rfl)) dX3_drownedSquares_37 ⟨Nat.le_of_ble_eq_true rfl, Nat.le_of_ble_eq_true rfl⟩) hP hS hA (fun r7 H locs hwr7 hP hS => ?_)
                refine lv_aload_n hx hb dX3_drownedSquares_40 rfl (lv_at hl 3 rfl) ?_
                refine va_get (D := D) (ci := 3) (v := .int g_drown) (C := RX3) (T := TX3) (N := 16) hx hb hts zi3_ hown hK hP 0 rfl rfl 2 (by decide) z0_ (fun _ h9 => h9) rfl dX3_drownedSquares_41 ?_
                refine lv_icmp_gt (tgt := 54) hx hb dX3_drownedSquares_44 (by decide) (fun c8 => ?_) (fun c8 => ?_)
                · skip
                  refine lv_iinc (v := nI (v4_15 + 1)) (lv' := [(4, .int (nI (v4_15 + 1))), (3, .int (nI v3_4)), (1, .long v1_15), (0, .ref a_g)]) hx hb dX3_drownedSquares_54 hl (k := 0) rfl (nI_1 _) (by decide) rfl (fun ls hl => ?_)
                  refine lv_goto (tgt := 15) hx hb dX3_drownedSquares_57 (by decide) ?_
                  exact ih15 (v4_15 + 1) v1_15 (by first | omega | exact nlt_max hv4_15 (by assumption)) (by first | omega | (have := nlt_max hv4_15 (by assumption); omega)) _ _ hP hD hS ls hl
                · skip
                  refine lv_lload_n hx hb dX3_drownedSquares_47 rfl (lv_at hl 2 rfl) ?_
                  refine lv_lconst (v := 1) hx hb dX3_drownedSquares_48 (by decide) ?_
                  refine lv_iload hx hb dX3_drownedSquares_49 (lv_at hl 0 rfl) ?_
                  refine lv_lshl hx hb dX3_drownedSquares_51 rfl ?_
                  refine lv_lor hx hb dX3_drownedSquares_52 ?_
                  refine lv_topl (fun x9 ex9 => ?_)
                  refine lv_lstore_n (lv' := [(1, .long x9), (4, .int (nI v4_15)), (3, .int (nI v3_4)), (0, .ref a_g)]) hx hb dX3_drownedSquares_53 rfl hl (by decide) rfl (fun ls hl => ?_)
                  refine lv_iinc (v := nI (v4_15 + 1)) (lv' := [(4, .int (nI (v4_15 + 1))), (1, .long x9), (3, .int (nI v3_4)), (0, .ref a_g)]) hx hb dX3_drownedSquares_54 hl (k := 1) rfl (nI_1 _) (by decide) rfl (fun ls hl => ?_)
                  refine lv_goto (tgt := 15) hx hb dX3_drownedSquares_57 (by decide) ?_
                  exact ih15 (v4_15 + 1) x9 (by first | omega | exact nlt_max hv4_15 (by assumption)) (by first | omega | (have := nlt_max hv4_15 (by assumption); omega)) _ _ hP hD hS ls (lv_sub hl [0, 2, 1, 3] rfl)
        exact lp15 (2147483648 - 0 + 1) 0 v1_4 (by first | omega | exact nlt_max (by assumption) (by assumption)) (Nat.lt_succ_self _) _ _ hP hD hS ls hl
  exact lp4 (2147483648 - 0 + 1) 0 0 (by first | omega | exact nlt_max (by assumption) (by assumption)) (Nat.lt_succ_self _) _ _ hP hD hS ls hl

set_option maxHeartbeats 4000000 in
set_option maxRecDepth 100000 in
theorem n_X3_reaches (l : Launch) (D : va_G) (cy : Nat → ClassId) (a_g : Nat) (g_wide : Int32) (g_high : Int32) (g_drown : Int32) (g_wind : Int32) (g_hedges : Int64) (g_fountains : Int64) (g_people : Int32) (g_tellings : Int32) (g_reports : Int32) (a_g_kinds : Nat) (a_g_squares : Nat) (a_g_voices : Nat) (a_g_tellers : Nat) (a_g_listeners : Nat) (a_g_witnesses : Nat) (a_g_claims : Nat) (g_squares_f : Nat → Int32) (g_voices_f : Nat → Int32) (px : Int32) (py : Int32) (pz : Int64) (sz : Nat)  : Met l yX3_reaches wsX3_reaches ({ frames := 2, cells := 0, slots := 0, locals := 43 }) (va_Pc [.ref a_g, .int px, .int py, .long pz] (kPre D cy [(a_g, .inr (3, [.int g_wide, .int g_high, .int g_drown, .int g_wind, .long g_hedges, .long g_fountains, .int g_people, .int g_tellings, .int g_reports, .ref a_g_kinds, .ref a_g_squares, .ref a_g_voices, .ref a_g_tellers, .ref a_g_listeners, .ref a_g_witnesses, .ref a_g_claims])), (a_g_squares, .inl (cy 1, 5, .inl g_squares_f)), (a_g_voices, .inl (cy 1, 5, .inl g_voices_f))] sz)) (va_Qi (fun (r : Int32) (u : Unit) => (r = 1 ∧ True) ∨ (r = 0 ∧ True)) (fun _ _ => True) (fun q : Nat => sz ≤ q)) 0 0 (fun q : Nat => sz ≤ q) := by
  refine Met.ofW (cc := cX3_reaches) (maxL := 8) (ret := (some .boolean)) (by decide) rfl ?_
  intro p e s m args below meth c s₁ B hml hv
  obtain ⟨rfl, hsz, hP, hKA, hD0⟩ := hv
  have hx := B.exec
  have hb := B.bytes
  have hr := B.returns
  have hts := atoms_spec (ws := wsX3_reaches) B.pre
  have hown : s.vm.findClass RX3 = some m.cls := findClass_of_methodNamed B.named
  have hlocks := B.notSynchronized
  subst hsz
  have hK := hKA.1
  have hD := hD0
  generalize hAe : (fun q : Nat => s.heap.size ≤ q) = A
  have hA : ∀ q : Nat, s.heap.size ≤ q → A q := fun q h => by rw [← hAe]; exact h
  have hS : va_S A s.heap s.heap [] := va_S.rf
  have hP : va_P D vwCl [(a_g, .inr (3, [.int g_wide, .int g_high, .int g_drown, .int g_wind, .long g_hedges, .long g_fountains, .int g_people, .int g_tellings, .int g_reports, .ref a_g_kinds, .ref a_g_squares, .ref a_g_voices, .ref a_g_tellers, .ref a_g_listeners, .ref a_g_witnesses, .ref a_g_claims])), (a_g_squares, .inl (cy 1, 5, .inl g_squares_f)), (a_g_voices, .inl (cy 1, 5, .inl g_voices_f))] s.heap := hP
  have hl := lv_entry ([.ref a_g, .int px, .int py, .long pz]) (n := 8) (Nat.le_of_ble_eq_true rfl)
  rw [lg_entry_eq]
  generalize (lg_sl ([.ref a_g, .int px, .int py, .long pz]) ++ List.replicate (8 - (lg_sl ([.ref a_g, .int px, .int py, .long pz])).length) Slot.unset).toArray = ls at hl ⊢
  have hl : lv_has ls 8 [(0, .ref a_g), (1, .int px), (2, .int py), (3, .long pz)] := hl
  refine qW (fun QF hQF => ?_)
  have z0_ := hts (.initialized RX10) (by decide +kernel)
  have z1_ := hts (.static yX10_isOn) (by decide +kernel)
  have z2_ := hts (.fieldLink RX3 43 "HeardSeen$Garden" "wind" "I") (by decide +kernel)
  have zi3_ : ∀ w ∈ u_ws RX3 TX3 16, w ∈ wsX3_reaches := by decide +kernel
  refine lv_aload_n hx hb dX3_reaches_0 rfl (lv_at hl 0 rfl) ?_
  refine lv_iload_n hx hb dX3_reaches_1 rfl (lv_at hl 1 rfl) ?_
  refine rd_i (va_runV (As := [.int px]) (rest := []) ⟨hx, hb, hml, hown, hts⟩ (n_X3_squareOf l D cy a_g g_wide g_high g_drown g_wind g_hedges g_fountains g_people g_tellings g_reports a_g_kinds a_g_squares a_g_voices a_g_tellers a_g_listeners a_g_witnesses a_g_claims g_squares_f px _ ) (cwV 1 hts gX3_reaches_X3_squareOf rfl rfl rfl (by decide +kernel) ⟨Nat.le_of_ble_eq_true rfl, Nat.le_of_ble_eq_true rfl⟩) (pV (ci := 3) (k := 0) hKA (hP.sub (ws' := [(a_g, .inr (3, [.int g_wide, .int g_high, .int g_drown, .int g_wind, .long g_hedges, .long g_fountains, .int g_people, .int g_tellings, .int g_reports, .ref a_g_kinds, .ref a_g_squares, .ref a_g_voices, .ref a_g_tellers, .ref a_g_listeners, .ref a_g_witnesses, .ref a_g_claims])), (a_g_squares, .inl (cy 1, 5, .inl g_squares_f))]) [0, 1] rfl) (hD.sub (ws' := [(a_g, .inr (3, [.int g_wide, .int g_high, .int g_drown, .int g_wind, .long g_hedges, .long g_fountains, .int g_people, .int g_tellings, .int g_reports, .ref a_g_kinds, .ref a_g_squares, .ref a_g_voices, .ref a_g_tellers, .ref a_g_listeners, .ref a_g_witnesses, .ref a_g_claims])), (a_g_squares, .inl (cy 1, 5, .inl g_squares_f))]) [0, 1] (by decide) rfl) rfl rfl) rfl rfl hl.1 rfl (lv_room (Nat.le_of_ble_eq_true rfl)) dX3_reaches_2 ⟨Nat.le_of_ble_eq_true rfl, Nat.le_of_ble_eq_true rfl⟩) hP hS hA (fun r1 H locs hwr1 hP hS => ?_)
  refine lv_istore (lv' := [(5, .int r1), (0, .ref a_g), (1, .int px), (2, .int py), (3, .long pz)]) hx hb dX3_reaches_5 hl (by decide) rfl (fun ls hl => ?_)
  refine lv_aload_n hx hb dX3_reaches_7 rfl (lv_at hl 1 rfl) ?_
  refine lv_iload_n hx hb dX3_reaches_8 rfl (lv_at hl 3 rfl) ?_
  refine rd_i (va_runV (As := [.int py]) (rest := []) ⟨hx, hb, hml, hown, hts⟩ (n_X3_squareOf l D cy a_g g_wide g_high g_drown g_wind g_hedges g_fountains g_people g_tellings g_reports a_g_kinds a_g_squares a_g_voices a_g_tellers a_g_listeners a_g_witnesses a_g_claims g_squares_f py _ ) (cwV 1 hts gX3_reaches_X3_squareOf rfl rfl rfl (by decide +kernel) ⟨Nat.le_of_ble_eq_true rfl, Nat.le_of_ble_eq_true rfl⟩) (pV (ci := 3) (k := 0) hKA (hP.sub (ws' := [(a_g, .inr (3, [.int g_wide, .int g_high, .int g_drown, .int g_wind, .long g_hedges, .long g_fountains, .int g_people, .int g_tellings, .int g_reports, .ref a_g_kinds, .ref a_g_squares, .ref a_g_voices, .ref a_g_tellers, .ref a_g_listeners, .ref a_g_witnesses, .ref a_g_claims])), (a_g_squares, .inl (cy 1, 5, .inl g_squares_f))]) [0, 1] rfl) (hD.sub (ws' := [(a_g, .inr (3, [.int g_wide, .int g_high, .int g_drown, .int g_wind, .long g_hedges, .long g_fountains, .int g_people, .int g_tellings, .int g_reports, .ref a_g_kinds, .ref a_g_squares, .ref a_g_voices, .ref a_g_tellers, .ref a_g_listeners, .ref a_g_witnesses, .ref a_g_claims])), (a_g_squares, .inl (cy 1, 5, .inl g_squares_f))]) [0, 1] (by decide) rfl) rfl rfl) rfl rfl hl.1 rfl (lv_room (Nat.le_of_ble_eq_true rfl)) dX3_reaches_9 ⟨Nat.le_of_ble_eq_true rfl, Nat.le_of_ble_eq_true rfl⟩) hP hS hA (fun r2 H locs hwr2 hP hS => ?_)
  refine lv_istore (lv' := [(6, .int r2), (5, .int r1), (0, .ref a_g), (1, .int px), (2, .int py), (3, .long pz)]) hx hb dX3_reaches_12 hl (by decide) rfl (fun ls hl => ?_)
  refine lv_aload_n hx hb dX3_reaches_14 rfl (lv_at hl 2 rfl) ?_
  refine lv_iload hx hb dX3_reaches_15 (lv_at hl 1 rfl) ?_
  refine lv_iload hx hb dX3_reaches_17 (lv_at hl 0 rfl) ?_
  refine rd_i (va_runV (As := [.int r1, .int r2]) (rest := []) ⟨hx, hb, hml, hown, hts⟩ (n_X3_yardsOf l D cy a_g g_wide g_high g_drown g_wind g_hedges g_fountains g_people g_tellings g_reports a_g_kinds a_g_squares a_g_voices a_g_tellers a_g_listeners a_g_witnesses a_g_claims r1 r2 _ ) (cwV 2 hts gX3_reaches_X3_yardsOf rfl rfl rfl (by decide +kernel) ⟨Nat.le_of_ble_eq_true rfl, Nat.le_of_ble_eq_true rfl⟩) (pV (ci := 3) (k := 0) hKA (hP.sub (ws' := [(a_g, .inr (3, [.int g_wide, .int g_high, .int g_drown, .int g_wind, .long g_hedges, .long g_fountains, .int g_people, .int g_tellings, .int g_reports, .ref a_g_kinds, .ref a_g_squares, .ref a_g_voices, .ref a_g_tellers, .ref a_g_listeners, .ref a_g_witnesses, .ref a_g_claims]))]) [0] rfl) (hD.sub (ws' := [(a_g, .inr (3, [.int g_wide, .int g_high, .int g_drown, .int g_wind, .long g_hedges, .long g_fountains, .int g_people, .int g_tellings, .int g_reports, .ref a_g_kinds, .ref a_g_squares, .ref a_g_voices, .ref a_g_tellers, .ref a_g_listeners, .ref a_g_witnesses, .ref a_g_claims]))]) [0] (by decide) rfl) rfl rfl) rfl rfl hl.1 rfl (lv_room (Nat.le_of_ble_eq_true rfl)) dX3_reaches_19 ⟨Nat.le_of_ble_eq_true rfl, Nat.le_of_ble_eq_true rfl⟩) hP hS hA (fun r3 H locs hwr3 hP hS => ?_)
  refine lv_istore (lv' := [(7, .int r3), (6, .int r2), (5, .int r1), (0, .ref a_g), (1, .int px), (2, .int py), (3, .long pz)]) hx hb dX3_reaches_22 hl (by decide) rfl (fun ls hl => ?_)
  refine lv_lload_n hx hb dX3_reaches_24 rfl (lv_at hl 6 rfl) ?_
  refine lv_iload hx hb dX3_reaches_25 (lv_at hl 2 rfl) ?_
  refine rd_i (va_runSN (As := [.long pz, .int r1]) (rest := []) ⟨hx, hb, hml, hown, hts⟩ (n_X10_isOn l D cy pz r1 _ ) ⟨(va_cnB 2 hts gX3_reaches_X10_isOn_n76 rfl rfl rfl (hKA.2 (.methodLinkNest RX3 76 yX10_isOn RX10) (by decide +kernel)) z0_ (by decide +kernel) ⟨Nat.le_of_ble_eq_true rfl, Nat.le_of_ble_eq_true rfl⟩), z1_, trivial⟩ (pS hKA pE (dE (A := A))) rfl rfl hl.1 rfl (lv_room (Nat.le_of_ble_eq_true rfl)) dX3_reaches_27 ⟨Nat.le_of_ble_eq_true rfl, Nat.le_of_ble_eq_true rfl⟩) hP hS hA (fun r4 H locs hwr4 hP hS => ?_)
  have hwr4 : (r4 = 1 ∧ True) ∨ (r4 = 0 ∧ True) := hwr4
  refine lv_if_ne (tgt := 42) hx hb dX3_reaches_30 (by decide) (fun c5 => ?_) (fun c5 => ?_)
  · skip
    refine lv_iload hx hb dX3_reaches_42 (lv_at hl 0 rfl) ?_
    refine lv_iconst (v := 1) hx hb dX3_reaches_44 (by decide) ?_
    refine lv_icmp_gt (tgt := 61) hx hb dX3_reaches_45 (by decide) (fun c6 => ?_) (fun c6 => ?_)
    · skip
      refine lv_iconst (v := 0) hx hb dX3_reaches_61 (by decide) ?_
      subst hQF
      exact W.zret (v := 0) hx hb hr rfl (fun t ht hW => ⟨⟨0, (), rfl, (Or.inr ⟨rfl, trivial⟩), trivial⟩, hS.F ht⟩) hS.2.2 dX3_reaches_62
    · skip
      refine lv_aload_n hx hb dX3_reaches_48 rfl (lv_at hl 3 rfl) ?_
      refine lv_iload_n hx hb dX3_reaches_49 rfl (lv_at hl 4 rfl) ?_
      refine rd_i (va_runV (As := [.int px]) (rest := []) ⟨hx, hb, hml, hown, hts⟩ (n_X3_voiceOf l D cy a_g g_wide g_high g_drown g_wind g_hedges g_fountains g_people g_tellings g_reports a_g_kinds a_g_squares a_g_voices a_g_tellers a_g_listeners a_g_witnesses a_g_claims g_voices_f px _ ) (cwV 1 hts gX3_reaches_X3_voiceOf rfl rfl rfl (by decide +kernel) ⟨Nat.le_of_ble_eq_true rfl, Nat.le_of_ble_eq_true rfl⟩) (pV (ci := 3) (k := 0) hKA (hP.sub (ws' := [(a_g, .inr (3, [.int g_wide, .int g_high, .int g_drown, .int g_wind, .long g_hedges, .long g_fountains, .int g_people, .int g_tellings, .int g_reports, .ref a_g_kinds, .ref a_g_squares, .ref a_g_voices, .ref a_g_tellers, .ref a_g_listeners, .ref a_g_witnesses, .ref a_g_claims])), (a_g_voices, .inl (cy 1, 5, .inl g_voices_f))]) [0, 2] rfl) (hD.sub (ws' := [(a_g, .inr (3, [.int g_wide, .int g_high, .int g_drown, .int g_wind, .long g_hedges, .long g_fountains, .int g_people, .int g_tellings, .int g_reports, .ref a_g_kinds, .ref a_g_squares, .ref a_g_voices, .ref a_g_tellers, .ref a_g_listeners, .ref a_g_witnesses, .ref a_g_claims])), (a_g_voices, .inl (cy 1, 5, .inl g_voices_f))]) [0, 2] (by decide) rfl) rfl rfl) rfl rfl hl.1 rfl (lv_room (Nat.le_of_ble_eq_true rfl)) dX3_reaches_50 ⟨Nat.le_of_ble_eq_true rfl, Nat.le_of_ble_eq_true rfl⟩) hP hS hA (fun r7 H locs hwr7 hP hS => ?_)
      refine lv_iconst (v := 1) hx hb dX3_reaches_53 (by decide) ?_
      refine lv_icmp_lt (tgt := 61) hx hb dX3_reaches_54 (by decide) (fun c8 => ?_) (fun c8 => ?_)
      · skip
        refine lv_iconst (v := 0) hx hb dX3_reaches_61 (by decide) ?_
        subst hQF
        exact W.zret (v := 0) hx hb hr rfl (fun t ht hW => ⟨⟨0, (), rfl, (Or.inr ⟨rfl, trivial⟩), trivial⟩, hS.F ht⟩) hS.2.2 dX3_reaches_62
      · skip
        refine lv_iconst (v := 1) hx hb dX3_reaches_57 (by decide) ?_
        refine lv_goto (tgt := 62) hx hb dX3_reaches_58 (by decide) ?_
        subst hQF
        exact W.zret (v := 1) hx hb hr rfl (fun t ht hW => ⟨⟨1, (), rfl, (Or.inl ⟨rfl, trivial⟩), trivial⟩, hS.F ht⟩) hS.2.2 dX3_reaches_62
  · skip
    refine lv_lload_n hx hb dX3_reaches_33 rfl (lv_at hl 6 rfl) ?_
    refine lv_iload hx hb dX3_reaches_34 (lv_at hl 1 rfl) ?_
    refine rd_i (va_runSN (As := [.long pz, .int r2]) (rest := []) ⟨hx, hb, hml, hown, hts⟩ (n_X10_isOn l D cy pz r2 _ ) ⟨(va_cnB 2 hts gX3_reaches_X10_isOn_n76 rfl rfl rfl (hKA.2 (.methodLinkNest RX3 76 yX10_isOn RX10) (by decide +kernel)) z0_ (by decide +kernel) ⟨Nat.le_of_ble_eq_true rfl, Nat.le_of_ble_eq_true rfl⟩), z1_, trivial⟩ (pS hKA pE (dE (A := A))) rfl rfl hl.1 rfl (lv_room (Nat.le_of_ble_eq_true rfl)) dX3_reaches_36 ⟨Nat.le_of_ble_eq_true rfl, Nat.le_of_ble_eq_true rfl⟩) hP hS hA (fun r9 H locs hwr9 hP hS => ?_)
    have hwr9 : (r9 = 1 ∧ True) ∨ (r9 = 0 ∧ True) := hwr9
    refine lv_if_eq (tgt := 63) hx hb dX3_reaches_39 (by decide) (fun c10 => ?_) (fun c10 => ?_)
    · skip
      refine lv_iload hx hb dX3_reaches_63 (lv_at hl 0 rfl) ?_
      refine lv_aload_n hx hb dX3_reaches_65 rfl (lv_at hl 3 rfl) ?_
      refine lv_iload_n hx hb dX3_reaches_66 rfl (lv_at hl 4 rfl) ?_
      refine rd_i (va_runV (As := [.int px]) (rest := [.int r3]) ⟨hx, hb, hml, hown, hts⟩ (n_X3_voiceOf l D cy a_g g_wide g_high g_drown g_wind g_hedges g_fountains g_people g_tellings g_reports a_g_kinds a_g_squares a_g_voices a_g_tellers a_g_listeners a_g_witnesses a_g_claims g_voices_f px _ ) (cwV 1 hts gX3_reaches_X3_voiceOf rfl rfl rfl (by decide +kernel) ⟨Nat.le_of_ble_eq_true rfl, Nat.le_of_ble_eq_true rfl⟩) (pV (ci := 3) (k := 0) hKA (hP.sub (ws' := [(a_g, .inr (3, [.int g_wide, .int g_high, .int g_drown, .int g_wind, .long g_hedges, .long g_fountains, .int g_people, .int g_tellings, .int g_reports, .ref a_g_kinds, .ref a_g_squares, .ref a_g_voices, .ref a_g_tellers, .ref a_g_listeners, .ref a_g_witnesses, .ref a_g_claims])), (a_g_voices, .inl (cy 1, 5, .inl g_voices_f))]) [0, 2] rfl) (hD.sub (ws' := [(a_g, .inr (3, [.int g_wide, .int g_high, .int g_drown, .int g_wind, .long g_hedges, .long g_fountains, .int g_people, .int g_tellings, .int g_reports, .ref a_g_kinds, .ref a_g_squares, .ref a_g_voices, .ref a_g_tellers, .ref a_g_listeners, .ref a_g_witnesses, .ref a_g_claims])), (a_g_voices, .inl (cy 1, 5, .inl g_voices_f))]) [0, 2] (by decide) rfl) rfl rfl) rfl rfl hl.1 rfl (lv_room (Nat.le_of_ble_eq_true rfl)) dX3_reaches_67 ⟨Nat.le_of_ble_eq_true rfl, Nat.le_of_ble_eq_true rfl⟩) hP hS hA (fun r11 H locs hwr11 hP hS => ?_)
      refine lv_aload_n hx hb dX3_reaches_70 rfl (lv_at hl 3 rfl) ?_
      refine va_get (D := D) (ci := 3) (v := .int g_wind) (C := RX3) (T := TX3) (N := 16) hx hb hts zi3_ hown hK hP 0 rfl rfl 3 (by decide) z2_ (fun _ h9 => h9) rfl dX3_reaches_71 ?_
      refine lv_aload_n hx hb dX3_reaches_74 rfl (lv_at hl 3 rfl) ?_
      refine lv_iload hx hb dX3_reaches_75 (lv_at hl 1 rfl) ?_
      refine rd_i (va_runV (As := [.int r2]) (rest := [.int g_wind, .int r11, .int r3]) ⟨hx, hb, hml, hown, hts⟩ (n_X3_xOf l D cy a_g g_wide g_high g_drown g_wind g_hedges g_fountains g_people g_tellings g_reports a_g_kinds a_g_squares a_g_voices a_g_tellers a_g_listeners a_g_witnesses a_g_claims r2 _ ) (cwV 1 hts gX3_reaches_X3_xOf rfl rfl rfl (by decide +kernel) ⟨Nat.le_of_ble_eq_true rfl, Nat.le_of_ble_eq_true rfl⟩) (pV (ci := 3) (k := 0) hKA (hP.sub (ws' := [(a_g, .inr (3, [.int g_wide, .int g_high, .int g_drown, .int g_wind, .long g_hedges, .long g_fountains, .int g_people, .int g_tellings, .int g_reports, .ref a_g_kinds, .ref a_g_squares, .ref a_g_voices, .ref a_g_tellers, .ref a_g_listeners, .ref a_g_witnesses, .ref a_g_claims]))]) [0] rfl) (hD.sub (ws' := [(a_g, .inr (3, [.int g_wide, .int g_high, .int g_drown, .int g_wind, .long g_hedges, .long g_fountains, .int g_people, .int g_tellings, .int g_reports, .ref a_g_kinds, .ref a_g_squares, .ref a_g_voices, .ref a_g_tellers, .ref a_g_listeners, .ref a_g_witnesses, .ref a_g_claims]))]) [0] (by decide) rfl) rfl rfl) rfl rfl hl.1 rfl (lv_room (Nat.le_of_ble_eq_true rfl)) dX3_reaches_77 ⟨Nat.le_of_ble_eq_true rfl, Nat.le_of_ble_eq_true rfl⟩) hP hS hA (fun r12 H locs hwr12 hP hS => ?_)
      have hwr12 : r12.toInt < 2147483647 := hwr12
      refine lv_aload_n hx hb dX3_reaches_80 rfl (lv_at hl 3 rfl) ?_
      refine lv_iload hx hb dX3_reaches_81 (lv_at hl 2 rfl) ?_
      refine rd_i (va_runV (As := [.int r1]) (rest := [.int r12, .int g_wind, .int r11, .int r3]) ⟨hx, hb, hml, hown, hts⟩ (n_X3_xOf l D cy a_g g_wide g_high g_drown g_wind g_hedges g_fountains g_people g_tellings g_reports a_g_kinds a_g_squares a_g_voices a_g_tellers a_g_listeners a_g_witnesses a_g_claims r1 _ ) (cwV 1 hts gX3_reaches_X3_xOf rfl rfl rfl (by decide +kernel) ⟨Nat.le_of_ble_eq_true rfl, Nat.le_of_ble_eq_true rfl⟩) (pV (ci := 3) (k := 0) hKA (hP.sub (ws' := [(a_g, .inr (3, [.int g_wide, .int g_high, .int g_drown, .int g_wind, .long g_hedges, .long g_fountains, .int g_people, .int g_tellings, .int g_reports, .ref a_g_kinds, .ref a_g_squares, .ref a_g_voices, .ref a_g_tellers, .ref a_g_listeners, .ref a_g_witnesses, .ref a_g_claims]))]) [0] rfl) (hD.sub (ws' := [(a_g, .inr (3, [.int g_wide, .int g_high, .int g_drown, .int g_wind, .long g_hedges, .long g_fountains, .int g_people, .int g_tellings, .int g_reports, .ref a_g_kinds, .ref a_g_squares, .ref a_g_voices, .ref a_g_tellers, .ref a_g_listeners, .ref a_g_witnesses, .ref a_g_claims]))]) [0] (by decide) rfl) rfl rfl) rfl rfl hl.1 rfl (lv_room (Nat.le_of_ble_eq_true rfl)) dX3_reaches_83 ⟨Nat.le_of_ble_eq_true rfl, Nat.le_of_ble_eq_true rfl⟩) hP hS hA (fun r13 H locs hwr13 hP hS => ?_)
      have hwr13 : r13.toInt < 2147483647 := hwr13
      refine rd_i (va_runS (As := [.int r12, .int r13]) (rest := [.int g_wind, .int r11, .int r3]) ⟨hx, hb, hml, hown, hts⟩ (n_J6_compare_7cf53 l D cy r12 r13 _ ) (va_cwS 2 hts gX3_reaches_J6_compare_7cf53 rfl rfl rfl (by decide +kernel) ⟨Nat.le_of_ble_eq_true rfl, Nat.le_of_ble_eq_true rfl⟩) (pS hKA pE (dE (A := A))) rfl rfl hl.1 rfl (lv_room (Nat.le_of_ble_eq_true rfl)) dX3_reaches_86 ⟨Nat.le_of_ble_eq_true rfl, Nat.le_of_ble_eq_true rfl⟩) hP hS hA (fun r14 H locs hwr14 hP hS => ?_)
      refine lv_imul hx hb dX3_reaches_89 ?_
      refine lv_iadd hx hb dX3_reaches_90 ?_
      refine lv_icmp_gt (tgt := 98) hx hb dX3_reaches_91 (by decide) (fun c15 => ?_) (fun c15 => ?_)
      · skip
        refine lv_iconst (v := 0) hx hb dX3_reaches_98 (by decide) ?_
        subst hQF
        exact W.zret (v := 0) hx hb hr rfl (fun t ht hW => ⟨⟨0, (), rfl, (Or.inr ⟨rfl, trivial⟩), trivial⟩, hS.F ht⟩) hS.2.2 dX3_reaches_99
      · skip
        refine lv_iconst (v := 1) hx hb dX3_reaches_94 (by decide) ?_
        refine lv_goto (tgt := 99) hx hb dX3_reaches_95 (by decide) ?_
        subst hQF
        exact W.zret (v := 1) hx hb hr rfl (fun t ht hW => ⟨⟨1, (), rfl, (Or.inl ⟨rfl, trivial⟩), trivial⟩, hS.F ht⟩) hS.2.2 dX3_reaches_99
    · skip
      refine lv_iload hx hb dX3_reaches_42 (lv_at hl 0 rfl) ?_
      refine lv_iconst (v := 1) hx hb dX3_reaches_44 (by decide) ?_
      refine lv_icmp_gt (tgt := 61) hx hb dX3_reaches_45 (by decide) (fun c16 => ?_) (fun c16 => ?_)
      · skip
        refine lv_iconst (v := 0) hx hb dX3_reaches_61 (by decide) ?_
        subst hQF
        exact W.zret (v := 0) hx hb hr rfl (fun t ht hW => ⟨⟨0, (), rfl, (Or.inr ⟨rfl, trivial⟩), trivial⟩, hS.F ht⟩) hS.2.2 dX3_reaches_62
      · skip
        refine lv_aload_n hx hb dX3_reaches_48 rfl (lv_at hl 3 rfl) ?_
        refine lv_iload_n hx hb dX3_reaches_49 rfl (lv_at hl 4 rfl) ?_
        refine rd_i (va_runV (As := [.int px]) (rest := []) ⟨hx, hb, hml, hown, hts⟩ (n_X3_voiceOf l D cy a_g g_wide g_high g_drown g_wind g_hedges g_fountains g_people g_tellings g_reports a_g_kinds a_g_squares a_g_voices a_g_tellers a_g_listeners a_g_witnesses a_g_claims g_voices_f px _ ) (cwV 1 hts gX3_reaches_X3_voiceOf rfl rfl rfl (by decide +kernel) ⟨Nat.le_of_ble_eq_true rfl, Nat.le_of_ble_eq_true rfl⟩) (pV (ci := 3) (k := 0) hKA (hP.sub (ws' := [(a_g, .inr (3, [.int g_wide, .int g_high, .int g_drown, .int g_wind, .long g_hedges, .long g_fountains, .int g_people, .int g_tellings, .int g_reports, .ref a_g_kinds, .ref a_g_squares, .ref a_g_voices, .ref a_g_tellers, .ref a_g_listeners, .ref a_g_witnesses, .ref a_g_claims])), (a_g_voices, .inl (cy 1, 5, .inl g_voices_f))]) [0, 2] rfl) (hD.sub (ws' := [(a_g, .inr (3, [.int g_wide, .int g_high, .int g_drown, .int g_wind, .long g_hedges, .long g_fountains, .int g_people, .int g_tellings, .int g_reports, .ref a_g_kinds, .ref a_g_squares, .ref a_g_voices, .ref a_g_tellers, .ref a_g_listeners, .ref a_g_witnesses, .ref a_g_claims])), (a_g_voices, .inl (cy 1, 5, .inl g_voices_f))]) [0, 2] (by decide) rfl) rfl rfl) rfl rfl hl.1 rfl (lv_room (Nat.le_of_ble_eq_true rfl)) dX3_reaches_50 ⟨Nat.le_of_ble_eq_true rfl, Nat.le_of_ble_eq_true rfl⟩) hP hS hA (fun r17 H locs hwr17 hP hS => ?_)
        refine lv_iconst (v := 1) hx hb dX3_reaches_53 (by decide) ?_
        refine lv_icmp_lt (tgt := 61) hx hb dX3_reaches_54 (by decide) (fun c18 => ?_) (fun c18 => ?_)
        · skip
          refine lv_iconst (v := 0) hx hb dX3_reaches_61 (by decide) ?_
          subst hQF
          exact W.zret (v := 0) hx hb hr rfl (fun t ht hW => ⟨⟨0, (), rfl, (Or.inr ⟨rfl, trivial⟩), trivial⟩, hS.F ht⟩) hS.2.2 dX3_reaches_62
        · skip
          refine lv_iconst (v := 1) hx hb dX3_reaches_57 (by decide) ?_
          refine lv_goto (tgt := 62) hx hb dX3_reaches_58 (by decide) ?_
          subst hQF
          exact W.zret (v := 1) hx hb hr rfl (fun t ht hW => ⟨⟨1, (), rfl, (Or.inl ⟨rfl, trivial⟩), trivial⟩, hS.F ht⟩) hS.2.2 dX3_reaches_62

set_option maxHeartbeats 4000000 in
set_option maxRecDepth 100000 in
theorem n_X3_digestAfter (l : Launch) (D : va_G) (cy : Nat → ClassId) (a_g : Nat) (g_wide : Int32) (g_high : Int32) (g_drown : Int32) (g_wind : Int32) (g_hedges : Int64) (g_fountains : Int64) (g_people : Int32) (g_tellings : Int32) (g_reports : Int32) (a_g_kinds : Nat) (a_g_squares : Nat) (a_g_voices : Nat) (a_g_tellers : Nat) (a_g_listeners : Nat) (a_g_witnesses : Nat) (a_g_claims : Nat) (g_kinds_f : Nat → Int32) (g_squares_f : Nat → Int32) (g_voices_f : Nat → Int32) (g_tellers_f : Nat → Int32) (g_listeners_f : Nat → Int32) (g_witnesses_f : Nat → Int32) (g_claims_f : Nat → Int32) (px : Int64) (sz : Nat)  : Met l yX3_digestAfter wsX3_digestAfter ({ frames := 2, cells := 0, slots := 0, locals := 44 }) (va_Pc [.ref a_g, .long px] (kPre D cy [(a_g, .inr (3, [.int g_wide, .int g_high, .int g_drown, .int g_wind, .long g_hedges, .long g_fountains, .int g_people, .int g_tellings, .int g_reports, .ref a_g_kinds, .ref a_g_squares, .ref a_g_voices, .ref a_g_tellers, .ref a_g_listeners, .ref a_g_witnesses, .ref a_g_claims])), (a_g_kinds, .inl (cy 1, 5, .inl g_kinds_f)), (a_g_squares, .inl (cy 1, 5, .inl g_squares_f)), (a_g_voices, .inl (cy 1, 5, .inl g_voices_f)), (a_g_tellers, .inl (cy 1, 6, .inl g_tellers_f)), (a_g_listeners, .inl (cy 1, 6, .inl g_listeners_f)), (a_g_witnesses, .inl (cy 1, 8, .inl g_witnesses_f)), (a_g_claims, .inl (cy 1, 8, .inl g_claims_f))] sz)) (va_Ql (fun (r : Int64) (u : Unit) => True) (fun _ _ => True) (fun q : Nat => sz ≤ q)) 0 0 (fun q : Nat => sz ≤ q) := by
  refine Met.ofW (cc := cX3_digestAfter) (maxL := 4) (ret := (some .long)) (by decide) rfl ?_
  intro p e s m args below meth c s₁ B hml hv
  obtain ⟨rfl, hsz, hP, hKA, hD0⟩ := hv
  have hx := B.exec
  have hb := B.bytes
  have hr := B.returns
  have hts := atoms_spec (ws := wsX3_digestAfter) B.pre
  have hown : s.vm.findClass RX3 = some m.cls := findClass_of_methodNamed B.named
  have hlocks := B.notSynchronized
  subst hsz
  have hK := hKA.1
  have hD := hD0
  generalize hAe : (fun q : Nat => s.heap.size ≤ q) = A
  have hA : ∀ q : Nat, s.heap.size ≤ q → A q := fun q h => by rw [← hAe]; exact h
  have hS : va_S A s.heap s.heap [] := va_S.rf
  have hP : va_P D vwCl [(a_g, .inr (3, [.int g_wide, .int g_high, .int g_drown, .int g_wind, .long g_hedges, .long g_fountains, .int g_people, .int g_tellings, .int g_reports, .ref a_g_kinds, .ref a_g_squares, .ref a_g_voices, .ref a_g_tellers, .ref a_g_listeners, .ref a_g_witnesses, .ref a_g_claims])), (a_g_kinds, .inl (cy 1, 5, .inl g_kinds_f)), (a_g_squares, .inl (cy 1, 5, .inl g_squares_f)), (a_g_voices, .inl (cy 1, 5, .inl g_voices_f)), (a_g_tellers, .inl (cy 1, 6, .inl g_tellers_f)), (a_g_listeners, .inl (cy 1, 6, .inl g_listeners_f)), (a_g_witnesses, .inl (cy 1, 8, .inl g_witnesses_f)), (a_g_claims, .inl (cy 1, 8, .inl g_claims_f))] s.heap := hP
  have hl := lv_entry ([.ref a_g, .long px]) (n := 4) (Nat.le_of_ble_eq_true rfl)
  rw [lg_entry_eq]
  generalize (lg_sl ([.ref a_g, .long px]) ++ List.replicate (4 - (lg_sl ([.ref a_g, .long px])).length) Slot.unset).toArray = ls at hl ⊢
  have hl : lv_has ls 4 [(0, .ref a_g), (1, .long px)] := hl
  refine qW (fun QF hQF => ?_)
  have z0_ := hts (.constantLong RX3 124 31) (by decide +kernel)
  have z1_ := hts (.fieldLink RX3 33 "HeardSeen$Garden" "wide" "I") (by decide +kernel)
  have zi3_ : ∀ w ∈ u_ws RX3 TX3 16, w ∈ wsX3_digestAfter := by decide +kernel
  have z3_ := hts (.fieldLink RX3 40 "HeardSeen$Garden" "drown" "I") (by decide +kernel)
  have z4_ := hts (.fieldLink RX3 43 "HeardSeen$Garden" "wind" "I") (by decide +kernel)
  have z5_ := hts (.fieldLink RX3 53 "HeardSeen$Garden" "people" "I") (by decide +kernel)
  have z6_ := hts (.fieldLink RX3 9 "HeardSeen$Garden" "kinds" "[I") (by decide +kernel)
  have z7_ := hts (.fieldLink RX3 15 "HeardSeen$Garden" "squares" "[I") (by decide +kernel)
  have z8_ := hts (.fieldLink RX3 18 "HeardSeen$Garden" "voices" "[I") (by decide +kernel)
  have z9_ := hts (.fieldLink RX3 56 "HeardSeen$Garden" "tellings" "I") (by decide +kernel)
  have z10_ := hts (.fieldLink RX3 21 "HeardSeen$Garden" "tellers" "[I") (by decide +kernel)
  have z11_ := hts (.fieldLink RX3 24 "HeardSeen$Garden" "listeners" "[I") (by decide +kernel)
  have z12_ := hts (.fieldLink RX3 59 "HeardSeen$Garden" "reports" "I") (by decide +kernel)
  have z13_ := hts (.fieldLink RX3 27 "HeardSeen$Garden" "witnesses" "[I") (by decide +kernel)
  have z14_ := hts (.fieldLink RX3 30 "HeardSeen$Garden" "claims" "[I") (by decide +kernel)
  refine lv_ldc2 hx hb hown z0_ dX3_digestAfter_0 ?_
  refine lv_lload_n hx hb dX3_digestAfter_3 rfl (lv_at hl 1 rfl) ?_
  refine lv_lmul hx hb dX3_digestAfter_4 ?_
  refine lv_aload_n hx hb dX3_digestAfter_5 rfl (lv_at hl 0 rfl) ?_
  refine va_get (D := D) (ci := 3) (v := .int g_wide) (C := RX3) (T := TX3) (N := 16) hx hb hts zi3_ hown hK hP 0 rfl rfl 0 (by decide) z1_ (fun _ h9 => h9) rfl dX3_digestAfter_6 ?_
  refine lv_i2l hx hb dX3_digestAfter_9 rfl ?_
  refine lv_ladd hx hb dX3_digestAfter_10 ?_
  refine lv_topl (fun x1 ex1 => ?_)
  refine lv_lstore_n (lv' := [(1, .long x1), (0, .ref a_g)]) hx hb dX3_digestAfter_11 rfl hl (by decide) rfl (fun ls hl => ?_)
  refine lv_ldc2 hx hb hown z0_ dX3_digestAfter_12 ?_
  refine lv_lload_n hx hb dX3_digestAfter_15 rfl (lv_at hl 0 rfl) ?_
  refine lv_lmul hx hb dX3_digestAfter_16 ?_
  refine lv_aload_n hx hb dX3_digestAfter_17 rfl (lv_at hl 1 rfl) ?_
  refine va_get (D := D) (ci := 3) (v := .int g_drown) (C := RX3) (T := TX3) (N := 16) hx hb hts zi3_ hown hK hP 0 rfl rfl 2 (by decide) z3_ (fun _ h9 => h9) rfl dX3_digestAfter_18 ?_
  refine lv_i2l hx hb dX3_digestAfter_21 rfl ?_
  refine lv_ladd hx hb dX3_digestAfter_22 ?_
  refine lv_topl (fun x2 ex2 => ?_)
  refine lv_lstore_n (lv' := [(1, .long x2), (0, .ref a_g)]) hx hb dX3_digestAfter_23 rfl hl (by decide) rfl (fun ls hl => ?_)
  refine lv_ldc2 hx hb hown z0_ dX3_digestAfter_24 ?_
  refine lv_lload_n hx hb dX3_digestAfter_27 rfl (lv_at hl 0 rfl) ?_
  refine lv_lmul hx hb dX3_digestAfter_28 ?_
  refine lv_aload_n hx hb dX3_digestAfter_29 rfl (lv_at hl 1 rfl) ?_
  refine va_get (D := D) (ci := 3) (v := .int g_wind) (C := RX3) (T := TX3) (N := 16) hx hb hts zi3_ hown hK hP 0 rfl rfl 3 (by decide) z4_ (fun _ h9 => h9) rfl dX3_digestAfter_30 ?_
  refine lv_i2l hx hb dX3_digestAfter_33 rfl ?_
  refine lv_ladd hx hb dX3_digestAfter_34 ?_
  refine lv_topl (fun x3 ex3 => ?_)
  refine lv_lstore_n (lv' := [(1, .long x3), (0, .ref a_g)]) hx hb dX3_digestAfter_35 rfl hl (by decide) rfl (fun ls hl => ?_)
  refine lv_iconst (v := 0) hx hb dX3_digestAfter_36 (by decide) ?_
  refine lv_istore_n (lv' := [(3, .int 0), (1, .long x3), (0, .ref a_g)]) hx hb dX3_digestAfter_37 rfl hl (by decide) rfl (fun ls hl => ?_)
  have lp38 : ∀ (n38 : Nat) (v3_38 : Nat) (v1_38 : Int64) (hv3_38 : v3_38 < 2147483648), 2147483648 - v3_38 < n38 → ∀ (H : Heap) (locs : List Loc), va_P D vwCl [(a_g, .inr (3, [.int g_wide, .int g_high, .int g_drown, .int g_wind, .long g_hedges, .long g_fountains, .int g_people, .int g_tellings, .int g_reports, .ref a_g_kinds, .ref a_g_squares, .ref a_g_voices, .ref a_g_tellers, .ref a_g_listeners, .ref a_g_witnesses, .ref a_g_claims])), (a_g_kinds, .inl (cy 1, 5, .inl g_kinds_f)), (a_g_squares, .inl (cy 1, 5, .inl g_squares_f)), (a_g_voices, .inl (cy 1, 5, .inl g_voices_f)), (a_g_tellers, .inl (cy 1, 6, .inl g_tellers_f)), (a_g_listeners, .inl (cy 1, 6, .inl g_listeners_f)), (a_g_witnesses, .inl (cy 1, 8, .inl g_witnesses_f)), (a_g_claims, .inl (cy 1, 8, .inl g_claims_f))] H → va_D (fun _ => True) [(a_g, .inr (3, [.int g_wide, .int g_high, .int g_drown, .int g_wind, .long g_hedges, .long g_fountains, .int g_people, .int g_tellings, .int g_reports, .ref a_g_kinds, .ref a_g_squares, .ref a_g_voices, .ref a_g_tellers, .ref a_g_listeners, .ref a_g_witnesses, .ref a_g_claims])), (a_g_kinds, .inl (cy 1, 5, .inl g_kinds_f)), (a_g_squares, .inl (cy 1, 5, .inl g_squares_f)), (a_g_voices, .inl (cy 1, 5, .inl g_voices_f)), (a_g_tellers, .inl (cy 1, 6, .inl g_tellers_f)), (a_g_listeners, .inl (cy 1, 6, .inl g_listeners_f)), (a_g_witnesses, .inl (cy 1, 8, .inl g_witnesses_f)), (a_g_claims, .inl (cy 1, 8, .inl g_claims_f))] → va_S A s.heap H locs → ∀ ls : Array Slot, lv_has ls 4 [(3, .int (nI v3_38)), (1, .long v1_38), (0, .ref a_g)] → W p l e (headSpec wsX3_digestAfter ({ frames := 2, cells := 0, slots := 0, locals := 44 })).room s m [.ref a_g, .long px].toArray below meth c H locs 0 0 QF (F0 m 38 ls []) := by
    intro n38
    induction n38 with
    | zero => intro v3_38 v1_38 hv3_38 hm; exact absurd hm (Nat.not_lt_zero _)
    | succ n38 ih38 =>
      intro v3_38 v1_38 hv3_38 hm38 H locs hP hD hS ls hl
      refine lv_iload_n hx hb dX3_digestAfter_38 rfl (lv_at hl 0 rfl) ?_
      refine lv_aload_n hx hb dX3_digestAfter_39 rfl (lv_at hl 2 rfl) ?_
      refine va_get (D := D) (ci := 3) (v := .int g_people) (C := RX3) (T := TX3) (N := 16) hx hb hts zi3_ hown hK hP 0 rfl rfl 6 (by decide) z5_ (fun _ h9 => h9) rfl dX3_digestAfter_40 ?_
      have j99 : ∀ (H : Heap) (locs : List Loc), va_P D vwCl [(a_g, .inr (3, [.int g_wide, .int g_high, .int g_drown, .int g_wind, .long g_hedges, .long g_fountains, .int g_people, .int g_tellings, .int g_reports, .ref a_g_kinds, .ref a_g_squares, .ref a_g_voices, .ref a_g_tellers, .ref a_g_listeners, .ref a_g_witnesses, .ref a_g_claims])), (a_g_kinds, .inl (cy 1, 5, .inl g_kinds_f)), (a_g_squares, .inl (cy 1, 5, .inl g_squares_f)), (a_g_voices, .inl (cy 1, 5, .inl g_voices_f)), (a_g_tellers, .inl (cy 1, 6, .inl g_tellers_f)), (a_g_listeners, .inl (cy 1, 6, .inl g_listeners_f)), (a_g_witnesses, .inl (cy 1, 8, .inl g_witnesses_f)), (a_g_claims, .inl (cy 1, 8, .inl g_claims_f))] H → va_D (fun _ => True) [(a_g, .inr (3, [.int g_wide, .int g_high, .int g_drown, .int g_wind, .long g_hedges, .long g_fountains, .int g_people, .int g_tellings, .int g_reports, .ref a_g_kinds, .ref a_g_squares, .ref a_g_voices, .ref a_g_tellers, .ref a_g_listeners, .ref a_g_witnesses, .ref a_g_claims])), (a_g_kinds, .inl (cy 1, 5, .inl g_kinds_f)), (a_g_squares, .inl (cy 1, 5, .inl g_squares_f)), (a_g_voices, .inl (cy 1, 5, .inl g_voices_f)), (a_g_tellers, .inl (cy 1, 6, .inl g_tellers_f)), (a_g_listeners, .inl (cy 1, 6, .inl g_listeners_f)), (a_g_witnesses, .inl (cy 1, 8, .inl g_witnesses_f)), (a_g_claims, .inl (cy 1, 8, .inl g_claims_f))] → va_S A s.heap H locs → ∀ ls : Array Slot, lv_has ls 4 [(3, .int (nI v3_38)), (1, .long v1_38), (0, .ref a_g)] → W p l e (headSpec wsX3_digestAfter ({ frames := 2, cells := 0, slots := 0, locals := 44 })).room s m [.ref a_g, .long px].toArray below meth c H locs 0 0 QF (F0 m 99 ls []) := by
        intro  H locs hP hD hS ls hl
        refine lv_iconst (v := 0) hx hb dX3_digestAfter_99 (by decide) ?_
        refine lv_istore_n (lv' := [(3, .int 0), (1, .long v1_38), (0, .ref a_g)]) hx hb dX3_digestAfter_100 rfl hl (by decide) rfl (fun ls hl => ?_)
        have lp101 : ∀ (n101 : Nat) (v3_101 : Nat) (v1_101 : Int64) (hv3_101 : v3_101 < 2147483648), 2147483648 - v3_101 < n101 → ∀ (H : Heap) (locs : List Loc), va_P D vwCl [(a_g, .inr (3, [.int g_wide, .int g_high, .int g_drown, .int g_wind, .long g_hedges, .long g_fountains, .int g_people, .int g_tellings, .int g_reports, .ref a_g_kinds, .ref a_g_squares, .ref a_g_voices, .ref a_g_tellers, .ref a_g_listeners, .ref a_g_witnesses, .ref a_g_claims])), (a_g_kinds, .inl (cy 1, 5, .inl g_kinds_f)), (a_g_squares, .inl (cy 1, 5, .inl g_squares_f)), (a_g_voices, .inl (cy 1, 5, .inl g_voices_f)), (a_g_tellers, .inl (cy 1, 6, .inl g_tellers_f)), (a_g_listeners, .inl (cy 1, 6, .inl g_listeners_f)), (a_g_witnesses, .inl (cy 1, 8, .inl g_witnesses_f)), (a_g_claims, .inl (cy 1, 8, .inl g_claims_f))] H → va_D (fun _ => True) [(a_g, .inr (3, [.int g_wide, .int g_high, .int g_drown, .int g_wind, .long g_hedges, .long g_fountains, .int g_people, .int g_tellings, .int g_reports, .ref a_g_kinds, .ref a_g_squares, .ref a_g_voices, .ref a_g_tellers, .ref a_g_listeners, .ref a_g_witnesses, .ref a_g_claims])), (a_g_kinds, .inl (cy 1, 5, .inl g_kinds_f)), (a_g_squares, .inl (cy 1, 5, .inl g_squares_f)), (a_g_voices, .inl (cy 1, 5, .inl g_voices_f)), (a_g_tellers, .inl (cy 1, 6, .inl g_tellers_f)), (a_g_listeners, .inl (cy 1, 6, .inl g_listeners_f)), (a_g_witnesses, .inl (cy 1, 8, .inl g_witnesses_f)), (a_g_claims, .inl (cy 1, 8, .inl g_claims_f))] → va_S A s.heap H locs → ∀ ls : Array Slot, lv_has ls 4 [(3, .int (nI v3_101)), (1, .long v1_101), (0, .ref a_g)] → W p l e (headSpec wsX3_digestAfter ({ frames := 2, cells := 0, slots := 0, locals := 44 })).room s m [.ref a_g, .long px].toArray below meth c H locs 0 0 QF (F0 m 101 ls []) := by
          intro n101
          induction n101 with
          | zero => intro v3_101 v1_101 hv3_101 hm; exact absurd hm (Nat.not_lt_zero _)
          | succ n101 ih101 =>
            intro v3_101 v1_101 hv3_101 hm101 H locs hP hD hS ls hl
            refine lv_iload_n hx hb dX3_digestAfter_101 rfl (lv_at hl 0 rfl) ?_
            refine lv_aload_n hx hb dX3_digestAfter_102 rfl (lv_at hl 2 rfl) ?_
            refine rd_i (va_runV (As := []) (rest := [.int (nI v3_101)]) ⟨hx, hb, hml, hown, hts⟩ (n_X3_squareCount l D cy a_g g_wide g_high g_drown g_wind g_hedges g_fountains g_people g_tellings g_reports a_g_kinds a_g_squares a_g_voices a_g_tellers a_g_listeners a_g_witnesses a_g_claims _ ) (cwV 0 hts gX3_digestAfter_X3_squareCount rfl rfl rfl (by decide +kernel) ⟨Nat.le_of_ble_eq_true rfl, Nat.le_of_ble_eq_true rfl⟩) (pV (ci := 3) (k := 0) hKA (hP.sub (ws' := [(a_g, .inr (3, [.int g_wide, .int g_high, .int g_drown, .int g_wind, .long g_hedges, .long g_fountains, .int g_people, .int g_tellings, .int g_reports, .ref a_g_kinds, .ref a_g_squares, .ref a_g_voices, .ref a_g_tellers, .ref a_g_listeners, .ref a_g_witnesses, .ref a_g_claims]))]) [0] rfl) (hD.sub (ws' := [(a_g, .inr (3, [.int g_wide, .int g_high, .int g_drown, .int g_wind, .long g_hedges, .long g_fountains, .int g_people, .int g_tellings, .int g_reports, .ref a_g_kinds, .ref a_g_squares, .ref a_g_voices, .ref a_g_tellers, .ref a_g_listeners, .ref a_g_witnesses, .ref a_g_claims]))]) [0] (by decide) rfl) rfl rfl) rfl rfl hl.1 rfl (lv_room (Nat.le_of_ble_eq_true rfl)) dX3_digestAfter_103 ⟨Nat.le_of_ble_eq_true rfl, Nat.le_of_ble_eq_true rfl⟩) hP hS hA (fun r4 H locs hwr4 hP hS => ?_)
            have hwr4 : r4 = g_wide * g_high := hwr4
            subst hwr4
            refine lv_icmp_ge (tgt := 159) hx hb dX3_digestAfter_106 (by decide) (fun c5 => ?_) (fun c5 => ?_)
            · skip
              refine lv_iconst (v := 0) hx hb dX3_digestAfter_159 (by decide) ?_
              refine lv_istore_n (lv' := [(3, .int 0), (1, .long v1_101), (0, .ref a_g)]) hx hb dX3_digestAfter_160 rfl hl (by decide) rfl (fun ls hl => ?_)
              have lp161 : ∀ (n161 : Nat) (v3_161 : Nat) (v1_161 : Int64) (hv3_161 : v3_161 < 2147483648), 2147483648 - v3_161 < n161 → ∀ (H : Heap) (locs : List Loc), va_P D vwCl [(a_g, .inr (3, [.int g_wide, .int g_high, .int g_drown, .int g_wind, .long g_hedges, .long g_fountains, .int g_people, .int g_tellings, .int g_reports, .ref a_g_kinds, .ref a_g_squares, .ref a_g_voices, .ref a_g_tellers, .ref a_g_listeners, .ref a_g_witnesses, .ref a_g_claims])), (a_g_kinds, .inl (cy 1, 5, .inl g_kinds_f)), (a_g_squares, .inl (cy 1, 5, .inl g_squares_f)), (a_g_voices, .inl (cy 1, 5, .inl g_voices_f)), (a_g_tellers, .inl (cy 1, 6, .inl g_tellers_f)), (a_g_listeners, .inl (cy 1, 6, .inl g_listeners_f)), (a_g_witnesses, .inl (cy 1, 8, .inl g_witnesses_f)), (a_g_claims, .inl (cy 1, 8, .inl g_claims_f))] H → va_D (fun _ => True) [(a_g, .inr (3, [.int g_wide, .int g_high, .int g_drown, .int g_wind, .long g_hedges, .long g_fountains, .int g_people, .int g_tellings, .int g_reports, .ref a_g_kinds, .ref a_g_squares, .ref a_g_voices, .ref a_g_tellers, .ref a_g_listeners, .ref a_g_witnesses, .ref a_g_claims])), (a_g_kinds, .inl (cy 1, 5, .inl g_kinds_f)), (a_g_squares, .inl (cy 1, 5, .inl g_squares_f)), (a_g_voices, .inl (cy 1, 5, .inl g_voices_f)), (a_g_tellers, .inl (cy 1, 6, .inl g_tellers_f)), (a_g_listeners, .inl (cy 1, 6, .inl g_listeners_f)), (a_g_witnesses, .inl (cy 1, 8, .inl g_witnesses_f)), (a_g_claims, .inl (cy 1, 8, .inl g_claims_f))] → va_S A s.heap H locs → ∀ ls : Array Slot, lv_has ls 4 [(3, .int (nI v3_161)), (1, .long v1_161), (0, .ref a_g)] → W p l e (headSpec wsX3_digestAfter ({ frames := 2, cells := 0, slots := 0, locals := 44 })).room s m [.ref a_g, .long px].toArray below meth c H locs 0 0 QF (F0 m 161 ls []) := by
                intro n161
                induction n161 with
                | zero => intro v3_161 v1_161 hv3_161 hm; exact absurd hm (Nat.not_lt_zero _)
                | succ n161 ih161 =>
                  intro v3_161 v1_161 hv3_161 hm161 H locs hP hD hS ls hl
                  refine lv_iload_n hx hb dX3_digestAfter_161 rfl (lv_at hl 0 rfl) ?_
                  refine lv_aload_n hx hb dX3_digestAfter_162 rfl (lv_at hl 2 rfl) ?_
                  refine va_get (D := D) (ci := 3) (v := .int g_tellings) (C := RX3) (T := TX3) (N := 16) hx hb hts zi3_ hown hK hP 0 rfl rfl 7 (by decide) z9_ (fun _ h9 => h9) rfl dX3_digestAfter_163 ?_
                  have j209 : ∀ (H : Heap) (locs : List Loc), va_P D vwCl [(a_g, .inr (3, [.int g_wide, .int g_high, .int g_drown, .int g_wind, .long g_hedges, .long g_fountains, .int g_people, .int g_tellings, .int g_reports, .ref a_g_kinds, .ref a_g_squares, .ref a_g_voices, .ref a_g_tellers, .ref a_g_listeners, .ref a_g_witnesses, .ref a_g_claims])), (a_g_kinds, .inl (cy 1, 5, .inl g_kinds_f)), (a_g_squares, .inl (cy 1, 5, .inl g_squares_f)), (a_g_voices, .inl (cy 1, 5, .inl g_voices_f)), (a_g_tellers, .inl (cy 1, 6, .inl g_tellers_f)), (a_g_listeners, .inl (cy 1, 6, .inl g_listeners_f)), (a_g_witnesses, .inl (cy 1, 8, .inl g_witnesses_f)), (a_g_claims, .inl (cy 1, 8, .inl g_claims_f))] H → va_D (fun _ => True) [(a_g, .inr (3, [.int g_wide, .int g_high, .int g_drown, .int g_wind, .long g_hedges, .long g_fountains, .int g_people, .int g_tellings, .int g_reports, .ref a_g_kinds, .ref a_g_squares, .ref a_g_voices, .ref a_g_tellers, .ref a_g_listeners, .ref a_g_witnesses, .ref a_g_claims])), (a_g_kinds, .inl (cy 1, 5, .inl g_kinds_f)), (a_g_squares, .inl (cy 1, 5, .inl g_squares_f)), (a_g_voices, .inl (cy 1, 5, .inl g_voices_f)), (a_g_tellers, .inl (cy 1, 6, .inl g_tellers_f)), (a_g_listeners, .inl (cy 1, 6, .inl g_listeners_f)), (a_g_witnesses, .inl (cy 1, 8, .inl g_witnesses_f)), (a_g_claims, .inl (cy 1, 8, .inl g_claims_f))] → va_S A s.heap H locs → ∀ ls : Array Slot, lv_has ls 4 [(3, .int (nI v3_161)), (1, .long v1_161), (0, .ref a_g)] → W p l e (headSpec wsX3_digestAfter ({ frames := 2, cells := 0, slots := 0, locals := 44 })).room s m [.ref a_g, .long px].toArray below meth c H locs 0 0 QF (F0 m 209 ls []) := by
                    intro  H locs hP hD hS ls hl
                    refine lv_iconst (v := 0) hx hb dX3_digestAfter_209 (by decide) ?_
                    refine lv_istore_n (lv' := [(3, .int 0), (1, .long v1_161), (0, .ref a_g)]) hx hb dX3_digestAfter_210 rfl hl (by decide) rfl (fun ls hl => ?_)
                    have lp211 : ∀ (n211 : Nat) (v3_211 : Nat) (v1_211 : Int64) (hv3_211 : v3_211 < 2147483648), 2147483648 - v3_211 < n211 → ∀ (H : Heap) (locs : List Loc), va_P D vwCl [(a_g, .inr (3, [.int g_wide, .int g_high, .int g_drown, .int g_wind, .long g_hedges, .long g_fountains, .int g_people, .int g_tellings, .int g_reports, .ref a_g_kinds, .ref a_g_squares, .ref a_g_voices, .ref a_g_tellers, .ref a_g_listeners, .ref a_g_witnesses, .ref a_g_claims])), (a_g_kinds, .inl (cy 1, 5, .inl g_kinds_f)), (a_g_squares, .inl (cy 1, 5, .inl g_squares_f)), (a_g_voices, .inl (cy 1, 5, .inl g_voices_f)), (a_g_tellers, .inl (cy 1, 6, .inl g_tellers_f)), (a_g_listeners, .inl (cy 1, 6, .inl g_listeners_f)), (a_g_witnesses, .inl (cy 1, 8, .inl g_witnesses_f)), (a_g_claims, .inl (cy 1, 8, .inl g_claims_f))] H → va_D (fun _ => True) [(a_g, .inr (3, [.int g_wide, .int g_high, .int g_drown, .int g_wind, .long g_hedges, .long g_fountains, .int g_people, .int g_tellings, .int g_reports, .ref a_g_kinds, .ref a_g_squares, .ref a_g_voices, .ref a_g_tellers, .ref a_g_listeners, .ref a_g_witnesses, .ref a_g_claims])), (a_g_kinds, .inl (cy 1, 5, .inl g_kinds_f)), (a_g_squares, .inl (cy 1, 5, .inl g_squares_f)), (a_g_voices, .inl (cy 1, 5, .inl g_voices_f)), (a_g_tellers, .inl (cy 1, 6, .inl g_tellers_f)), (a_g_listeners, .inl (cy 1, 6, .inl g_listeners_f)), (a_g_witnesses, .inl (cy 1, 8, .inl g_witnesses_f)), (a_g_claims, .inl (cy 1, 8, .inl g_claims_f))] → va_S A s.heap H locs → ∀ ls : Array Slot, lv_has ls 4 [(3, .int (nI v3_211)), (1, .long v1_211), (0, .ref a_g)] → W p l e (headSpec wsX3_digestAfter ({ frames := 2, cells := 0, slots := 0, locals := 44 })).room s m [.ref a_g, .long px].toArray below meth c H locs 0 0 QF (F0 m 211 ls []) := by
                      intro n211
                      induction n211 with
                      | zero => intro v3_211 v1_211 hv3_211 hm; exact absurd hm (Nat.not_lt_zero _)
                      | succ n211 ih211 =>
                        intro v3_211 v1_211 hv3_211 hm211 H locs hP hD hS ls hl
                        refine lv_iload_n hx hb dX3_digestAfter_211 rfl (lv_at hl 0 rfl) ?_
                        refine lv_aload_n hx hb dX3_digestAfter_212 rfl (lv_at hl 2 rfl) ?_
                        refine va_get (D := D) (ci := 3) (v := .int g_reports) (C := RX3) (T := TX3) (N := 16) hx hb hts zi3_ hown hK hP 0 rfl rfl 8 (by decide) z12_ (fun _ h9 => h9) rfl dX3_digestAfter_213 ?_
                        refine lv_icmp_ge (tgt := 259) hx hb dX3_digestAfter_216 (by decide) (fun c6 => ?_) (fun c6 => ?_)
                        · skip
                          refine lv_lload_n hx hb dX3_digestAfter_259 rfl (lv_at hl 1 rfl) ?_
                          subst hQF
                          exact W.lret (v := v1_211) hx hb hr (fun t ht hW => ⟨⟨v1_211, (), rfl, trivial, trivial⟩, hS.F ht⟩) hS.2.2 dX3_digestAfter_260
                        · skip
                          refine lv_iload_n hx hb dX3_digestAfter_219 rfl (lv_at hl 0 rfl) ?_
                          refine lv_bipush (v := 8) hx hb dX3_digestAfter_220 (by decide) ?_
                          refine lv_icmp_ge (tgt := 259) hx hb dX3_digestAfter_222 (by decide) (fun c7 => ?_) (fun c7 => ?_)
                          · skip
                            refine lv_lload_n hx hb dX3_digestAfter_259 rfl (lv_at hl 1 rfl) ?_
                            subst hQF
                            exact W.lret (v := v1_211) hx hb hr (fun t ht hW => ⟨⟨v1_211, (), rfl, trivial, trivial⟩, hS.F ht⟩) hS.2.2 dX3_digestAfter_260
                          · skip
                            refine lv_ldc2 hx hb hown z0_ dX3_digestAfter_225 ?_
                            refine lv_lload_n hx hb dX3_digestAfter_228 rfl (lv_at hl 1 rfl) ?_
                            refine lv_lmul hx hb dX3_digestAfter_229 ?_
                            refine lv_aload_n hx hb dX3_digestAfter_230 rfl (lv_at hl 2 rfl) ?_
                            refine va_get (D := D) (ci := 3) (v := .ref a_g_witnesses) (C := RX3) (T := TX3) (N := 16) hx hb hts zi3_ hown hK hP 0 rfl rfl 14 (by decide) z13_ (fun _ h9 => h9) rfl dX3_digestAfter_231 ?_
                            refine lv_iload_n hx hb dX3_digestAfter_234 rfl (lv_at hl 0 rfl) ?_
                            refine my_iald hx hb hK hP 6 1 rfl rfl (by first | exact in_ge (N := 8) (by decide) (by omega) (by assumption) | exact vp_in_nI (by omega) (by omega)) (nI_clamp (by omega)) dX3_digestAfter_235 ?_
                            refine lv_i2l hx hb dX3_digestAfter_236 rfl ?_
                            refine lv_ladd hx hb dX3_digestAfter_237 ?_
                            refine lv_topl (fun x8 ex8 => ?_)
                            refine lv_lstore_n (lv' := [(1, .long x8), (3, .int (nI v3_211)), (0, .ref a_g)]) hx hb dX3_digestAfter_238 rfl hl (by decide) rfl (fun ls hl => ?_)
                            refine lv_ldc2 hx hb hown z0_ dX3_digestAfter_239 ?_
                            refine lv_lload_n hx hb dX3_digestAfter_242 rfl (lv_at hl 0 rfl) ?_
                            refine lv_lmul hx hb dX3_digestAfter_243 ?_
                            refine lv_aload_n hx hb dX3_digestAfter_244 rfl (lv_at hl 2 rfl) ?_
                            refine va_get (D := D) (ci := 3) (v := .ref a_g_claims) (C := RX3) (T := TX3) (N := 16) hx hb hts zi3_ hown hK hP 0 rfl rfl 15 (by decide) z14_ (fun _ h9 => h9) rfl dX3_digestAfter_245 ?_
                            refine lv_iload_n hx hb dX3_digestAfter_248 rfl (lv_at hl 1 rfl) ?_
                            refine my_iald hx hb hK hP 7 1 rfl rfl (by first | exact in_ge (N := 8) (by decide) (by omega) (by assumption) | exact vp_in_nI (by omega) (by omega)) (nI_clamp (by omega)) dX3_digestAfter_249 ?_
                            refine lv_i2l hx hb dX3_digestAfter_250 rfl ?_
                            refine lv_ladd hx hb dX3_digestAfter_251 ?_
                            refine lv_topl (fun x9 ex9 => ?_)
                            refine lv_lstore_n (lv' := [(1, .long x9), (3, .int (nI v3_211)), (0, .ref a_g)]) hx hb dX3_digestAfter_252 rfl hl (by decide) rfl (fun ls hl => ?_)
                            refine lv_iinc (v := nI (v3_211 + 1)) (lv' := [(3, .int (nI (v3_211 + 1))), (1, .long x9), (0, .ref a_g)]) hx hb dX3_digestAfter_253 hl (k := 1) rfl (nI_1 _) (by decide) rfl (fun ls hl => ?_)
                            refine lv_goto (tgt := 211) hx hb dX3_digestAfter_256 (by decide) ?_
                            exact ih211 (v3_211 + 1) x9 (by first | omega | exact nlt_max hv3_211 (by assumption)) (by first | omega | (have := nlt_max hv3_211 (by assumption); omega)) _ _ hP hD hS ls hl
                    exact lp211 (2147483648 - 0 + 1) 0 v1_161 (by first | omega | exact nlt_max (by assumption) (by assumption)) (Nat.lt_succ_self _) _ _ hP hD hS ls hl
                  refine lv_icmp_ge (tgt := 209) hx hb dX3_digestAfter_166 (by decide) (fun c10 => ?_) (fun c10 => ?_)
                  · skip
                    exact j209 _ _ hP hD hS ls hl
                  · skip
                    refine lv_iload_n hx hb dX3_digestAfter_169 rfl (lv_at hl 0 rfl) ?_
                    refine lv_bipush (v := 6) hx hb dX3_digestAfter_170 (by decide) ?_
                    refine lv_icmp_ge (tgt := 209) hx hb dX3_digestAfter_172 (by decide) (fun c11 => ?_) (fun c11 => ?_)
                    · skip
                      exact j209 _ _ hP hD hS ls hl
                    · skip
                      refine lv_ldc2 hx hb hown z0_ dX3_digestAfter_175 ?_
                      refine lv_lload_n hx hb dX3_digestAfter_178 rfl (lv_at hl 1 rfl) ?_
                      refine lv_lmul hx hb dX3_digestAfter_179 ?_
                      refine lv_aload_n hx hb dX3_digestAfter_180 rfl (lv_at hl 2 rfl) ?_
                      refine va_get (D := D) (ci := 3) (v := .ref a_g_tellers) (C := RX3) (T := TX3) (N := 16) hx hb hts zi3_ hown hK hP 0 rfl rfl 12 (by decide) z10_ (fun _ h9 => h9) rfl dX3_digestAfter_181 ?_
                      refine lv_iload_n hx hb dX3_digestAfter_184 rfl (lv_at hl 0 rfl) ?_
                      refine my_iald hx hb hK hP 4 1 rfl rfl (by first | exact in_ge (N := 6) (by decide) (by omega) (by assumption) | exact vp_in_nI (by omega) (by omega)) (nI_clamp (by omega)) dX3_digestAfter_185 ?_
                      refine lv_i2l hx hb dX3_digestAfter_186 rfl ?_
                      refine lv_ladd hx hb dX3_digestAfter_187 ?_
                      refine lv_topl (fun x12 ex12 => ?_)
                      refine lv_lstore_n (lv' := [(1, .long x12), (3, .int (nI v3_161)), (0, .ref a_g)]) hx hb dX3_digestAfter_188 rfl hl (by decide) rfl (fun ls hl => ?_)
                      refine lv_ldc2 hx hb hown z0_ dX3_digestAfter_189 ?_
                      refine lv_lload_n hx hb dX3_digestAfter_192 rfl (lv_at hl 0 rfl) ?_
                      refine lv_lmul hx hb dX3_digestAfter_193 ?_
                      refine lv_aload_n hx hb dX3_digestAfter_194 rfl (lv_at hl 2 rfl) ?_
                      refine va_get (D := D) (ci := 3) (v := .ref a_g_listeners) (C := RX3) (T := TX3) (N := 16) hx hb hts zi3_ hown hK hP 0 rfl rfl 13 (by decide) z11_ (fun _ h9 => h9) rfl dX3_digestAfter_195 ?_
                      refine lv_iload_n hx hb dX3_digestAfter_198 rfl (lv_at hl 1 rfl) ?_
                      refine my_iald hx hb hK hP 5 1 rfl rfl (by first | exact in_ge (N := 6) (by decide) (by omega) (by assumption) | exact vp_in_nI (by omega) (by omega)) (nI_clamp (by omega)) dX3_digestAfter_199 ?_
                      refine lv_i2l hx hb dX3_digestAfter_200 rfl ?_
                      refine lv_ladd hx hb dX3_digestAfter_201 ?_
                      refine lv_topl (fun x13 ex13 => ?_)
                      refine lv_lstore_n (lv' := [(1, .long x13), (3, .int (nI v3_161)), (0, .ref a_g)]) hx hb dX3_digestAfter_202 rfl hl (by decide) rfl (fun ls hl => ?_)
                      refine lv_iinc (v := nI (v3_161 + 1)) (lv' := [(3, .int (nI (v3_161 + 1))), (1, .long x13), (0, .ref a_g)]) hx hb dX3_digestAfter_203 hl (k := 1) rfl (nI_1 _) (by decide) rfl (fun ls hl => ?_)
                      refine lv_goto (tgt := 161) hx hb dX3_digestAfter_206 (by decide) ?_
                      exact ih161 (v3_161 + 1) x13 (by first | omega | exact nlt_max hv3_161 (by assumption)) (by first | omega | (have := nlt_max hv3_161 (by assumption); omega)) _ _ hP hD hS ls hl
              exact lp161 (2147483648 - 0 + 1) 0 v1_101 (by first | omega | exact nlt_max (by assumption) (by assumption)) (Nat.lt_succ_self _) _ _ hP hD hS ls hl
            · skip
              refine lv_ldc2 hx hb hown z0_ dX3_digestAfter_109 ?_
              refine lv_lload_n hx hb dX3_digestAfter_112 rfl (lv_at hl 1 rfl) ?_
              refine lv_lmul hx hb dX3_digestAfter_113 ?_
              refine lv_aload_n hx hb dX3_digestAfter_114 rfl (lv_at hl 2 rfl) ?_
              refine lv_iconst (v := 0) hx hb dX3_digestAfter_115 (by decide) ?_
              refine lv_iload_n hx hb dX3_digestAfter_116 rfl (lv_at hl 0 rfl) ?_
              refine rd_i (va_runV (As := [.int 0, .int (nI v3_101)]) (rest := [.long (31 * v1_101)]) ⟨hx, hb, hml, hown, hts⟩ (n_X3_has l D cy a_g g_wide g_high g_drown g_wind g_hedges g_fountains g_people g_tellings g_reports a_g_kinds a_g_squares a_g_voices a_g_tellers a_g_listeners a_g_witnesses a_g_claims (0) (nI v3_101) _ ) (cwV 2 hts gX3_digestAfter_X3_has rfl rfl rfl (by decide +kernel) ⟨Nat.le_of_ble_eq_true rfl, Nat.le_of_ble_eq_true rfl⟩) (pV (ci := 3) (k := 0) hKA (hP.sub (ws' := [(a_g, .inr (3, [.int g_wide, .int g_high, .int g_drown, .int g_wind, .long g_hedges, .long g_fountains, .int g_people, .int g_tellings, .int g_reports, .ref a_g_kinds, .ref a_g_squares, .ref a_g_voices, .ref a_g_tellers, .ref a_g_listeners, .ref a_g_witnesses, .ref a_g_claims]))]) [0] rfl) (hD.sub (ws' := [(a_g, .inr (3, [.int g_wide, .int g_high, .int g_drown, .int g_wind, .long g_hedges, .long g_fountains, .int g_people, .int g_tellings, .int g_reports, .ref a_g_kinds, .ref a_g_squares, .ref a_g_voices, .ref a_g_tellers, .ref a_g_listeners, .ref a_g_witnesses, .ref a_g_claims]))]) [0] (by decide) rfl) rfl rfl) rfl rfl hl.1 rfl (lv_room (Nat.le_of_ble_eq_true rfl)) dX3_digestAfter_117 ⟨Nat.le_of_ble_eq_true rfl, Nat.le_of_ble_eq_true rfl⟩) hP hS hA (fun r14 H locs hwr14 hP hS => ?_)
              have hwr14 : (r14 = 1 ∧ True) ∨ (r14 = 0 ∧ True) := hwr14
              have j128 : ∀ (s2_128 : Int32) (bs2_128 : s2_128 = 1 ∨ s2_128 = 0) (H : Heap) (locs : List Loc), va_P D vwCl [(a_g, .inr (3, [.int g_wide, .int g_high, .int g_drown, .int g_wind, .long g_hedges, .long g_fountains, .int g_people, .int g_tellings, .int g_reports, .ref a_g_kinds, .ref a_g_squares, .ref a_g_voices, .ref a_g_tellers, .ref a_g_listeners, .ref a_g_witnesses, .ref a_g_claims])), (a_g_kinds, .inl (cy 1, 5, .inl g_kinds_f)), (a_g_squares, .inl (cy 1, 5, .inl g_squares_f)), (a_g_voices, .inl (cy 1, 5, .inl g_voices_f)), (a_g_tellers, .inl (cy 1, 6, .inl g_tellers_f)), (a_g_listeners, .inl (cy 1, 6, .inl g_listeners_f)), (a_g_witnesses, .inl (cy 1, 8, .inl g_witnesses_f)), (a_g_claims, .inl (cy 1, 8, .inl g_claims_f))] H → va_D (fun _ => True) [(a_g, .inr (3, [.int g_wide, .int g_high, .int g_drown, .int g_wind, .long g_hedges, .long g_fountains, .int g_people, .int g_tellings, .int g_reports, .ref a_g_kinds, .ref a_g_squares, .ref a_g_voices, .ref a_g_tellers, .ref a_g_listeners, .ref a_g_witnesses, .ref a_g_claims])), (a_g_kinds, .inl (cy 1, 5, .inl g_kinds_f)), (a_g_squares, .inl (cy 1, 5, .inl g_squares_f)), (a_g_voices, .inl (cy 1, 5, .inl g_voices_f)), (a_g_tellers, .inl (cy 1, 6, .inl g_tellers_f)), (a_g_listeners, .inl (cy 1, 6, .inl g_listeners_f)), (a_g_witnesses, .inl (cy 1, 8, .inl g_witnesses_f)), (a_g_claims, .inl (cy 1, 8, .inl g_claims_f))] → va_S A s.heap H locs → ∀ ls : Array Slot, lv_has ls 4 [(3, .int (nI v3_101)), (1, .long v1_101), (0, .ref a_g)] → W p l e (headSpec wsX3_digestAfter ({ frames := 2, cells := 0, slots := 0, locals := 44 })).room s m [.ref a_g, .long px].toArray below meth c H locs 0 0 QF (F0 m 128 ls [.int s2_128, .long (31 * v1_101)]) := by
                intro s2_128 bs2_128 H locs hP hD hS ls hl
                refine lv_i2l hx hb dX3_digestAfter_128 rfl ?_
                refine lv_ladd hx hb dX3_digestAfter_129 ?_
                refine lv_topl (fun x15 ex15 => ?_)
                refine lv_lstore_n (lv' := [(1, .long x15), (3, .int (nI v3_101)), (0, .ref a_g)]) hx hb dX3_digestAfter_130 rfl hl (by decide) rfl (fun ls hl => ?_)
                refine lv_ldc2 hx hb hown z0_ dX3_digestAfter_131 ?_
                refine lv_lload_n hx hb dX3_digestAfter_134 rfl (lv_at hl 0 rfl) ?_
                refine lv_lmul hx hb dX3_digestAfter_135 ?_
                refine lv_aload_n hx hb dX3_digestAfter_136 rfl (lv_at hl 2 rfl) ?_
                refine lv_iconst (v := 1) hx hb dX3_digestAfter_137 (by decide) ?_
                refine lv_iload_n hx hb dX3_digestAfter_138 rfl (lv_at hl 1 rfl) ?_
                refine rd_i (va_runV (As := [.int 1, .int (nI v3_101)]) (rest := [.long (31 * x15)]) ⟨hx, hb, hml, hown, hts⟩ (n_X3_has l D cy a_g g_wide g_high g_drown g_wind g_hedges g_fountains g_people g_tellings g_reports a_g_kinds a_g_squares a_g_voices a_g_tellers a_g_listeners a_g_witnesses a_g_claims (1) (nI v3_101) _ ) (cwV 2 hts gX3_digestAfter_X3_has rfl rfl rfl (by decide +kernel) ⟨Nat.le_of_ble_eq_true rfl, Nat.le_of_ble_eq_true rfl⟩) (pV (ci := 3) (k := 0) hKA (hP.sub (ws' := [(a_g, .inr (3, [.int g_wide, .int g_high, .int g_drown, .int g_wind, .long g_hedges, .long g_fountains, .int g_people, .int g_tellings, .int g_reports, .ref a_g_kinds, .ref a_g_squares, .ref a_g_voices, .ref a_g_tellers, .ref a_g_listeners, .ref a_g_witnesses, .ref a_g_claims]))]) [0] rfl) (hD.sub (ws' := [(a_g, .inr (3, [.int g_wide, .int g_high, .int g_drown, .int g_wind, .long g_hedges, .long g_fountains, .int g_people, .int g_tellings, .int g_reports, .ref a_g_kinds, .ref a_g_squares, .ref a_g_voices, .ref a_g_tellers, .ref a_g_listeners, .ref a_g_witnesses, .ref a_g_claims]))]) [0] (by decide) rfl) rfl rfl) rfl rfl hl.1 rfl (lv_room (Nat.le_of_ble_eq_true rfl)) dX3_digestAfter_139 ⟨Nat.le_of_ble_eq_true rfl, Nat.le_of_ble_eq_true rfl⟩) hP hS hA (fun r16 H locs hwr16 hP hS => ?_)
                have hwr16 : (r16 = 1 ∧ True) ∨ (r16 = 0 ∧ True) := hwr16
                have j150 : ∀ (s2_150 : Int32) (bs2_150 : s2_150 = 1 ∨ s2_150 = 0) (H : Heap) (locs : List Loc), va_P D vwCl [(a_g, .inr (3, [.int g_wide, .int g_high, .int g_drown, .int g_wind, .long g_hedges, .long g_fountains, .int g_people, .int g_tellings, .int g_reports, .ref a_g_kinds, .ref a_g_squares, .ref a_g_voices, .ref a_g_tellers, .ref a_g_listeners, .ref a_g_witnesses, .ref a_g_claims])), (a_g_kinds, .inl (cy 1, 5, .inl g_kinds_f)), (a_g_squares, .inl (cy 1, 5, .inl g_squares_f)), (a_g_voices, .inl (cy 1, 5, .inl g_voices_f)), (a_g_tellers, .inl (cy 1, 6, .inl g_tellers_f)), (a_g_listeners, .inl (cy 1, 6, .inl g_listeners_f)), (a_g_witnesses, .inl (cy 1, 8, .inl g_witnesses_f)), (a_g_claims, .inl (cy 1, 8, .inl g_claims_f))] H → va_D (fun _ => True) [(a_g, .inr (3, [.int g_wide, .int g_high, .int g_drown, .int g_wind, .long g_hedges, .long g_fountains, .int g_people, .int g_tellings, .int g_reports, .ref a_g_kinds, .ref a_g_squares, .ref a_g_voices, .ref a_g_tellers, .ref a_g_listeners, .ref a_g_witnesses, .ref a_g_claims])), (a_g_kinds, .inl (cy 1, 5, .inl g_kinds_f)), (a_g_squares, .inl (cy 1, 5, .inl g_squares_f)), (a_g_voices, .inl (cy 1, 5, .inl g_voices_f)), (a_g_tellers, .inl (cy 1, 6, .inl g_tellers_f)), (a_g_listeners, .inl (cy 1, 6, .inl g_listeners_f)), (a_g_witnesses, .inl (cy 1, 8, .inl g_witnesses_f)), (a_g_claims, .inl (cy 1, 8, .inl g_claims_f))] → va_S A s.heap H locs → ∀ ls : Array Slot, lv_has ls 4 [(1, .long x15), (3, .int (nI v3_101)), (0, .ref a_g)] → W p l e (headSpec wsX3_digestAfter ({ frames := 2, cells := 0, slots := 0, locals := 44 })).room s m [.ref a_g, .long px].toArray below meth c H locs 0 0 QF (F0 m 150 ls [.int s2_150, .long (31 * x15)]) := by
                  intro s2_150 bs2_150 H locs hP hD hS ls hl
                  refine lv_i2l hx hb dX3_digestAfter_150 rfl ?_
                  refine lv_ladd hx hb dX3_digestAfter_151 ?_
                  refine lv_topl (fun x17 ex17 => ?_)
                  refine lv_lstore_n (lv' := [(1, .long x17), (3, .int (nI v3_101)), (0, .ref a_g)]) hx hb dX3_digestAfter_152 rfl hl (by decide) rfl (fun ls hl => ?_)
                  refine lv_iinc (v := nI (v3_101 + 1)) (lv' := [(3, .int (nI (v3_101 + 1))), (1, .long x17), (0, .ref a_g)]) hx hb dX3_digestAfter_153 hl (k := 1) rfl (nI_1 _) (by decide) rfl (fun ls hl => ?_)
                  refine lv_goto (tgt := 101) hx hb dX3_digestAfter_156 (by decide) ?_
                  exact ih101 (v3_101 + 1) x17 (by first | omega | exact nlt_max hv3_101 (by assumption)) (by first | omega | (have := nlt_max hv3_101 (by assumption); omega)) _ _ hP hD hS ls hl
                refine lv_if_eq (tgt := 149) hx hb dX3_digestAfter_142 (by decide) (fun c18 => ?_) (fun c18 => ?_)
                · skip
                  refine lv_iconst (v := 0) hx hb dX3_digestAfter_149 (by decide) ?_
                  exact j150 0 (Or.inr rfl) _ _ hP hD hS ls hl
                · skip
                  refine lv_iconst (v := 1) hx hb dX3_digestAfter_145 (by decide) ?_
                  refine lv_goto (tgt := 150) hx hb dX3_digestAfter_146 (by decide) ?_
                  exact j150 1 (Or.inl rfl) _ _ hP hD hS ls hl
              refine lv_if_eq (tgt := 127) hx hb dX3_digestAfter_120 (by decide) (fun c19 => ?_) (fun c19 => ?_)
              · skip
                refine lv_iconst (v := 0) hx hb dX3_digestAfter_127 (by decide) ?_
                exact j128 0 (Or.inr rfl) _ _ hP hD hS ls hl
              · skip
                refine lv_iconst (v := 1) hx hb dX3_digestAfter_123 (by decide) ?_
                refine lv_goto (tgt := 128) hx hb dX3_digestAfter_124 (by decide) ?_
                exact j128 1 (Or.inl rfl) _ _ hP hD hS ls hl
        exact lp101 (2147483648 - 0 + 1) 0 v1_38 (by first | omega | exact nlt_max (by assumption) (by assumption)) (Nat.lt_succ_self _) _ _ hP hD hS ls hl
      refine lv_icmp_ge (tgt := 99) hx hb dX3_digestAfter_43 (by decide) (fun c20 => ?_) (fun c20 => ?_)
      · skip
        exact j99 _ _ hP hD hS ls hl
      · skip
        refine lv_iload_n hx hb dX3_digestAfter_46 rfl (lv_at hl 0 rfl) ?_
        refine lv_iconst (v := 5) hx hb dX3_digestAfter_47 (by decide) ?_
        refine lv_icmp_ge (tgt := 99) hx hb dX3_digestAfter_48 (by decide) (fun c21 => ?_) (fun c21 => ?_)
        · skip
          exact j99 _ _ hP hD hS ls hl
        · skip
          refine lv_ldc2 hx hb hown z0_ dX3_digestAfter_51 ?_
          refine lv_lload_n hx hb dX3_digestAfter_54 rfl (lv_at hl 1 rfl) ?_
          refine lv_lmul hx hb dX3_digestAfter_55 ?_
          refine lv_aload_n hx hb dX3_digestAfter_56 rfl (lv_at hl 2 rfl) ?_
          refine va_get (D := D) (ci := 3) (v := .ref a_g_kinds) (C := RX3) (T := TX3) (N := 16) hx hb hts zi3_ hown hK hP 0 rfl rfl 9 (by decide) z6_ (fun _ h9 => h9) rfl dX3_digestAfter_57 ?_
          refine lv_iload_n hx hb dX3_digestAfter_60 rfl (lv_at hl 0 rfl) ?_
          refine my_iald hx hb hK hP 1 1 rfl rfl (by first | exact in_ge (N := 5) (by decide) (by omega) (by assumption) | exact vp_in_nI (by omega) (by omega)) (nI_clamp (by omega)) dX3_digestAfter_61 ?_
          refine lv_i2l hx hb dX3_digestAfter_62 rfl ?_
          refine lv_ladd hx hb dX3_digestAfter_63 ?_
          refine lv_topl (fun x22 ex22 => ?_)
          refine lv_lstore_n (lv' := [(1, .long x22), (3, .int (nI v3_38)), (0, .ref a_g)]) hx hb dX3_digestAfter_64 rfl hl (by decide) rfl (fun ls hl => ?_)
          refine lv_ldc2 hx hb hown z0_ dX3_digestAfter_65 ?_
          refine lv_lload_n hx hb dX3_digestAfter_68 rfl (lv_at hl 0 rfl) ?_
          refine lv_lmul hx hb dX3_digestAfter_69 ?_
          refine lv_aload_n hx hb dX3_digestAfter_70 rfl (lv_at hl 2 rfl) ?_
          refine va_get (D := D) (ci := 3) (v := .ref a_g_squares) (C := RX3) (T := TX3) (N := 16) hx hb hts zi3_ hown hK hP 0 rfl rfl 10 (by decide) z7_ (fun _ h9 => h9) rfl dX3_digestAfter_71 ?_
          refine lv_iload_n hx hb dX3_digestAfter_74 rfl (lv_at hl 1 rfl) ?_
          refine my_iald hx hb hK hP 2 1 rfl rfl (by first | exact in_ge (N := 5) (by decide) (by omega) (by assumption) | exact vp_in_nI (by omega) (by omega)) (nI_clamp (by omega)) dX3_digestAfter_75 ?_
          refine lv_i2l hx hb dX3_digestAfter_76 rfl ?_
          refine lv_ladd hx hb dX3_digestAfter_77 ?_
          refine lv_topl (fun x23 ex23 => ?_)
          refine lv_lstore_n (lv' := [(1, .long x23), (3, .int (nI v3_38)), (0, .ref a_g)]) hx hb dX3_digestAfter_78 rfl hl (by decide) rfl (fun ls hl => ?_)
          refine lv_ldc2 hx hb hown z0_ dX3_digestAfter_79 ?_
          refine lv_lload_n hx hb dX3_digestAfter_82 rfl (lv_at hl 0 rfl) ?_
          refine lv_lmul hx hb dX3_digestAfter_83 ?_
          refine lv_aload_n hx hb dX3_digestAfter_84 rfl (lv_at hl 2 rfl) ?_
          refine va_get (D := D) (ci := 3) (v := .ref a_g_voices) (C := RX3) (T := TX3) (N := 16) hx hb hts zi3_ hown hK hP 0 rfl rfl 11 (by decide) z8_ (fun _ h9 => h9) rfl dX3_digestAfter_85 ?_
          refine lv_iload_n hx hb dX3_digestAfter_88 rfl (lv_at hl 1 rfl) ?_
          refine my_iald hx hb hK hP 3 1 rfl rfl (by first | exact in_ge (N := 5) (by decide) (by omega) (by assumption) | exact vp_in_nI (by omega) (by omega)) (nI_clamp (by omega)) dX3_digestAfter_89 ?_
          refine lv_i2l hx hb dX3_digestAfter_90 rfl ?_
          refine lv_ladd hx hb dX3_digestAfter_91 ?_
          refine lv_topl (fun x24 ex24 => ?_)
          refine lv_lstore_n (lv' := [(1, .long x24), (3, .int (nI v3_38)), (0, .ref a_g)]) hx hb dX3_digestAfter_92 rfl hl (by decide) rfl (fun ls hl => ?_)
          refine lv_iinc (v := nI (v3_38 + 1)) (lv' := [(3, .int (nI (v3_38 + 1))), (1, .long x24), (0, .ref a_g)]) hx hb dX3_digestAfter_93 hl (k := 1) rfl (nI_1 _) (by decide) rfl (fun ls hl => ?_)
          refine lv_goto (tgt := 38) hx hb dX3_digestAfter_96 (by decide) ?_
          exact ih38 (v3_38 + 1) x24 (by first | omega | exact nlt_max hv3_38 (by assumption)) (by first | omega | (have := nlt_max hv3_38 (by assumption); omega)) _ _ hP hD hS ls hl
  exact lp38 (2147483648 - 0 + 1) 0 x3 (by first | omega | exact nlt_max (by assumption) (by assumption)) (Nat.lt_succ_self _) _ _ hP hD hS ls hl
