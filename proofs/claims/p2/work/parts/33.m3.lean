theorem dX11_maySpeak_0 : decode cX11_maySpeak 0 = .ok (.iconst 0, 1) := by decide +kernel
theorem dX11_maySpeak_1 : decode cX11_maySpeak 1 = .ok (.istore_n 1, 1) := by decide +kernel
theorem dX11_maySpeak_2 : decode cX11_maySpeak 2 = .ok (.iconst 0, 1) := by decide +kernel
theorem dX11_maySpeak_3 : decode cX11_maySpeak 3 = .ok (.istore_n 2, 1) := by decide +kernel
theorem dX11_maySpeak_4 : decode cX11_maySpeak 4 = .ok (.iload_n 2, 1) := by decide +kernel
theorem dX11_maySpeak_5 : decode cX11_maySpeak 5 = .ok (.aload_n 0, 1) := by decide +kernel
set_option maxRecDepth 20000 in
theorem ggX11_maySpeak_X11_people : GoodIn wsX11_maySpeak wsX11_people := goodIn_r _ [5, 6, 70, 71, 72, 73, 74, 75, 76, 77, 78, 79, 80, 81, 82, 83, 84, 85, 86, 87, 88] (by decide +kernel) (by decide +kernel)
set_option maxRecDepth 20000 in
theorem gX11_maySpeak_X11_people : GoodIn wsX11_maySpeak (wsV RX11 53 RX11 yX11_people wsX11_people) := goodIn_app (goodIn_of _ (by decide +kernel)) ggX11_maySpeak_X11_people
theorem dX11_maySpeak_6 : decode cX11_maySpeak 6 = .ok (.invokevirtual 53, 3) := by decide +kernel
theorem dX11_maySpeak_9 : decode cX11_maySpeak 9 = .ok (.if_icmp .ge 63, 3) := by decide +kernel
theorem dX11_maySpeak_72 : decode cX11_maySpeak 72 = .ok (.iload_n 1, 1) := by decide +kernel
theorem dX11_maySpeak_73 : decode cX11_maySpeak 73 = .ok (.ireturn, 1) := by decide +kernel
theorem dX11_maySpeak_12 : decode cX11_maySpeak 12 = .ok (.iconst 1, 1) := by decide +kernel
theorem dX11_maySpeak_13 : decode cX11_maySpeak 13 = .ok (.istore_n 3, 1) := by decide +kernel
theorem dX11_maySpeak_14 : decode cX11_maySpeak 14 = .ok (.iconst 0, 1) := by decide +kernel
theorem dX11_maySpeak_15 : decode cX11_maySpeak 15 = .ok (.istore 4, 2) := by decide +kernel
theorem dX11_maySpeak_17 : decode cX11_maySpeak 17 = .ok (.iload 4, 2) := by decide +kernel
theorem dX11_maySpeak_19 : decode cX11_maySpeak 19 = .ok (.aload_n 0, 1) := by decide +kernel
theorem dX11_maySpeak_20 : decode cX11_maySpeak 20 = .ok (.invokevirtual 53, 3) := by decide +kernel
theorem dX11_maySpeak_23 : decode cX11_maySpeak 23 = .ok (.if_icmp .ge 29, 3) := by decide +kernel
theorem dX11_maySpeak_52 : decode cX11_maySpeak 52 = .ok (.iload_n 1, 1) := by decide +kernel
theorem dX11_maySpeak_53 : decode cX11_maySpeak 53 = .ok (.iload_n 3, 1) := by decide +kernel
theorem dX11_maySpeak_54 : decode cX11_maySpeak 54 = .ok (.ifCond .eq 9, 3) := by decide +kernel
theorem dX11_maySpeak_63 : decode cX11_maySpeak 63 = .ok (.iconst 0, 1) := by decide +kernel
theorem dX11_maySpeak_64 : decode cX11_maySpeak 64 = .ok (.ior, 1) := by decide +kernel
theorem dX11_maySpeak_65 : decode cX11_maySpeak 65 = .ok (.istore_n 1, 1) := by decide +kernel
theorem dX11_maySpeak_66 : decode cX11_maySpeak 66 = .ok (.iinc 2 1, 3) := by decide +kernel
theorem dX11_maySpeak_69 : decode cX11_maySpeak 69 = .ok (.goto (-65), 3) := by decide +kernel
theorem dX11_maySpeak_57 : decode cX11_maySpeak 57 = .ok (.iconst 1, 1) := by decide +kernel
theorem dX11_maySpeak_58 : decode cX11_maySpeak 58 = .ok (.iload_n 2, 1) := by decide +kernel
theorem dX11_maySpeak_59 : decode cX11_maySpeak 59 = .ok (.ishl, 1) := by decide +kernel
theorem dX11_maySpeak_60 : decode cX11_maySpeak 60 = .ok (.goto 4, 3) := by decide +kernel
theorem dX11_maySpeak_26 : decode cX11_maySpeak 26 = .ok (.iload_n 3, 1) := by decide +kernel
theorem dX11_maySpeak_27 : decode cX11_maySpeak 27 = .ok (.ifCond .eq 17, 3) := by decide +kernel
theorem dX11_maySpeak_44 : decode cX11_maySpeak 44 = .ok (.iconst 0, 1) := by decide +kernel
theorem dX11_maySpeak_45 : decode cX11_maySpeak 45 = .ok (.istore_n 3, 1) := by decide +kernel
theorem dX11_maySpeak_46 : decode cX11_maySpeak 46 = .ok (.iinc 4 1, 3) := by decide +kernel
theorem dX11_maySpeak_49 : decode cX11_maySpeak 49 = .ok (.goto (-32), 3) := by decide +kernel
theorem dX11_maySpeak_30 : decode cX11_maySpeak 30 = .ok (.aload_n 0, 1) := by decide +kernel
theorem dX11_maySpeak_31 : decode cX11_maySpeak 31 = .ok (.iload 4, 2) := by decide +kernel
theorem dX11_maySpeak_33 : decode cX11_maySpeak 33 = .ok (.iload_n 2, 1) := by decide +kernel
set_option maxRecDepth 20000 in
theorem ggX11_maySpeak_X11_breaks : GoodIn wsX11_maySpeak wsX11_breaks := goodIn_r _ [10, 11, 12, 13, 4, 14, 6, 15, 16, 17, 18, 19, 20, 21, 22, 23, 24, 25, 26, 27, 28, 29, 30, 31, 32, 33, 34, 35, 36, 37, 38, 39, 40, 41, 42, 43, 44, 45, 46, 47, 48, 49, 50, 51, 52, 53, 54, 55, 56, 57, 58, 59, 60, 61, 62, 63, 64, 65, 66, 67, 68, 69, 70, 71, 72, 73, 74, 75, 76, 77, 78, 79, 80, 81, 82, 83, 84, 85, 86, 87, 88] (by decide +kernel) (by decide +kernel)
set_option maxRecDepth 20000 in
theorem gX11_maySpeak_X11_breaks : GoodIn wsX11_maySpeak (wsV RX11 154 RX11 yX11_breaks wsX11_breaks) := goodIn_app (goodIn_of _ (by decide +kernel)) ggX11_maySpeak_X11_breaks
theorem dX11_maySpeak_34 : decode cX11_maySpeak 34 = .ok (.invokevirtual 154, 3) := by decide +kernel
theorem dX11_maySpeak_37 : decode cX11_maySpeak 37 = .ok (.ifCond .ne 7, 3) := by decide +kernel
theorem dX11_maySpeak_40 : decode cX11_maySpeak 40 = .ok (.iconst 1, 1) := by decide +kernel
theorem dX11_maySpeak_41 : decode cX11_maySpeak 41 = .ok (.goto 4, 3) := by decide +kernel
theorem dX11_judged_0 : decode cX11_judged 0 = .ok (.iconst 0, 1) := by decide +kernel
theorem dX11_judged_1 : decode cX11_judged 1 = .ok (.istore_n 2, 1) := by decide +kernel
theorem dX11_judged_2 : decode cX11_judged 2 = .ok (.iload_n 2, 1) := by decide +kernel
theorem dX11_judged_3 : decode cX11_judged 3 = .ok (.aload_n 0, 1) := by decide +kernel
set_option maxRecDepth 20000 in
theorem ggX11_judged_X11_people : GoodIn wsX11_judged wsX11_people := goodIn_r _ [5, 6, 70, 71, 72, 73, 74, 75, 76, 77, 78, 79, 80, 81, 82, 83, 84, 85, 86, 87, 88] (by decide +kernel) (by decide +kernel)
set_option maxRecDepth 20000 in
theorem gX11_judged_X11_people : GoodIn wsX11_judged (wsV RX11 53 RX11 yX11_people wsX11_people) := goodIn_app (goodIn_of _ (by decide +kernel)) ggX11_judged_X11_people
theorem dX11_judged_4 : decode cX11_judged 4 = .ok (.invokevirtual 53, 3) := by decide +kernel
theorem dX11_judged_7 : decode cX11_judged 7 = .ok (.if_icmp .ge 50, 3) := by decide +kernel
theorem dX11_judged_57 : decode cX11_judged 57 = .ok (.iconst (-1), 1) := by decide +kernel
theorem dX11_judged_58 : decode cX11_judged 58 = .ok (.ireturn, 1) := by decide +kernel
theorem dX11_judged_10 : decode cX11_judged 10 = .ok (.iconst 0, 1) := by decide +kernel
theorem dX11_judged_11 : decode cX11_judged 11 = .ok (.istore_n 3, 1) := by decide +kernel
theorem dX11_judged_12 : decode cX11_judged 12 = .ok (.iload_n 3, 1) := by decide +kernel
theorem dX11_judged_13 : decode cX11_judged 13 = .ok (.aload_n 0, 1) := by decide +kernel
theorem dX11_judged_14 : decode cX11_judged 14 = .ok (.invokevirtual 53, 3) := by decide +kernel
theorem dX11_judged_17 : decode cX11_judged 17 = .ok (.if_icmp .ge 34, 3) := by decide +kernel
theorem dX11_judged_51 : decode cX11_judged 51 = .ok (.iinc 2 1, 3) := by decide +kernel
theorem dX11_judged_54 : decode cX11_judged 54 = .ok (.goto (-52), 3) := by decide +kernel
theorem dX11_judged_20 : decode cX11_judged 20 = .ok (.iload_n 1, 1) := by decide +kernel
theorem dX11_judged_21 : decode cX11_judged 21 = .ok (.iload_n 3, 1) := by decide +kernel
theorem dX11_judged_22 : decode cX11_judged 22 = .ok (.ishr, 1) := by decide +kernel
theorem dX11_judged_23 : decode cX11_judged 23 = .ok (.iconst 1, 1) := by decide +kernel
theorem dX11_judged_24 : decode cX11_judged 24 = .ok (.iand, 1) := by decide +kernel
theorem dX11_judged_25 : decode cX11_judged 25 = .ok (.iconst 1, 1) := by decide +kernel
theorem dX11_judged_26 : decode cX11_judged 26 = .ok (.if_icmp .ne 19, 3) := by decide +kernel
theorem dX11_judged_45 : decode cX11_judged 45 = .ok (.iinc 3 1, 3) := by decide +kernel
theorem dX11_judged_48 : decode cX11_judged 48 = .ok (.goto (-36), 3) := by decide +kernel
theorem dX11_judged_29 : decode cX11_judged 29 = .ok (.aload_n 0, 1) := by decide +kernel
theorem dX11_judged_30 : decode cX11_judged 30 = .ok (.iload_n 2, 1) := by decide +kernel
theorem dX11_judged_31 : decode cX11_judged 31 = .ok (.iload_n 3, 1) := by decide +kernel
set_option maxRecDepth 20000 in
theorem ggX11_judged_X11_breaks : GoodIn wsX11_judged wsX11_breaks := goodIn_r _ [10, 11, 12, 13, 4, 14, 6, 15, 16, 17, 18, 19, 20, 21, 22, 23, 24, 25, 26, 27, 28, 29, 30, 31, 32, 33, 34, 35, 36, 37, 38, 39, 40, 41, 42, 43, 44, 45, 46, 47, 48, 49, 50, 51, 52, 53, 54, 55, 56, 57, 58, 59, 60, 61, 62, 63, 64, 65, 66, 67, 68, 69, 70, 71, 72, 73, 74, 75, 76, 77, 78, 79, 80, 81, 82, 83, 84, 85, 86, 87, 88] (by decide +kernel) (by decide +kernel)
set_option maxRecDepth 20000 in
theorem gX11_judged_X11_breaks : GoodIn wsX11_judged (wsV RX11 154 RX11 yX11_breaks wsX11_breaks) := goodIn_app (goodIn_of _ (by decide +kernel)) ggX11_judged_X11_breaks
theorem dX11_judged_32 : decode cX11_judged 32 = .ok (.invokevirtual 154, 3) := by decide +kernel
theorem dX11_judged_35 : decode cX11_judged 35 = .ok (.ifCond .eq 10, 3) := by decide +kernel
theorem dX11_judged_38 : decode cX11_judged 38 = .ok (.bipush 10, 2) := by decide +kernel
theorem dX11_judged_40 : decode cX11_judged 40 = .ok (.iload_n 2, 1) := by decide +kernel
theorem dX11_judged_41 : decode cX11_judged 41 = .ok (.imul, 1) := by decide +kernel
theorem dX11_judged_42 : decode cX11_judged 42 = .ok (.iload_n 3, 1) := by decide +kernel
theorem dX11_judged_43 : decode cX11_judged 43 = .ok (.iadd, 1) := by decide +kernel
theorem dX11_judged_44 : decode cX11_judged 44 = .ok (.ireturn, 1) := by decide +kernel
theorem dX11_isTold_0 : decode cX11_isTold 0 = .ok (.aload_n 0, 1) := by decide +kernel
set_option maxRecDepth 20000 in
theorem ggX11_isTold_X11_maySpeak : GoodIn wsX11_isTold wsX11_maySpeak := goodIn_r _ [6, 7, 8, 9, 5, 10, 1, 11, 12, 13, 14, 15, 16, 17, 18, 19, 20, 21, 22, 23, 24, 25, 26, 27, 28, 29, 30, 31, 32, 33, 34, 35, 36, 37, 38, 39, 40, 41, 42, 43, 44, 45, 46, 47, 48, 49, 50, 51, 52, 53, 54, 55, 56, 57, 58, 59, 60, 61, 62, 63, 64, 65, 66, 67, 68, 69, 70, 71, 72, 73, 74, 75, 76, 77, 78, 79, 80, 81, 82, 83, 84, 85, 86, 87, 88, 89, 90, 91, 92] (by decide +kernel) (by decide +kernel)
set_option maxRecDepth 20000 in
theorem gX11_isTold_X11_maySpeak : GoodIn wsX11_isTold (wsV RX11 157 RX11 yX11_maySpeak wsX11_maySpeak) := goodIn_app (goodIn_of _ (by decide +kernel)) ggX11_isTold_X11_maySpeak
theorem dX11_isTold_1 : decode cX11_isTold 1 = .ok (.invokevirtual 157, 3) := by decide +kernel
theorem dX11_isTold_4 : decode cX11_isTold 4 = .ok (.istore_n 2, 1) := by decide +kernel
theorem dX11_isTold_5 : decode cX11_isTold 5 = .ok (.iconst 1, 1) := by decide +kernel
theorem dX11_isTold_6 : decode cX11_isTold 6 = .ok (.istore_n 3, 1) := by decide +kernel
theorem dX11_isTold_7 : decode cX11_isTold 7 = .ok (.iconst 0, 1) := by decide +kernel
theorem dX11_isTold_8 : decode cX11_isTold 8 = .ok (.istore 4, 2) := by decide +kernel
theorem dX11_isTold_10 : decode cX11_isTold 10 = .ok (.iload 4, 2) := by decide +kernel
theorem dX11_isTold_12 : decode cX11_isTold 12 = .ok (.aload_n 0, 1) := by decide +kernel
theorem dX11_isTold_13 : decode cX11_isTold 13 = .ok (.getfield 7, 3) := by decide +kernel
theorem dX11_isTold_16 : decode cX11_isTold 16 = .ok (.bipush 92, 2) := by decide +kernel
theorem dX11_isTold_18 : decode cX11_isTold 18 = .ok (.iaload, 1) := by decide +kernel
theorem dX11_isTold_19 : decode cX11_isTold 19 = .ok (.if_icmp .ge 122, 3) := by decide +kernel
theorem dX11_isTold_141 : decode cX11_isTold 141 = .ok (.iload_n 3, 1) := by decide +kernel
theorem dX11_isTold_142 : decode cX11_isTold 142 = .ok (.ireturn, 1) := by decide +kernel
theorem dX11_isTold_22 : decode cX11_isTold 22 = .ok (.iload_n 3, 1) := by decide +kernel
theorem dX11_isTold_23 : decode cX11_isTold 23 = .ok (.ifCond .eq 118, 3) := by decide +kernel
theorem dX11_isTold_26 : decode cX11_isTold 26 = .ok (.aload_n 0, 1) := by decide +kernel
theorem dX11_isTold_27 : decode cX11_isTold 27 = .ok (.getfield 7, 3) := by decide +kernel
theorem dX11_isTold_30 : decode cX11_isTold 30 = .ok (.bipush 93, 2) := by decide +kernel
theorem dX11_isTold_32 : decode cX11_isTold 32 = .ok (.iconst 2, 1) := by decide +kernel
theorem dX11_isTold_33 : decode cX11_isTold 33 = .ok (.iload 4, 2) := by decide +kernel
theorem dX11_isTold_35 : decode cX11_isTold 35 = .ok (.imul, 1) := by decide +kernel
theorem dX11_isTold_36 : decode cX11_isTold 36 = .ok (.iadd, 1) := by decide +kernel
theorem dX11_isTold_37 : decode cX11_isTold 37 = .ok (.iaload, 1) := by decide +kernel
theorem dX11_isTold_38 : decode cX11_isTold 38 = .ok (.istore 5, 2) := by decide +kernel
theorem dX11_isTold_40 : decode cX11_isTold 40 = .ok (.iload_n 2, 1) := by decide +kernel
theorem dX11_isTold_41 : decode cX11_isTold 41 = .ok (.iload 5, 2) := by decide +kernel
theorem dX11_isTold_43 : decode cX11_isTold 43 = .ok (.ishr, 1) := by decide +kernel
theorem dX11_isTold_44 : decode cX11_isTold 44 = .ok (.iconst 1, 1) := by decide +kernel
theorem dX11_isTold_45 : decode cX11_isTold 45 = .ok (.iand, 1) := by decide +kernel
theorem dX11_isTold_46 : decode cX11_isTold 46 = .ok (.iconst 1, 1) := by decide +kernel
theorem dX11_isTold_78 : decode cX11_isTold 78 = .ok (.istore_n 3, 1) := by decide +kernel
theorem dX11_isTold_79 : decode cX11_isTold 79 = .ok (.iconst 0, 1) := by decide +kernel
theorem dX11_isTold_80 : decode cX11_isTold 80 = .ok (.istore 6, 2) := by decide +kernel
theorem dX11_isTold_82 : decode cX11_isTold 82 = .ok (.iload 6, 2) := by decide +kernel
theorem dX11_isTold_84 : decode cX11_isTold 84 = .ok (.aload_n 0, 1) := by decide +kernel
set_option maxRecDepth 20000 in
theorem ggX11_isTold_X11_people : GoodIn wsX11_isTold wsX11_people := goodIn_r _ [10, 1, 74, 75, 76, 77, 78, 79, 80, 81, 82, 83, 84, 85, 86, 87, 88, 89, 90, 91, 92] (by decide +kernel) (by decide +kernel)
set_option maxRecDepth 20000 in
theorem gX11_isTold_X11_people : GoodIn wsX11_isTold (wsV RX11 53 RX11 yX11_people wsX11_people) := goodIn_app (goodIn_of _ (by decide +kernel)) ggX11_isTold_X11_people
theorem dX11_isTold_85 : decode cX11_isTold 85 = .ok (.invokevirtual 53, 3) := by decide +kernel
theorem dX11_isTold_88 : decode cX11_isTold 88 = .ok (.if_icmp .ge 47, 3) := by decide +kernel
theorem dX11_isTold_135 : decode cX11_isTold 135 = .ok (.iinc 4 1, 3) := by decide +kernel
theorem dX11_isTold_138 : decode cX11_isTold 138 = .ok (.goto (-128), 3) := by decide +kernel
theorem dX11_isTold_91 : decode cX11_isTold 91 = .ok (.iload_n 3, 1) := by decide +kernel
theorem dX11_isTold_92 : decode cX11_isTold 92 = .ok (.ifCond .eq 35, 3) := by decide +kernel
theorem dX11_isTold_127 : decode cX11_isTold 127 = .ok (.iconst 0, 1) := by decide +kernel
theorem dX11_isTold_128 : decode cX11_isTold 128 = .ok (.istore_n 3, 1) := by decide +kernel
theorem dX11_isTold_129 : decode cX11_isTold 129 = .ok (.iinc 6 1, 3) := by decide +kernel
theorem dX11_isTold_132 : decode cX11_isTold 132 = .ok (.goto (-50), 3) := by decide +kernel
theorem dX11_isTold_95 : decode cX11_isTold 95 = .ok (.iload_n 1, 1) := by decide +kernel
theorem dX11_isTold_96 : decode cX11_isTold 96 = .ok (.iload 6, 2) := by decide +kernel
theorem dX11_isTold_98 : decode cX11_isTold 98 = .ok (.ishr, 1) := by decide +kernel
theorem dX11_isTold_99 : decode cX11_isTold 99 = .ok (.iconst 1, 1) := by decide +kernel
theorem dX11_isTold_100 : decode cX11_isTold 100 = .ok (.iand, 1) := by decide +kernel
theorem dX11_isTold_101 : decode cX11_isTold 101 = .ok (.iconst 1, 1) := by decide +kernel
theorem dX11_isTold_102 : decode cX11_isTold 102 = .ok (.if_icmp .ne 21, 3) := by decide +kernel
theorem dX11_isTold_123 : decode cX11_isTold 123 = .ok (.iconst 1, 1) := by decide +kernel
theorem dX11_isTold_124 : decode cX11_isTold 124 = .ok (.goto 4, 3) := by decide +kernel
theorem dX11_isTold_105 : decode cX11_isTold 105 = .ok (.iload 6, 2) := by decide +kernel
theorem dX11_isTold_107 : decode cX11_isTold 107 = .ok (.iload 5, 2) := by decide +kernel
theorem dX11_isTold_109 : decode cX11_isTold 109 = .ok (.if_icmp .eq 14, 3) := by decide +kernel
theorem dX11_isTold_112 : decode cX11_isTold 112 = .ok (.aload_n 0, 1) := by decide +kernel
theorem dX11_isTold_113 : decode cX11_isTold 113 = .ok (.iload 6, 2) := by decide +kernel
theorem dX11_isTold_115 : decode cX11_isTold 115 = .ok (.iload 5, 2) := by decide +kernel
set_option maxRecDepth 20000 in
theorem ggX11_isTold_X11_hears : GoodIn wsX11_isTold wsX11_hears := goodIn_r _ [61, 15, 16, 17, 5, 18, 1, 62, 63, 64, 65, 47, 48, 49, 50, 27, 28, 29, 30, 51, 52, 53, 23, 24, 25, 26, 66, 67, 68, 69, 70, 71, 72, 73, 35, 36, 37, 38, 74, 75, 76, 77, 78, 79, 80, 81, 82, 83, 84, 85, 86, 87, 88, 89, 90, 91, 92] (by decide +kernel) (by decide +kernel)
set_option maxRecDepth 20000 in
theorem gX11_isTold_X11_hears : GoodIn wsX11_isTold (wsV RX11 151 RX11 yX11_hears wsX11_hears) := goodIn_app (goodIn_of _ (by decide +kernel)) ggX11_isTold_X11_hears
theorem dX11_isTold_117 : decode cX11_isTold 117 = .ok (.invokevirtual 151, 3) := by decide +kernel
theorem dX11_isTold_120 : decode cX11_isTold 120 = .ok (.ifCond .ne 7, 3) := by decide +kernel
theorem dX11_isTold_47 : decode cX11_isTold 47 = .ok (.if_icmp .ne 30, 3) := by decide +kernel
theorem dX11_isTold_77 : decode cX11_isTold 77 = .ok (.iconst 0, 1) := by decide +kernel
theorem dX11_isTold_50 : decode cX11_isTold 50 = .ok (.aload_n 0, 1) := by decide +kernel
theorem dX11_isTold_51 : decode cX11_isTold 51 = .ok (.aload_n 0, 1) := by decide +kernel
theorem dX11_isTold_52 : decode cX11_isTold 52 = .ok (.getfield 7, 3) := by decide +kernel
theorem dX11_isTold_55 : decode cX11_isTold 55 = .ok (.bipush 93, 2) := by decide +kernel
theorem dX11_isTold_57 : decode cX11_isTold 57 = .ok (.iconst 2, 1) := by decide +kernel
theorem dX11_isTold_58 : decode cX11_isTold 58 = .ok (.iload 4, 2) := by decide +kernel
theorem dX11_isTold_60 : decode cX11_isTold 60 = .ok (.imul, 1) := by decide +kernel
theorem dX11_isTold_61 : decode cX11_isTold 61 = .ok (.iadd, 1) := by decide +kernel
theorem dX11_isTold_62 : decode cX11_isTold 62 = .ok (.iconst 1, 1) := by decide +kernel
theorem dX11_isTold_63 : decode cX11_isTold 63 = .ok (.iadd, 1) := by decide +kernel
theorem dX11_isTold_64 : decode cX11_isTold 64 = .ok (.iaload, 1) := by decide +kernel
theorem dX11_isTold_65 : decode cX11_isTold 65 = .ok (.iload 5, 2) := by decide +kernel
theorem dX11_isTold_67 : decode cX11_isTold 67 = .ok (.invokevirtual 151, 3) := by decide +kernel
theorem dX11_isTold_70 : decode cX11_isTold 70 = .ok (.ifCond .eq 7, 3) := by decide +kernel
theorem dX11_isTold_73 : decode cX11_isTold 73 = .ok (.iconst 1, 1) := by decide +kernel
theorem dX11_isTold_74 : decode cX11_isTold 74 = .ok (.goto 4, 3) := by decide +kernel
theorem dX11_isHeardBy_0 : decode cX11_isHeardBy 0 = .ok (.iconst 0, 1) := by decide +kernel
theorem dX11_isHeardBy_1 : decode cX11_isHeardBy 1 = .ok (.istore_n 3, 1) := by decide +kernel
theorem dX11_isHeardBy_2 : decode cX11_isHeardBy 2 = .ok (.iconst 0, 1) := by decide +kernel
theorem dX11_isHeardBy_3 : decode cX11_isHeardBy 3 = .ok (.istore 4, 2) := by decide +kernel
theorem dX11_isHeardBy_5 : decode cX11_isHeardBy 5 = .ok (.iload 4, 2) := by decide +kernel
theorem dX11_isHeardBy_7 : decode cX11_isHeardBy 7 = .ok (.aload_n 0, 1) := by decide +kernel
set_option maxRecDepth 20000 in
theorem ggX11_isHeardBy_X11_people : GoodIn wsX11_isHeardBy wsX11_people := goodIn_r _ [5, 6, 46, 47, 48, 49, 50, 51, 52, 53, 54, 55, 56, 57, 58, 59, 60, 61, 62, 63, 64] (by decide +kernel) (by decide +kernel)
set_option maxRecDepth 20000 in
theorem gX11_isHeardBy_X11_people : GoodIn wsX11_isHeardBy (wsV RX11 53 RX11 yX11_people wsX11_people) := goodIn_app (goodIn_of _ (by decide +kernel)) ggX11_isHeardBy_X11_people
theorem dX11_isHeardBy_8 : decode cX11_isHeardBy 8 = .ok (.invokevirtual 53, 3) := by decide +kernel
theorem dX11_isHeardBy_11 : decode cX11_isHeardBy 11 = .ok (.if_icmp .ge 45, 3) := by decide +kernel
theorem dX11_isHeardBy_56 : decode cX11_isHeardBy 56 = .ok (.iload_n 3, 1) := by decide +kernel
theorem dX11_isHeardBy_57 : decode cX11_isHeardBy 57 = .ok (.ireturn, 1) := by decide +kernel
theorem dX11_isHeardBy_14 : decode cX11_isHeardBy 14 = .ok (.iload_n 3, 1) := by decide +kernel
theorem dX11_isHeardBy_15 : decode cX11_isHeardBy 15 = .ok (.ifCond .ne 29, 3) := by decide +kernel
theorem dX11_isHeardBy_44 : decode cX11_isHeardBy 44 = .ok (.iconst 1, 1) := by decide +kernel
theorem dX11_isHeardBy_45 : decode cX11_isHeardBy 45 = .ok (.goto 4, 3) := by decide +kernel
theorem dX11_isHeardBy_49 : decode cX11_isHeardBy 49 = .ok (.istore_n 3, 1) := by decide +kernel
theorem dX11_isHeardBy_50 : decode cX11_isHeardBy 50 = .ok (.iinc 4 1, 3) := by decide +kernel
theorem dX11_isHeardBy_53 : decode cX11_isHeardBy 53 = .ok (.goto (-48), 3) := by decide +kernel
theorem dX11_isHeardBy_18 : decode cX11_isHeardBy 18 = .ok (.iload_n 2, 1) := by decide +kernel
theorem dX11_isHeardBy_19 : decode cX11_isHeardBy 19 = .ok (.iload 4, 2) := by decide +kernel
theorem dX11_isHeardBy_21 : decode cX11_isHeardBy 21 = .ok (.ishr, 1) := by decide +kernel
theorem dX11_isHeardBy_22 : decode cX11_isHeardBy 22 = .ok (.iconst 1, 1) := by decide +kernel
theorem dX11_isHeardBy_23 : decode cX11_isHeardBy 23 = .ok (.iand, 1) := by decide +kernel
theorem dX11_isHeardBy_24 : decode cX11_isHeardBy 24 = .ok (.iconst 1, 1) := by decide +kernel
theorem dX11_isHeardBy_25 : decode cX11_isHeardBy 25 = .ok (.if_icmp .ne 23, 3) := by decide +kernel
theorem dX11_isHeardBy_48 : decode cX11_isHeardBy 48 = .ok (.iconst 0, 1) := by decide +kernel
theorem dX11_isHeardBy_28 : decode cX11_isHeardBy 28 = .ok (.iload 4, 2) := by decide +kernel
theorem dX11_isHeardBy_30 : decode cX11_isHeardBy 30 = .ok (.iload_n 1, 1) := by decide +kernel
theorem dX11_isHeardBy_31 : decode cX11_isHeardBy 31 = .ok (.if_icmp .eq 17, 3) := by decide +kernel
theorem dX11_isHeardBy_34 : decode cX11_isHeardBy 34 = .ok (.aload_n 0, 1) := by decide +kernel
theorem dX11_isHeardBy_35 : decode cX11_isHeardBy 35 = .ok (.iload 4, 2) := by decide +kernel
theorem dX11_isHeardBy_37 : decode cX11_isHeardBy 37 = .ok (.iload_n 1, 1) := by decide +kernel
set_option maxRecDepth 20000 in
theorem ggX11_isHeardBy_X11_hears : GoodIn wsX11_isHeardBy wsX11_hears := goodIn_r _ [10, 11, 12, 13, 4, 14, 6, 15, 16, 17, 18, 19, 20, 21, 22, 23, 24, 25, 26, 27, 28, 29, 30, 31, 32, 33, 34, 35, 36, 37, 38, 39, 40, 41, 42, 43, 44, 45, 46, 47, 48, 49, 50, 51, 52, 53, 54, 55, 56, 57, 58, 59, 60, 61, 62, 63, 64] (by decide +kernel) (by decide +kernel)
set_option maxRecDepth 20000 in
theorem gX11_isHeardBy_X11_hears : GoodIn wsX11_isHeardBy (wsV RX11 151 RX11 yX11_hears wsX11_hears) := goodIn_app (goodIn_of _ (by decide +kernel)) ggX11_isHeardBy_X11_hears
theorem dX11_isHeardBy_38 : decode cX11_isHeardBy 38 = .ok (.invokevirtual 151, 3) := by decide +kernel
theorem dX11_isHeardBy_41 : decode cX11_isHeardBy 41 = .ok (.ifCond .eq 7, 3) := by decide +kernel
theorem dX11_manySpeakers_0 : decode cX11_manySpeakers 0 = .ok (.aload_n 0, 1) := by decide +kernel
set_option maxRecDepth 20000 in
theorem ggX11_manySpeakers_X11_maySpeak : GoodIn wsX11_manySpeakers wsX11_maySpeak := goodIn_r _ [5, 6, 7, 8, 4, 9, 10, 11, 12, 13, 14, 15, 16, 17, 18, 19, 20, 21, 22, 23, 24, 25, 26, 27, 28, 29, 30, 31, 32, 33, 34, 35, 36, 37, 38, 39, 40, 41, 42, 43, 44, 45, 46, 47, 48, 49, 50, 51, 52, 53, 54, 55, 56, 57, 58, 59, 60, 61, 62, 63, 64, 65, 66, 67, 68, 69, 70, 71, 72, 73, 78, 79, 80, 81, 82, 83, 84, 85, 86, 87, 88, 89, 90, 91, 92, 93, 94, 95, 96] (by decide +kernel) (by decide +kernel)
set_option maxRecDepth 20000 in
theorem gX11_manySpeakers_X11_maySpeak : GoodIn wsX11_manySpeakers (wsV RX11 157 RX11 yX11_maySpeak wsX11_maySpeak) := goodIn_app (goodIn_of _ (by decide +kernel)) ggX11_manySpeakers_X11_maySpeak
theorem dX11_manySpeakers_1 : decode cX11_manySpeakers 1 = .ok (.invokevirtual 157, 3) := by decide +kernel
theorem dX11_manySpeakers_4 : decode cX11_manySpeakers 4 = .ok (.istore_n 1, 1) := by decide +kernel
theorem dX11_manySpeakers_5 : decode cX11_manySpeakers 5 = .ok (.iconst 1, 1) := by decide +kernel
theorem dX11_manySpeakers_6 : decode cX11_manySpeakers 6 = .ok (.aload_n 0, 1) := by decide +kernel
set_option maxRecDepth 20000 in
theorem ggX11_manySpeakers_X11_people : GoodIn wsX11_manySpeakers wsX11_people := goodIn_r _ [9, 10, 78, 79, 80, 81, 82, 83, 84, 85, 86, 87, 88, 89, 90, 91, 92, 93, 94, 95, 96] (by decide +kernel) (by decide +kernel)
set_option maxRecDepth 20000 in
theorem gX11_manySpeakers_X11_people : GoodIn wsX11_manySpeakers (wsV RX11 53 RX11 yX11_people wsX11_people) := goodIn_app (goodIn_of _ (by decide +kernel)) ggX11_manySpeakers_X11_people
theorem dX11_manySpeakers_7 : decode cX11_manySpeakers 7 = .ok (.invokevirtual 53, 3) := by decide +kernel
theorem dX11_manySpeakers_10 : decode cX11_manySpeakers 10 = .ok (.ishl, 1) := by decide +kernel
theorem dX11_manySpeakers_11 : decode cX11_manySpeakers 11 = .ok (.iconst 1, 1) := by decide +kernel
theorem dX11_manySpeakers_12 : decode cX11_manySpeakers 12 = .ok (.isub, 1) := by decide +kernel
theorem dX11_manySpeakers_13 : decode cX11_manySpeakers 13 = .ok (.istore_n 2, 1) := by decide +kernel
theorem dX11_manySpeakers_14 : decode cX11_manySpeakers 14 = .ok (.iconst 0, 1) := by decide +kernel
theorem dX11_manySpeakers_15 : decode cX11_manySpeakers 15 = .ok (.istore_n 3, 1) := by decide +kernel
theorem dX11_manySpeakers_16 : decode cX11_manySpeakers 16 = .ok (.iconst 0, 1) := by decide +kernel
theorem dX11_manySpeakers_17 : decode cX11_manySpeakers 17 = .ok (.istore 4, 2) := by decide +kernel
theorem dX11_manySpeakers_19 : decode cX11_manySpeakers 19 = .ok (.iload 4, 2) := by decide +kernel
theorem dX11_manySpeakers_21 : decode cX11_manySpeakers 21 = .ok (.aload_n 0, 1) := by decide +kernel
theorem dX11_manySpeakers_22 : decode cX11_manySpeakers 22 = .ok (.invokevirtual 53, 3) := by decide +kernel
theorem dX11_manySpeakers_25 : decode cX11_manySpeakers 25 = .ok (.if_icmp .ge 37, 3) := by decide +kernel
theorem dX11_manySpeakers_62 : decode cX11_manySpeakers 62 = .ok (.iload_n 3, 1) := by decide +kernel
theorem dX11_manySpeakers_63 : decode cX11_manySpeakers 63 = .ok (.ireturn, 1) := by decide +kernel
theorem dX11_manySpeakers_28 : decode cX11_manySpeakers 28 = .ok (.iload_n 3, 1) := by decide +kernel
theorem dX11_manySpeakers_29 : decode cX11_manySpeakers 29 = .ok (.iload_n 1, 1) := by decide +kernel
theorem dX11_manySpeakers_30 : decode cX11_manySpeakers 30 = .ok (.iload 4, 2) := by decide +kernel
theorem dX11_manySpeakers_32 : decode cX11_manySpeakers 32 = .ok (.ishr, 1) := by decide +kernel
theorem dX11_manySpeakers_33 : decode cX11_manySpeakers 33 = .ok (.iconst 1, 1) := by decide +kernel
theorem dX11_manySpeakers_34 : decode cX11_manySpeakers 34 = .ok (.iand, 1) := by decide +kernel
theorem dX11_manySpeakers_35 : decode cX11_manySpeakers 35 = .ok (.iconst 1, 1) := by decide +kernel
theorem dX11_manySpeakers_36 : decode cX11_manySpeakers 36 = .ok (.if_icmp .ne 17, 3) := by decide +kernel
theorem dX11_manySpeakers_53 : decode cX11_manySpeakers 53 = .ok (.iconst 0, 1) := by decide +kernel
theorem dX11_manySpeakers_54 : decode cX11_manySpeakers 54 = .ok (.iadd, 1) := by decide +kernel
theorem dX11_manySpeakers_55 : decode cX11_manySpeakers 55 = .ok (.istore_n 3, 1) := by decide +kernel
theorem dX11_manySpeakers_56 : decode cX11_manySpeakers 56 = .ok (.iinc 4 1, 3) := by decide +kernel
theorem dX11_manySpeakers_59 : decode cX11_manySpeakers 59 = .ok (.goto (-40), 3) := by decide +kernel
theorem dX11_manySpeakers_39 : decode cX11_manySpeakers 39 = .ok (.aload_n 0, 1) := by decide +kernel
theorem dX11_manySpeakers_40 : decode cX11_manySpeakers 40 = .ok (.iload 4, 2) := by decide +kernel
theorem dX11_manySpeakers_42 : decode cX11_manySpeakers 42 = .ok (.iload_n 2, 1) := by decide +kernel
set_option maxRecDepth 20000 in
theorem ggX11_manySpeakers_X11_isHeardBy : GoodIn wsX11_manySpeakers wsX11_isHeardBy := goodIn_r _ [77, 6, 7, 8, 4, 9, 10, 58, 59, 60, 61, 15, 16, 17, 18, 62, 63, 64, 65, 47, 48, 49, 50, 27, 28, 29, 30, 51, 52, 53, 23, 24, 25, 26, 66, 67, 68, 69, 70, 71, 72, 73, 35, 36, 37, 38, 78, 79, 80, 81, 82, 83, 84, 85, 86, 87, 88, 89, 90, 91, 92, 93, 94, 95, 96] (by decide +kernel) (by decide +kernel)
set_option maxRecDepth 20000 in
theorem gX11_manySpeakers_X11_isHeardBy : GoodIn wsX11_manySpeakers (wsV RX11 185 RX11 yX11_isHeardBy wsX11_isHeardBy) := goodIn_app (goodIn_of _ (by decide +kernel)) ggX11_manySpeakers_X11_isHeardBy
theorem dX11_manySpeakers_43 : decode cX11_manySpeakers 43 = .ok (.invokevirtual 185, 3) := by decide +kernel
theorem dX11_manySpeakers_46 : decode cX11_manySpeakers 46 = .ok (.ifCond .eq 7, 3) := by decide +kernel
theorem dX11_manySpeakers_49 : decode cX11_manySpeakers 49 = .ok (.iconst 1, 1) := by decide +kernel
theorem dX11_manySpeakers_50 : decode cX11_manySpeakers 50 = .ok (.goto 4, 3) := by decide +kernel
theorem dX11_isReported_0 : decode cX11_isReported 0 = .ok (.iconst 1, 1) := by decide +kernel
theorem dX11_isReported_1 : decode cX11_isReported 1 = .ok (.istore_n 2, 1) := by decide +kernel
theorem dX11_isReported_2 : decode cX11_isReported 2 = .ok (.iconst 0, 1) := by decide +kernel
theorem dX11_isReported_3 : decode cX11_isReported 3 = .ok (.istore_n 3, 1) := by decide +kernel
theorem dX11_isReported_4 : decode cX11_isReported 4 = .ok (.iload_n 3, 1) := by decide +kernel
theorem dX11_isReported_5 : decode cX11_isReported 5 = .ok (.aload_n 0, 1) := by decide +kernel
theorem dX11_isReported_6 : decode cX11_isReported 6 = .ok (.getfield 7, 3) := by decide +kernel
theorem dX11_isReported_9 : decode cX11_isReported 9 = .ok (.bipush 105, 2) := by decide +kernel
theorem dX11_isReported_11 : decode cX11_isReported 11 = .ok (.iaload, 1) := by decide +kernel
theorem dX11_isReported_12 : decode cX11_isReported 12 = .ok (.if_icmp .ge 95, 3) := by decide +kernel
theorem dX11_isReported_107 : decode cX11_isReported 107 = .ok (.iload_n 2, 1) := by decide +kernel
theorem dX11_isReported_108 : decode cX11_isReported 108 = .ok (.ireturn, 1) := by decide +kernel
theorem dX11_isReported_15 : decode cX11_isReported 15 = .ok (.aload_n 0, 1) := by decide +kernel
theorem dX11_isReported_16 : decode cX11_isReported 16 = .ok (.getfield 7, 3) := by decide +kernel
theorem dX11_isReported_19 : decode cX11_isReported 19 = .ok (.bipush 106, 2) := by decide +kernel
theorem dX11_isReported_21 : decode cX11_isReported 21 = .ok (.iconst 2, 1) := by decide +kernel
theorem dX11_isReported_22 : decode cX11_isReported 22 = .ok (.iload_n 3, 1) := by decide +kernel
theorem dX11_isReported_23 : decode cX11_isReported 23 = .ok (.imul, 1) := by decide +kernel
theorem dX11_isReported_24 : decode cX11_isReported 24 = .ok (.iadd, 1) := by decide +kernel
theorem dX11_isReported_25 : decode cX11_isReported 25 = .ok (.iaload, 1) := by decide +kernel
theorem dX11_isReported_26 : decode cX11_isReported 26 = .ok (.istore 4, 2) := by decide +kernel
theorem dX11_isReported_28 : decode cX11_isReported 28 = .ok (.aload_n 0, 1) := by decide +kernel
theorem dX11_isReported_29 : decode cX11_isReported 29 = .ok (.getfield 7, 3) := by decide +kernel
theorem dX11_isReported_32 : decode cX11_isReported 32 = .ok (.bipush 106, 2) := by decide +kernel
theorem dX11_isReported_34 : decode cX11_isReported 34 = .ok (.iconst 2, 1) := by decide +kernel
theorem dX11_isReported_35 : decode cX11_isReported 35 = .ok (.iload_n 3, 1) := by decide +kernel
theorem dX11_isReported_36 : decode cX11_isReported 36 = .ok (.imul, 1) := by decide +kernel
theorem dX11_isReported_37 : decode cX11_isReported 37 = .ok (.iadd, 1) := by decide +kernel
theorem dX11_isReported_38 : decode cX11_isReported 38 = .ok (.iconst 1, 1) := by decide +kernel
theorem dX11_isReported_39 : decode cX11_isReported 39 = .ok (.iadd, 1) := by decide +kernel
theorem dX11_isReported_40 : decode cX11_isReported 40 = .ok (.iaload, 1) := by decide +kernel
theorem dX11_isReported_41 : decode cX11_isReported 41 = .ok (.istore 5, 2) := by decide +kernel
theorem dX11_isReported_43 : decode cX11_isReported 43 = .ok (.iload 4, 2) := by decide +kernel
theorem dX11_isReported_45 : decode cX11_isReported 45 = .ok (.iload_n 1, 1) := by decide +kernel
theorem dX11_isReported_46 : decode cX11_isReported 46 = .ok (.if_icmp .eq 55, 3) := by decide +kernel
theorem dX11_isReported_101 : decode cX11_isReported 101 = .ok (.iinc 3 1, 3) := by decide +kernel
theorem dX11_isReported_104 : decode cX11_isReported 104 = .ok (.goto (-100), 3) := by decide +kernel
theorem dX11_isReported_49 : decode cX11_isReported 49 = .ok (.iload 5, 2) := by decide +kernel
theorem dX11_isReported_51 : decode cX11_isReported 51 = .ok (.iconst 2, 1) := by decide +kernel
theorem dX11_isReported_72 : decode cX11_isReported 72 = .ok (.istore 6, 2) := by decide +kernel
theorem dX11_isReported_74 : decode cX11_isReported 74 = .ok (.iload_n 2, 1) := by decide +kernel
theorem dX11_isReported_75 : decode cX11_isReported 75 = .ok (.ifCond .eq 24, 3) := by decide +kernel
theorem dX11_isReported_99 : decode cX11_isReported 99 = .ok (.iconst 0, 1) := by decide +kernel
theorem dX11_isReported_100 : decode cX11_isReported 100 = .ok (.istore_n 2, 1) := by decide +kernel
theorem dX11_isReported_78 : decode cX11_isReported 78 = .ok (.iload 6, 2) := by decide +kernel
theorem dX11_isReported_80 : decode cX11_isReported 80 = .ok (.iload 5, 2) := by decide +kernel
theorem dX11_isReported_82 : decode cX11_isReported 82 = .ok (.iconst 2, 1) := by decide +kernel
theorem dX11_isReported_83 : decode cX11_isReported 83 = .ok (.irem, 1) := by decide +kernel
theorem dX11_isReported_92 : decode cX11_isReported 92 = .ok (.if_icmp .ne 7, 3) := by decide +kernel
theorem dX11_isReported_95 : decode cX11_isReported 95 = .ok (.iconst 1, 1) := by decide +kernel
theorem dX11_isReported_96 : decode cX11_isReported 96 = .ok (.goto 4, 3) := by decide +kernel
theorem dX11_isReported_84 : decode cX11_isReported 84 = .ok (.ifCond .ne 7, 3) := by decide +kernel
theorem dX11_isReported_91 : decode cX11_isReported 91 = .ok (.iconst 0, 1) := by decide +kernel
theorem dX11_isReported_87 : decode cX11_isReported 87 = .ok (.iconst 1, 1) := by decide +kernel
theorem dX11_isReported_88 : decode cX11_isReported 88 = .ok (.goto 4, 3) := by decide +kernel
theorem dX11_isReported_52 : decode cX11_isReported 52 = .ok (.if_icmp .ge 13, 3) := by decide +kernel
theorem dX11_isReported_65 : decode cX11_isReported 65 = .ok (.aload_n 0, 1) := by decide +kernel
theorem dX11_isReported_66 : decode cX11_isReported 66 = .ok (.iload 4, 2) := by decide +kernel
theorem dX11_isReported_68 : decode cX11_isReported 68 = .ok (.iload_n 1, 1) := by decide +kernel
set_option maxRecDepth 20000 in
theorem ggX11_isReported_X11_hears : GoodIn wsX11_isReported wsX11_hears := goodIn_r _ [49, 7, 8, 9, 5, 10, 1, 50, 51, 52, 53, 35, 36, 37, 38, 15, 16, 17, 18, 39, 40, 41, 11, 12, 13, 14, 54, 55, 56, 57, 58, 59, 60, 61, 23, 24, 25, 26, 62, 63, 64, 65, 66, 67, 68, 69, 70, 71, 72, 73, 74, 75, 76, 77, 78, 79, 80] (by decide +kernel) (by decide +kernel)
set_option maxRecDepth 20000 in
theorem gX11_isReported_X11_hears : GoodIn wsX11_isReported (wsV RX11 151 RX11 yX11_hears wsX11_hears) := goodIn_app (goodIn_of _ (by decide +kernel)) ggX11_isReported_X11_hears
theorem dX11_isReported_69 : decode cX11_isReported 69 = .ok (.invokevirtual 151, 3) := by decide +kernel
theorem dX11_isReported_55 : decode cX11_isReported 55 = .ok (.aload_n 0, 1) := by decide +kernel
theorem dX11_isReported_56 : decode cX11_isReported 56 = .ok (.iload 4, 2) := by decide +kernel
theorem dX11_isReported_58 : decode cX11_isReported 58 = .ok (.iload_n 1, 1) := by decide +kernel
set_option maxRecDepth 20000 in
theorem ggX11_isReported_X11_sees : GoodIn wsX11_isReported wsX11_sees := goodIn_r _ [6, 7, 8, 9, 5, 10, 1, 11, 12, 13, 14, 15, 16, 17, 18, 19, 20, 21, 22, 23, 24, 25, 26, 27, 28, 29, 30, 31, 32, 33, 34, 35, 36, 37, 38, 39, 40, 41, 42, 43, 44, 45, 62, 63, 64, 65, 66, 67, 68, 69, 70, 71, 72, 73, 74, 75, 76, 77, 78, 79, 80] (by decide +kernel) (by decide +kernel)
set_option maxRecDepth 20000 in
theorem gX11_isReported_X11_sees : GoodIn wsX11_isReported (wsV RX11 148 RX11 yX11_sees wsX11_sees) := goodIn_app (goodIn_of _ (by decide +kernel)) ggX11_isReported_X11_sees
theorem dX11_isReported_59 : decode cX11_isReported 59 = .ok (.invokevirtual 148, 3) := by decide +kernel
theorem dX11_isReported_62 : decode cX11_isReported 62 = .ok (.goto 10, 3) := by decide +kernel
theorem dX11_manyOf_0 : decode cX11_manyOf 0 = .ok (.iconst 0, 1) := by decide +kernel
theorem dX11_manyOf_1 : decode cX11_manyOf 1 = .ok (.istore_n 2, 1) := by decide +kernel
theorem dX11_manyOf_2 : decode cX11_manyOf 2 = .ok (.iconst 0, 1) := by decide +kernel
theorem dX11_manyOf_3 : decode cX11_manyOf 3 = .ok (.istore_n 3, 1) := by decide +kernel
theorem dX11_manyOf_4 : decode cX11_manyOf 4 = .ok (.iload_n 3, 1) := by decide +kernel
theorem dX11_manyOf_5 : decode cX11_manyOf 5 = .ok (.aload_n 0, 1) := by decide +kernel
set_option maxRecDepth 20000 in
theorem ggX11_manyOf_X11_squares : GoodIn wsX11_manyOf wsX11_squares := goodIn_r _ [6, 1, 7, 8, 9, 10, 11, 12, 13, 14, 15, 16, 17, 18, 19, 20, 21, 22, 23, 24, 25] (by decide +kernel) (by decide +kernel)
set_option maxRecDepth 20000 in
theorem gX11_manyOf_X11_squares : GoodIn wsX11_manyOf (wsV RX11 45 RX11 yX11_squares wsX11_squares) := goodIn_app (goodIn_of _ (by decide +kernel)) ggX11_manyOf_X11_squares
theorem dX11_manyOf_6 : decode cX11_manyOf 6 = .ok (.invokevirtual 45, 3) := by decide +kernel
theorem dX11_manyOf_9 : decode cX11_manyOf 9 = .ok (.if_icmp .ge 20, 3) := by decide +kernel
theorem dX11_manyOf_29 : decode cX11_manyOf 29 = .ok (.iload_n 2, 1) := by decide +kernel
theorem dX11_manyOf_30 : decode cX11_manyOf 30 = .ok (.ireturn, 1) := by decide +kernel
theorem dX11_manyOf_12 : decode cX11_manyOf 12 = .ok (.iload_n 2, 1) := by decide +kernel
theorem dX11_manyOf_13 : decode cX11_manyOf 13 = .ok (.aload_n 0, 1) := by decide +kernel
theorem dX11_manyOf_14 : decode cX11_manyOf 14 = .ok (.getfield 7, 3) := by decide +kernel
theorem dX11_manyOf_17 : decode cX11_manyOf 17 = .ok (.iload_n 1, 1) := by decide +kernel
theorem dX11_manyOf_18 : decode cX11_manyOf 18 = .ok (.iload_n 3, 1) := by decide +kernel
theorem dX11_manyOf_19 : decode cX11_manyOf 19 = .ok (.iadd, 1) := by decide +kernel
theorem dX11_manyOf_20 : decode cX11_manyOf 20 = .ok (.iaload, 1) := by decide +kernel
theorem dX11_manyOf_21 : decode cX11_manyOf 21 = .ok (.iadd, 1) := by decide +kernel
theorem dX11_manyOf_22 : decode cX11_manyOf 22 = .ok (.istore_n 2, 1) := by decide +kernel
theorem dX11_manyOf_23 : decode cX11_manyOf 23 = .ok (.iinc 3 1, 3) := by decide +kernel
theorem dX11_manyOf_26 : decode cX11_manyOf 26 = .ok (.goto (-22), 3) := by decide +kernel
theorem dX11_sums_0 : decode cX11_sums 0 = .ok (.lload_n 1, 1) := by decide +kernel
theorem dX11_sums_1 : decode cX11_sums 1 = .ok (.lstore 5, 2) := by decide +kernel
theorem dX11_sums_3 : decode cX11_sums 3 = .ok (.iconst 0, 1) := by decide +kernel
theorem dX11_sums_4 : decode cX11_sums 4 = .ok (.istore 7, 2) := by decide +kernel
theorem dX11_sums_6 : decode cX11_sums 6 = .ok (.iload 7, 2) := by decide +kernel
theorem dX11_sums_8 : decode cX11_sums 8 = .ok (.iload 4, 2) := by decide +kernel
theorem dX11_sums_10 : decode cX11_sums 10 = .ok (.if_icmp .ge 28, 3) := by decide +kernel
theorem dX11_sums_38 : decode cX11_sums 38 = .ok (.lload 5, 2) := by decide +kernel
theorem dX11_sums_40 : decode cX11_sums 40 = .ok (.lreturn, 1) := by decide +kernel
theorem dX11_sums_13 : decode cX11_sums 13 = .ok (.ldc2_w 277, 3) := by decide +kernel
theorem dX11_sums_16 : decode cX11_sums 16 = .ok (.lload 5, 2) := by decide +kernel
theorem dX11_sums_18 : decode cX11_sums 18 = .ok (.lmul, 1) := by decide +kernel
theorem dX11_sums_19 : decode cX11_sums 19 = .ok (.aload_n 0, 1) := by decide +kernel
theorem dX11_sums_20 : decode cX11_sums 20 = .ok (.getfield 7, 3) := by decide +kernel
theorem dX11_sums_23 : decode cX11_sums 23 = .ok (.iload_n 3, 1) := by decide +kernel
theorem dX11_sums_24 : decode cX11_sums 24 = .ok (.iload 7, 2) := by decide +kernel
theorem dX11_sums_26 : decode cX11_sums 26 = .ok (.iadd, 1) := by decide +kernel
theorem dX11_sums_27 : decode cX11_sums 27 = .ok (.iaload, 1) := by decide +kernel
theorem dX11_sums_28 : decode cX11_sums 28 = .ok (.i2l, 1) := by decide +kernel
theorem dX11_sums_29 : decode cX11_sums 29 = .ok (.ladd, 1) := by decide +kernel
theorem dX11_sums_30 : decode cX11_sums 30 = .ok (.lstore 5, 2) := by decide +kernel
theorem dX11_sums_32 : decode cX11_sums 32 = .ok (.iinc 7 1, 3) := by decide +kernel
theorem dX11_sums_35 : decode cX11_sums 35 = .ok (.goto (-29), 3) := by decide +kernel
theorem dX11_counted_0 : decode cX11_counted 0 = .ok (.iload_n 1, 1) := by decide +kernel
theorem dX11_counted_1 : decode cX11_counted 1 = .ok (.tableswitch 79 0 5 #[39, 44, 51, 58, 66, 74], 39) := by decide +kernel
theorem dX11_counted_40 : decode cX11_counted 40 = .ok (.aload_n 0, 1) := by decide +kernel
set_option maxRecDepth 20000 in
theorem ggX11_counted_X11_people : GoodIn wsX11_counted wsX11_people := goodIn_r _ [7, 1, 16, 17, 18, 19, 20, 21, 22, 23, 24, 25, 26, 27, 28, 29, 30, 31, 32, 33, 34] (by decide +kernel) (by decide +kernel)
set_option maxRecDepth 20000 in
theorem gX11_counted_X11_people : GoodIn wsX11_counted (wsV RX11 53 RX11 yX11_people wsX11_people) := goodIn_app (goodIn_of _ (by decide +kernel)) ggX11_counted_X11_people
theorem dX11_counted_41 : decode cX11_counted 41 = .ok (.invokevirtual 53, 3) := by decide +kernel
theorem dX11_counted_44 : decode cX11_counted 44 = .ok (.ireturn, 1) := by decide +kernel
theorem dX11_counted_45 : decode cX11_counted 45 = .ok (.aload_n 0, 1) := by decide +kernel
theorem dX11_counted_46 : decode cX11_counted 46 = .ok (.bipush 20, 2) := by decide +kernel
set_option maxRecDepth 20000 in
theorem ggX11_counted_X11_manyOf : GoodIn wsX11_counted wsX11_manyOf := goodIn_r _ [11, 1, 12, 13, 14, 6, 15, 16, 17, 18, 19, 20, 21, 22, 23, 24, 25, 26, 27, 28, 29, 30, 31, 32, 33, 34] (by decide +kernel) (by decide +kernel)
set_option maxRecDepth 20000 in
theorem gX11_counted_X11_manyOf : GoodIn wsX11_counted (wsV RX11 271 RX11 yX11_manyOf wsX11_manyOf) := goodIn_app (goodIn_of _ (by decide +kernel)) ggX11_counted_X11_manyOf
theorem dX11_counted_48 : decode cX11_counted 48 = .ok (.invokevirtual 271, 3) := by decide +kernel
theorem dX11_counted_51 : decode cX11_counted 51 = .ok (.ireturn, 1) := by decide +kernel
theorem dX11_counted_52 : decode cX11_counted 52 = .ok (.aload_n 0, 1) := by decide +kernel
theorem dX11_counted_53 : decode cX11_counted 53 = .ok (.bipush 56, 2) := by decide +kernel
theorem dX11_counted_55 : decode cX11_counted 55 = .ok (.invokevirtual 271, 3) := by decide +kernel
theorem dX11_counted_58 : decode cX11_counted 58 = .ok (.ireturn, 1) := by decide +kernel
theorem dX11_counted_59 : decode cX11_counted 59 = .ok (.aload_n 0, 1) := by decide +kernel
theorem dX11_counted_60 : decode cX11_counted 60 = .ok (.getfield 7, 3) := by decide +kernel
theorem dX11_counted_63 : decode cX11_counted 63 = .ok (.bipush 92, 2) := by decide +kernel
theorem dX11_counted_65 : decode cX11_counted 65 = .ok (.iaload, 1) := by decide +kernel
theorem dX11_counted_66 : decode cX11_counted 66 = .ok (.ireturn, 1) := by decide +kernel
theorem dX11_counted_67 : decode cX11_counted 67 = .ok (.aload_n 0, 1) := by decide +kernel
theorem dX11_counted_68 : decode cX11_counted 68 = .ok (.getfield 7, 3) := by decide +kernel
theorem dX11_counted_71 : decode cX11_counted 71 = .ok (.bipush 105, 2) := by decide +kernel
theorem dX11_counted_73 : decode cX11_counted 73 = .ok (.iaload, 1) := by decide +kernel
theorem dX11_counted_74 : decode cX11_counted 74 = .ok (.ireturn, 1) := by decide +kernel
theorem dX11_counted_75 : decode cX11_counted 75 = .ok (.aload_n 0, 1) := by decide +kernel
theorem dX11_counted_76 : decode cX11_counted 76 = .ok (.getfield 196, 3) := by decide +kernel
theorem dX11_counted_79 : decode cX11_counted 79 = .ok (.ireturn, 1) := by decide +kernel
theorem dX11_counted_80 : decode cX11_counted 80 = .ok (.aload_n 0, 1) := by decide +kernel
set_option maxRecDepth 20000 in
theorem ggX11_counted_X11_squares : GoodIn wsX11_counted wsX11_squares := goodIn_r _ [15, 1, 16, 17, 18, 19, 20, 21, 22, 23, 24, 25, 26, 27, 28, 29, 30, 31, 32, 33, 34] (by decide +kernel) (by decide +kernel)
set_option maxRecDepth 20000 in
theorem gX11_counted_X11_squares : GoodIn wsX11_counted (wsV RX11 45 RX11 yX11_squares wsX11_squares) := goodIn_app (goodIn_of _ (by decide +kernel)) ggX11_counted_X11_squares
theorem dX11_counted_81 : decode cX11_counted 81 = .ok (.invokevirtual 45, 3) := by decide +kernel
theorem dX11_counted_84 : decode cX11_counted 84 = .ok (.ireturn, 1) := by decide +kernel
set_option maxHeartbeats 4000000 in
set_option maxRecDepth 100000 in
theorem n_X11_maySpeak (l : Launch) (D : va_G) (cy : Nat → ClassId) (mW : Nat) (mH : Nat) (mS : Nat) (mP : Nat) (mm : Nat) (mm_now : Nat) (mm_kept : Nat) (mm_isKept : Nat) (mm_refused : Nat) (mm_lineFrom : Int32) (mm_lineTo : Int32) (mm_stands : Nat) (mm_far : Nat) (mm_queue : Nat) (mm_queued : Int32) (mm_meets : Nat) (mm_bytes : Nat) (bl : Nat) (ta : Nat) (tl : Nat) (mm_token : Int32) (mm_value : Int32) (mm_next : Nat) (tk : Nat) (mm_now_f : Nat → Int32) (sz : Nat) (hF : mV mm_now_f mW mH mS mP) : Met l yX11_maySpeak wsX11_maySpeak ({ frames := 7, cells := 0, slots := 0, locals := 156 }) (va_Pc [.ref mm] (kPre D cy [(mm, .inr (11, [.ref mm_now, .ref mm_kept, .ref mm_isKept, .ref mm_refused, .int mm_lineFrom, .int mm_lineTo, .ref mm_stands, .ref mm_far, .ref mm_queue, .int mm_queued, .ref mm_meets, .ref mm_bytes, .int (nI bl), .int (nI ta), .int (nI tl), .int mm_token, .int mm_value, .ref mm_next, .int (nI tk)])), (mm_now, .inl (cy 1, 122, .inl mm_now_f))] sz)) (va_Qi (fun (r : Int32) (u : Int32 × Int32) => True) (fun (u : Int32 × Int32) t => va_P D vwCl ([(mm, .inr (11, [.ref mm_now, .ref mm_kept, .ref mm_isKept, .ref mm_refused, .int u.1, .int u.2, .ref mm_stands, .ref mm_far, .ref mm_queue, .int mm_queued, .ref mm_meets, .ref mm_bytes, .int (nI bl), .int (nI ta), .int (nI tl), .int mm_token, .int mm_value, .ref mm_next, .int (nI tk)])), (mm_now, .inl (cy 1, 122, .inl mm_now_f))]) t.heap ∧ va_D (va_A [(mm, .inr (11, [.ref mm_now, .ref mm_kept, .ref mm_isKept, .ref mm_refused, .int mm_lineFrom, .int mm_lineTo, .ref mm_stands, .ref mm_far, .ref mm_queue, .int mm_queued, .ref mm_meets, .ref mm_bytes, .int (nI bl), .int (nI ta), .int (nI tl), .int mm_token, .int mm_value, .ref mm_next, .int (nI tk)])), (mm_now, .inl (cy 1, 122, .inl mm_now_f))] sz) ([(mm, .inr (11, [.ref mm_now, .ref mm_kept, .ref mm_isKept, .ref mm_refused, .int u.1, .int u.2, .ref mm_stands, .ref mm_far, .ref mm_queue, .int mm_queued, .ref mm_meets, .ref mm_bytes, .int (nI bl), .int (nI ta), .int (nI tl), .int mm_token, .int mm_value, .ref mm_next, .int (nI tk)])), (mm_now, .inl (cy 1, 122, .inl mm_now_f))])) (va_A [(mm, .inr (11, [.ref mm_now, .ref mm_kept, .ref mm_isKept, .ref mm_refused, .int mm_lineFrom, .int mm_lineTo, .ref mm_stands, .ref mm_far, .ref mm_queue, .int mm_queued, .ref mm_meets, .ref mm_bytes, .int (nI bl), .int (nI ta), .int (nI tl), .int mm_token, .int mm_value, .ref mm_next, .int (nI tk)])), (mm_now, .inl (cy 1, 122, .inl mm_now_f))] sz)) 0 0 (va_A [(mm, .inr (11, [.ref mm_now, .ref mm_kept, .ref mm_isKept, .ref mm_refused, .int mm_lineFrom, .int mm_lineTo, .ref mm_stands, .ref mm_far, .ref mm_queue, .int mm_queued, .ref mm_meets, .ref mm_bytes, .int (nI bl), .int (nI ta), .int (nI tl), .int mm_token, .int mm_value, .ref mm_next, .int (nI tk)])), (mm_now, .inl (cy 1, 122, .inl mm_now_f))] sz) := by
  refine Met.ofW (cc := cX11_maySpeak) (maxL := 5) (ret := (some .int)) (by decide) rfl ?_
  intro p e s m args below meth c s₁ B hml hv
  obtain ⟨rfl, hsz, hP, hKA, hD0⟩ := hv
  have hx := B.exec
  have hb := B.bytes
  have hr := B.returns
  have hts := atoms_spec (ws := wsX11_maySpeak) B.pre
  have hown : s.vm.findClass RX11 = some m.cls := findClass_of_methodNamed B.named
  have hlocks := B.notSynchronized
  subst hsz
  have hK := hKA.1
  have hD := hD0.self (sz := s.heap.size)
  generalize hAe : va_A [(mm, .inr (11, [.ref mm_now, .ref mm_kept, .ref mm_isKept, .ref mm_refused, .int mm_lineFrom, .int mm_lineTo, .ref mm_stands, .ref mm_far, .ref mm_queue, .int mm_queued, .ref mm_meets, .ref mm_bytes, .int (nI bl), .int (nI ta), .int (nI tl), .int mm_token, .int mm_value, .ref mm_next, .int (nI tk)])), (mm_now, .inl (cy 1, 122, .inl mm_now_f))] s.heap.size = A at hD ⊢
  have hA : ∀ q : Nat, s.heap.size ≤ q → A q := fun q h => by rw [← hAe]; exact Or.inr h
  have hS : va_S A s.heap s.heap [] := va_S.rf
  have hP : va_P D vwCl [(mm, .inr (11, [.ref mm_now, .ref mm_kept, .ref mm_isKept, .ref mm_refused, .int mm_lineFrom, .int mm_lineTo, .ref mm_stands, .ref mm_far, .ref mm_queue, .int mm_queued, .ref mm_meets, .ref mm_bytes, .int (nI bl), .int (nI ta), .int (nI tl), .int mm_token, .int mm_value, .ref mm_next, .int (nI tk)])), (mm_now, .inl (cy 1, 122, .inl mm_now_f))] s.heap := hP
  have hl := lv_entry ([.ref mm]) (n := 5) (Nat.le_of_ble_eq_true rfl)
  rw [lg_entry_eq]
  generalize (lg_sl ([.ref mm]) ++ List.replicate (5 - (lg_sl ([.ref mm])).length) Slot.unset).toArray = ls at hl ⊢
  have hl : lv_has ls 5 [(0, .ref mm)] := hl
  refine qW (fun QF hQF => ?_)
  obtain ⟨hW2, hW6, hH2, hH6, hSe, hS4, hS6, hP5⟩ := hF.rng
  refine lv_iconst (v := 0) hx hb dX11_maySpeak_0 (by decide) ?_
  refine lv_istore_n (lv' := [(1, .int 0), (0, .ref mm)]) hx hb dX11_maySpeak_1 rfl hl (by decide) rfl (fun ls hl => ?_)
  refine lv_iconst (v := 0) hx hb dX11_maySpeak_2 (by decide) ?_
  refine lv_istore_n (lv' := [(2, .int 0), (1, .int 0), (0, .ref mm)]) hx hb dX11_maySpeak_3 rfl hl (by decide) rfl (fun ls hl => ?_)
  have lp4 : ∀ (n4 : Nat) (v2_4 : Nat) (v1_4 : Int32) (u_mm_4_4 : Int32) (u_mm_5_4 : Int32) (hv2_4 : v2_4 < 2147483648), 2147483648 - v2_4 < n4 → ∀ (H : Heap) (locs : List Loc), va_P D vwCl [(mm, .inr (11, [.ref mm_now, .ref mm_kept, .ref mm_isKept, .ref mm_refused, .int u_mm_4_4, .int u_mm_5_4, .ref mm_stands, .ref mm_far, .ref mm_queue, .int mm_queued, .ref mm_meets, .ref mm_bytes, .int (nI bl), .int (nI ta), .int (nI tl), .int mm_token, .int mm_value, .ref mm_next, .int (nI tk)])), (mm_now, .inl (cy 1, 122, .inl mm_now_f))] H → va_D A [(mm, .inr (11, [.ref mm_now, .ref mm_kept, .ref mm_isKept, .ref mm_refused, .int u_mm_4_4, .int u_mm_5_4, .ref mm_stands, .ref mm_far, .ref mm_queue, .int mm_queued, .ref mm_meets, .ref mm_bytes, .int (nI bl), .int (nI ta), .int (nI tl), .int mm_token, .int mm_value, .ref mm_next, .int (nI tk)])), (mm_now, .inl (cy 1, 122, .inl mm_now_f))] → va_S A s.heap H locs → ∀ ls : Array Slot, lv_has ls 5 [(2, .int (nI v2_4)), (1, .int v1_4), (0, .ref mm)] → W p l e (headSpec wsX11_maySpeak ({ frames := 7, cells := 0, slots := 0, locals := 156 })).room s m [.ref mm].toArray below meth c H locs 0 0 QF (F0 m 4 ls []) := by
    intro n4
    induction n4 with
    | zero => intro v2_4 v1_4 u_mm_4_4 u_mm_5_4 hv2_4 hm; exact absurd hm (Nat.not_lt_zero _)
    | succ n4 ih4 =>
      intro v2_4 v1_4 u_mm_4_4 u_mm_5_4 hv2_4 hm4 H locs hP hD hS ls hl
      refine lv_iload_n hx hb dX11_maySpeak_4 rfl (lv_at hl 0 rfl) ?_
      refine lv_aload_n hx hb dX11_maySpeak_5 rfl (lv_at hl 2 rfl) ?_
      refine rd_i (va_runV (As := []) (rest := [.int (nI v2_4)]) ⟨hx, hb, hml, hown, hts⟩ (n_X11_people l D cy mW mH mS mP mm mm_now mm_kept mm_isKept mm_refused u_mm_4_4 u_mm_5_4 mm_stands mm_far mm_queue mm_queued mm_meets mm_bytes bl ta tl mm_token mm_value mm_next tk mm_now_f _ (by first | assumption | omega)) (cwV 0 hts gX11_maySpeak_X11_people rfl rfl rfl (by decide +kernel) ⟨Nat.le_of_ble_eq_true rfl, Nat.le_of_ble_eq_true rfl⟩) (pV (ci := 11) (k := 0) hKA (hP.sub (ws' := [(mm, .inr (11, [.ref mm_now, .ref mm_kept, .ref mm_isKept, .ref mm_refused, .int u_mm_4_4, .int u_mm_5_4, .ref mm_stands, .ref mm_far, .ref mm_queue, .int mm_queued, .ref mm_meets, .ref mm_bytes, .int (nI bl), .int (nI ta), .int (nI tl), .int mm_token, .int mm_value, .ref mm_next, .int (nI tk)])), (mm_now, .inl (cy 1, 122, .inl mm_now_f))]) [0, 1] rfl) (hD.sub (ws' := [(mm, .inr (11, [.ref mm_now, .ref mm_kept, .ref mm_isKept, .ref mm_refused, .int u_mm_4_4, .int u_mm_5_4, .ref mm_stands, .ref mm_far, .ref mm_queue, .int mm_queued, .ref mm_meets, .ref mm_bytes, .int (nI bl), .int (nI ta), .int (nI tl), .int mm_token, .int mm_value, .ref mm_next, .int (nI tk)])), (mm_now, .inl (cy 1, 122, .inl mm_now_f))]) [0, 1] (by decide) rfl) rfl rfl) rfl rfl hl.1 rfl (lv_room (Nat.le_of_ble_eq_true rfl)) dX11_maySpeak_6 ⟨Nat.le_of_ble_eq_true rfl, Nat.le_of_ble_eq_true rfl⟩) hP hS hA (fun r1 H locs hwr1 hP hS => ?_)
      have hwr1 : r1 = nI mP := hwr1
      subst hwr1
      refine lv_icmp_ge (tgt := 72) hx hb dX11_maySpeak_9 (by decide) (fun c2 => ?_) (fun c2 => ?_)
      · skip
        refine lv_iload_n hx hb dX11_maySpeak_72 rfl (lv_at hl 1 rfl) ?_
        subst hQF
        have hP9 := hP
        have hD9 := hD
        exact W.iret (v := v1_4) hx hb hr (fun t ht hW => ⟨⟨v1_4, (u_mm_4_4, u_mm_5_4), rfl, trivial, by rw [ht]; exact hP9, hD9⟩, hS.F ht⟩) hS.2.2 dX11_maySpeak_73
      · skip
        have hk9 := ltM (n := mP) (k := v2_4) (by omega) (by assumption) (by assumption)
        refine lv_iconst (v := 1) hx hb dX11_maySpeak_12 (by decide) ?_
        refine lv_istore_n (lv' := [(3, .int 1), (2, .int (nI v2_4)), (1, .int v1_4), (0, .ref mm)]) hx hb dX11_maySpeak_13 rfl hl (by decide) rfl (fun ls hl => ?_)
        refine lv_iconst (v := 0) hx hb dX11_maySpeak_14 (by decide) ?_
        refine lv_istore (lv' := [(4, .int 0), (3, .int 1), (2, .int (nI v2_4)), (1, .int v1_4), (0, .ref mm)]) hx hb dX11_maySpeak_15 hl (by decide) rfl (fun ls hl => ?_)
        have lp17 : ∀ (n17 : Nat) (v4_17 : Nat) (v3_17 : Int32) (u_mm_4_17 : Int32) (u_mm_5_17 : Int32) (bv3_17 : v3_17 = 1 ∨ v3_17 = 0) (hv4_17 : v4_17 < 2147483648), 2147483648 - v4_17 < n17 → ∀ (H : Heap) (locs : List Loc), va_P D vwCl [(mm, .inr (11, [.ref mm_now, .ref mm_kept, .ref mm_isKept, .ref mm_refused, .int u_mm_4_17, .int u_mm_5_17, .ref mm_stands, .ref mm_far, .ref mm_queue, .int mm_queued, .ref mm_meets, .ref mm_bytes, .int (nI bl), .int (nI ta), .int (nI tl), .int mm_token, .int mm_value, .ref mm_next, .int (nI tk)])), (mm_now, .inl (cy 1, 122, .inl mm_now_f))] H → va_D A [(mm, .inr (11, [.ref mm_now, .ref mm_kept, .ref mm_isKept, .ref mm_refused, .int u_mm_4_17, .int u_mm_5_17, .ref mm_stands, .ref mm_far, .ref mm_queue, .int mm_queued, .ref mm_meets, .ref mm_bytes, .int (nI bl), .int (nI ta), .int (nI tl), .int mm_token, .int mm_value, .ref mm_next, .int (nI tk)])), (mm_now, .inl (cy 1, 122, .inl mm_now_f))] → va_S A s.heap H locs → ∀ ls : Array Slot, lv_has ls 5 [(4, .int (nI v4_17)), (3, .int v3_17), (2, .int (nI v2_4)), (1, .int v1_4), (0, .ref mm)] → W p l e (headSpec wsX11_maySpeak ({ frames := 7, cells := 0, slots := 0, locals := 156 })).room s m [.ref mm].toArray below meth c H locs 0 0 QF (F0 m 17 ls []) := by
          intro n17
          induction n17 with
          | zero => intro v4_17 v3_17 u_mm_4_17 u_mm_5_17 bv3_17 hv4_17 hm; exact absurd hm (Nat.not_lt_zero _)
          | succ n17 ih17 =>
            intro v4_17 v3_17 u_mm_4_17 u_mm_5_17 bv3_17 hv4_17 hm17 H locs hP hD hS ls hl
            refine lv_iload hx hb dX11_maySpeak_17 (lv_at hl 0 rfl) ?_
            refine lv_aload_n hx hb dX11_maySpeak_19 rfl (lv_at hl 4 rfl) ?_
            refine rd_i (va_runV (As := []) (rest := [.int (nI v4_17)]) ⟨hx, hb, hml, hown, hts⟩ (n_X11_people l D cy mW mH mS mP mm mm_now mm_kept mm_isKept mm_refused u_mm_4_17 u_mm_5_17 mm_stands mm_far mm_queue mm_queued mm_meets mm_bytes bl ta tl mm_token mm_value mm_next tk mm_now_f _ (by first | assumption | omega)) (cwV 0 hts gX11_maySpeak_X11_people rfl rfl rfl (by decide +kernel) ⟨Nat.le_of_ble_eq_true rfl, Nat.le_of_ble_eq_true rfl⟩) (pV (ci := 11) (k := 0) hKA (hP.sub (ws' := [(mm, .inr (11, [.ref mm_now, .ref mm_kept, .ref mm_isKept, .ref mm_refused, .int u_mm_4_17, .int u_mm_5_17, .ref mm_stands, .ref mm_far, .ref mm_queue, .int mm_queued, .ref mm_meets, .ref mm_bytes, .int (nI bl), .int (nI ta), .int (nI tl), .int mm_token, .int mm_value, .ref mm_next, .int (nI tk)])), (mm_now, .inl (cy 1, 122, .inl mm_now_f))]) [0, 1] rfl) (hD.sub (ws' := [(mm, .inr (11, [.ref mm_now, .ref mm_kept, .ref mm_isKept, .ref mm_refused, .int u_mm_4_17, .int u_mm_5_17, .ref mm_stands, .ref mm_far, .ref mm_queue, .int mm_queued, .ref mm_meets, .ref mm_bytes, .int (nI bl), .int (nI ta), .int (nI tl), .int mm_token, .int mm_value, .ref mm_next, .int (nI tk)])), (mm_now, .inl (cy 1, 122, .inl mm_now_f))]) [0, 1] (by decide) rfl) rfl rfl) rfl rfl hl.1 rfl (lv_room (Nat.le_of_ble_eq_true rfl)) dX11_maySpeak_20 ⟨Nat.le_of_ble_eq_true rfl, Nat.le_of_ble_eq_true rfl⟩) hP hS hA (fun r3 H locs hwr3 hP hS => ?_)
            have hwr3 : r3 = nI mP := hwr3
            subst hwr3
            refine lv_icmp_ge (tgt := 52) hx hb dX11_maySpeak_23 (by decide) (fun c4 => ?_) (fun c4 => ?_)
            · skip
              refine lv_iload_n hx hb dX11_maySpeak_52 rfl (lv_at hl 3 rfl) ?_
              refine lv_iload_n hx hb dX11_maySpeak_53 rfl (lv_at hl 1 rfl) ?_
              refine lv_if_eq (tgt := 63) hx hb dX11_maySpeak_54 (by decide) (fun c5 => ?_) (fun c5 => ?_)
              · skip
                refine lv_iconst (v := 0) hx hb dX11_maySpeak_63 (by decide) ?_
                refine lv_ior hx hb dX11_maySpeak_64 ?_
                refine lv_topi (fun x6 ex6 => ?_)
                refine lv_istore_n (lv' := [(1, .int x6), (4, .int (nI v4_17)), (3, .int v3_17), (2, .int (nI v2_4)), (0, .ref mm)]) hx hb dX11_maySpeak_65 rfl hl (by decide) rfl (fun ls hl => ?_)
                refine lv_iinc (v := nI (v2_4 + 1)) (lv' := [(2, .int (nI (v2_4 + 1))), (1, .int x6), (4, .int (nI v4_17)), (3, .int v3_17), (0, .ref mm)]) hx hb dX11_maySpeak_66 hl (k := 3) rfl (nI_1 _) (by decide) rfl (fun ls hl => ?_)
                refine lv_goto (tgt := 4) hx hb dX11_maySpeak_69 (by decide) ?_
                exact ih4 (v2_4 + 1) x6 u_mm_4_17 u_mm_5_17 (by first | omega | exact nlt_max hv2_4 (by assumption)) (by first | omega | (have := nlt_max hv2_4 (by assumption); omega)) _ _ hP hD hS ls (lv_sub hl [0, 1, 4] rfl)
              · skip
                refine lv_iconst (v := 1) hx hb dX11_maySpeak_57 (by decide) ?_
                refine lv_iload_n hx hb dX11_maySpeak_58 rfl (lv_at hl 2 rfl) ?_
                refine lv_ishl hx hb dX11_maySpeak_59 ?_
                refine lv_goto (tgt := 64) hx hb dX11_maySpeak_60 (by decide) ?_
                refine lv_ior hx hb dX11_maySpeak_64 ?_
                refine lv_topi (fun x7 ex7 => ?_)
                refine lv_istore_n (lv' := [(1, .int x7), (4, .int (nI v4_17)), (3, .int v3_17), (2, .int (nI v2_4)), (0, .ref mm)]) hx hb dX11_maySpeak_65 rfl hl (by decide) rfl (fun ls hl => ?_)
                refine lv_iinc (v := nI (v2_4 + 1)) (lv' := [(2, .int (nI (v2_4 + 1))), (1, .int x7), (4, .int (nI v4_17)), (3, .int v3_17), (0, .ref mm)]) hx hb dX11_maySpeak_66 hl (k := 3) rfl (nI_1 _) (by decide) rfl (fun ls hl => ?_)
                refine lv_goto (tgt := 4) hx hb dX11_maySpeak_69 (by decide) ?_
                exact ih4 (v2_4 + 1) x7 u_mm_4_17 u_mm_5_17 (by first | omega | exact nlt_max hv2_4 (by assumption)) (by first | omega | (have := nlt_max hv2_4 (by assumption); omega)) _ _ hP hD hS ls (lv_sub hl [0, 1, 4] rfl)
            · skip
              have hk23 := ltM (n := mP) (k := v4_17) (by omega) (by assumption) (by assumption)
              refine lv_iload_n hx hb dX11_maySpeak_26 rfl (lv_at hl 1 rfl) ?_
              refine lv_if_eq (tgt := 44) hx hb dX11_maySpeak_27 (by decide) (fun c8 => ?_) (fun c8 => ?_)
              · skip
                refine lv_iconst (v := 0) hx hb dX11_maySpeak_44 (by decide) ?_
                refine lv_istore_n (lv' := [(3, .int 0), (4, .int (nI v4_17)), (2, .int (nI v2_4)), (1, .int v1_4), (0, .ref mm)]) hx hb dX11_maySpeak_45 rfl hl (by decide) rfl (fun ls hl => ?_)
                refine lv_iinc (v := nI (v4_17 + 1)) (lv' := [(4, .int (nI (v4_17 + 1))), (3, .int 0), (2, .int (nI v2_4)), (1, .int v1_4), (0, .ref mm)]) hx hb dX11_maySpeak_46 hl (k := 1) rfl (nI_1 _) (by decide) rfl (fun ls hl => ?_)
                refine lv_goto (tgt := 17) hx hb dX11_maySpeak_49 (by decide) ?_
                exact ih17 (v4_17 + 1) 0 u_mm_4_17 u_mm_5_17 (Or.inr rfl) (by first | omega | exact nlt_max hv4_17 (by assumption)) (by first | omega | (have := nlt_max hv4_17 (by assumption); omega)) _ _ hP hD hS ls hl
              · skip
                refine lv_aload_n hx hb dX11_maySpeak_30 rfl (lv_at hl 4 rfl) ?_
                refine lv_iload hx hb dX11_maySpeak_31 (lv_at hl 0 rfl) ?_
                refine lv_iload_n hx hb dX11_maySpeak_33 rfl (lv_at hl 2 rfl) ?_
                refine wr_i (wr := []) (va_runV (As := [.int (nI v4_17), .int (nI v2_4)]) (rest := []) ⟨hx, hb, hml, hown, hts⟩ (n_X11_breaks l D cy mW mH mS mP mm mm_now mm_kept mm_isKept mm_refused u_mm_4_17 u_mm_5_17 mm_stands mm_far mm_queue mm_queued mm_meets mm_bytes bl ta tl mm_token mm_value mm_next tk mm_now_f v4_17 v2_4 _ (by first | assumption | omega) (by first | assumption | omega) (by first | assumption | omega)) (cwV 2 hts gX11_maySpeak_X11_breaks rfl rfl rfl (by decide +kernel) ⟨Nat.le_of_ble_eq_true rfl, Nat.le_of_ble_eq_true rfl⟩) (pV (ci := 11) (k := 0) hKA (hP.sub (ws' := [(mm, .inr (11, [.ref mm_now, .ref mm_kept, .ref mm_isKept, .ref mm_refused, .int u_mm_4_17, .int u_mm_5_17, .ref mm_stands, .ref mm_far, .ref mm_queue, .int mm_queued, .ref mm_meets, .ref mm_bytes, .int (nI bl), .int (nI ta), .int (nI tl), .int mm_token, .int mm_value, .ref mm_next, .int (nI tk)])), (mm_now, .inl (cy 1, 122, .inl mm_now_f))]) [0, 1] rfl) (hD.sub (ws' := [(mm, .inr (11, [.ref mm_now, .ref mm_kept, .ref mm_isKept, .ref mm_refused, .int u_mm_4_17, .int u_mm_5_17, .ref mm_stands, .ref mm_far, .ref mm_queue, .int mm_queued, .ref mm_meets, .ref mm_bytes, .int (nI bl), .int (nI ta), .int (nI tl), .int mm_token, .int mm_value, .ref mm_next, .int (nI tk)])), (mm_now, .inl (cy 1, 122, .inl mm_now_f))]) [0, 1] (by decide) rfl) rfl rfl) rfl rfl hl.1 rfl (lv_room (Nat.le_of_ble_eq_true rfl)) dX11_maySpeak_34 ⟨Nat.le_of_ble_eq_true rfl, Nat.le_of_ble_eq_true rfl⟩) hP hD hS hA [0, 1] [] rfl rfl (by decide +kernel) (by decide +kernel) (fun r9 ur9 H locs hwr9 hP hD hS => ?_)
                obtain ⟨z10, z11⟩ := ur9
                have hP : va_P D vwCl [(mm, .inr (11, [.ref mm_now, .ref mm_kept, .ref mm_isKept, .ref mm_refused, .int z10, .int z11, .ref mm_stands, .ref mm_far, .ref mm_queue, .int mm_queued, .ref mm_meets, .ref mm_bytes, .int (nI bl), .int (nI ta), .int (nI tl), .int mm_token, .int mm_value, .ref mm_next, .int (nI tk)])), (mm_now, .inl (cy 1, 122, .inl mm_now_f))] H := hP
                have hD : va_D A [(mm, .inr (11, [.ref mm_now, .ref mm_kept, .ref mm_isKept, .ref mm_refused, .int z10, .int z11, .ref mm_stands, .ref mm_far, .ref mm_queue, .int mm_queued, .ref mm_meets, .ref mm_bytes, .int (nI bl), .int (nI ta), .int (nI tl), .int mm_token, .int mm_value, .ref mm_next, .int (nI tk)])), (mm_now, .inl (cy 1, 122, .inl mm_now_f))] := hD
                have hwr9 : (r9 = 1 ∧ True) ∨ (r9 = 0 ∧ True) := hwr9
                refine lv_if_ne (tgt := 44) hx hb dX11_maySpeak_37 (by decide) (fun c12 => ?_) (fun c12 => ?_)
                · skip
                  refine lv_iconst (v := 0) hx hb dX11_maySpeak_44 (by decide) ?_
                  refine lv_istore_n (lv' := [(3, .int 0), (4, .int (nI v4_17)), (2, .int (nI v2_4)), (1, .int v1_4), (0, .ref mm)]) hx hb dX11_maySpeak_45 rfl hl (by decide) rfl (fun ls hl => ?_)
                  refine lv_iinc (v := nI (v4_17 + 1)) (lv' := [(4, .int (nI (v4_17 + 1))), (3, .int 0), (2, .int (nI v2_4)), (1, .int v1_4), (0, .ref mm)]) hx hb dX11_maySpeak_46 hl (k := 1) rfl (nI_1 _) (by decide) rfl (fun ls hl => ?_)
                  refine lv_goto (tgt := 17) hx hb dX11_maySpeak_49 (by decide) ?_
                  exact ih17 (v4_17 + 1) 0 z10 z11 (Or.inr rfl) (by first | omega | exact nlt_max hv4_17 (by assumption)) (by first | omega | (have := nlt_max hv4_17 (by assumption); omega)) _ _ hP hD hS ls hl
                · skip
                  refine lv_iconst (v := 1) hx hb dX11_maySpeak_40 (by decide) ?_
                  refine lv_goto (tgt := 45) hx hb dX11_maySpeak_41 (by decide) ?_
                  refine lv_istore_n (lv' := [(3, .int 1), (4, .int (nI v4_17)), (2, .int (nI v2_4)), (1, .int v1_4), (0, .ref mm)]) hx hb dX11_maySpeak_45 rfl hl (by decide) rfl (fun ls hl => ?_)
                  refine lv_iinc (v := nI (v4_17 + 1)) (lv' := [(4, .int (nI (v4_17 + 1))), (3, .int 1), (2, .int (nI v2_4)), (1, .int v1_4), (0, .ref mm)]) hx hb dX11_maySpeak_46 hl (k := 1) rfl (nI_1 _) (by decide) rfl (fun ls hl => ?_)
                  refine lv_goto (tgt := 17) hx hb dX11_maySpeak_49 (by decide) ?_
                  exact ih17 (v4_17 + 1) 1 z10 z11 (Or.inl rfl) (by first | omega | exact nlt_max hv4_17 (by assumption)) (by first | omega | (have := nlt_max hv4_17 (by assumption); omega)) _ _ hP hD hS ls hl
        exact lp17 (2147483648 - 0 + 1) 0 1 u_mm_4_4 u_mm_5_4 (Or.inl rfl) (by first | omega | exact nlt_max (by assumption) (by assumption)) (Nat.lt_succ_self _) _ _ hP hD hS ls hl
  exact lp4 (2147483648 - 0 + 1) 0 0 mm_lineFrom mm_lineTo (by first | omega | exact nlt_max (by assumption) (by assumption)) (Nat.lt_succ_self _) _ _ hP hD hS ls hl

set_option maxHeartbeats 4000000 in
set_option maxRecDepth 100000 in
theorem n_X11_judged (l : Launch) (D : va_G) (cy : Nat → ClassId) (mW : Nat) (mH : Nat) (mS : Nat) (mP : Nat) (mm : Nat) (mm_now : Nat) (mm_kept : Nat) (mm_isKept : Nat) (mm_refused : Nat) (mm_lineFrom : Int32) (mm_lineTo : Int32) (mm_stands : Nat) (mm_far : Nat) (mm_queue : Nat) (mm_queued : Int32) (mm_meets : Nat) (mm_bytes : Nat) (bl : Nat) (ta : Nat) (tl : Nat) (mm_token : Int32) (mm_value : Int32) (mm_next : Nat) (tk : Nat) (mm_now_f : Nat → Int32) (px : Int32) (sz : Nat) (hF : mV mm_now_f mW mH mS mP) : Met l yX11_judged wsX11_judged ({ frames := 7, cells := 0, slots := 0, locals := 156 }) (va_Pc [.ref mm, .int px] (kPre D cy [(mm, .inr (11, [.ref mm_now, .ref mm_kept, .ref mm_isKept, .ref mm_refused, .int mm_lineFrom, .int mm_lineTo, .ref mm_stands, .ref mm_far, .ref mm_queue, .int mm_queued, .ref mm_meets, .ref mm_bytes, .int (nI bl), .int (nI ta), .int (nI tl), .int mm_token, .int mm_value, .ref mm_next, .int (nI tk)])), (mm_now, .inl (cy 1, 122, .inl mm_now_f))] sz)) (va_Qi (fun (r : Int32) (u : Int32 × Int32) => True) (fun (u : Int32 × Int32) t => va_P D vwCl ([(mm, .inr (11, [.ref mm_now, .ref mm_kept, .ref mm_isKept, .ref mm_refused, .int u.1, .int u.2, .ref mm_stands, .ref mm_far, .ref mm_queue, .int mm_queued, .ref mm_meets, .ref mm_bytes, .int (nI bl), .int (nI ta), .int (nI tl), .int mm_token, .int mm_value, .ref mm_next, .int (nI tk)])), (mm_now, .inl (cy 1, 122, .inl mm_now_f))]) t.heap ∧ va_D (va_A [(mm, .inr (11, [.ref mm_now, .ref mm_kept, .ref mm_isKept, .ref mm_refused, .int mm_lineFrom, .int mm_lineTo, .ref mm_stands, .ref mm_far, .ref mm_queue, .int mm_queued, .ref mm_meets, .ref mm_bytes, .int (nI bl), .int (nI ta), .int (nI tl), .int mm_token, .int mm_value, .ref mm_next, .int (nI tk)])), (mm_now, .inl (cy 1, 122, .inl mm_now_f))] sz) ([(mm, .inr (11, [.ref mm_now, .ref mm_kept, .ref mm_isKept, .ref mm_refused, .int u.1, .int u.2, .ref mm_stands, .ref mm_far, .ref mm_queue, .int mm_queued, .ref mm_meets, .ref mm_bytes, .int (nI bl), .int (nI ta), .int (nI tl), .int mm_token, .int mm_value, .ref mm_next, .int (nI tk)])), (mm_now, .inl (cy 1, 122, .inl mm_now_f))])) (va_A [(mm, .inr (11, [.ref mm_now, .ref mm_kept, .ref mm_isKept, .ref mm_refused, .int mm_lineFrom, .int mm_lineTo, .ref mm_stands, .ref mm_far, .ref mm_queue, .int mm_queued, .ref mm_meets, .ref mm_bytes, .int (nI bl), .int (nI ta), .int (nI tl), .int mm_token, .int mm_value, .ref mm_next, .int (nI tk)])), (mm_now, .inl (cy 1, 122, .inl mm_now_f))] sz)) 0 0 (va_A [(mm, .inr (11, [.ref mm_now, .ref mm_kept, .ref mm_isKept, .ref mm_refused, .int mm_lineFrom, .int mm_lineTo, .ref mm_stands, .ref mm_far, .ref mm_queue, .int mm_queued, .ref mm_meets, .ref mm_bytes, .int (nI bl), .int (nI ta), .int (nI tl), .int mm_token, .int mm_value, .ref mm_next, .int (nI tk)])), (mm_now, .inl (cy 1, 122, .inl mm_now_f))] sz) := by
  refine Met.ofW (cc := cX11_judged) (maxL := 4) (ret := (some .int)) (by decide) rfl ?_
  intro p e s m args below meth c s₁ B hml hv
  obtain ⟨rfl, hsz, hP, hKA, hD0⟩ := hv
  have hx := B.exec
  have hb := B.bytes
  have hr := B.returns
  have hts := atoms_spec (ws := wsX11_judged) B.pre
  have hown : s.vm.findClass RX11 = some m.cls := findClass_of_methodNamed B.named
  have hlocks := B.notSynchronized
  subst hsz
  have hK := hKA.1
  have hD := hD0.self (sz := s.heap.size)
  generalize hAe : va_A [(mm, .inr (11, [.ref mm_now, .ref mm_kept, .ref mm_isKept, .ref mm_refused, .int mm_lineFrom, .int mm_lineTo, .ref mm_stands, .ref mm_far, .ref mm_queue, .int mm_queued, .ref mm_meets, .ref mm_bytes, .int (nI bl), .int (nI ta), .int (nI tl), .int mm_token, .int mm_value, .ref mm_next, .int (nI tk)])), (mm_now, .inl (cy 1, 122, .inl mm_now_f))] s.heap.size = A at hD ⊢
  have hA : ∀ q : Nat, s.heap.size ≤ q → A q := fun q h => by rw [← hAe]; exact Or.inr h
  have hS : va_S A s.heap s.heap [] := va_S.rf
  have hP : va_P D vwCl [(mm, .inr (11, [.ref mm_now, .ref mm_kept, .ref mm_isKept, .ref mm_refused, .int mm_lineFrom, .int mm_lineTo, .ref mm_stands, .ref mm_far, .ref mm_queue, .int mm_queued, .ref mm_meets, .ref mm_bytes, .int (nI bl), .int (nI ta), .int (nI tl), .int mm_token, .int mm_value, .ref mm_next, .int (nI tk)])), (mm_now, .inl (cy 1, 122, .inl mm_now_f))] s.heap := hP
  have hl := lv_entry ([.ref mm, .int px]) (n := 4) (Nat.le_of_ble_eq_true rfl)
  rw [lg_entry_eq]
  generalize (lg_sl ([.ref mm, .int px]) ++ List.replicate (4 - (lg_sl ([.ref mm, .int px])).length) Slot.unset).toArray = ls at hl ⊢
  have hl : lv_has ls 4 [(0, .ref mm), (1, .int px)] := hl
  refine qW (fun QF hQF => ?_)
  obtain ⟨hW2, hW6, hH2, hH6, hSe, hS4, hS6, hP5⟩ := hF.rng
  refine lv_iconst (v := 0) hx hb dX11_judged_0 (by decide) ?_
  refine lv_istore_n (lv' := [(2, .int 0), (0, .ref mm), (1, .int px)]) hx hb dX11_judged_1 rfl hl (by decide) rfl (fun ls hl => ?_)
  have lp2 : ∀ (n2 : Nat) (v2_2 : Nat) (u_mm_4_2 : Int32) (u_mm_5_2 : Int32) (hv2_2 : v2_2 < 2147483648), 2147483648 - v2_2 < n2 → ∀ (H : Heap) (locs : List Loc), va_P D vwCl [(mm, .inr (11, [.ref mm_now, .ref mm_kept, .ref mm_isKept, .ref mm_refused, .int u_mm_4_2, .int u_mm_5_2, .ref mm_stands, .ref mm_far, .ref mm_queue, .int mm_queued, .ref mm_meets, .ref mm_bytes, .int (nI bl), .int (nI ta), .int (nI tl), .int mm_token, .int mm_value, .ref mm_next, .int (nI tk)])), (mm_now, .inl (cy 1, 122, .inl mm_now_f))] H → va_D A [(mm, .inr (11, [.ref mm_now, .ref mm_kept, .ref mm_isKept, .ref mm_refused, .int u_mm_4_2, .int u_mm_5_2, .ref mm_stands, .ref mm_far, .ref mm_queue, .int mm_queued, .ref mm_meets, .ref mm_bytes, .int (nI bl), .int (nI ta), .int (nI tl), .int mm_token, .int mm_value, .ref mm_next, .int (nI tk)])), (mm_now, .inl (cy 1, 122, .inl mm_now_f))] → va_S A s.heap H locs → ∀ ls : Array Slot, lv_has ls 4 [(2, .int (nI v2_2)), (0, .ref mm), (1, .int px)] → W p l e (headSpec wsX11_judged ({ frames := 7, cells := 0, slots := 0, locals := 156 })).room s m [.ref mm, .int px].toArray below meth c H locs 0 0 QF (F0 m 2 ls []) := by
    intro n2
    induction n2 with
    | zero => intro v2_2 u_mm_4_2 u_mm_5_2 hv2_2 hm; exact absurd hm (Nat.not_lt_zero _)
    | succ n2 ih2 =>
      intro v2_2 u_mm_4_2 u_mm_5_2 hv2_2 hm2 H locs hP hD hS ls hl
      refine lv_iload_n hx hb dX11_judged_2 rfl (lv_at hl 0 rfl) ?_
      refine lv_aload_n hx hb dX11_judged_3 rfl (lv_at hl 1 rfl) ?_
      refine rd_i (va_runV (As := []) (rest := [.int (nI v2_2)]) ⟨hx, hb, hml, hown, hts⟩ (n_X11_people l D cy mW mH mS mP mm mm_now mm_kept mm_isKept mm_refused u_mm_4_2 u_mm_5_2 mm_stands mm_far mm_queue mm_queued mm_meets mm_bytes bl ta tl mm_token mm_value mm_next tk mm_now_f _ (by first | assumption | omega)) (cwV 0 hts gX11_judged_X11_people rfl rfl rfl (by decide +kernel) ⟨Nat.le_of_ble_eq_true rfl, Nat.le_of_ble_eq_true rfl⟩) (pV (ci := 11) (k := 0) hKA (hP.sub (ws' := [(mm, .inr (11, [.ref mm_now, .ref mm_kept, .ref mm_isKept, .ref mm_refused, .int u_mm_4_2, .int u_mm_5_2, .ref mm_stands, .ref mm_far, .ref mm_queue, .int mm_queued, .ref mm_meets, .ref mm_bytes, .int (nI bl), .int (nI ta), .int (nI tl), .int mm_token, .int mm_value, .ref mm_next, .int (nI tk)])), (mm_now, .inl (cy 1, 122, .inl mm_now_f))]) [0, 1] rfl) (hD.sub (ws' := [(mm, .inr (11, [.ref mm_now, .ref mm_kept, .ref mm_isKept, .ref mm_refused, .int u_mm_4_2, .int u_mm_5_2, .ref mm_stands, .ref mm_far, .ref mm_queue, .int mm_queued, .ref mm_meets, .ref mm_bytes, .int (nI bl), .int (nI ta), .int (nI tl), .int mm_token, .int mm_value, .ref mm_next, .int (nI tk)])), (mm_now, .inl (cy 1, 122, .inl mm_now_f))]) [0, 1] (by decide) rfl) rfl rfl) rfl rfl hl.1 rfl (lv_room (Nat.le_of_ble_eq_true rfl)) dX11_judged_4 ⟨Nat.le_of_ble_eq_true rfl, Nat.le_of_ble_eq_true rfl⟩) hP hS hA (fun r1 H locs hwr1 hP hS => ?_)
      have hwr1 : r1 = nI mP := hwr1
      subst hwr1
      refine lv_icmp_ge (tgt := 57) hx hb dX11_judged_7 (by decide) (fun c2 => ?_) (fun c2 => ?_)
      · skip
        refine lv_iconst (v := (-1)) hx hb dX11_judged_57 (by decide) ?_
        subst hQF
        have hP9 := hP
        have hD9 := hD
        exact W.iret (v := (-1)) hx hb hr (fun t ht hW => ⟨⟨(-1), (u_mm_4_2, u_mm_5_2), rfl, trivial, by rw [ht]; exact hP9, hD9⟩, hS.F ht⟩) hS.2.2 dX11_judged_58
      · skip
        have hk7 := ltM (n := mP) (k := v2_2) (by omega) (by assumption) (by assumption)
        refine lv_iconst (v := 0) hx hb dX11_judged_10 (by decide) ?_
        refine lv_istore_n (lv' := [(3, .int 0), (2, .int (nI v2_2)), (0, .ref mm), (1, .int px)]) hx hb dX11_judged_11 rfl hl (by decide) rfl (fun ls hl => ?_)
        have lp12 : ∀ (n12 : Nat) (v3_12 : Nat) (u_mm_4_12 : Int32) (u_mm_5_12 : Int32) (hv3_12 : v3_12 < 2147483648), 2147483648 - v3_12 < n12 → ∀ (H : Heap) (locs : List Loc), va_P D vwCl [(mm, .inr (11, [.ref mm_now, .ref mm_kept, .ref mm_isKept, .ref mm_refused, .int u_mm_4_12, .int u_mm_5_12, .ref mm_stands, .ref mm_far, .ref mm_queue, .int mm_queued, .ref mm_meets, .ref mm_bytes, .int (nI bl), .int (nI ta), .int (nI tl), .int mm_token, .int mm_value, .ref mm_next, .int (nI tk)])), (mm_now, .inl (cy 1, 122, .inl mm_now_f))] H → va_D A [(mm, .inr (11, [.ref mm_now, .ref mm_kept, .ref mm_isKept, .ref mm_refused, .int u_mm_4_12, .int u_mm_5_12, .ref mm_stands, .ref mm_far, .ref mm_queue, .int mm_queued, .ref mm_meets, .ref mm_bytes, .int (nI bl), .int (nI ta), .int (nI tl), .int mm_token, .int mm_value, .ref mm_next, .int (nI tk)])), (mm_now, .inl (cy 1, 122, .inl mm_now_f))] → va_S A s.heap H locs → ∀ ls : Array Slot, lv_has ls 4 [(3, .int (nI v3_12)), (2, .int (nI v2_2)), (0, .ref mm), (1, .int px)] → W p l e (headSpec wsX11_judged ({ frames := 7, cells := 0, slots := 0, locals := 156 })).room s m [.ref mm, .int px].toArray below meth c H locs 0 0 QF (F0 m 12 ls []) := by
          intro n12
          induction n12 with
          | zero => intro v3_12 u_mm_4_12 u_mm_5_12 hv3_12 hm; exact absurd hm (Nat.not_lt_zero _)
          | succ n12 ih12 =>
            intro v3_12 u_mm_4_12 u_mm_5_12 hv3_12 hm12 H locs hP hD hS ls hl
            refine lv_iload_n hx hb dX11_judged_12 rfl (lv_at hl 0 rfl) ?_
            refine lv_aload_n hx hb dX11_judged_13 rfl (lv_at hl 2 rfl) ?_
            refine rd_i (va_runV (As := []) (rest := [.int (nI v3_12)]) ⟨hx, hb, hml, hown, hts⟩ (n_X11_people l D cy mW mH mS mP mm mm_now mm_kept mm_isKept mm_refused u_mm_4_12 u_mm_5_12 mm_stands mm_far mm_queue mm_queued mm_meets mm_bytes bl ta tl mm_token mm_value mm_next tk mm_now_f _ (by first | assumption | omega)) (cwV 0 hts gX11_judged_X11_people rfl rfl rfl (by decide +kernel) ⟨Nat.le_of_ble_eq_true rfl, Nat.le_of_ble_eq_true rfl⟩) (pV (ci := 11) (k := 0) hKA (hP.sub (ws' := [(mm, .inr (11, [.ref mm_now, .ref mm_kept, .ref mm_isKept, .ref mm_refused, .int u_mm_4_12, .int u_mm_5_12, .ref mm_stands, .ref mm_far, .ref mm_queue, .int mm_queued, .ref mm_meets, .ref mm_bytes, .int (nI bl), .int (nI ta), .int (nI tl), .int mm_token, .int mm_value, .ref mm_next, .int (nI tk)])), (mm_now, .inl (cy 1, 122, .inl mm_now_f))]) [0, 1] rfl) (hD.sub (ws' := [(mm, .inr (11, [.ref mm_now, .ref mm_kept, .ref mm_isKept, .ref mm_refused, .int u_mm_4_12, .int u_mm_5_12, .ref mm_stands, .ref mm_far, .ref mm_queue, .int mm_queued, .ref mm_meets, .ref mm_bytes, .int (nI bl), .int (nI ta), .int (nI tl), .int mm_token, .int mm_value, .ref mm_next, .int (nI tk)])), (mm_now, .inl (cy 1, 122, .inl mm_now_f))]) [0, 1] (by decide) rfl) rfl rfl) rfl rfl hl.1 rfl (lv_room (Nat.le_of_ble_eq_true rfl)) dX11_judged_14 ⟨Nat.le_of_ble_eq_true rfl, Nat.le_of_ble_eq_true rfl⟩) hP hS hA (fun r3 H locs hwr3 hP hS => ?_)
            have hwr3 : r3 = nI mP := hwr3
            subst hwr3
            refine lv_icmp_ge (tgt := 51) hx hb dX11_judged_17 (by decide) (fun c4 => ?_) (fun c4 => ?_)
            · skip
              refine lv_iinc (v := nI (v2_2 + 1)) (lv' := [(2, .int (nI (v2_2 + 1))), (3, .int (nI v3_12)), (0, .ref mm), (1, .int px)]) hx hb dX11_judged_51 hl (k := 1) rfl (nI_1 _) (by decide) rfl (fun ls hl => ?_)
              refine lv_goto (tgt := 2) hx hb dX11_judged_54 (by decide) ?_
              exact ih2 (v2_2 + 1) u_mm_4_12 u_mm_5_12 (by first | omega | exact nlt_max hv2_2 (by assumption)) (by first | omega | (have := nlt_max hv2_2 (by assumption); omega)) _ _ hP hD hS ls (lv_sub hl [0, 2, 3] rfl)
            · skip
              have hk17 := ltM (n := mP) (k := v3_12) (by omega) (by assumption) (by assumption)
              refine lv_iload_n hx hb dX11_judged_20 rfl (lv_at hl 3 rfl) ?_
              refine lv_iload_n hx hb dX11_judged_21 rfl (lv_at hl 0 rfl) ?_
              refine lv_ishr hx hb dX11_judged_22 ?_
              refine lv_iconst (v := 1) hx hb dX11_judged_23 (by decide) ?_
              refine lv_iand hx hb dX11_judged_24 ?_
              refine lv_iconst (v := 1) hx hb dX11_judged_25 (by decide) ?_
              refine lv_icmp_ne (tgt := 45) hx hb dX11_judged_26 (by decide) (fun c5 => ?_) (fun c5 => ?_)
              · skip
                refine lv_iinc (v := nI (v3_12 + 1)) (lv' := [(3, .int (nI (v3_12 + 1))), (2, .int (nI v2_2)), (0, .ref mm), (1, .int px)]) hx hb dX11_judged_45 hl (k := 0) rfl (nI_1 _) (by decide) rfl (fun ls hl => ?_)
                refine lv_goto (tgt := 12) hx hb dX11_judged_48 (by decide) ?_
                exact ih12 (v3_12 + 1) u_mm_4_12 u_mm_5_12 (by first | omega | exact nlt_max hv3_12 (by assumption)) (by first | omega | (have := nlt_max hv3_12 (by assumption); omega)) _ _ hP hD hS ls hl
              · skip
                refine lv_aload_n hx hb dX11_judged_29 rfl (lv_at hl 2 rfl) ?_
                refine lv_iload_n hx hb dX11_judged_30 rfl (lv_at hl 1 rfl) ?_
                refine lv_iload_n hx hb dX11_judged_31 rfl (lv_at hl 0 rfl) ?_
                refine wr_i (wr := []) (va_runV (As := [.int (nI v2_2), .int (nI v3_12)]) (rest := []) ⟨hx, hb, hml, hown, hts⟩ (n_X11_breaks l D cy mW mH mS mP mm mm_now mm_kept mm_isKept mm_refused u_mm_4_12 u_mm_5_12 mm_stands mm_far mm_queue mm_queued mm_meets mm_bytes bl ta tl mm_token mm_value mm_next tk mm_now_f v2_2 v3_12 _ (by first | assumption | omega) (by first | assumption | omega) (by first | assumption | omega)) (cwV 2 hts gX11_judged_X11_breaks rfl rfl rfl (by decide +kernel) ⟨Nat.le_of_ble_eq_true rfl, Nat.le_of_ble_eq_true rfl⟩) (pV (ci := 11) (k := 0) hKA (hP.sub (ws' := [(mm, .inr (11, [.ref mm_now, .ref mm_kept, .ref mm_isKept, .ref mm_refused, .int u_mm_4_12, .int u_mm_5_12, .ref mm_stands, .ref mm_far, .ref mm_queue, .int mm_queued, .ref mm_meets, .ref mm_bytes, .int (nI bl), .int (nI ta), .int (nI tl), .int mm_token, .int mm_value, .ref mm_next, .int (nI tk)])), (mm_now, .inl (cy 1, 122, .inl mm_now_f))]) [0, 1] rfl) (hD.sub (ws' := [(mm, .inr (11, [.ref mm_now, .ref mm_kept, .ref mm_isKept, .ref mm_refused, .int u_mm_4_12, .int u_mm_5_12, .ref mm_stands, .ref mm_far, .ref mm_queue, .int mm_queued, .ref mm_meets, .ref mm_bytes, .int (nI bl), .int (nI ta), .int (nI tl), .int mm_token, .int mm_value, .ref mm_next, .int (nI tk)])), (mm_now, .inl (cy 1, 122, .inl mm_now_f))]) [0, 1] (by decide) rfl) rfl rfl) rfl rfl hl.1 rfl (lv_room (Nat.le_of_ble_eq_true rfl)) dX11_judged_32 ⟨Nat.le_of_ble_eq_true rfl, Nat.le_of_ble_eq_true rfl⟩) hP hD hS hA [0, 1] [] rfl rfl (by decide +kernel) (by decide +kernel) (fun r6 ur6 H locs hwr6 hP hD hS => ?_)
                obtain ⟨z7, z8⟩ := ur6
                have hP : va_P D vwCl [(mm, .inr (11, [.ref mm_now, .ref mm_kept, .ref mm_isKept, .ref mm_refused, .int z7, .int z8, .ref mm_stands, .ref mm_far, .ref mm_queue, .int mm_queued, .ref mm_meets, .ref mm_bytes, .int (nI bl), .int (nI ta), .int (nI tl), .int mm_token, .int mm_value, .ref mm_next, .int (nI tk)])), (mm_now, .inl (cy 1, 122, .inl mm_now_f))] H := hP
                have hD : va_D A [(mm, .inr (11, [.ref mm_now, .ref mm_kept, .ref mm_isKept, .ref mm_refused, .int z7, .int z8, .ref mm_stands, .ref mm_far, .ref mm_queue, .int mm_queued, .ref mm_meets, .ref mm_bytes, .int (nI bl), .int (nI ta), .int (nI tl), .int mm_token, .int mm_value, .ref mm_next, .int (nI tk)])), (mm_now, .inl (cy 1, 122, .inl mm_now_f))] := hD
                have hwr6 : (r6 = 1 ∧ True) ∨ (r6 = 0 ∧ True) := hwr6
                refine lv_if_eq (tgt := 45) hx hb dX11_judged_35 (by decide) (fun c9 => ?_) (fun c9 => ?_)
                · skip
                  refine lv_iinc (v := nI (v3_12 + 1)) (lv' := [(3, .int (nI (v3_12 + 1))), (2, .int (nI v2_2)), (0, .ref mm), (1, .int px)]) hx hb dX11_judged_45 hl (k := 0) rfl (nI_1 _) (by decide) rfl (fun ls hl => ?_)
                  refine lv_goto (tgt := 12) hx hb dX11_judged_48 (by decide) ?_
                  exact ih12 (v3_12 + 1) z7 z8 (by first | omega | exact nlt_max hv3_12 (by assumption)) (by first | omega | (have := nlt_max hv3_12 (by assumption); omega)) _ _ hP hD hS ls hl
                · skip
                  refine lv_bipush (v := 10) hx hb dX11_judged_38 (by decide) ?_
                  refine lv_iload_n hx hb dX11_judged_40 rfl (lv_at hl 1 rfl) ?_
                  refine lv_imul hx hb dX11_judged_41 ?_
                  refine lv_topi (fun x10 ex10 => ?_)
                  obtain rfl : x10 = nI (10 * v2_2) := by rw [ex10]; exact pk_mul _ _
                  refine lv_iload_n hx hb dX11_judged_42 rfl (lv_at hl 0 rfl) ?_
                  refine lv_iadd hx hb dX11_judged_43 ?_
                  refine lv_topi (fun x11 ex11 => ?_)
                  obtain rfl : x11 = nI ((10 * v2_2) + v3_12) := by rw [ex11]; exact nI_add _ _
                  subst hQF
                  have hP9 := hP
                  have hD9 := hD
                  exact W.iret (v := nI ((10 * v2_2) + v3_12)) hx hb hr (fun t ht hW => ⟨⟨nI ((10 * v2_2) + v3_12), (z7, z8), rfl, trivial, by rw [ht]; exact hP9, hD9⟩, hS.F ht⟩) hS.2.2 dX11_judged_44
        exact lp12 (2147483648 - 0 + 1) 0 u_mm_4_2 u_mm_5_2 (by first | omega | exact nlt_max (by assumption) (by assumption)) (Nat.lt_succ_self _) _ _ hP hD hS ls hl
  exact lp2 (2147483648 - 0 + 1) 0 mm_lineFrom mm_lineTo (by first | omega | exact nlt_max (by assumption) (by assumption)) (Nat.lt_succ_self _) _ _ hP hD hS ls hl

set_option maxHeartbeats 4000000 in
set_option maxRecDepth 100000 in
theorem n_X11_isTold (l : Launch) (D : va_G) (cy : Nat → ClassId) (mW : Nat) (mH : Nat) (mS : Nat) (mP : Nat) (mm : Nat) (mm_now : Nat) (mm_kept : Nat) (mm_isKept : Nat) (mm_refused : Nat) (mm_lineFrom : Int32) (mm_lineTo : Int32) (mm_stands : Nat) (mm_far : Nat) (mm_queue : Nat) (mm_queued : Int32) (mm_meets : Nat) (mm_bytes : Nat) (bl : Nat) (ta : Nat) (tl : Nat) (mm_token : Int32) (mm_value : Int32) (mm_next : Nat) (tk : Nat) (mm_now_f : Nat → Int32) (px : Int32) (sz : Nat) (hF : mV mm_now_f mW mH mS mP) : Met l yX11_isTold wsX11_isTold ({ frames := 8, cells := 0, slots := 0, locals := 180 }) (va_Pc [.ref mm, .int px] (kPre D cy [(mm, .inr (11, [.ref mm_now, .ref mm_kept, .ref mm_isKept, .ref mm_refused, .int mm_lineFrom, .int mm_lineTo, .ref mm_stands, .ref mm_far, .ref mm_queue, .int mm_queued, .ref mm_meets, .ref mm_bytes, .int (nI bl), .int (nI ta), .int (nI tl), .int mm_token, .int mm_value, .ref mm_next, .int (nI tk)])), (mm_now, .inl (cy 1, 122, .inl mm_now_f))] sz)) (va_Qi (fun (r : Int32) (u : Int32 × Int32) => (r = 1 ∧ True) ∨ (r = 0 ∧ True)) (fun (u : Int32 × Int32) t => va_P D vwCl ([(mm, .inr (11, [.ref mm_now, .ref mm_kept, .ref mm_isKept, .ref mm_refused, .int u.1, .int u.2, .ref mm_stands, .ref mm_far, .ref mm_queue, .int mm_queued, .ref mm_meets, .ref mm_bytes, .int (nI bl), .int (nI ta), .int (nI tl), .int mm_token, .int mm_value, .ref mm_next, .int (nI tk)])), (mm_now, .inl (cy 1, 122, .inl mm_now_f))]) t.heap ∧ va_D (va_A [(mm, .inr (11, [.ref mm_now, .ref mm_kept, .ref mm_isKept, .ref mm_refused, .int mm_lineFrom, .int mm_lineTo, .ref mm_stands, .ref mm_far, .ref mm_queue, .int mm_queued, .ref mm_meets, .ref mm_bytes, .int (nI bl), .int (nI ta), .int (nI tl), .int mm_token, .int mm_value, .ref mm_next, .int (nI tk)])), (mm_now, .inl (cy 1, 122, .inl mm_now_f))] sz) ([(mm, .inr (11, [.ref mm_now, .ref mm_kept, .ref mm_isKept, .ref mm_refused, .int u.1, .int u.2, .ref mm_stands, .ref mm_far, .ref mm_queue, .int mm_queued, .ref mm_meets, .ref mm_bytes, .int (nI bl), .int (nI ta), .int (nI tl), .int mm_token, .int mm_value, .ref mm_next, .int (nI tk)])), (mm_now, .inl (cy 1, 122, .inl mm_now_f))])) (va_A [(mm, .inr (11, [.ref mm_now, .ref mm_kept, .ref mm_isKept, .ref mm_refused, .int mm_lineFrom, .int mm_lineTo, .ref mm_stands, .ref mm_far, .ref mm_queue, .int mm_queued, .ref mm_meets, .ref mm_bytes, .int (nI bl), .int (nI ta), .int (nI tl), .int mm_token, .int mm_value, .ref mm_next, .int (nI tk)])), (mm_now, .inl (cy 1, 122, .inl mm_now_f))] sz)) 0 0 (va_A [(mm, .inr (11, [.ref mm_now, .ref mm_kept, .ref mm_isKept, .ref mm_refused, .int mm_lineFrom, .int mm_lineTo, .ref mm_stands, .ref mm_far, .ref mm_queue, .int mm_queued, .ref mm_meets, .ref mm_bytes, .int (nI bl), .int (nI ta), .int (nI tl), .int mm_token, .int mm_value, .ref mm_next, .int (nI tk)])), (mm_now, .inl (cy 1, 122, .inl mm_now_f))] sz) := by
  refine Met.ofW (cc := cX11_isTold) (maxL := 7) (ret := (some .boolean)) (by decide) rfl ?_
  intro p e s m args below meth c s₁ B hml hv
  obtain ⟨rfl, hsz, hP, hKA, hD0⟩ := hv
  have hx := B.exec
  have hb := B.bytes
  have hr := B.returns
  have hts := atoms_spec (ws := wsX11_isTold) B.pre
  have hown : s.vm.findClass RX11 = some m.cls := findClass_of_methodNamed B.named
  have hlocks := B.notSynchronized
  subst hsz
  have hK := hKA.1
  have hD := hD0.self (sz := s.heap.size)
  generalize hAe : va_A [(mm, .inr (11, [.ref mm_now, .ref mm_kept, .ref mm_isKept, .ref mm_refused, .int mm_lineFrom, .int mm_lineTo, .ref mm_stands, .ref mm_far, .ref mm_queue, .int mm_queued, .ref mm_meets, .ref mm_bytes, .int (nI bl), .int (nI ta), .int (nI tl), .int mm_token, .int mm_value, .ref mm_next, .int (nI tk)])), (mm_now, .inl (cy 1, 122, .inl mm_now_f))] s.heap.size = A at hD ⊢
  have hA : ∀ q : Nat, s.heap.size ≤ q → A q := fun q h => by rw [← hAe]; exact Or.inr h
  have hS : va_S A s.heap s.heap [] := va_S.rf
  have hP : va_P D vwCl [(mm, .inr (11, [.ref mm_now, .ref mm_kept, .ref mm_isKept, .ref mm_refused, .int mm_lineFrom, .int mm_lineTo, .ref mm_stands, .ref mm_far, .ref mm_queue, .int mm_queued, .ref mm_meets, .ref mm_bytes, .int (nI bl), .int (nI ta), .int (nI tl), .int mm_token, .int mm_value, .ref mm_next, .int (nI tk)])), (mm_now, .inl (cy 1, 122, .inl mm_now_f))] s.heap := hP
  have hl := lv_entry ([.ref mm, .int px]) (n := 7) (Nat.le_of_ble_eq_true rfl)
  rw [lg_entry_eq]
  generalize (lg_sl ([.ref mm, .int px]) ++ List.replicate (7 - (lg_sl ([.ref mm, .int px])).length) Slot.unset).toArray = ls at hl ⊢
  have hl : lv_has ls 7 [(0, .ref mm), (1, .int px)] := hl
  refine qW (fun QF hQF => ?_)
  have z0_ := hts (.fieldLink RX11 7 "HeardSeenModel" "now" "[I") (by decide +kernel)
  have zi11_ : ∀ w ∈ u_ws RX11 TX11 19, w ∈ wsX11_isTold := by decide +kernel
  obtain ⟨hW2, hW6, hH2, hH6, hSe, hS4, hS6, hP5⟩ := hF.rng
  refine lv_aload_n hx hb dX11_isTold_0 rfl (lv_at hl 0 rfl) ?_
  refine wr_i (wr := []) (va_runV (As := []) (rest := []) ⟨hx, hb, hml, hown, hts⟩ (n_X11_maySpeak l D cy mW mH mS mP mm mm_now mm_kept mm_isKept mm_refused mm_lineFrom mm_lineTo mm_stands mm_far mm_queue mm_queued mm_meets mm_bytes bl ta tl mm_token mm_value mm_next tk mm_now_f _ (by first | assumption | omega)) (cwV 0 hts gX11_isTold_X11_maySpeak rfl rfl rfl (by decide +kernel) ⟨Nat.le_of_ble_eq_true rfl, Nat.le_of_ble_eq_true rfl⟩) (pV (ci := 11) (k := 0) hKA (hP.sub (ws' := [(mm, .inr (11, [.ref mm_now, .ref mm_kept, .ref mm_isKept, .ref mm_refused, .int mm_lineFrom, .int mm_lineTo, .ref mm_stands, .ref mm_far, .ref mm_queue, .int mm_queued, .ref mm_meets, .ref mm_bytes, .int (nI bl), .int (nI ta), .int (nI tl), .int mm_token, .int mm_value, .ref mm_next, .int (nI tk)])), (mm_now, .inl (cy 1, 122, .inl mm_now_f))]) [0, 1] rfl) (hD.sub (ws' := [(mm, .inr (11, [.ref mm_now, .ref mm_kept, .ref mm_isKept, .ref mm_refused, .int mm_lineFrom, .int mm_lineTo, .ref mm_stands, .ref mm_far, .ref mm_queue, .int mm_queued, .ref mm_meets, .ref mm_bytes, .int (nI bl), .int (nI ta), .int (nI tl), .int mm_token, .int mm_value, .ref mm_next, .int (nI tk)])), (mm_now, .inl (cy 1, 122, .inl mm_now_f))]) [0, 1] (by decide) rfl) rfl rfl) rfl rfl hl.1 rfl (lv_room (Nat.le_of_ble_eq_true rfl)) dX11_isTold_1 ⟨Nat.le_of_ble_eq_true rfl, Nat.le_of_ble_eq_true rfl⟩) hP hD hS hA [0, 1] [] rfl rfl (by decide +kernel) (by decide +kernel) (fun r1 ur1 H locs hwr1 hP hD hS => ?_)
  obtain ⟨z2, z3⟩ := ur1
  have hP : va_P D vwCl [(mm, .inr (11, [.ref mm_now, .ref mm_kept, .ref mm_isKept, .ref mm_refused, .int z2, .int z3, .ref mm_stands, .ref mm_far, .ref mm_queue, .int mm_queued, .ref mm_meets, .ref mm_bytes, .int (nI bl), .int (nI ta), .int (nI tl), .int mm_token, .int mm_value, .ref mm_next, .int (nI tk)])), (mm_now, .inl (cy 1, 122, .inl mm_now_f))] H := hP
  have hD : va_D A [(mm, .inr (11, [.ref mm_now, .ref mm_kept, .ref mm_isKept, .ref mm_refused, .int z2, .int z3, .ref mm_stands, .ref mm_far, .ref mm_queue, .int mm_queued, .ref mm_meets, .ref mm_bytes, .int (nI bl), .int (nI ta), .int (nI tl), .int mm_token, .int mm_value, .ref mm_next, .int (nI tk)])), (mm_now, .inl (cy 1, 122, .inl mm_now_f))] := hD
  refine lv_istore_n (lv' := [(2, .int r1), (0, .ref mm), (1, .int px)]) hx hb dX11_isTold_4 rfl hl (by decide) rfl (fun ls hl => ?_)
  refine lv_iconst (v := 1) hx hb dX11_isTold_5 (by decide) ?_
  refine lv_istore_n (lv' := [(3, .int 1), (2, .int r1), (0, .ref mm), (1, .int px)]) hx hb dX11_isTold_6 rfl hl (by decide) rfl (fun ls hl => ?_)
  refine lv_iconst (v := 0) hx hb dX11_isTold_7 (by decide) ?_
  refine lv_istore (lv' := [(4, .int 0), (3, .int 1), (2, .int r1), (0, .ref mm), (1, .int px)]) hx hb dX11_isTold_8 hl (by decide) rfl (fun ls hl => ?_)
  have lp10 : ∀ (n10 : Nat) (v4_10 : Nat) (v3_10 : Int32) (bv3_10 : v3_10 = 1 ∨ v3_10 = 0) (hv4_10 : v4_10 < 2147483648), 2147483648 - v4_10 < n10 → ∀ (H : Heap) (locs : List Loc), va_P D vwCl [(mm, .inr (11, [.ref mm_now, .ref mm_kept, .ref mm_isKept, .ref mm_refused, .int z2, .int z3, .ref mm_stands, .ref mm_far, .ref mm_queue, .int mm_queued, .ref mm_meets, .ref mm_bytes, .int (nI bl), .int (nI ta), .int (nI tl), .int mm_token, .int mm_value, .ref mm_next, .int (nI tk)])), (mm_now, .inl (cy 1, 122, .inl mm_now_f))] H → va_D A [(mm, .inr (11, [.ref mm_now, .ref mm_kept, .ref mm_isKept, .ref mm_refused, .int z2, .int z3, .ref mm_stands, .ref mm_far, .ref mm_queue, .int mm_queued, .ref mm_meets, .ref mm_bytes, .int (nI bl), .int (nI ta), .int (nI tl), .int mm_token, .int mm_value, .ref mm_next, .int (nI tk)])), (mm_now, .inl (cy 1, 122, .inl mm_now_f))] → va_S A s.heap H locs → ∀ ls : Array Slot, lv_has ls 7 [(4, .int (nI v4_10)), (3, .int v3_10), (2, .int r1), (0, .ref mm), (1, .int px)] → W p l e (headSpec wsX11_isTold ({ frames := 8, cells := 0, slots := 0, locals := 180 })).room s m [.ref mm, .int px].toArray below meth c H locs 0 0 QF (F0 m 10 ls []) := by
    intro n10
    induction n10 with
    | zero => intro v4_10 v3_10 bv3_10 hv4_10 hm; exact absurd hm (Nat.not_lt_zero _)
    | succ n10 ih10 =>
      intro v4_10 v3_10 bv3_10 hv4_10 hm10 H locs hP hD hS ls hl
      refine lv_iload hx hb dX11_isTold_10 (lv_at hl 0 rfl) ?_
      refine lv_aload_n hx hb dX11_isTold_12 rfl (lv_at hl 3 rfl) ?_
      refine va_get (D := D) (ci := 11) (v := .ref mm_now) (C := RX11) (T := TX11) (N := 19) hx hb hts zi11_ hown hK hP 0 rfl rfl 0 (by decide) z0_ (fun _ h9 => h9) rfl dX11_isTold_13 ?_
      refine lv_bipush (v := 92) hx hb dX11_isTold_16 (by decide) ?_
      refine my_iald hx hb hK hP 1 1 rfl rfl (by rw [vp_in_iff]; decide +kernel) (k := 92) (by decide +kernel) dX11_isTold_18 ?_
      obtain ⟨jt, ejt, hjt⟩ := mV.get hF (92) 6 (by omega) (by omega) (by unfold mHi; (repeat' split) <;> omega)
      refine W.eq (g2 := F0 m 19 ls [.int (nI jt), .int (nI v4_10)]) (congrArg (fun v9 : Int32 => F0 m 19 ls [.int v9, .int (nI v4_10)]) ejt) ?_
      refine lv_icmp_ge (tgt := 141) hx hb dX11_isTold_19 (by decide) (fun c4 => ?_) (fun c4 => ?_)
      · skip
        refine lv_iload_n hx hb dX11_isTold_141 rfl (lv_at hl 1 rfl) ?_
        subst hQF
        have hP9 := hP
        have hD9 := hD
        exact W.zret (v := v3_10) hx hb hr (z_bm bv3_10) (fun t ht hW => ⟨⟨v3_10, (z2, z3), rfl, (z_bu bv3_10), by rw [ht]; exact hP9, hD9⟩, hS.F ht⟩) hS.2.2 dX11_isTold_142
      · skip
        have hk19 := ltM (n := jt) (k := v4_10) (by omega) (by assumption) (by assumption)
        refine lv_iload_n hx hb dX11_isTold_22 rfl (lv_at hl 1 rfl) ?_
        refine lv_if_eq (tgt := 141) hx hb dX11_isTold_23 (by decide) (fun c5 => ?_) (fun c5 => ?_)
        · skip
          refine lv_iload_n hx hb dX11_isTold_141 rfl (lv_at hl 1 rfl) ?_
          refine W.eq (g2 := F0 m 142 ls [.int 0]) (congrArg (fun v9 : Int32 => F0 m 142 ls [.int v9]) c5) ?_
          subst hQF
          have hP9 := hP
          have hD9 := hD
          exact W.zret (v := 0) hx hb hr rfl (fun t ht hW => ⟨⟨0, (z2, z3), rfl, (Or.inr ⟨rfl, trivial⟩), by rw [ht]; exact hP9, hD9⟩, hS.F ht⟩) hS.2.2 dX11_isTold_142
        · skip
          refine lv_aload_n hx hb dX11_isTold_26 rfl (lv_at hl 3 rfl) ?_
          refine va_get (D := D) (ci := 11) (v := .ref mm_now) (C := RX11) (T := TX11) (N := 19) hx hb hts zi11_ hown hK hP 0 rfl rfl 0 (by decide) z0_ (fun _ h9 => h9) rfl dX11_isTold_27 ?_
          refine lv_bipush (v := 93) hx hb dX11_isTold_30 (by decide) ?_
          refine lv_iconst (v := 2) hx hb dX11_isTold_32 (by decide) ?_
          refine lv_iload hx hb dX11_isTold_33 (lv_at hl 0 rfl) ?_
          refine lv_imul hx hb dX11_isTold_35 ?_
          refine lv_topi (fun x6 ex6 => ?_)
          obtain rfl : x6 = nI (2 * v4_10) := by rw [ex6]; exact pk_mul _ _
          refine lv_iadd hx hb dX11_isTold_36 ?_
          refine lv_topi (fun x7 ex7 => ?_)
          obtain rfl : x7 = nI (93 + (2 * v4_10)) := by rw [ex7]; exact nI_add _ _
          refine my_iald hx hb hK hP 1 1 rfl rfl (by first | exact in_ge (N := 122) (by decide) (by omega) (by assumption) | exact vp_in_nI (by omega) (by omega)) (nI_clamp (by omega)) dX11_isTold_37 ?_
          obtain ⟨ja, eja, hja⟩ := mV.get hF (93 + (2 * v4_10)) 4 (by omega) (by omega) (by unfold mHi; (repeat' split) <;> omega)
          refine W.eq (g2 := F0 m 38 ls [.int (nI ja)]) (congrArg (fun v9 : Int32 => F0 m 38 ls [.int v9]) eja) ?_
          refine lv_istore (lv' := [(5, .int (nI ja)), (4, .int (nI v4_10)), (3, .int v3_10), (2, .int r1), (0, .ref mm), (1, .int px)]) hx hb dX11_isTold_38 hl (by decide) rfl (fun ls hl => ?_)
          refine lv_iload_n hx hb dX11_isTold_40 rfl (lv_at hl 3 rfl) ?_
          refine lv_iload hx hb dX11_isTold_41 (lv_at hl 0 rfl) ?_
          refine lv_ishr hx hb dX11_isTold_43 ?_
          refine lv_iconst (v := 1) hx hb dX11_isTold_44 (by decide) ?_
          refine lv_iand hx hb dX11_isTold_45 ?_
          refine lv_iconst (v := 1) hx hb dX11_isTold_46 (by decide) ?_
          have j78 : ∀ (s1_78 : Int32) (bs1_78 : s1_78 = 1 ∨ s1_78 = 0) (H : Heap) (locs : List Loc), va_P D vwCl [(mm, .inr (11, [.ref mm_now, .ref mm_kept, .ref mm_isKept, .ref mm_refused, .int z2, .int z3, .ref mm_stands, .ref mm_far, .ref mm_queue, .int mm_queued, .ref mm_meets, .ref mm_bytes, .int (nI bl), .int (nI ta), .int (nI tl), .int mm_token, .int mm_value, .ref mm_next, .int (nI tk)])), (mm_now, .inl (cy 1, 122, .inl mm_now_f))] H → va_D A [(mm, .inr (11, [.ref mm_now, .ref mm_kept, .ref mm_isKept, .ref mm_refused, .int z2, .int z3, .ref mm_stands, .ref mm_far, .ref mm_queue, .int mm_queued, .ref mm_meets, .ref mm_bytes, .int (nI bl), .int (nI ta), .int (nI tl), .int mm_token, .int mm_value, .ref mm_next, .int (nI tk)])), (mm_now, .inl (cy 1, 122, .inl mm_now_f))] → va_S A s.heap H locs → ∀ ls : Array Slot, lv_has ls 7 [(5, .int (nI ja)), (4, .int (nI v4_10)), (3, .int v3_10), (2, .int r1), (0, .ref mm), (1, .int px)] → W p l e (headSpec wsX11_isTold ({ frames := 8, cells := 0, slots := 0, locals := 180 })).room s m [.ref mm, .int px].toArray below meth c H locs 0 0 QF (F0 m 78 ls [.int s1_78]) := by
            intro s1_78 bs1_78 H locs hP hD hS ls hl
            refine lv_istore_n (lv' := [(3, .int s1_78), (5, .int (nI ja)), (4, .int (nI v4_10)), (2, .int r1), (0, .ref mm), (1, .int px)]) hx hb dX11_isTold_78 rfl hl (by decide) rfl (fun ls hl => ?_)
            refine lv_iconst (v := 0) hx hb dX11_isTold_79 (by decide) ?_
            refine lv_istore (lv' := [(6, .int 0), (3, .int s1_78), (5, .int (nI ja)), (4, .int (nI v4_10)), (2, .int r1), (0, .ref mm), (1, .int px)]) hx hb dX11_isTold_80 hl (by decide) rfl (fun ls hl => ?_)
            have lp82 : ∀ (n82 : Nat) (v6_82 : Nat) (v3_82 : Int32) (bv3_82 : v3_82 = 1 ∨ v3_82 = 0) (hv6_82 : v6_82 < 2147483648), 2147483648 - v6_82 < n82 → ∀ (H : Heap) (locs : List Loc), va_P D vwCl [(mm, .inr (11, [.ref mm_now, .ref mm_kept, .ref mm_isKept, .ref mm_refused, .int z2, .int z3, .ref mm_stands, .ref mm_far, .ref mm_queue, .int mm_queued, .ref mm_meets, .ref mm_bytes, .int (nI bl), .int (nI ta), .int (nI tl), .int mm_token, .int mm_value, .ref mm_next, .int (nI tk)])), (mm_now, .inl (cy 1, 122, .inl mm_now_f))] H → va_D A [(mm, .inr (11, [.ref mm_now, .ref mm_kept, .ref mm_isKept, .ref mm_refused, .int z2, .int z3, .ref mm_stands, .ref mm_far, .ref mm_queue, .int mm_queued, .ref mm_meets, .ref mm_bytes, .int (nI bl), .int (nI ta), .int (nI tl), .int mm_token, .int mm_value, .ref mm_next, .int (nI tk)])), (mm_now, .inl (cy 1, 122, .inl mm_now_f))] → va_S A s.heap H locs → ∀ ls : Array Slot, lv_has ls 7 [(6, .int (nI v6_82)), (3, .int v3_82), (5, .int (nI ja)), (4, .int (nI v4_10)), (2, .int r1), (0, .ref mm), (1, .int px)] → W p l e (headSpec wsX11_isTold ({ frames := 8, cells := 0, slots := 0, locals := 180 })).room s m [.ref mm, .int px].toArray below meth c H locs 0 0 QF (F0 m 82 ls []) := by
              intro n82
              induction n82 with
              | zero => intro v6_82 v3_82 bv3_82 hv6_82 hm; exact absurd hm (Nat.not_lt_zero _)
              | succ n82 ih82 =>
                intro v6_82 v3_82 bv3_82 hv6_82 hm82 H locs hP hD hS ls hl
                refine lv_iload hx hb dX11_isTold_82 (lv_at hl 0 rfl) ?_
                refine lv_aload_n hx hb dX11_isTold_84 rfl (lv_at hl 5 rfl) ?_
                refine rd_i (va_runV (As := []) (rest := [.int (nI v6_82)]) ⟨hx, hb, hml, hown, hts⟩ (n_X11_people l D cy mW mH mS mP mm mm_now mm_kept mm_isKept mm_refused z2 z3 mm_stands mm_far mm_queue mm_queued mm_meets mm_bytes bl ta tl mm_token mm_value mm_next tk mm_now_f _ (by first | assumption | omega)) (cwV 0 hts gX11_isTold_X11_people rfl rfl rfl (by decide +kernel) ⟨Nat.le_of_ble_eq_true rfl, Nat.le_of_ble_eq_true rfl⟩) (pV (ci := 11) (k := 0) hKA (hP.sub (ws' := [(mm, .inr (11, [.ref mm_now, .ref mm_kept, .ref mm_isKept, .ref mm_refused, .int z2, .int z3, .ref mm_stands, .ref mm_far, .ref mm_queue, .int mm_queued, .ref mm_meets, .ref mm_bytes, .int (nI bl), .int (nI ta), .int (nI tl), .int mm_token, .int mm_value, .ref mm_next, .int (nI tk)])), (mm_now, .inl (cy 1, 122, .inl mm_now_f))]) [0, 1] rfl) (hD.sub (ws' := [(mm, .inr (11, [.ref mm_now, .ref mm_kept, .ref mm_isKept, .ref mm_refused, .int z2, .int z3, .ref mm_stands, .ref mm_far, .ref mm_queue, .int mm_queued, .ref mm_meets, .ref mm_bytes, .int (nI bl), .int (nI ta), .int (nI tl), .int mm_token, .int mm_value, .ref mm_next, .int (nI tk)])), (mm_now, .inl (cy 1, 122, .inl mm_now_f))]) [0, 1] (by decide) rfl) rfl rfl) rfl rfl hl.1 rfl (lv_room (Nat.le_of_ble_eq_true rfl)) dX11_isTold_85 ⟨Nat.le_of_ble_eq_true rfl, Nat.le_of_ble_eq_true rfl⟩) hP hS hA (fun r8 H locs hwr8 hP hS => ?_)
                have hwr8 : r8 = nI mP := hwr8
                subst hwr8
                refine lv_icmp_ge (tgt := 135) hx hb dX11_isTold_88 (by decide) (fun c9 => ?_) (fun c9 => ?_)
                · skip
                  refine lv_iinc (v := nI (v4_10 + 1)) (lv' := [(4, .int (nI (v4_10 + 1))), (6, .int (nI v6_82)), (3, .int v3_82), (5, .int (nI ja)), (2, .int r1), (0, .ref mm), (1, .int px)]) hx hb dX11_isTold_135 hl (k := 3) rfl (nI_1 _) (by decide) rfl (fun ls hl => ?_)
                  refine lv_goto (tgt := 10) hx hb dX11_isTold_138 (by decide) ?_
                  exact ih10 (v4_10 + 1) v3_82 bv3_82 (by first | omega | exact nlt_max hv4_10 (by assumption)) (by first | omega | (have := nlt_max hv4_10 (by assumption); omega)) _ _ hP hD hS ls (lv_sub hl [0, 2, 4, 5, 6] rfl)
                · skip
                  have hk88 := ltM (n := mP) (k := v6_82) (by omega) (by assumption) (by assumption)
                  refine lv_iload_n hx hb dX11_isTold_91 rfl (lv_at hl 1 rfl) ?_
                  refine lv_if_eq (tgt := 127) hx hb dX11_isTold_92 (by decide) (fun c10 => ?_) (fun c10 => ?_)
                  · skip
                    refine lv_iconst (v := 0) hx hb dX11_isTold_127 (by decide) ?_
                    refine lv_istore_n (lv' := [(3, .int 0), (6, .int (nI v6_82)), (5, .int (nI ja)), (4, .int (nI v4_10)), (2, .int r1), (0, .ref mm), (1, .int px)]) hx hb dX11_isTold_128 rfl hl (by decide) rfl (fun ls hl => ?_)
                    refine lv_iinc (v := nI (v6_82 + 1)) (lv' := [(6, .int (nI (v6_82 + 1))), (3, .int 0), (5, .int (nI ja)), (4, .int (nI v4_10)), (2, .int r1), (0, .ref mm), (1, .int px)]) hx hb dX11_isTold_129 hl (k := 1) rfl (nI_1 _) (by decide) rfl (fun ls hl => ?_)
                    refine lv_goto (tgt := 82) hx hb dX11_isTold_132 (by decide) ?_
                    exact ih82 (v6_82 + 1) 0 (Or.inr rfl) (by first | omega | exact nlt_max hv6_82 (by assumption)) (by first | omega | (have := nlt_max hv6_82 (by assumption); omega)) _ _ hP hD hS ls hl
                  · skip
                    refine lv_iload_n hx hb dX11_isTold_95 rfl (lv_at hl 6 rfl) ?_
                    refine lv_iload hx hb dX11_isTold_96 (lv_at hl 0 rfl) ?_
                    refine lv_ishr hx hb dX11_isTold_98 ?_
                    refine lv_iconst (v := 1) hx hb dX11_isTold_99 (by decide) ?_
                    refine lv_iand hx hb dX11_isTold_100 ?_
                    refine lv_iconst (v := 1) hx hb dX11_isTold_101 (by decide) ?_
                    refine lv_icmp_ne (tgt := 123) hx hb dX11_isTold_102 (by decide) (fun c11 => ?_) (fun c11 => ?_)
                    · skip
                      refine lv_iconst (v := 1) hx hb dX11_isTold_123 (by decide) ?_
                      refine lv_goto (tgt := 128) hx hb dX11_isTold_124 (by decide) ?_
                      refine lv_istore_n (lv' := [(3, .int 1), (6, .int (nI v6_82)), (5, .int (nI ja)), (4, .int (nI v4_10)), (2, .int r1), (0, .ref mm), (1, .int px)]) hx hb dX11_isTold_128 rfl hl (by decide) rfl (fun ls hl => ?_)
                      refine lv_iinc (v := nI (v6_82 + 1)) (lv' := [(6, .int (nI (v6_82 + 1))), (3, .int 1), (5, .int (nI ja)), (4, .int (nI v4_10)), (2, .int r1), (0, .ref mm), (1, .int px)]) hx hb dX11_isTold_129 hl (k := 1) rfl (nI_1 _) (by decide) rfl (fun ls hl => ?_)
                      refine lv_goto (tgt := 82) hx hb dX11_isTold_132 (by decide) ?_
                      exact ih82 (v6_82 + 1) 1 (Or.inl rfl) (by first | omega | exact nlt_max hv6_82 (by assumption)) (by first | omega | (have := nlt_max hv6_82 (by assumption); omega)) _ _ hP hD hS ls hl
                    · skip
                      refine lv_iload hx hb dX11_isTold_105 (lv_at hl 0 rfl) ?_
                      refine lv_iload hx hb dX11_isTold_107 (lv_at hl 2 rfl) ?_
                      refine lv_icmp_eq (tgt := 123) hx hb dX11_isTold_109 (by decide) (fun c12 => ?_) (fun c12 => ?_)
                      · skip
                        refine lv_iconst (v := 1) hx hb dX11_isTold_123 (by decide) ?_
                        refine lv_goto (tgt := 128) hx hb dX11_isTold_124 (by decide) ?_
                        refine lv_istore_n (lv' := [(3, .int 1), (6, .int (nI v6_82)), (5, .int (nI ja)), (4, .int (nI v4_10)), (2, .int r1), (0, .ref mm), (1, .int px)]) hx hb dX11_isTold_128 rfl hl (by decide) rfl (fun ls hl => ?_)
                        refine lv_iinc (v := nI (v6_82 + 1)) (lv' := [(6, .int (nI (v6_82 + 1))), (3, .int 1), (5, .int (nI ja)), (4, .int (nI v4_10)), (2, .int r1), (0, .ref mm), (1, .int px)]) hx hb dX11_isTold_129 hl (k := 1) rfl (nI_1 _) (by decide) rfl (fun ls hl => ?_)
                        refine lv_goto (tgt := 82) hx hb dX11_isTold_132 (by decide) ?_
                        exact ih82 (v6_82 + 1) 1 (Or.inl rfl) (by first | omega | exact nlt_max hv6_82 (by assumption)) (by first | omega | (have := nlt_max hv6_82 (by assumption); omega)) _ _ hP hD hS ls hl
                      · skip
                        refine lv_aload_n hx hb dX11_isTold_112 rfl (lv_at hl 5 rfl) ?_
                        refine lv_iload hx hb dX11_isTold_113 (lv_at hl 0 rfl) ?_
                        refine lv_iload hx hb dX11_isTold_115 (lv_at hl 2 rfl) ?_
                        refine rd_i (va_runV (As := [.int (nI v6_82), .int (nI ja)]) (rest := []) ⟨hx, hb, hml, hown, hts⟩ (n_X11_hears l D cy mW mH mS mP mm mm_now mm_kept mm_isKept mm_refused z2 z3 mm_stands mm_far mm_queue mm_queued mm_meets mm_bytes bl ta tl mm_token mm_value mm_next tk mm_now_f v6_82 ja _ (by first | assumption | omega) (by first | assumption | omega) (by first | assumption | omega)) (cwV 2 hts gX11_isTold_X11_hears rfl rfl rfl (by decide +kernel) ⟨Nat.le_of_ble_eq_true rfl, Nat.le_of_ble_eq_true rfl⟩) (pV (ci := 11) (k := 0) hKA (hP.sub (ws' := [(mm, .inr (11, [.ref mm_now, .ref mm_kept, .ref mm_isKept, .ref mm_refused, .int z2, .int z3, .ref mm_stands, .ref mm_far, .ref mm_queue, .int mm_queued, .ref mm_meets, .ref mm_bytes, .int (nI bl), .int (nI ta), .int (nI tl), .int mm_token, .int mm_value, .ref mm_next, .int (nI tk)])), (mm_now, .inl (cy 1, 122, .inl mm_now_f))]) [0, 1] rfl) (hD.sub (ws' := [(mm, .inr (11, [.ref mm_now, .ref mm_kept, .ref mm_isKept, .ref mm_refused, .int z2, .int z3, .ref mm_stands, .ref mm_far, .ref mm_queue, .int mm_queued, .ref mm_meets, .ref mm_bytes, .int (nI bl), .int (nI ta), .int (nI tl), .int mm_token, .int mm_value, .ref mm_next, .int (nI tk)])), (mm_now, .inl (cy 1, 122, .inl mm_now_f))]) [0, 1] (by decide) rfl) rfl rfl) rfl rfl hl.1 rfl (lv_room (Nat.le_of_ble_eq_true rfl)) dX11_isTold_117 ⟨Nat.le_of_ble_eq_true rfl, Nat.le_of_ble_eq_true rfl⟩) hP hS hA (fun r13 H locs hwr13 hP hS => ?_)
                        have hwr13 : (r13 = 1 ∧ True) ∨ (r13 = 0 ∧ True) := hwr13
                        refine lv_if_ne (tgt := 127) hx hb dX11_isTold_120 (by decide) (fun c14 => ?_) (fun c14 => ?_)
                        · skip
                          refine lv_iconst (v := 0) hx hb dX11_isTold_127 (by decide) ?_
                          refine lv_istore_n (lv' := [(3, .int 0), (6, .int (nI v6_82)), (5, .int (nI ja)), (4, .int (nI v4_10)), (2, .int r1), (0, .ref mm), (1, .int px)]) hx hb dX11_isTold_128 rfl hl (by decide) rfl (fun ls hl => ?_)
                          refine lv_iinc (v := nI (v6_82 + 1)) (lv' := [(6, .int (nI (v6_82 + 1))), (3, .int 0), (5, .int (nI ja)), (4, .int (nI v4_10)), (2, .int r1), (0, .ref mm), (1, .int px)]) hx hb dX11_isTold_129 hl (k := 1) rfl (nI_1 _) (by decide) rfl (fun ls hl => ?_)
                          refine lv_goto (tgt := 82) hx hb dX11_isTold_132 (by decide) ?_
                          exact ih82 (v6_82 + 1) 0 (Or.inr rfl) (by first | omega | exact nlt_max hv6_82 (by assumption)) (by first | omega | (have := nlt_max hv6_82 (by assumption); omega)) _ _ hP hD hS ls hl
                        · skip
                          refine lv_iconst (v := 1) hx hb dX11_isTold_123 (by decide) ?_
                          refine lv_goto (tgt := 128) hx hb dX11_isTold_124 (by decide) ?_
                          refine lv_istore_n (lv' := [(3, .int 1), (6, .int (nI v6_82)), (5, .int (nI ja)), (4, .int (nI v4_10)), (2, .int r1), (0, .ref mm), (1, .int px)]) hx hb dX11_isTold_128 rfl hl (by decide) rfl (fun ls hl => ?_)
                          refine lv_iinc (v := nI (v6_82 + 1)) (lv' := [(6, .int (nI (v6_82 + 1))), (3, .int 1), (5, .int (nI ja)), (4, .int (nI v4_10)), (2, .int r1), (0, .ref mm), (1, .int px)]) hx hb dX11_isTold_129 hl (k := 1) rfl (nI_1 _) (by decide) rfl (fun ls hl => ?_)
                          refine lv_goto (tgt := 82) hx hb dX11_isTold_132 (by decide) ?_
                          exact ih82 (v6_82 + 1) 1 (Or.inl rfl) (by first | omega | exact nlt_max hv6_82 (by assumption)) (by first | omega | (have := nlt_max hv6_82 (by assumption); omega)) _ _ hP hD hS ls hl
            exact lp82 (2147483648 - 0 + 1) 0 s1_78 bs1_78 (by first | omega | exact nlt_max (by assumption) (by assumption)) (Nat.lt_succ_self _) _ _ hP hD hS ls hl
          refine lv_icmp_ne (tgt := 77) hx hb dX11_isTold_47 (by decide) (fun c15 => ?_) (fun c15 => ?_)
          · skip
            refine lv_iconst (v := 0) hx hb dX11_isTold_77 (by decide) ?_
            exact j78 0 (Or.inr rfl) _ _ hP hD hS ls hl
          · skip
            refine lv_aload_n hx hb dX11_isTold_50 rfl (lv_at hl 4 rfl) ?_
            refine lv_aload_n hx hb dX11_isTold_51 rfl (lv_at hl 4 rfl) ?_
            refine va_get (D := D) (ci := 11) (v := .ref mm_now) (C := RX11) (T := TX11) (N := 19) hx hb hts zi11_ hown hK hP 0 rfl rfl 0 (by decide) z0_ (fun _ h9 => h9) rfl dX11_isTold_52 ?_
            refine lv_bipush (v := 93) hx hb dX11_isTold_55 (by decide) ?_
            refine lv_iconst (v := 2) hx hb dX11_isTold_57 (by decide) ?_
            refine lv_iload hx hb dX11_isTold_58 (lv_at hl 1 rfl) ?_
            refine lv_imul hx hb dX11_isTold_60 ?_
            refine lv_topi (fun x16 ex16 => ?_)
            obtain rfl : x16 = nI (2 * v4_10) := by rw [ex16]; exact pk_mul _ _
            refine lv_iadd hx hb dX11_isTold_61 ?_
            refine lv_topi (fun x17 ex17 => ?_)
            obtain rfl : x17 = nI (93 + (2 * v4_10)) := by rw [ex17]; exact nI_add _ _
            refine lv_iconst (v := 1) hx hb dX11_isTold_62 (by decide) ?_
            refine lv_iadd hx hb dX11_isTold_63 ?_
            refine lv_topi (fun x18 ex18 => ?_)
            obtain rfl : x18 = nI ((93 + (2 * v4_10)) + 1) := by rw [ex18]; exact nI_add _ _
            refine my_iald hx hb hK hP 1 1 rfl rfl (by first | exact in_ge (N := 122) (by decide) (by omega) (by assumption) | exact vp_in_nI (by omega) (by omega)) (nI_clamp (by omega)) dX11_isTold_64 ?_
            obtain ⟨jb, ejb, hjb⟩ := mV.get hF ((93 + (2 * v4_10)) + 1) 4 (by omega) (by omega) (by unfold mHi; (repeat' split) <;> omega)
            refine W.eq (g2 := F0 m 65 ls [.int (nI jb), .ref mm]) (congrArg (fun v9 : Int32 => F0 m 65 ls [.int v9, .ref mm]) ejb) ?_
            refine lv_iload hx hb dX11_isTold_65 (lv_at hl 0 rfl) ?_
            refine rd_i (va_runV (As := [.int (nI jb), .int (nI ja)]) (rest := []) ⟨hx, hb, hml, hown, hts⟩ (n_X11_hears l D cy mW mH mS mP mm mm_now mm_kept mm_isKept mm_refused z2 z3 mm_stands mm_far mm_queue mm_queued mm_meets mm_bytes bl ta tl mm_token mm_value mm_next tk mm_now_f jb ja _ (by first | assumption | omega) (by first | assumption | omega) (by first | assumption | omega)) (cwV 2 hts gX11_isTold_X11_hears rfl rfl rfl (by decide +kernel) ⟨Nat.le_of_ble_eq_true rfl, Nat.le_of_ble_eq_true rfl⟩) (pV (ci := 11) (k := 0) hKA (hP.sub (ws' := [(mm, .inr (11, [.ref mm_now, .ref mm_kept, .ref mm_isKept, .ref mm_refused, .int z2, .int z3, .ref mm_stands, .ref mm_far, .ref mm_queue, .int mm_queued, .ref mm_meets, .ref mm_bytes, .int (nI bl), .int (nI ta), .int (nI tl), .int mm_token, .int mm_value, .ref mm_next, .int (nI tk)])), (mm_now, .inl (cy 1, 122, .inl mm_now_f))]) [0, 1] rfl) (hD.sub (ws' := [(mm, .inr (11, [.ref mm_now, .ref mm_kept, .ref mm_isKept, .ref mm_refused, .int z2, .int z3, .ref mm_stands, .ref mm_far, .ref mm_queue, .int mm_queued, .ref mm_meets, .ref mm_bytes, .int (nI bl), .int (nI ta), .int (nI tl), .int mm_token, .int mm_value, .ref mm_next, .int (nI tk)])), (mm_now, .inl (cy 1, 122, .inl mm_now_f))]) [0, 1] (by decide) rfl) rfl rfl) rfl rfl hl.1 rfl (lv_room (Nat.le_of_ble_eq_true rfl)) dX11_isTold_67 ⟨Nat.le_of_ble_eq_true rfl, Nat.le_of_ble_eq_true rfl⟩) hP hS hA (fun r19 H locs hwr19 hP hS => ?_)
            have hwr19 : (r19 = 1 ∧ True) ∨ (r19 = 0 ∧ True) := hwr19
            refine lv_if_eq (tgt := 77) hx hb dX11_isTold_70 (by decide) (fun c20 => ?_) (fun c20 => ?_)
            · skip
              refine lv_iconst (v := 0) hx hb dX11_isTold_77 (by decide) ?_
              exact j78 0 (Or.inr rfl) _ _ hP hD hS ls hl
            · skip
              refine lv_iconst (v := 1) hx hb dX11_isTold_73 (by decide) ?_
              refine lv_goto (tgt := 78) hx hb dX11_isTold_74 (by decide) ?_
              exact j78 1 (Or.inl rfl) _ _ hP hD hS ls hl
  exact lp10 (2147483648 - 0 + 1) 0 1 (Or.inl rfl) (by first | omega | exact nlt_max (by assumption) (by assumption)) (Nat.lt_succ_self _) _ _ hP hD hS ls hl

set_option maxHeartbeats 4000000 in
set_option maxRecDepth 100000 in
theorem n_X11_isHeardBy (l : Launch) (D : va_G) (cy : Nat → ClassId) (mW : Nat) (mH : Nat) (mS : Nat) (mP : Nat) (mm : Nat) (mm_now : Nat) (mm_kept : Nat) (mm_isKept : Nat) (mm_refused : Nat) (mm_lineFrom : Int32) (mm_lineTo : Int32) (mm_stands : Nat) (mm_far : Nat) (mm_queue : Nat) (mm_queued : Int32) (mm_meets : Nat) (mm_bytes : Nat) (bl : Nat) (ta : Nat) (tl : Nat) (mm_token : Int32) (mm_value : Int32) (mm_next : Nat) (tk : Nat) (mm_now_f : Nat → Int32) (pb : Nat) (pz : Int32) (sz : Nat) (hF : mV mm_now_f mW mH mS mP) (hpb : pb < 5) : Met l yX11_isHeardBy wsX11_isHeardBy ({ frames := 6, cells := 0, slots := 0, locals := 134 }) (va_Pc [.ref mm, .int (nI pb), .int pz] (kPre D cy [(mm, .inr (11, [.ref mm_now, .ref mm_kept, .ref mm_isKept, .ref mm_refused, .int mm_lineFrom, .int mm_lineTo, .ref mm_stands, .ref mm_far, .ref mm_queue, .int mm_queued, .ref mm_meets, .ref mm_bytes, .int (nI bl), .int (nI ta), .int (nI tl), .int mm_token, .int mm_value, .ref mm_next, .int (nI tk)])), (mm_now, .inl (cy 1, 122, .inl mm_now_f))] sz)) (va_Qi (fun (r : Int32) (u : Unit) => (r = 1 ∧ True) ∨ (r = 0 ∧ True)) (fun _ _ => True) (fun q : Nat => sz ≤ q)) 0 0 (fun q : Nat => sz ≤ q) := by
  refine Met.ofW (cc := cX11_isHeardBy) (maxL := 5) (ret := (some .boolean)) (by decide) rfl ?_
  intro p e s m args below meth c s₁ B hml hv
  obtain ⟨rfl, hsz, hP, hKA, hD0⟩ := hv
  have hx := B.exec
  have hb := B.bytes
  have hr := B.returns
  have hts := atoms_spec (ws := wsX11_isHeardBy) B.pre
  have hown : s.vm.findClass RX11 = some m.cls := findClass_of_methodNamed B.named
  have hlocks := B.notSynchronized
  subst hsz
  have hK := hKA.1
  have hD := hD0
  generalize hAe : (fun q : Nat => s.heap.size ≤ q) = A
  have hA : ∀ q : Nat, s.heap.size ≤ q → A q := fun q h => by rw [← hAe]; exact h
  have hS : va_S A s.heap s.heap [] := va_S.rf
  have hP : va_P D vwCl [(mm, .inr (11, [.ref mm_now, .ref mm_kept, .ref mm_isKept, .ref mm_refused, .int mm_lineFrom, .int mm_lineTo, .ref mm_stands, .ref mm_far, .ref mm_queue, .int mm_queued, .ref mm_meets, .ref mm_bytes, .int (nI bl), .int (nI ta), .int (nI tl), .int mm_token, .int mm_value, .ref mm_next, .int (nI tk)])), (mm_now, .inl (cy 1, 122, .inl mm_now_f))] s.heap := hP
  have hl := lv_entry ([.ref mm, .int (nI pb), .int pz]) (n := 5) (Nat.le_of_ble_eq_true rfl)
  rw [lg_entry_eq]
  generalize (lg_sl ([.ref mm, .int (nI pb), .int pz]) ++ List.replicate (5 - (lg_sl ([.ref mm, .int (nI pb), .int pz])).length) Slot.unset).toArray = ls at hl ⊢
  have hl : lv_has ls 5 [(0, .ref mm), (1, .int (nI pb)), (2, .int pz)] := hl
  refine qW (fun QF hQF => ?_)
  obtain ⟨hW2, hW6, hH2, hH6, hSe, hS4, hS6, hP5⟩ := hF.rng
  refine lv_iconst (v := 0) hx hb dX11_isHeardBy_0 (by decide) ?_
  refine lv_istore_n (lv' := [(3, .int 0), (0, .ref mm), (1, .int (nI pb)), (2, .int pz)]) hx hb dX11_isHeardBy_1 rfl hl (by decide) rfl (fun ls hl => ?_)
  refine lv_iconst (v := 0) hx hb dX11_isHeardBy_2 (by decide) ?_
  refine lv_istore (lv' := [(4, .int 0), (3, .int 0), (0, .ref mm), (1, .int (nI pb)), (2, .int pz)]) hx hb dX11_isHeardBy_3 hl (by decide) rfl (fun ls hl => ?_)
  have lp5 : ∀ (n5 : Nat) (v4_5 : Nat) (v3_5 : Int32) (bv3_5 : v3_5 = 1 ∨ v3_5 = 0) (hv4_5 : v4_5 < 2147483648), 2147483648 - v4_5 < n5 → ∀ (H : Heap) (locs : List Loc), va_P D vwCl [(mm, .inr (11, [.ref mm_now, .ref mm_kept, .ref mm_isKept, .ref mm_refused, .int mm_lineFrom, .int mm_lineTo, .ref mm_stands, .ref mm_far, .ref mm_queue, .int mm_queued, .ref mm_meets, .ref mm_bytes, .int (nI bl), .int (nI ta), .int (nI tl), .int mm_token, .int mm_value, .ref mm_next, .int (nI tk)])), (mm_now, .inl (cy 1, 122, .inl mm_now_f))] H → va_D (fun _ => True) [(mm, .inr (11, [.ref mm_now, .ref mm_kept, .ref mm_isKept, .ref mm_refused, .int mm_lineFrom, .int mm_lineTo, .ref mm_stands, .ref mm_far, .ref mm_queue, .int mm_queued, .ref mm_meets, .ref mm_bytes, .int (nI bl), .int (nI ta), .int (nI tl), .int mm_token, .int mm_value, .ref mm_next, .int (nI tk)])), (mm_now, .inl (cy 1, 122, .inl mm_now_f))] → va_S A s.heap H locs → ∀ ls : Array Slot, lv_has ls 5 [(4, .int (nI v4_5)), (3, .int v3_5), (0, .ref mm), (1, .int (nI pb)), (2, .int pz)] → W p l e (headSpec wsX11_isHeardBy ({ frames := 6, cells := 0, slots := 0, locals := 134 })).room s m [.ref mm, .int (nI pb), .int pz].toArray below meth c H locs 0 0 QF (F0 m 5 ls []) := by
    intro n5
    induction n5 with
    | zero => intro v4_5 v3_5 bv3_5 hv4_5 hm; exact absurd hm (Nat.not_lt_zero _)
    | succ n5 ih5 =>
      intro v4_5 v3_5 bv3_5 hv4_5 hm5 H locs hP hD hS ls hl
      refine lv_iload hx hb dX11_isHeardBy_5 (lv_at hl 0 rfl) ?_
      refine lv_aload_n hx hb dX11_isHeardBy_7 rfl (lv_at hl 2 rfl) ?_
      refine rd_i (va_runV (As := []) (rest := [.int (nI v4_5)]) ⟨hx, hb, hml, hown, hts⟩ (n_X11_people l D cy mW mH mS mP mm mm_now mm_kept mm_isKept mm_refused mm_lineFrom mm_lineTo mm_stands mm_far mm_queue mm_queued mm_meets mm_bytes bl ta tl mm_token mm_value mm_next tk mm_now_f _ (by first | assumption | omega)) (cwV 0 hts gX11_isHeardBy_X11_people rfl rfl rfl (by decide +kernel) ⟨Nat.le_of_ble_eq_true rfl, Nat.le_of_ble_eq_true rfl⟩) (pV (ci := 11) (k := 0) hKA (hP.sub (ws' := [(mm, .inr (11, [.ref mm_now, .ref mm_kept, .ref mm_isKept, .ref mm_refused, .int mm_lineFrom, .int mm_lineTo, .ref mm_stands, .ref mm_far, .ref mm_queue, .int mm_queued, .ref mm_meets, .ref mm_bytes, .int (nI bl), .int (nI ta), .int (nI tl), .int mm_token, .int mm_value, .ref mm_next, .int (nI tk)])), (mm_now, .inl (cy 1, 122, .inl mm_now_f))]) [0, 1] rfl) (hD.sub (ws' := [(mm, .inr (11, [.ref mm_now, .ref mm_kept, .ref mm_isKept, .ref mm_refused, .int mm_lineFrom, .int mm_lineTo, .ref mm_stands, .ref mm_far, .ref mm_queue, .int mm_queued, .ref mm_meets, .ref mm_bytes, .int (nI bl), .int (nI ta), .int (nI tl), .int mm_token, .int mm_value, .ref mm_next, .int (nI tk)])), (mm_now, .inl (cy 1, 122, .inl mm_now_f))]) [0, 1] (by decide) rfl) rfl rfl) rfl rfl hl.1 rfl (lv_room (Nat.le_of_ble_eq_true rfl)) dX11_isHeardBy_8 ⟨Nat.le_of_ble_eq_true rfl, Nat.le_of_ble_eq_true rfl⟩) hP hS hA (fun r1 H locs hwr1 hP hS => ?_)
      have hwr1 : r1 = nI mP := hwr1
      subst hwr1
      refine lv_icmp_ge (tgt := 56) hx hb dX11_isHeardBy_11 (by decide) (fun c2 => ?_) (fun c2 => ?_)
      · skip
        refine lv_iload_n hx hb dX11_isHeardBy_56 rfl (lv_at hl 1 rfl) ?_
        subst hQF
        exact W.zret (v := v3_5) hx hb hr (z_bm bv3_5) (fun t ht hW => ⟨⟨v3_5, (), rfl, (z_bu bv3_5), trivial⟩, hS.F ht⟩) hS.2.2 dX11_isHeardBy_57
      · skip
        have hk11 := ltM (n := mP) (k := v4_5) (by omega) (by assumption) (by assumption)
        refine lv_iload_n hx hb dX11_isHeardBy_14 rfl (lv_at hl 1 rfl) ?_
        refine lv_if_ne (tgt := 44) hx hb dX11_isHeardBy_15 (by decide) (fun c3 => ?_) (fun c3 => ?_)
        · skip
          refine lv_iconst (v := 1) hx hb dX11_isHeardBy_44 (by decide) ?_
          refine lv_goto (tgt := 49) hx hb dX11_isHeardBy_45 (by decide) ?_
          refine lv_istore_n (lv' := [(3, .int 1), (4, .int (nI v4_5)), (0, .ref mm), (1, .int (nI pb)), (2, .int pz)]) hx hb dX11_isHeardBy_49 rfl hl (by decide) rfl (fun ls hl => ?_)
          refine lv_iinc (v := nI (v4_5 + 1)) (lv' := [(4, .int (nI (v4_5 + 1))), (3, .int 1), (0, .ref mm), (1, .int (nI pb)), (2, .int pz)]) hx hb dX11_isHeardBy_50 hl (k := 1) rfl (nI_1 _) (by decide) rfl (fun ls hl => ?_)
          refine lv_goto (tgt := 5) hx hb dX11_isHeardBy_53 (by decide) ?_
          exact ih5 (v4_5 + 1) 1 (Or.inl rfl) (by first | omega | exact nlt_max hv4_5 (by assumption)) (by first | omega | (have := nlt_max hv4_5 (by assumption); omega)) _ _ hP hD hS ls hl
        · skip
          refine lv_iload_n hx hb dX11_isHeardBy_18 rfl (lv_at hl 4 rfl) ?_
          refine lv_iload hx hb dX11_isHeardBy_19 (lv_at hl 0 rfl) ?_
          refine lv_ishr hx hb dX11_isHeardBy_21 ?_
          refine lv_iconst (v := 1) hx hb dX11_isHeardBy_22 (by decide) ?_
          refine lv_iand hx hb dX11_isHeardBy_23 ?_
          refine lv_iconst (v := 1) hx hb dX11_isHeardBy_24 (by decide) ?_
          refine lv_icmp_ne (tgt := 48) hx hb dX11_isHeardBy_25 (by decide) (fun c4 => ?_) (fun c4 => ?_)
          · skip
            refine lv_iconst (v := 0) hx hb dX11_isHeardBy_48 (by decide) ?_
            refine lv_istore_n (lv' := [(3, .int 0), (4, .int (nI v4_5)), (0, .ref mm), (1, .int (nI pb)), (2, .int pz)]) hx hb dX11_isHeardBy_49 rfl hl (by decide) rfl (fun ls hl => ?_)
            refine lv_iinc (v := nI (v4_5 + 1)) (lv' := [(4, .int (nI (v4_5 + 1))), (3, .int 0), (0, .ref mm), (1, .int (nI pb)), (2, .int pz)]) hx hb dX11_isHeardBy_50 hl (k := 1) rfl (nI_1 _) (by decide) rfl (fun ls hl => ?_)
            refine lv_goto (tgt := 5) hx hb dX11_isHeardBy_53 (by decide) ?_
            exact ih5 (v4_5 + 1) 0 (Or.inr rfl) (by first | omega | exact nlt_max hv4_5 (by assumption)) (by first | omega | (have := nlt_max hv4_5 (by assumption); omega)) _ _ hP hD hS ls hl
          · skip
            refine lv_iload hx hb dX11_isHeardBy_28 (lv_at hl 0 rfl) ?_
            refine lv_iload_n hx hb dX11_isHeardBy_30 rfl (lv_at hl 3 rfl) ?_
            refine lv_icmp_eq (tgt := 48) hx hb dX11_isHeardBy_31 (by decide) (fun c5 => ?_) (fun c5 => ?_)
            · skip
              refine lv_iconst (v := 0) hx hb dX11_isHeardBy_48 (by decide) ?_
              refine lv_istore_n (lv' := [(3, .int 0), (4, .int (nI v4_5)), (0, .ref mm), (1, .int (nI pb)), (2, .int pz)]) hx hb dX11_isHeardBy_49 rfl hl (by decide) rfl (fun ls hl => ?_)
              refine lv_iinc (v := nI (v4_5 + 1)) (lv' := [(4, .int (nI (v4_5 + 1))), (3, .int 0), (0, .ref mm), (1, .int (nI pb)), (2, .int pz)]) hx hb dX11_isHeardBy_50 hl (k := 1) rfl (nI_1 _) (by decide) rfl (fun ls hl => ?_)
              refine lv_goto (tgt := 5) hx hb dX11_isHeardBy_53 (by decide) ?_
              exact ih5 (v4_5 + 1) 0 (Or.inr rfl) (by first | omega | exact nlt_max hv4_5 (by assumption)) (by first | omega | (have := nlt_max hv4_5 (by assumption); omega)) _ _ hP hD hS ls hl
            · skip
              refine lv_aload_n hx hb dX11_isHeardBy_34 rfl (lv_at hl 2 rfl) ?_
              refine lv_iload hx hb dX11_isHeardBy_35 (lv_at hl 0 rfl) ?_
              refine lv_iload_n hx hb dX11_isHeardBy_37 rfl (lv_at hl 3 rfl) ?_
              refine rd_i (va_runV (As := [.int (nI v4_5), .int (nI pb)]) (rest := []) ⟨hx, hb, hml, hown, hts⟩ (n_X11_hears l D cy mW mH mS mP mm mm_now mm_kept mm_isKept mm_refused mm_lineFrom mm_lineTo mm_stands mm_far mm_queue mm_queued mm_meets mm_bytes bl ta tl mm_token mm_value mm_next tk mm_now_f v4_5 pb _ (by first | assumption | omega) (by first | assumption | omega) (by first | assumption | omega)) (cwV 2 hts gX11_isHeardBy_X11_hears rfl rfl rfl (by decide +kernel) ⟨Nat.le_of_ble_eq_true rfl, Nat.le_of_ble_eq_true rfl⟩) (pV (ci := 11) (k := 0) hKA (hP.sub (ws' := [(mm, .inr (11, [.ref mm_now, .ref mm_kept, .ref mm_isKept, .ref mm_refused, .int mm_lineFrom, .int mm_lineTo, .ref mm_stands, .ref mm_far, .ref mm_queue, .int mm_queued, .ref mm_meets, .ref mm_bytes, .int (nI bl), .int (nI ta), .int (nI tl), .int mm_token, .int mm_value, .ref mm_next, .int (nI tk)])), (mm_now, .inl (cy 1, 122, .inl mm_now_f))]) [0, 1] rfl) (hD.sub (ws' := [(mm, .inr (11, [.ref mm_now, .ref mm_kept, .ref mm_isKept, .ref mm_refused, .int mm_lineFrom, .int mm_lineTo, .ref mm_stands, .ref mm_far, .ref mm_queue, .int mm_queued, .ref mm_meets, .ref mm_bytes, .int (nI bl), .int (nI ta), .int (nI tl), .int mm_token, .int mm_value, .ref mm_next, .int (nI tk)])), (mm_now, .inl (cy 1, 122, .inl mm_now_f))]) [0, 1] (by decide) rfl) rfl rfl) rfl rfl hl.1 rfl (lv_room (Nat.le_of_ble_eq_true rfl)) dX11_isHeardBy_38 ⟨Nat.le_of_ble_eq_true rfl, Nat.le_of_ble_eq_true rfl⟩) hP hS hA (fun r6 H locs hwr6 hP hS => ?_)
              have hwr6 : (r6 = 1 ∧ True) ∨ (r6 = 0 ∧ True) := hwr6
              refine lv_if_eq (tgt := 48) hx hb dX11_isHeardBy_41 (by decide) (fun c7 => ?_) (fun c7 => ?_)
              · skip
                refine lv_iconst (v := 0) hx hb dX11_isHeardBy_48 (by decide) ?_
                refine lv_istore_n (lv' := [(3, .int 0), (4, .int (nI v4_5)), (0, .ref mm), (1, .int (nI pb)), (2, .int pz)]) hx hb dX11_isHeardBy_49 rfl hl (by decide) rfl (fun ls hl => ?_)
                refine lv_iinc (v := nI (v4_5 + 1)) (lv' := [(4, .int (nI (v4_5 + 1))), (3, .int 0), (0, .ref mm), (1, .int (nI pb)), (2, .int pz)]) hx hb dX11_isHeardBy_50 hl (k := 1) rfl (nI_1 _) (by decide) rfl (fun ls hl => ?_)
                refine lv_goto (tgt := 5) hx hb dX11_isHeardBy_53 (by decide) ?_
                exact ih5 (v4_5 + 1) 0 (Or.inr rfl) (by first | omega | exact nlt_max hv4_5 (by assumption)) (by first | omega | (have := nlt_max hv4_5 (by assumption); omega)) _ _ hP hD hS ls hl
              · skip
                refine lv_iconst (v := 1) hx hb dX11_isHeardBy_44 (by decide) ?_
                refine lv_goto (tgt := 49) hx hb dX11_isHeardBy_45 (by decide) ?_
                refine lv_istore_n (lv' := [(3, .int 1), (4, .int (nI v4_5)), (0, .ref mm), (1, .int (nI pb)), (2, .int pz)]) hx hb dX11_isHeardBy_49 rfl hl (by decide) rfl (fun ls hl => ?_)
                refine lv_iinc (v := nI (v4_5 + 1)) (lv' := [(4, .int (nI (v4_5 + 1))), (3, .int 1), (0, .ref mm), (1, .int (nI pb)), (2, .int pz)]) hx hb dX11_isHeardBy_50 hl (k := 1) rfl (nI_1 _) (by decide) rfl (fun ls hl => ?_)
                refine lv_goto (tgt := 5) hx hb dX11_isHeardBy_53 (by decide) ?_
                exact ih5 (v4_5 + 1) 1 (Or.inl rfl) (by first | omega | exact nlt_max hv4_5 (by assumption)) (by first | omega | (have := nlt_max hv4_5 (by assumption); omega)) _ _ hP hD hS ls hl
  exact lp5 (2147483648 - 0 + 1) 0 0 (Or.inr rfl) (by first | omega | exact nlt_max (by assumption) (by assumption)) (Nat.lt_succ_self _) _ _ hP hD hS ls hl

set_option maxHeartbeats 4000000 in
set_option maxRecDepth 100000 in
theorem n_X11_manySpeakers (l : Launch) (D : va_G) (cy : Nat → ClassId) (mW : Nat) (mH : Nat) (mS : Nat) (mP : Nat) (mm : Nat) (mm_now : Nat) (mm_kept : Nat) (mm_isKept : Nat) (mm_refused : Nat) (mm_lineFrom : Int32) (mm_lineTo : Int32) (mm_stands : Nat) (mm_far : Nat) (mm_queue : Nat) (mm_queued : Int32) (mm_meets : Nat) (mm_bytes : Nat) (bl : Nat) (ta : Nat) (tl : Nat) (mm_token : Int32) (mm_value : Int32) (mm_next : Nat) (tk : Nat) (mm_now_f : Nat → Int32) (sz : Nat) (hF : mV mm_now_f mW mH mS mP) : Met l yX11_manySpeakers wsX11_manySpeakers ({ frames := 8, cells := 0, slots := 0, locals := 180 }) (va_Pc [.ref mm] (kPre D cy [(mm, .inr (11, [.ref mm_now, .ref mm_kept, .ref mm_isKept, .ref mm_refused, .int mm_lineFrom, .int mm_lineTo, .ref mm_stands, .ref mm_far, .ref mm_queue, .int mm_queued, .ref mm_meets, .ref mm_bytes, .int (nI bl), .int (nI ta), .int (nI tl), .int mm_token, .int mm_value, .ref mm_next, .int (nI tk)])), (mm_now, .inl (cy 1, 122, .inl mm_now_f))] sz)) (va_Qi (fun (r : Int32) (u : Int32 × Int32) => True) (fun (u : Int32 × Int32) t => va_P D vwCl ([(mm, .inr (11, [.ref mm_now, .ref mm_kept, .ref mm_isKept, .ref mm_refused, .int u.1, .int u.2, .ref mm_stands, .ref mm_far, .ref mm_queue, .int mm_queued, .ref mm_meets, .ref mm_bytes, .int (nI bl), .int (nI ta), .int (nI tl), .int mm_token, .int mm_value, .ref mm_next, .int (nI tk)])), (mm_now, .inl (cy 1, 122, .inl mm_now_f))]) t.heap ∧ va_D (va_A [(mm, .inr (11, [.ref mm_now, .ref mm_kept, .ref mm_isKept, .ref mm_refused, .int mm_lineFrom, .int mm_lineTo, .ref mm_stands, .ref mm_far, .ref mm_queue, .int mm_queued, .ref mm_meets, .ref mm_bytes, .int (nI bl), .int (nI ta), .int (nI tl), .int mm_token, .int mm_value, .ref mm_next, .int (nI tk)])), (mm_now, .inl (cy 1, 122, .inl mm_now_f))] sz) ([(mm, .inr (11, [.ref mm_now, .ref mm_kept, .ref mm_isKept, .ref mm_refused, .int u.1, .int u.2, .ref mm_stands, .ref mm_far, .ref mm_queue, .int mm_queued, .ref mm_meets, .ref mm_bytes, .int (nI bl), .int (nI ta), .int (nI tl), .int mm_token, .int mm_value, .ref mm_next, .int (nI tk)])), (mm_now, .inl (cy 1, 122, .inl mm_now_f))])) (va_A [(mm, .inr (11, [.ref mm_now, .ref mm_kept, .ref mm_isKept, .ref mm_refused, .int mm_lineFrom, .int mm_lineTo, .ref mm_stands, .ref mm_far, .ref mm_queue, .int mm_queued, .ref mm_meets, .ref mm_bytes, .int (nI bl), .int (nI ta), .int (nI tl), .int mm_token, .int mm_value, .ref mm_next, .int (nI tk)])), (mm_now, .inl (cy 1, 122, .inl mm_now_f))] sz)) 0 0 (va_A [(mm, .inr (11, [.ref mm_now, .ref mm_kept, .ref mm_isKept, .ref mm_refused, .int mm_lineFrom, .int mm_lineTo, .ref mm_stands, .ref mm_far, .ref mm_queue, .int mm_queued, .ref mm_meets, .ref mm_bytes, .int (nI bl), .int (nI ta), .int (nI tl), .int mm_token, .int mm_value, .ref mm_next, .int (nI tk)])), (mm_now, .inl (cy 1, 122, .inl mm_now_f))] sz) := by
  refine Met.ofW (cc := cX11_manySpeakers) (maxL := 5) (ret := (some .int)) (by decide) rfl ?_
  intro p e s m args below meth c s₁ B hml hv
  obtain ⟨rfl, hsz, hP, hKA, hD0⟩ := hv
  have hx := B.exec
  have hb := B.bytes
  have hr := B.returns
  have hts := atoms_spec (ws := wsX11_manySpeakers) B.pre
  have hown : s.vm.findClass RX11 = some m.cls := findClass_of_methodNamed B.named
  have hlocks := B.notSynchronized
  subst hsz
  have hK := hKA.1
  have hD := hD0.self (sz := s.heap.size)
  generalize hAe : va_A [(mm, .inr (11, [.ref mm_now, .ref mm_kept, .ref mm_isKept, .ref mm_refused, .int mm_lineFrom, .int mm_lineTo, .ref mm_stands, .ref mm_far, .ref mm_queue, .int mm_queued, .ref mm_meets, .ref mm_bytes, .int (nI bl), .int (nI ta), .int (nI tl), .int mm_token, .int mm_value, .ref mm_next, .int (nI tk)])), (mm_now, .inl (cy 1, 122, .inl mm_now_f))] s.heap.size = A at hD ⊢
  have hA : ∀ q : Nat, s.heap.size ≤ q → A q := fun q h => by rw [← hAe]; exact Or.inr h
  have hS : va_S A s.heap s.heap [] := va_S.rf
  have hP : va_P D vwCl [(mm, .inr (11, [.ref mm_now, .ref mm_kept, .ref mm_isKept, .ref mm_refused, .int mm_lineFrom, .int mm_lineTo, .ref mm_stands, .ref mm_far, .ref mm_queue, .int mm_queued, .ref mm_meets, .ref mm_bytes, .int (nI bl), .int (nI ta), .int (nI tl), .int mm_token, .int mm_value, .ref mm_next, .int (nI tk)])), (mm_now, .inl (cy 1, 122, .inl mm_now_f))] s.heap := hP
  have hl := lv_entry ([.ref mm]) (n := 5) (Nat.le_of_ble_eq_true rfl)
  rw [lg_entry_eq]
  generalize (lg_sl ([.ref mm]) ++ List.replicate (5 - (lg_sl ([.ref mm])).length) Slot.unset).toArray = ls at hl ⊢
  have hl : lv_has ls 5 [(0, .ref mm)] := hl
  refine qW (fun QF hQF => ?_)
  obtain ⟨hW2, hW6, hH2, hH6, hSe, hS4, hS6, hP5⟩ := hF.rng
  refine lv_aload_n hx hb dX11_manySpeakers_0 rfl (lv_at hl 0 rfl) ?_
  refine wr_i (wr := []) (va_runV (As := []) (rest := []) ⟨hx, hb, hml, hown, hts⟩ (n_X11_maySpeak l D cy mW mH mS mP mm mm_now mm_kept mm_isKept mm_refused mm_lineFrom mm_lineTo mm_stands mm_far mm_queue mm_queued mm_meets mm_bytes bl ta tl mm_token mm_value mm_next tk mm_now_f _ (by first | assumption | omega)) (cwV 0 hts gX11_manySpeakers_X11_maySpeak rfl rfl rfl (by decide +kernel) ⟨Nat.le_of_ble_eq_true rfl, Nat.le_of_ble_eq_true rfl⟩) (pV (ci := 11) (k := 0) hKA (hP.sub (ws' := [(mm, .inr (11, [.ref mm_now, .ref mm_kept, .ref mm_isKept, .ref mm_refused, .int mm_lineFrom, .int mm_lineTo, .ref mm_stands, .ref mm_far, .ref mm_queue, .int mm_queued, .ref mm_meets, .ref mm_bytes, .int (nI bl), .int (nI ta), .int (nI tl), .int mm_token, .int mm_value, .ref mm_next, .int (nI tk)])), (mm_now, .inl (cy 1, 122, .inl mm_now_f))]) [0, 1] rfl) (hD.sub (ws' := [(mm, .inr (11, [.ref mm_now, .ref mm_kept, .ref mm_isKept, .ref mm_refused, .int mm_lineFrom, .int mm_lineTo, .ref mm_stands, .ref mm_far, .ref mm_queue, .int mm_queued, .ref mm_meets, .ref mm_bytes, .int (nI bl), .int (nI ta), .int (nI tl), .int mm_token, .int mm_value, .ref mm_next, .int (nI tk)])), (mm_now, .inl (cy 1, 122, .inl mm_now_f))]) [0, 1] (by decide) rfl) rfl rfl) rfl rfl hl.1 rfl (lv_room (Nat.le_of_ble_eq_true rfl)) dX11_manySpeakers_1 ⟨Nat.le_of_ble_eq_true rfl, Nat.le_of_ble_eq_true rfl⟩) hP hD hS hA [0, 1] [] rfl rfl (by decide +kernel) (by decide +kernel) (fun r1 ur1 H locs hwr1 hP hD hS => ?_)
  obtain ⟨z2, z3⟩ := ur1
  have hP : va_P D vwCl [(mm, .inr (11, [.ref mm_now, .ref mm_kept, .ref mm_isKept, .ref mm_refused, .int z2, .int z3, .ref mm_stands, .ref mm_far, .ref mm_queue, .int mm_queued, .ref mm_meets, .ref mm_bytes, .int (nI bl), .int (nI ta), .int (nI tl), .int mm_token, .int mm_value, .ref mm_next, .int (nI tk)])), (mm_now, .inl (cy 1, 122, .inl mm_now_f))] H := hP
  have hD : va_D A [(mm, .inr (11, [.ref mm_now, .ref mm_kept, .ref mm_isKept, .ref mm_refused, .int z2, .int z3, .ref mm_stands, .ref mm_far, .ref mm_queue, .int mm_queued, .ref mm_meets, .ref mm_bytes, .int (nI bl), .int (nI ta), .int (nI tl), .int mm_token, .int mm_value, .ref mm_next, .int (nI tk)])), (mm_now, .inl (cy 1, 122, .inl mm_now_f))] := hD
  refine lv_istore_n (lv' := [(1, .int r1), (0, .ref mm)]) hx hb dX11_manySpeakers_4 rfl hl (by decide) rfl (fun ls hl => ?_)
  refine lv_iconst (v := 1) hx hb dX11_manySpeakers_5 (by decide) ?_
  refine lv_aload_n hx hb dX11_manySpeakers_6 rfl (lv_at hl 1 rfl) ?_
  refine rd_i (va_runV (As := []) (rest := [.int 1]) ⟨hx, hb, hml, hown, hts⟩ (n_X11_people l D cy mW mH mS mP mm mm_now mm_kept mm_isKept mm_refused z2 z3 mm_stands mm_far mm_queue mm_queued mm_meets mm_bytes bl ta tl mm_token mm_value mm_next tk mm_now_f _ (by first | assumption | omega)) (cwV 0 hts gX11_manySpeakers_X11_people rfl rfl rfl (by decide +kernel) ⟨Nat.le_of_ble_eq_true rfl, Nat.le_of_ble_eq_true rfl⟩) (pV (ci := 11) (k := 0) hKA (hP.sub (ws' := [(mm, .inr (11, [.ref mm_now, .ref mm_kept, .ref mm_isKept, .ref mm_refused, .int z2, .int z3, .ref mm_stands, .ref mm_far, .ref mm_queue, .int mm_queued, .ref mm_meets, .ref mm_bytes, .int (nI bl), .int (nI ta), .int (nI tl), .int mm_token, .int mm_value, .ref mm_next, .int (nI tk)])), (mm_now, .inl (cy 1, 122, .inl mm_now_f))]) [0, 1] rfl) (hD.sub (ws' := [(mm, .inr (11, [.ref mm_now, .ref mm_kept, .ref mm_isKept, .ref mm_refused, .int z2, .int z3, .ref mm_stands, .ref mm_far, .ref mm_queue, .int mm_queued, .ref mm_meets, .ref mm_bytes, .int (nI bl), .int (nI ta), .int (nI tl), .int mm_token, .int mm_value, .ref mm_next, .int (nI tk)])), (mm_now, .inl (cy 1, 122, .inl mm_now_f))]) [0, 1] (by decide) rfl) rfl rfl) rfl rfl hl.1 rfl (lv_room (Nat.le_of_ble_eq_true rfl)) dX11_manySpeakers_7 ⟨Nat.le_of_ble_eq_true rfl, Nat.le_of_ble_eq_true rfl⟩) hP hS hA (fun r4 H locs hwr4 hP hS => ?_)
  have hwr4 : r4 = nI mP := hwr4
  subst hwr4
  refine lv_ishl hx hb dX11_manySpeakers_10 ?_
  refine lv_iconst (v := 1) hx hb dX11_manySpeakers_11 (by decide) ?_
  refine lv_isub hx hb dX11_manySpeakers_12 ?_
  refine lv_topi (fun x5 ex5 => ?_)
  refine lv_istore_n (lv' := [(2, .int x5), (1, .int r1), (0, .ref mm)]) hx hb dX11_manySpeakers_13 rfl hl (by decide) rfl (fun ls hl => ?_)
  refine lv_iconst (v := 0) hx hb dX11_manySpeakers_14 (by decide) ?_
  refine lv_istore_n (lv' := [(3, .int 0), (2, .int x5), (1, .int r1), (0, .ref mm)]) hx hb dX11_manySpeakers_15 rfl hl (by decide) rfl (fun ls hl => ?_)
  refine lv_iconst (v := 0) hx hb dX11_manySpeakers_16 (by decide) ?_
  refine lv_istore (lv' := [(4, .int 0), (3, .int 0), (2, .int x5), (1, .int r1), (0, .ref mm)]) hx hb dX11_manySpeakers_17 hl (by decide) rfl (fun ls hl => ?_)
  have lp19 : ∀ (n19 : Nat) (v4_19 : Nat) (v3_19 : Int32) (hv4_19 : v4_19 < 2147483648), 2147483648 - v4_19 < n19 → ∀ (H : Heap) (locs : List Loc), va_P D vwCl [(mm, .inr (11, [.ref mm_now, .ref mm_kept, .ref mm_isKept, .ref mm_refused, .int z2, .int z3, .ref mm_stands, .ref mm_far, .ref mm_queue, .int mm_queued, .ref mm_meets, .ref mm_bytes, .int (nI bl), .int (nI ta), .int (nI tl), .int mm_token, .int mm_value, .ref mm_next, .int (nI tk)])), (mm_now, .inl (cy 1, 122, .inl mm_now_f))] H → va_D A [(mm, .inr (11, [.ref mm_now, .ref mm_kept, .ref mm_isKept, .ref mm_refused, .int z2, .int z3, .ref mm_stands, .ref mm_far, .ref mm_queue, .int mm_queued, .ref mm_meets, .ref mm_bytes, .int (nI bl), .int (nI ta), .int (nI tl), .int mm_token, .int mm_value, .ref mm_next, .int (nI tk)])), (mm_now, .inl (cy 1, 122, .inl mm_now_f))] → va_S A s.heap H locs → ∀ ls : Array Slot, lv_has ls 5 [(4, .int (nI v4_19)), (3, .int v3_19), (2, .int x5), (1, .int r1), (0, .ref mm)] → W p l e (headSpec wsX11_manySpeakers ({ frames := 8, cells := 0, slots := 0, locals := 180 })).room s m [.ref mm].toArray below meth c H locs 0 0 QF (F0 m 19 ls []) := by
    intro n19
    induction n19 with
    | zero => intro v4_19 v3_19 hv4_19 hm; exact absurd hm (Nat.not_lt_zero _)
    | succ n19 ih19 =>
      intro v4_19 v3_19 hv4_19 hm19 H locs hP hD hS ls hl
      refine lv_iload hx hb dX11_manySpeakers_19 (lv_at hl 0 rfl) ?_
      refine lv_aload_n hx hb dX11_manySpeakers_21 rfl (lv_at hl 4 rfl) ?_
      refine rd_i (va_runV (As := []) (rest := [.int (nI v4_19)]) ⟨hx, hb, hml, hown, hts⟩ (n_X11_people l D cy mW mH mS mP mm mm_now mm_kept mm_isKept mm_refused z2 z3 mm_stands mm_far mm_queue mm_queued mm_meets mm_bytes bl ta tl mm_token mm_value mm_next tk mm_now_f _ (by first | assumption | omega)) (cwV 0 hts gX11_manySpeakers_X11_people rfl rfl rfl (by decide +kernel) ⟨Nat.le_of_ble_eq_true rfl, Nat.le_of_ble_eq_true rfl⟩) (pV (ci := 11) (k := 0) hKA (hP.sub (ws' := [(mm, .inr (11, [.ref mm_now, .ref mm_kept, .ref mm_isKept, .ref mm_refused, .int z2, .int z3, .ref mm_stands, .ref mm_far, .ref mm_queue, .int mm_queued, .ref mm_meets, .ref mm_bytes, .int (nI bl), .int (nI ta), .int (nI tl), .int mm_token, .int mm_value, .ref mm_next, .int (nI tk)])), (mm_now, .inl (cy 1, 122, .inl mm_now_f))]) [0, 1] rfl) (hD.sub (ws' := [(mm, .inr (11, [.ref mm_now, .ref mm_kept, .ref mm_isKept, .ref mm_refused, .int z2, .int z3, .ref mm_stands, .ref mm_far, .ref mm_queue, .int mm_queued, .ref mm_meets, .ref mm_bytes, .int (nI bl), .int (nI ta), .int (nI tl), .int mm_token, .int mm_value, .ref mm_next, .int (nI tk)])), (mm_now, .inl (cy 1, 122, .inl mm_now_f))]) [0, 1] (by decide) rfl) rfl rfl) rfl rfl hl.1 rfl (lv_room (Nat.le_of_ble_eq_true rfl)) dX11_manySpeakers_22 ⟨Nat.le_of_ble_eq_true rfl, Nat.le_of_ble_eq_true rfl⟩) hP hS hA (fun r6 H locs hwr6 hP hS => ?_)
      have hwr6 : r6 = nI mP := hwr6
      subst hwr6
      refine lv_icmp_ge (tgt := 62) hx hb dX11_manySpeakers_25 (by decide) (fun c7 => ?_) (fun c7 => ?_)
      · skip
        refine lv_iload_n hx hb dX11_manySpeakers_62 rfl (lv_at hl 1 rfl) ?_
        subst hQF
        have hP9 := hP
        have hD9 := hD
        exact W.iret (v := v3_19) hx hb hr (fun t ht hW => ⟨⟨v3_19, (z2, z3), rfl, trivial, by rw [ht]; exact hP9, hD9⟩, hS.F ht⟩) hS.2.2 dX11_manySpeakers_63
      · skip
        have hk25 := ltM (n := mP) (k := v4_19) (by omega) (by assumption) (by assumption)
        refine lv_iload_n hx hb dX11_manySpeakers_28 rfl (lv_at hl 1 rfl) ?_
        refine lv_iload_n hx hb dX11_manySpeakers_29 rfl (lv_at hl 3 rfl) ?_
        refine lv_iload hx hb dX11_manySpeakers_30 (lv_at hl 0 rfl) ?_
        refine lv_ishr hx hb dX11_manySpeakers_32 ?_
        refine lv_iconst (v := 1) hx hb dX11_manySpeakers_33 (by decide) ?_
        refine lv_iand hx hb dX11_manySpeakers_34 ?_
        refine lv_iconst (v := 1) hx hb dX11_manySpeakers_35 (by decide) ?_
        refine lv_icmp_ne (tgt := 53) hx hb dX11_manySpeakers_36 (by decide) (fun c8 => ?_) (fun c8 => ?_)
        · skip
          refine lv_iconst (v := 0) hx hb dX11_manySpeakers_53 (by decide) ?_
          refine lv_iadd hx hb dX11_manySpeakers_54 ?_
          refine lv_topi (fun x9 ex9 => ?_)
          refine lv_istore_n (lv' := [(3, .int x9), (4, .int (nI v4_19)), (2, .int x5), (1, .int r1), (0, .ref mm)]) hx hb dX11_manySpeakers_55 rfl hl (by decide) rfl (fun ls hl => ?_)
          refine lv_iinc (v := nI (v4_19 + 1)) (lv' := [(4, .int (nI (v4_19 + 1))), (3, .int x9), (2, .int x5), (1, .int r1), (0, .ref mm)]) hx hb dX11_manySpeakers_56 hl (k := 1) rfl (nI_1 _) (by decide) rfl (fun ls hl => ?_)
          refine lv_goto (tgt := 19) hx hb dX11_manySpeakers_59 (by decide) ?_
          exact ih19 (v4_19 + 1) x9 (by first | omega | exact nlt_max hv4_19 (by assumption)) (by first | omega | (have := nlt_max hv4_19 (by assumption); omega)) _ _ hP hD hS ls hl
        · skip
          refine lv_aload_n hx hb dX11_manySpeakers_39 rfl (lv_at hl 4 rfl) ?_
          refine lv_iload hx hb dX11_manySpeakers_40 (lv_at hl 0 rfl) ?_
          refine lv_iload_n hx hb dX11_manySpeakers_42 rfl (lv_at hl 2 rfl) ?_
          refine rd_i (va_runV (As := [.int (nI v4_19), .int x5]) (rest := [.int v3_19]) ⟨hx, hb, hml, hown, hts⟩ (n_X11_isHeardBy l D cy mW mH mS mP mm mm_now mm_kept mm_isKept mm_refused z2 z3 mm_stands mm_far mm_queue mm_queued mm_meets mm_bytes bl ta tl mm_token mm_value mm_next tk mm_now_f v4_19 x5 _ (by first | assumption | omega) (by first | assumption | omega)) (cwV 2 hts gX11_manySpeakers_X11_isHeardBy rfl rfl rfl (by decide +kernel) ⟨Nat.le_of_ble_eq_true rfl, Nat.le_of_ble_eq_true rfl⟩) (pV (ci := 11) (k := 0) hKA (hP.sub (ws' := [(mm, .inr (11, [.ref mm_now, .ref mm_kept, .ref mm_isKept, .ref mm_refused, .int z2, .int z3, .ref mm_stands, .ref mm_far, .ref mm_queue, .int mm_queued, .ref mm_meets, .ref mm_bytes, .int (nI bl), .int (nI ta), .int (nI tl), .int mm_token, .int mm_value, .ref mm_next, .int (nI tk)])), (mm_now, .inl (cy 1, 122, .inl mm_now_f))]) [0, 1] rfl) (hD.sub (ws' := [(mm, .inr (11, [.ref mm_now, .ref mm_kept, .ref mm_isKept, .ref mm_refused, .int z2, .int z3, .ref mm_stands, .ref mm_far, .ref mm_queue, .int mm_queued, .ref mm_meets, .ref mm_bytes, .int (nI bl), .int (nI ta), .int (nI tl), .int mm_token, .int mm_value, .ref mm_next, .int (nI tk)])), (mm_now, .inl (cy 1, 122, .inl mm_now_f))]) [0, 1] (by decide) rfl) rfl rfl) rfl rfl hl.1 rfl (lv_room (Nat.le_of_ble_eq_true rfl)) dX11_manySpeakers_43 ⟨Nat.le_of_ble_eq_true rfl, Nat.le_of_ble_eq_true rfl⟩) hP hS hA (fun r10 H locs hwr10 hP hS => ?_)
          have hwr10 : (r10 = 1 ∧ True) ∨ (r10 = 0 ∧ True) := hwr10
          refine lv_if_eq (tgt := 53) hx hb dX11_manySpeakers_46 (by decide) (fun c11 => ?_) (fun c11 => ?_)
          · skip
            refine lv_iconst (v := 0) hx hb dX11_manySpeakers_53 (by decide) ?_
            refine lv_iadd hx hb dX11_manySpeakers_54 ?_
            refine lv_topi (fun x12 ex12 => ?_)
            refine lv_istore_n (lv' := [(3, .int x12), (4, .int (nI v4_19)), (2, .int x5), (1, .int r1), (0, .ref mm)]) hx hb dX11_manySpeakers_55 rfl hl (by decide) rfl (fun ls hl => ?_)
            refine lv_iinc (v := nI (v4_19 + 1)) (lv' := [(4, .int (nI (v4_19 + 1))), (3, .int x12), (2, .int x5), (1, .int r1), (0, .ref mm)]) hx hb dX11_manySpeakers_56 hl (k := 1) rfl (nI_1 _) (by decide) rfl (fun ls hl => ?_)
            refine lv_goto (tgt := 19) hx hb dX11_manySpeakers_59 (by decide) ?_
            exact ih19 (v4_19 + 1) x12 (by first | omega | exact nlt_max hv4_19 (by assumption)) (by first | omega | (have := nlt_max hv4_19 (by assumption); omega)) _ _ hP hD hS ls hl
          · skip
            refine lv_iconst (v := 1) hx hb dX11_manySpeakers_49 (by decide) ?_
            refine lv_goto (tgt := 54) hx hb dX11_manySpeakers_50 (by decide) ?_
            refine lv_iadd hx hb dX11_manySpeakers_54 ?_
            refine lv_topi (fun x13 ex13 => ?_)
            refine lv_istore_n (lv' := [(3, .int x13), (4, .int (nI v4_19)), (2, .int x5), (1, .int r1), (0, .ref mm)]) hx hb dX11_manySpeakers_55 rfl hl (by decide) rfl (fun ls hl => ?_)
            refine lv_iinc (v := nI (v4_19 + 1)) (lv' := [(4, .int (nI (v4_19 + 1))), (3, .int x13), (2, .int x5), (1, .int r1), (0, .ref mm)]) hx hb dX11_manySpeakers_56 hl (k := 1) rfl (nI_1 _) (by decide) rfl (fun ls hl => ?_)
            refine lv_goto (tgt := 19) hx hb dX11_manySpeakers_59 (by decide) ?_
            exact ih19 (v4_19 + 1) x13 (by first | omega | exact nlt_max hv4_19 (by assumption)) (by first | omega | (have := nlt_max hv4_19 (by assumption); omega)) _ _ hP hD hS ls hl
  exact lp19 (2147483648 - 0 + 1) 0 0 (by first | omega | exact nlt_max (by assumption) (by assumption)) (Nat.lt_succ_self _) _ _ hP hD hS ls hl

set_option maxHeartbeats 4000000 in
set_option maxRecDepth 100000 in
theorem n_X11_isReported (l : Launch) (D : va_G) (cy : Nat → ClassId) (mW : Nat) (mH : Nat) (mS : Nat) (mP : Nat) (mm : Nat) (mm_now : Nat) (mm_kept : Nat) (mm_isKept : Nat) (mm_refused : Nat) (mm_lineFrom : Int32) (mm_lineTo : Int32) (mm_stands : Nat) (mm_far : Nat) (mm_queue : Nat) (mm_queued : Int32) (mm_meets : Nat) (mm_bytes : Nat) (bl : Nat) (ta : Nat) (tl : Nat) (mm_token : Int32) (mm_value : Int32) (mm_next : Nat) (tk : Nat) (mm_now_f : Nat → Int32) (pb : Nat) (sz : Nat) (hF : mV mm_now_f mW mH mS mP) (hpb : pb < 5) : Met l yX11_isReported wsX11_isReported ({ frames := 6, cells := 0, slots := 0, locals := 134 }) (va_Pc [.ref mm, .int (nI pb)] (kPre D cy [(mm, .inr (11, [.ref mm_now, .ref mm_kept, .ref mm_isKept, .ref mm_refused, .int mm_lineFrom, .int mm_lineTo, .ref mm_stands, .ref mm_far, .ref mm_queue, .int mm_queued, .ref mm_meets, .ref mm_bytes, .int (nI bl), .int (nI ta), .int (nI tl), .int mm_token, .int mm_value, .ref mm_next, .int (nI tk)])), (mm_now, .inl (cy 1, 122, .inl mm_now_f))] sz)) (va_Qi (fun (r : Int32) (u : Int32 × Int32) => (r = 1 ∧ True) ∨ (r = 0 ∧ True)) (fun (u : Int32 × Int32) t => va_P D vwCl ([(mm, .inr (11, [.ref mm_now, .ref mm_kept, .ref mm_isKept, .ref mm_refused, .int u.1, .int u.2, .ref mm_stands, .ref mm_far, .ref mm_queue, .int mm_queued, .ref mm_meets, .ref mm_bytes, .int (nI bl), .int (nI ta), .int (nI tl), .int mm_token, .int mm_value, .ref mm_next, .int (nI tk)])), (mm_now, .inl (cy 1, 122, .inl mm_now_f))]) t.heap ∧ va_D (va_A [(mm, .inr (11, [.ref mm_now, .ref mm_kept, .ref mm_isKept, .ref mm_refused, .int mm_lineFrom, .int mm_lineTo, .ref mm_stands, .ref mm_far, .ref mm_queue, .int mm_queued, .ref mm_meets, .ref mm_bytes, .int (nI bl), .int (nI ta), .int (nI tl), .int mm_token, .int mm_value, .ref mm_next, .int (nI tk)])), (mm_now, .inl (cy 1, 122, .inl mm_now_f))] sz) ([(mm, .inr (11, [.ref mm_now, .ref mm_kept, .ref mm_isKept, .ref mm_refused, .int u.1, .int u.2, .ref mm_stands, .ref mm_far, .ref mm_queue, .int mm_queued, .ref mm_meets, .ref mm_bytes, .int (nI bl), .int (nI ta), .int (nI tl), .int mm_token, .int mm_value, .ref mm_next, .int (nI tk)])), (mm_now, .inl (cy 1, 122, .inl mm_now_f))])) (va_A [(mm, .inr (11, [.ref mm_now, .ref mm_kept, .ref mm_isKept, .ref mm_refused, .int mm_lineFrom, .int mm_lineTo, .ref mm_stands, .ref mm_far, .ref mm_queue, .int mm_queued, .ref mm_meets, .ref mm_bytes, .int (nI bl), .int (nI ta), .int (nI tl), .int mm_token, .int mm_value, .ref mm_next, .int (nI tk)])), (mm_now, .inl (cy 1, 122, .inl mm_now_f))] sz)) 0 0 (va_A [(mm, .inr (11, [.ref mm_now, .ref mm_kept, .ref mm_isKept, .ref mm_refused, .int mm_lineFrom, .int mm_lineTo, .ref mm_stands, .ref mm_far, .ref mm_queue, .int mm_queued, .ref mm_meets, .ref mm_bytes, .int (nI bl), .int (nI ta), .int (nI tl), .int mm_token, .int mm_value, .ref mm_next, .int (nI tk)])), (mm_now, .inl (cy 1, 122, .inl mm_now_f))] sz) := by
  refine Met.ofW (cc := cX11_isReported) (maxL := 7) (ret := (some .boolean)) (by decide) rfl ?_
  intro p e s m args below meth c s₁ B hml hv
  obtain ⟨rfl, hsz, hP, hKA, hD0⟩ := hv
  have hx := B.exec
  have hb := B.bytes
  have hr := B.returns
  have hts := atoms_spec (ws := wsX11_isReported) B.pre
  have hown : s.vm.findClass RX11 = some m.cls := findClass_of_methodNamed B.named
  have hlocks := B.notSynchronized
  subst hsz
  have hK := hKA.1
  have hD := hD0.self (sz := s.heap.size)
  generalize hAe : va_A [(mm, .inr (11, [.ref mm_now, .ref mm_kept, .ref mm_isKept, .ref mm_refused, .int mm_lineFrom, .int mm_lineTo, .ref mm_stands, .ref mm_far, .ref mm_queue, .int mm_queued, .ref mm_meets, .ref mm_bytes, .int (nI bl), .int (nI ta), .int (nI tl), .int mm_token, .int mm_value, .ref mm_next, .int (nI tk)])), (mm_now, .inl (cy 1, 122, .inl mm_now_f))] s.heap.size = A at hD ⊢
  have hA : ∀ q : Nat, s.heap.size ≤ q → A q := fun q h => by rw [← hAe]; exact Or.inr h
  have hS : va_S A s.heap s.heap [] := va_S.rf
  have hP : va_P D vwCl [(mm, .inr (11, [.ref mm_now, .ref mm_kept, .ref mm_isKept, .ref mm_refused, .int mm_lineFrom, .int mm_lineTo, .ref mm_stands, .ref mm_far, .ref mm_queue, .int mm_queued, .ref mm_meets, .ref mm_bytes, .int (nI bl), .int (nI ta), .int (nI tl), .int mm_token, .int mm_value, .ref mm_next, .int (nI tk)])), (mm_now, .inl (cy 1, 122, .inl mm_now_f))] s.heap := hP
  have hl := lv_entry ([.ref mm, .int (nI pb)]) (n := 7) (Nat.le_of_ble_eq_true rfl)
  rw [lg_entry_eq]
  generalize (lg_sl ([.ref mm, .int (nI pb)]) ++ List.replicate (7 - (lg_sl ([.ref mm, .int (nI pb)])).length) Slot.unset).toArray = ls at hl ⊢
  have hl : lv_has ls 7 [(0, .ref mm), (1, .int (nI pb))] := hl
  refine qW (fun QF hQF => ?_)
  have z0_ := hts (.fieldLink RX11 7 "HeardSeenModel" "now" "[I") (by decide +kernel)
  have zi11_ : ∀ w ∈ u_ws RX11 TX11 19, w ∈ wsX11_isReported := by decide +kernel
  obtain ⟨hW2, hW6, hH2, hH6, hSe, hS4, hS6, hP5⟩ := hF.rng
  refine lv_iconst (v := 1) hx hb dX11_isReported_0 (by decide) ?_
  refine lv_istore_n (lv' := [(2, .int 1), (0, .ref mm), (1, .int (nI pb))]) hx hb dX11_isReported_1 rfl hl (by decide) rfl (fun ls hl => ?_)
  refine lv_iconst (v := 0) hx hb dX11_isReported_2 (by decide) ?_
  refine lv_istore_n (lv' := [(3, .int 0), (2, .int 1), (0, .ref mm), (1, .int (nI pb))]) hx hb dX11_isReported_3 rfl hl (by decide) rfl (fun ls hl => ?_)
  have lp4 : ∀ (n4 : Nat) (v3_4 : Nat) (v2_4 : Int32) (u_mm_4_4 : Int32) (u_mm_5_4 : Int32) (bv2_4 : v2_4 = 1 ∨ v2_4 = 0) (hv3_4 : v3_4 < 2147483648), 2147483648 - v3_4 < n4 → ∀ (H : Heap) (locs : List Loc), va_P D vwCl [(mm, .inr (11, [.ref mm_now, .ref mm_kept, .ref mm_isKept, .ref mm_refused, .int u_mm_4_4, .int u_mm_5_4, .ref mm_stands, .ref mm_far, .ref mm_queue, .int mm_queued, .ref mm_meets, .ref mm_bytes, .int (nI bl), .int (nI ta), .int (nI tl), .int mm_token, .int mm_value, .ref mm_next, .int (nI tk)])), (mm_now, .inl (cy 1, 122, .inl mm_now_f))] H → va_D A [(mm, .inr (11, [.ref mm_now, .ref mm_kept, .ref mm_isKept, .ref mm_refused, .int u_mm_4_4, .int u_mm_5_4, .ref mm_stands, .ref mm_far, .ref mm_queue, .int mm_queued, .ref mm_meets, .ref mm_bytes, .int (nI bl), .int (nI ta), .int (nI tl), .int mm_token, .int mm_value, .ref mm_next, .int (nI tk)])), (mm_now, .inl (cy 1, 122, .inl mm_now_f))] → va_S A s.heap H locs → ∀ ls : Array Slot, lv_has ls 7 [(3, .int (nI v3_4)), (2, .int v2_4), (0, .ref mm), (1, .int (nI pb))] → W p l e (headSpec wsX11_isReported ({ frames := 6, cells := 0, slots := 0, locals := 134 })).room s m [.ref mm, .int (nI pb)].toArray below meth c H locs 0 0 QF (F0 m 4 ls []) := by
    intro n4
    induction n4 with
    | zero => intro v3_4 v2_4 u_mm_4_4 u_mm_5_4 bv2_4 hv3_4 hm; exact absurd hm (Nat.not_lt_zero _)
    | succ n4 ih4 =>
      intro v3_4 v2_4 u_mm_4_4 u_mm_5_4 bv2_4 hv3_4 hm4 H locs hP hD hS ls hl
      refine lv_iload_n hx hb dX11_isReported_4 rfl (lv_at hl 0 rfl) ?_
      refine lv_aload_n hx hb dX11_isReported_5 rfl (lv_at hl 2 rfl) ?_
      refine va_get (D := D) (ci := 11) (v := .ref mm_now) (C := RX11) (T := TX11) (N := 19) hx hb hts zi11_ hown hK hP 0 rfl rfl 0 (by decide) z0_ (fun _ h9 => h9) rfl dX11_isReported_6 ?_
      refine lv_bipush (v := 105) hx hb dX11_isReported_9 (by decide) ?_
      refine my_iald hx hb hK hP 1 1 rfl rfl (by rw [vp_in_iff]; decide +kernel) (k := 105) (by decide +kernel) dX11_isReported_11 ?_
      obtain ⟨jr, ejr, hjr⟩ := mV.get hF (105) 8 (by omega) (by omega) (by unfold mHi; (repeat' split) <;> omega)
      refine W.eq (g2 := F0 m 12 ls [.int (nI jr), .int (nI v3_4)]) (congrArg (fun v9 : Int32 => F0 m 12 ls [.int v9, .int (nI v3_4)]) ejr) ?_
      refine lv_icmp_ge (tgt := 107) hx hb dX11_isReported_12 (by decide) (fun c1 => ?_) (fun c1 => ?_)
      · skip
        refine lv_iload_n hx hb dX11_isReported_107 rfl (lv_at hl 1 rfl) ?_
        subst hQF
        have hP9 := hP
        have hD9 := hD
        exact W.zret (v := v2_4) hx hb hr (z_bm bv2_4) (fun t ht hW => ⟨⟨v2_4, (u_mm_4_4, u_mm_5_4), rfl, (z_bu bv2_4), by rw [ht]; exact hP9, hD9⟩, hS.F ht⟩) hS.2.2 dX11_isReported_108
      · skip
        have hk12 := ltM (n := jr) (k := v3_4) (by omega) (by assumption) (by assumption)
        refine lv_aload_n hx hb dX11_isReported_15 rfl (lv_at hl 2 rfl) ?_
        refine va_get (D := D) (ci := 11) (v := .ref mm_now) (C := RX11) (T := TX11) (N := 19) hx hb hts zi11_ hown hK hP 0 rfl rfl 0 (by decide) z0_ (fun _ h9 => h9) rfl dX11_isReported_16 ?_
        refine lv_bipush (v := 106) hx hb dX11_isReported_19 (by decide) ?_
        refine lv_iconst (v := 2) hx hb dX11_isReported_21 (by decide) ?_
        refine lv_iload_n hx hb dX11_isReported_22 rfl (lv_at hl 0 rfl) ?_
        refine lv_imul hx hb dX11_isReported_23 ?_
        refine lv_topi (fun x2 ex2 => ?_)
        obtain rfl : x2 = nI (2 * v3_4) := by rw [ex2]; exact pk_mul _ _
        refine lv_iadd hx hb dX11_isReported_24 ?_
        refine lv_topi (fun x3 ex3 => ?_)
        obtain rfl : x3 = nI (106 + (2 * v3_4)) := by rw [ex3]; exact nI_add _ _
        refine my_iald hx hb hK hP 1 1 rfl rfl (by first | exact in_ge (N := 122) (by decide) (by omega) (by assumption) | exact vp_in_nI (by omega) (by omega)) (nI_clamp (by omega)) dX11_isReported_25 ?_
        obtain ⟨jby, ejby, hjby⟩ := mV.get hF (106 + (2 * v3_4)) 4 (by omega) (by omega) (by unfold mHi; (repeat' split) <;> omega)
        refine W.eq (g2 := F0 m 26 ls [.int (nI jby)]) (congrArg (fun v9 : Int32 => F0 m 26 ls [.int v9]) ejby) ?_
        refine lv_istore (lv' := [(4, .int (nI jby)), (3, .int (nI v3_4)), (2, .int v2_4), (0, .ref mm), (1, .int (nI pb))]) hx hb dX11_isReported_26 hl (by decide) rfl (fun ls hl => ?_)
        refine lv_aload_n hx hb dX11_isReported_28 rfl (lv_at hl 3 rfl) ?_
        refine va_get (D := D) (ci := 11) (v := .ref mm_now) (C := RX11) (T := TX11) (N := 19) hx hb hts zi11_ hown hK hP 0 rfl rfl 0 (by decide) z0_ (fun _ h9 => h9) rfl dX11_isReported_29 ?_
        refine lv_bipush (v := 106) hx hb dX11_isReported_32 (by decide) ?_
        refine lv_iconst (v := 2) hx hb dX11_isReported_34 (by decide) ?_
        refine lv_iload_n hx hb dX11_isReported_35 rfl (lv_at hl 1 rfl) ?_
        refine lv_imul hx hb dX11_isReported_36 ?_
        refine lv_topi (fun x4 ex4 => ?_)
        obtain rfl : x4 = nI (2 * v3_4) := by rw [ex4]; exact pk_mul _ _
        refine lv_iadd hx hb dX11_isReported_37 ?_
        refine lv_topi (fun x5 ex5 => ?_)
        obtain rfl : x5 = nI (106 + (2 * v3_4)) := by rw [ex5]; exact nI_add _ _
        refine lv_iconst (v := 1) hx hb dX11_isReported_38 (by decide) ?_
        refine lv_iadd hx hb dX11_isReported_39 ?_
        refine lv_topi (fun x6 ex6 => ?_)
        obtain rfl : x6 = nI ((106 + (2 * v3_4)) + 1) := by rw [ex6]; exact nI_add _ _
        refine my_iald hx hb hK hP 1 1 rfl rfl (by first | exact in_ge (N := 122) (by decide) (by omega) (by assumption) | exact vp_in_nI (by omega) (by omega)) (nI_clamp (by omega)) dX11_isReported_40 ?_
        refine lv_topi (fun x7 ex7 => ?_)
        refine lv_istore (lv' := [(5, .int x7), (4, .int (nI jby)), (3, .int (nI v3_4)), (2, .int v2_4), (0, .ref mm), (1, .int (nI pb))]) hx hb dX11_isReported_41 hl (by decide) rfl (fun ls hl => ?_)
        refine lv_iload hx hb dX11_isReported_43 (lv_at hl 1 rfl) ?_
        refine lv_iload_n hx hb dX11_isReported_45 rfl (lv_at hl 5 rfl) ?_
        refine lv_icmp_eq (tgt := 101) hx hb dX11_isReported_46 (by decide) (fun c8 => ?_) (fun c8 => ?_)
        · skip
          refine lv_iinc (v := nI (v3_4 + 1)) (lv' := [(3, .int (nI (v3_4 + 1))), (5, .int x7), (4, .int (nI jby)), (2, .int v2_4), (0, .ref mm), (1, .int (nI pb))]) hx hb dX11_isReported_101 hl (k := 2) rfl (nI_1 _) (by decide) rfl (fun ls hl => ?_)
          refine lv_goto (tgt := 4) hx hb dX11_isReported_104 (by decide) ?_
          exact ih4 (v3_4 + 1) v2_4 u_mm_4_4 u_mm_5_4 bv2_4 (by first | omega | exact nlt_max hv3_4 (by assumption)) (by first | omega | (have := nlt_max hv3_4 (by assumption); omega)) _ _ hP hD hS ls (lv_sub hl [0, 3, 4, 5] rfl)
        · skip
          refine lv_iload hx hb dX11_isReported_49 (lv_at hl 0 rfl) ?_
          refine lv_iconst (v := 2) hx hb dX11_isReported_51 (by decide) ?_
          have j72 : ∀ (s1_72 : Int32) (u_mm_4_72 : Int32) (u_mm_5_72 : Int32) (bs1_72 : s1_72 = 1 ∨ s1_72 = 0) (H : Heap) (locs : List Loc), va_P D vwCl [(mm, .inr (11, [.ref mm_now, .ref mm_kept, .ref mm_isKept, .ref mm_refused, .int u_mm_4_72, .int u_mm_5_72, .ref mm_stands, .ref mm_far, .ref mm_queue, .int mm_queued, .ref mm_meets, .ref mm_bytes, .int (nI bl), .int (nI ta), .int (nI tl), .int mm_token, .int mm_value, .ref mm_next, .int (nI tk)])), (mm_now, .inl (cy 1, 122, .inl mm_now_f))] H → va_D A [(mm, .inr (11, [.ref mm_now, .ref mm_kept, .ref mm_isKept, .ref mm_refused, .int u_mm_4_72, .int u_mm_5_72, .ref mm_stands, .ref mm_far, .ref mm_queue, .int mm_queued, .ref mm_meets, .ref mm_bytes, .int (nI bl), .int (nI ta), .int (nI tl), .int mm_token, .int mm_value, .ref mm_next, .int (nI tk)])), (mm_now, .inl (cy 1, 122, .inl mm_now_f))] → va_S A s.heap H locs → ∀ ls : Array Slot, lv_has ls 7 [(5, .int x7), (4, .int (nI jby)), (3, .int (nI v3_4)), (2, .int v2_4), (0, .ref mm), (1, .int (nI pb))] → W p l e (headSpec wsX11_isReported ({ frames := 6, cells := 0, slots := 0, locals := 134 })).room s m [.ref mm, .int (nI pb)].toArray below meth c H locs 0 0 QF (F0 m 72 ls [.int s1_72]) := by
            intro s1_72 u_mm_4_72 u_mm_5_72 bs1_72 H locs hP hD hS ls hl
            refine lv_istore (lv' := [(6, .int s1_72), (5, .int x7), (4, .int (nI jby)), (3, .int (nI v3_4)), (2, .int v2_4), (0, .ref mm), (1, .int (nI pb))]) hx hb dX11_isReported_72 hl (by decide) rfl (fun ls hl => ?_)
            refine lv_iload_n hx hb dX11_isReported_74 rfl (lv_at hl 4 rfl) ?_
            refine lv_if_eq (tgt := 99) hx hb dX11_isReported_75 (by decide) (fun c9 => ?_) (fun c9 => ?_)
            · skip
              refine lv_iconst (v := 0) hx hb dX11_isReported_99 (by decide) ?_
              refine lv_istore_n (lv' := [(2, .int 0), (6, .int s1_72), (5, .int x7), (4, .int (nI jby)), (3, .int (nI v3_4)), (0, .ref mm), (1, .int (nI pb))]) hx hb dX11_isReported_100 rfl hl (by decide) rfl (fun ls hl => ?_)
              refine lv_iinc (v := nI (v3_4 + 1)) (lv' := [(3, .int (nI (v3_4 + 1))), (2, .int 0), (6, .int s1_72), (5, .int x7), (4, .int (nI jby)), (0, .ref mm), (1, .int (nI pb))]) hx hb dX11_isReported_101 hl (k := 4) rfl (nI_1 _) (by decide) rfl (fun ls hl => ?_)
              refine lv_goto (tgt := 4) hx hb dX11_isReported_104 (by decide) ?_
              exact ih4 (v3_4 + 1) 0 u_mm_4_72 u_mm_5_72 (Or.inr rfl) (by first | omega | exact nlt_max hv3_4 (by assumption)) (by first | omega | (have := nlt_max hv3_4 (by assumption); omega)) _ _ hP hD hS ls (lv_sub hl [0, 1, 5, 6] rfl)
            · skip
              refine lv_iload hx hb dX11_isReported_78 (lv_at hl 0 rfl) ?_
              refine lv_iload hx hb dX11_isReported_80 (lv_at hl 1 rfl) ?_
              refine lv_iconst (v := 2) hx hb dX11_isReported_82 (by decide) ?_
              refine lv_irem hx hb dX11_isReported_83 (by decide) ?_
              have j92 : ∀ (s2_92 : Int32) (bs2_92 : s2_92 = 1 ∨ s2_92 = 0) (H : Heap) (locs : List Loc), va_P D vwCl [(mm, .inr (11, [.ref mm_now, .ref mm_kept, .ref mm_isKept, .ref mm_refused, .int u_mm_4_72, .int u_mm_5_72, .ref mm_stands, .ref mm_far, .ref mm_queue, .int mm_queued, .ref mm_meets, .ref mm_bytes, .int (nI bl), .int (nI ta), .int (nI tl), .int mm_token, .int mm_value, .ref mm_next, .int (nI tk)])), (mm_now, .inl (cy 1, 122, .inl mm_now_f))] H → va_D A [(mm, .inr (11, [.ref mm_now, .ref mm_kept, .ref mm_isKept, .ref mm_refused, .int u_mm_4_72, .int u_mm_5_72, .ref mm_stands, .ref mm_far, .ref mm_queue, .int mm_queued, .ref mm_meets, .ref mm_bytes, .int (nI bl), .int (nI ta), .int (nI tl), .int mm_token, .int mm_value, .ref mm_next, .int (nI tk)])), (mm_now, .inl (cy 1, 122, .inl mm_now_f))] → va_S A s.heap H locs → ∀ ls : Array Slot, lv_has ls 7 [(6, .int s1_72), (5, .int x7), (4, .int (nI jby)), (3, .int (nI v3_4)), (2, .int v2_4), (0, .ref mm), (1, .int (nI pb))] → W p l e (headSpec wsX11_isReported ({ frames := 6, cells := 0, slots := 0, locals := 134 })).room s m [.ref mm, .int (nI pb)].toArray below meth c H locs 0 0 QF (F0 m 92 ls [.int s2_92, .int s1_72]) := by
                intro s2_92 bs2_92 H locs hP hD hS ls hl
                refine lv_icmp_ne (tgt := 99) hx hb dX11_isReported_92 (by decide) (fun c10 => ?_) (fun c10 => ?_)
                · skip
                  refine lv_iconst (v := 0) hx hb dX11_isReported_99 (by decide) ?_
                  refine lv_istore_n (lv' := [(2, .int 0), (6, .int s1_72), (5, .int x7), (4, .int (nI jby)), (3, .int (nI v3_4)), (0, .ref mm), (1, .int (nI pb))]) hx hb dX11_isReported_100 rfl hl (by decide) rfl (fun ls hl => ?_)
                  refine lv_iinc (v := nI (v3_4 + 1)) (lv' := [(3, .int (nI (v3_4 + 1))), (2, .int 0), (6, .int s1_72), (5, .int x7), (4, .int (nI jby)), (0, .ref mm), (1, .int (nI pb))]) hx hb dX11_isReported_101 hl (k := 4) rfl (nI_1 _) (by decide) rfl (fun ls hl => ?_)
                  refine lv_goto (tgt := 4) hx hb dX11_isReported_104 (by decide) ?_
                  exact ih4 (v3_4 + 1) 0 u_mm_4_72 u_mm_5_72 (Or.inr rfl) (by first | omega | exact nlt_max hv3_4 (by assumption)) (by first | omega | (have := nlt_max hv3_4 (by assumption); omega)) _ _ hP hD hS ls (lv_sub hl [0, 1, 5, 6] rfl)
                · skip
                  refine lv_iconst (v := 1) hx hb dX11_isReported_95 (by decide) ?_
                  refine lv_goto (tgt := 100) hx hb dX11_isReported_96 (by decide) ?_
                  refine lv_istore_n (lv' := [(2, .int 1), (6, .int s1_72), (5, .int x7), (4, .int (nI jby)), (3, .int (nI v3_4)), (0, .ref mm), (1, .int (nI pb))]) hx hb dX11_isReported_100 rfl hl (by decide) rfl (fun ls hl => ?_)
                  refine lv_iinc (v := nI (v3_4 + 1)) (lv' := [(3, .int (nI (v3_4 + 1))), (2, .int 1), (6, .int s1_72), (5, .int x7), (4, .int (nI jby)), (0, .ref mm), (1, .int (nI pb))]) hx hb dX11_isReported_101 hl (k := 4) rfl (nI_1 _) (by decide) rfl (fun ls hl => ?_)
                  refine lv_goto (tgt := 4) hx hb dX11_isReported_104 (by decide) ?_
                  exact ih4 (v3_4 + 1) 1 u_mm_4_72 u_mm_5_72 (Or.inl rfl) (by first | omega | exact nlt_max hv3_4 (by assumption)) (by first | omega | (have := nlt_max hv3_4 (by assumption); omega)) _ _ hP hD hS ls (lv_sub hl [0, 1, 5, 6] rfl)
              refine lv_if_ne (tgt := 91) hx hb dX11_isReported_84 (by decide) (fun c11 => ?_) (fun c11 => ?_)
              · skip
                refine lv_iconst (v := 0) hx hb dX11_isReported_91 (by decide) ?_
                exact j92 0 (Or.inr rfl) _ _ hP hD hS ls hl
              · skip
                refine lv_iconst (v := 1) hx hb dX11_isReported_87 (by decide) ?_
                refine lv_goto (tgt := 92) hx hb dX11_isReported_88 (by decide) ?_
                exact j92 1 (Or.inl rfl) _ _ hP hD hS ls hl
          refine lv_icmp_ge (tgt := 65) hx hb dX11_isReported_52 (by decide) (fun c12 => ?_) (fun c12 => ?_)
          · skip
            refine lv_aload_n hx hb dX11_isReported_65 rfl (lv_at hl 4 rfl) ?_
            refine lv_iload hx hb dX11_isReported_66 (lv_at hl 1 rfl) ?_
            refine lv_iload_n hx hb dX11_isReported_68 rfl (lv_at hl 5 rfl) ?_
            refine rd_i (va_runV (As := [.int (nI jby), .int (nI pb)]) (rest := []) ⟨hx, hb, hml, hown, hts⟩ (n_X11_hears l D cy mW mH mS mP mm mm_now mm_kept mm_isKept mm_refused u_mm_4_4 u_mm_5_4 mm_stands mm_far mm_queue mm_queued mm_meets mm_bytes bl ta tl mm_token mm_value mm_next tk mm_now_f jby pb _ (by first | assumption | omega) (by first | assumption | omega) (by first | assumption | omega)) (cwV 2 hts gX11_isReported_X11_hears rfl rfl rfl (by decide +kernel) ⟨Nat.le_of_ble_eq_true rfl, Nat.le_of_ble_eq_true rfl⟩) (pV (ci := 11) (k := 0) hKA (hP.sub (ws' := [(mm, .inr (11, [.ref mm_now, .ref mm_kept, .ref mm_isKept, .ref mm_refused, .int u_mm_4_4, .int u_mm_5_4, .ref mm_stands, .ref mm_far, .ref mm_queue, .int mm_queued, .ref mm_meets, .ref mm_bytes, .int (nI bl), .int (nI ta), .int (nI tl), .int mm_token, .int mm_value, .ref mm_next, .int (nI tk)])), (mm_now, .inl (cy 1, 122, .inl mm_now_f))]) [0, 1] rfl) (hD.sub (ws' := [(mm, .inr (11, [.ref mm_now, .ref mm_kept, .ref mm_isKept, .ref mm_refused, .int u_mm_4_4, .int u_mm_5_4, .ref mm_stands, .ref mm_far, .ref mm_queue, .int mm_queued, .ref mm_meets, .ref mm_bytes, .int (nI bl), .int (nI ta), .int (nI tl), .int mm_token, .int mm_value, .ref mm_next, .int (nI tk)])), (mm_now, .inl (cy 1, 122, .inl mm_now_f))]) [0, 1] (by decide) rfl) rfl rfl) rfl rfl hl.1 rfl (lv_room (Nat.le_of_ble_eq_true rfl)) dX11_isReported_69 ⟨Nat.le_of_ble_eq_true rfl, Nat.le_of_ble_eq_true rfl⟩) hP hS hA (fun r13 H locs hwr13 hP hS => ?_)
            have hwr13 : (r13 = 1 ∧ True) ∨ (r13 = 0 ∧ True) := hwr13
            exact j72 r13 u_mm_4_4 u_mm_5_4 (z_bo hwr13) _ _ hP hD hS ls hl
          · skip
            refine lv_aload_n hx hb dX11_isReported_55 rfl (lv_at hl 4 rfl) ?_
            refine lv_iload hx hb dX11_isReported_56 (lv_at hl 1 rfl) ?_
            refine lv_iload_n hx hb dX11_isReported_58 rfl (lv_at hl 5 rfl) ?_
            refine wr_i (wr := []) (va_runV (As := [.int (nI jby), .int (nI pb)]) (rest := []) ⟨hx, hb, hml, hown, hts⟩ (n_X11_sees l D cy mW mH mS mP mm mm_now mm_kept mm_isKept mm_refused u_mm_4_4 u_mm_5_4 mm_stands mm_far mm_queue mm_queued mm_meets mm_bytes bl ta tl mm_token mm_value mm_next tk mm_now_f jby pb _ (by first | assumption | omega) (by first | assumption | omega) (by first | assumption | omega)) (cwV 2 hts gX11_isReported_X11_sees rfl rfl rfl (by decide +kernel) ⟨Nat.le_of_ble_eq_true rfl, Nat.le_of_ble_eq_true rfl⟩) (pV (ci := 11) (k := 0) hKA (hP.sub (ws' := [(mm, .inr (11, [.ref mm_now, .ref mm_kept, .ref mm_isKept, .ref mm_refused, .int u_mm_4_4, .int u_mm_5_4, .ref mm_stands, .ref mm_far, .ref mm_queue, .int mm_queued, .ref mm_meets, .ref mm_bytes, .int (nI bl), .int (nI ta), .int (nI tl), .int mm_token, .int mm_value, .ref mm_next, .int (nI tk)])), (mm_now, .inl (cy 1, 122, .inl mm_now_f))]) [0, 1] rfl) (hD.sub (ws' := [(mm, .inr (11, [.ref mm_now, .ref mm_kept, .ref mm_isKept, .ref mm_refused, .int u_mm_4_4, .int u_mm_5_4, .ref mm_stands, .ref mm_far, .ref mm_queue, .int mm_queued, .ref mm_meets, .ref mm_bytes, .int (nI bl), .int (nI ta), .int (nI tl), .int mm_token, .int mm_value, .ref mm_next, .int (nI tk)])), (mm_now, .inl (cy 1, 122, .inl mm_now_f))]) [0, 1] (by decide) rfl) rfl rfl) rfl rfl hl.1 rfl (lv_room (Nat.le_of_ble_eq_true rfl)) dX11_isReported_59 ⟨Nat.le_of_ble_eq_true rfl, Nat.le_of_ble_eq_true rfl⟩) hP hD hS hA [0, 1] [] rfl rfl (by decide +kernel) (by decide +kernel) (fun r14 ur14 H locs hwr14 hP hD hS => ?_)
            obtain ⟨z15, z16⟩ := ur14
            have hP : va_P D vwCl [(mm, .inr (11, [.ref mm_now, .ref mm_kept, .ref mm_isKept, .ref mm_refused, .int z15, .int z16, .ref mm_stands, .ref mm_far, .ref mm_queue, .int mm_queued, .ref mm_meets, .ref mm_bytes, .int (nI bl), .int (nI ta), .int (nI tl), .int mm_token, .int mm_value, .ref mm_next, .int (nI tk)])), (mm_now, .inl (cy 1, 122, .inl mm_now_f))] H := hP
            have hD : va_D A [(mm, .inr (11, [.ref mm_now, .ref mm_kept, .ref mm_isKept, .ref mm_refused, .int z15, .int z16, .ref mm_stands, .ref mm_far, .ref mm_queue, .int mm_queued, .ref mm_meets, .ref mm_bytes, .int (nI bl), .int (nI ta), .int (nI tl), .int mm_token, .int mm_value, .ref mm_next, .int (nI tk)])), (mm_now, .inl (cy 1, 122, .inl mm_now_f))] := hD
            have hwr14 : (r14 = 1 ∧ True) ∨ (r14 = 0 ∧ True) := hwr14
            refine lv_goto (tgt := 72) hx hb dX11_isReported_62 (by decide) ?_
            exact j72 r14 z15 z16 (z_bo hwr14) _ _ hP hD hS ls hl
  exact lp4 (2147483648 - 0 + 1) 0 1 mm_lineFrom mm_lineTo (Or.inl rfl) (by first | omega | exact nlt_max (by assumption) (by assumption)) (Nat.lt_succ_self _) _ _ hP hD hS ls hl

set_option maxHeartbeats 4000000 in
set_option maxRecDepth 100000 in
theorem n_X11_manyOf (l : Launch) (D : va_G) (cy : Nat → ClassId) (mW : Nat) (mH : Nat) (mS : Nat) (mP : Nat) (mm : Nat) (mm_now : Nat) (mm_kept : Nat) (mm_isKept : Nat) (mm_refused : Nat) (mm_lineFrom : Int32) (mm_lineTo : Int32) (mm_stands : Nat) (mm_far : Nat) (mm_queue : Nat) (mm_queued : Int32) (mm_meets : Nat) (mm_bytes : Nat) (bl : Nat) (ta : Nat) (tl : Nat) (mm_token : Int32) (mm_value : Int32) (mm_next : Nat) (tk : Nat) (mm_now_f : Nat → Int32) (pf : Nat) (sz : Nat) (hF : mV mm_now_f mW mH mS mP) (hpf : pf ≤ 56) : Met l yX11_manyOf wsX11_manyOf ({ frames := 1, cells := 0, slots := 0, locals := 20 }) (va_Pc [.ref mm, .int (nI pf)] (kPre D cy [(mm, .inr (11, [.ref mm_now, .ref mm_kept, .ref mm_isKept, .ref mm_refused, .int mm_lineFrom, .int mm_lineTo, .ref mm_stands, .ref mm_far, .ref mm_queue, .int mm_queued, .ref mm_meets, .ref mm_bytes, .int (nI bl), .int (nI ta), .int (nI tl), .int mm_token, .int mm_value, .ref mm_next, .int (nI tk)])), (mm_now, .inl (cy 1, 122, .inl mm_now_f))] sz)) (va_Qi (fun (r : Int32) (u : Unit) => True) (fun _ _ => True) (fun q : Nat => sz ≤ q)) 0 0 (fun q : Nat => sz ≤ q) := by
  refine Met.ofW (cc := cX11_manyOf) (maxL := 4) (ret := (some .int)) (by decide) rfl ?_
  intro p e s m args below meth c s₁ B hml hv
  obtain ⟨rfl, hsz, hP, hKA, hD0⟩ := hv
  have hx := B.exec
  have hb := B.bytes
  have hr := B.returns
  have hts := atoms_spec (ws := wsX11_manyOf) B.pre
  have hown : s.vm.findClass RX11 = some m.cls := findClass_of_methodNamed B.named
  have hlocks := B.notSynchronized
  subst hsz
  have hK := hKA.1
  have hD := hD0
  generalize hAe : (fun q : Nat => s.heap.size ≤ q) = A
  have hA : ∀ q : Nat, s.heap.size ≤ q → A q := fun q h => by rw [← hAe]; exact h
  have hS : va_S A s.heap s.heap [] := va_S.rf
  have hP : va_P D vwCl [(mm, .inr (11, [.ref mm_now, .ref mm_kept, .ref mm_isKept, .ref mm_refused, .int mm_lineFrom, .int mm_lineTo, .ref mm_stands, .ref mm_far, .ref mm_queue, .int mm_queued, .ref mm_meets, .ref mm_bytes, .int (nI bl), .int (nI ta), .int (nI tl), .int mm_token, .int mm_value, .ref mm_next, .int (nI tk)])), (mm_now, .inl (cy 1, 122, .inl mm_now_f))] s.heap := hP
  have hl := lv_entry ([.ref mm, .int (nI pf)]) (n := 4) (Nat.le_of_ble_eq_true rfl)
  rw [lg_entry_eq]
  generalize (lg_sl ([.ref mm, .int (nI pf)]) ++ List.replicate (4 - (lg_sl ([.ref mm, .int (nI pf)])).length) Slot.unset).toArray = ls at hl ⊢
  have hl : lv_has ls 4 [(0, .ref mm), (1, .int (nI pf))] := hl
  refine qW (fun QF hQF => ?_)
  have z0_ := hts (.fieldLink RX11 7 "HeardSeenModel" "now" "[I") (by decide +kernel)
  have zi11_ : ∀ w ∈ u_ws RX11 TX11 19, w ∈ wsX11_manyOf := by decide +kernel
  obtain ⟨hW2, hW6, hH2, hH6, hSe, hS4, hS6, hP5⟩ := hF.rng
  refine lv_iconst (v := 0) hx hb dX11_manyOf_0 (by decide) ?_
  refine lv_istore_n (lv' := [(2, .int 0), (0, .ref mm), (1, .int (nI pf))]) hx hb dX11_manyOf_1 rfl hl (by decide) rfl (fun ls hl => ?_)
  refine lv_iconst (v := 0) hx hb dX11_manyOf_2 (by decide) ?_
  refine lv_istore_n (lv' := [(3, .int 0), (2, .int 0), (0, .ref mm), (1, .int (nI pf))]) hx hb dX11_manyOf_3 rfl hl (by decide) rfl (fun ls hl => ?_)
  have lp4 : ∀ (n4 : Nat) (v3_4 : Nat) (v2_4 : Int32) (hv3_4 : v3_4 < 2147483648), 2147483648 - v3_4 < n4 → ∀ (H : Heap) (locs : List Loc), va_P D vwCl [(mm, .inr (11, [.ref mm_now, .ref mm_kept, .ref mm_isKept, .ref mm_refused, .int mm_lineFrom, .int mm_lineTo, .ref mm_stands, .ref mm_far, .ref mm_queue, .int mm_queued, .ref mm_meets, .ref mm_bytes, .int (nI bl), .int (nI ta), .int (nI tl), .int mm_token, .int mm_value, .ref mm_next, .int (nI tk)])), (mm_now, .inl (cy 1, 122, .inl mm_now_f))] H → va_D (fun _ => True) [(mm, .inr (11, [.ref mm_now, .ref mm_kept, .ref mm_isKept, .ref mm_refused, .int mm_lineFrom, .int mm_lineTo, .ref mm_stands, .ref mm_far, .ref mm_queue, .int mm_queued, .ref mm_meets, .ref mm_bytes, .int (nI bl), .int (nI ta), .int (nI tl), .int mm_token, .int mm_value, .ref mm_next, .int (nI tk)])), (mm_now, .inl (cy 1, 122, .inl mm_now_f))] → va_S A s.heap H locs → ∀ ls : Array Slot, lv_has ls 4 [(3, .int (nI v3_4)), (2, .int v2_4), (0, .ref mm), (1, .int (nI pf))] → W p l e (headSpec wsX11_manyOf ({ frames := 1, cells := 0, slots := 0, locals := 20 })).room s m [.ref mm, .int (nI pf)].toArray below meth c H locs 0 0 QF (F0 m 4 ls []) := by
    intro n4
    induction n4 with
    | zero => intro v3_4 v2_4 hv3_4 hm; exact absurd hm (Nat.not_lt_zero _)
    | succ n4 ih4 =>
      intro v3_4 v2_4 hv3_4 hm4 H locs hP hD hS ls hl
      refine lv_iload_n hx hb dX11_manyOf_4 rfl (lv_at hl 0 rfl) ?_
      refine lv_aload_n hx hb dX11_manyOf_5 rfl (lv_at hl 2 rfl) ?_
      refine rd_i (va_runV (As := []) (rest := [.int (nI v3_4)]) ⟨hx, hb, hml, hown, hts⟩ (n_X11_squares l D cy mW mH mS mP mm mm_now mm_kept mm_isKept mm_refused mm_lineFrom mm_lineTo mm_stands mm_far mm_queue mm_queued mm_meets mm_bytes bl ta tl mm_token mm_value mm_next tk mm_now_f _ (by first | assumption | omega)) (cwV 0 hts gX11_manyOf_X11_squares rfl rfl rfl (by decide +kernel) ⟨Nat.le_of_ble_eq_true rfl, Nat.le_of_ble_eq_true rfl⟩) (pV (ci := 11) (k := 0) hKA (hP.sub (ws' := [(mm, .inr (11, [.ref mm_now, .ref mm_kept, .ref mm_isKept, .ref mm_refused, .int mm_lineFrom, .int mm_lineTo, .ref mm_stands, .ref mm_far, .ref mm_queue, .int mm_queued, .ref mm_meets, .ref mm_bytes, .int (nI bl), .int (nI ta), .int (nI tl), .int mm_token, .int mm_value, .ref mm_next, .int (nI tk)])), (mm_now, .inl (cy 1, 122, .inl mm_now_f))]) [0, 1] rfl) (hD.sub (ws' := [(mm, .inr (11, [.ref mm_now, .ref mm_kept, .ref mm_isKept, .ref mm_refused, .int mm_lineFrom, .int mm_lineTo, .ref mm_stands, .ref mm_far, .ref mm_queue, .int mm_queued, .ref mm_meets, .ref mm_bytes, .int (nI bl), .int (nI ta), .int (nI tl), .int mm_token, .int mm_value, .ref mm_next, .int (nI tk)])), (mm_now, .inl (cy 1, 122, .inl mm_now_f))]) [0, 1] (by decide) rfl) rfl rfl) rfl rfl hl.1 rfl (lv_room (Nat.le_of_ble_eq_true rfl)) dX11_manyOf_6 ⟨Nat.le_of_ble_eq_true rfl, Nat.le_of_ble_eq_true rfl⟩) hP hS hA (fun r1 H locs hwr1 hP hS => ?_)
      have hwr1 : r1 = nI mS := hwr1
      subst hwr1
      refine lv_icmp_ge (tgt := 29) hx hb dX11_manyOf_9 (by decide) (fun c2 => ?_) (fun c2 => ?_)
      · skip
        refine lv_iload_n hx hb dX11_manyOf_29 rfl (lv_at hl 1 rfl) ?_
        subst hQF
        exact W.iret (v := v2_4) hx hb hr (fun t ht hW => ⟨⟨v2_4, (), rfl, trivial, trivial⟩, hS.F ht⟩) hS.2.2 dX11_manyOf_30
      · skip
        have hk9 := ltM (n := mS) (k := v3_4) (by omega) (by assumption) (by assumption)
        refine lv_iload_n hx hb dX11_manyOf_12 rfl (lv_at hl 1 rfl) ?_
        refine lv_aload_n hx hb dX11_manyOf_13 rfl (lv_at hl 2 rfl) ?_
        refine va_get (D := D) (ci := 11) (v := .ref mm_now) (C := RX11) (T := TX11) (N := 19) hx hb hts zi11_ hown hK hP 0 rfl rfl 0 (by decide) z0_ (fun _ h9 => h9) rfl dX11_manyOf_14 ?_
        refine lv_iload_n hx hb dX11_manyOf_17 rfl (lv_at hl 3 rfl) ?_
        refine lv_iload_n hx hb dX11_manyOf_18 rfl (lv_at hl 0 rfl) ?_
        refine lv_iadd hx hb dX11_manyOf_19 ?_
        refine lv_topi (fun x3 ex3 => ?_)
        obtain rfl : x3 = nI (pf + v3_4) := by rw [ex3]; exact nI_add _ _
        refine my_iald hx hb hK hP 1 1 rfl rfl (by first | exact in_ge (N := 122) (by decide) (by omega) (by assumption) | exact vp_in_nI (by omega) (by omega)) (nI_clamp (by omega)) dX11_manyOf_20 ?_
        refine lv_iadd hx hb dX11_manyOf_21 ?_
        refine lv_topi (fun x4 ex4 => ?_)
        refine lv_istore_n (lv' := [(2, .int x4), (3, .int (nI v3_4)), (0, .ref mm), (1, .int (nI pf))]) hx hb dX11_manyOf_22 rfl hl (by decide) rfl (fun ls hl => ?_)
        refine lv_iinc (v := nI (v3_4 + 1)) (lv' := [(3, .int (nI (v3_4 + 1))), (2, .int x4), (0, .ref mm), (1, .int (nI pf))]) hx hb dX11_manyOf_23 hl (k := 1) rfl (nI_1 _) (by decide) rfl (fun ls hl => ?_)
        refine lv_goto (tgt := 4) hx hb dX11_manyOf_26 (by decide) ?_
        exact ih4 (v3_4 + 1) x4 (by first | omega | exact nlt_max hv3_4 (by assumption)) (by first | omega | (have := nlt_max hv3_4 (by assumption); omega)) _ _ hP hD hS ls hl
  exact lp4 (2147483648 - 0 + 1) 0 0 (by first | omega | exact nlt_max (by assumption) (by assumption)) (Nat.lt_succ_self _) _ _ hP hD hS ls hl

set_option maxHeartbeats 4000000 in
set_option maxRecDepth 100000 in
theorem n_X11_sums (l : Launch) (D : va_G) (cy : Nat → ClassId) (mW : Nat) (mH : Nat) (mS : Nat) (mP : Nat) (mm : Nat) (mm_now : Nat) (mm_kept : Nat) (mm_isKept : Nat) (mm_refused : Nat) (mm_lineFrom : Int32) (mm_lineTo : Int32) (mm_stands : Nat) (mm_far : Nat) (mm_queue : Nat) (mm_queued : Int32) (mm_meets : Nat) (mm_bytes : Nat) (bl : Nat) (ta : Nat) (tl : Nat) (mm_token : Int32) (mm_value : Int32) (mm_next : Nat) (tk : Nat) (mm_now_f : Nat → Int32) (px : Int64) (pf : Nat) (pn : Nat) (sz : Nat) (hF : mV mm_now_f mW mH mS mP) (hpf : pf + pn ≤ 122) : Met l yX11_sums wsX11_sums ({ frames := 0, cells := 0, slots := 0, locals := 0 }) (va_Pc [.ref mm, .long px, .int (nI pf), .int (nI pn)] (kPre D cy [(mm, .inr (11, [.ref mm_now, .ref mm_kept, .ref mm_isKept, .ref mm_refused, .int mm_lineFrom, .int mm_lineTo, .ref mm_stands, .ref mm_far, .ref mm_queue, .int mm_queued, .ref mm_meets, .ref mm_bytes, .int (nI bl), .int (nI ta), .int (nI tl), .int mm_token, .int mm_value, .ref mm_next, .int (nI tk)])), (mm_now, .inl (cy 1, 122, .inl mm_now_f))] sz)) (va_Ql (fun (r : Int64) (u : Unit) => True) (fun _ _ => True) (fun q : Nat => sz ≤ q)) 0 0 (fun q : Nat => sz ≤ q) := by
  refine Met.ofW (cc := cX11_sums) (maxL := 8) (ret := (some .long)) (by decide) rfl ?_
  intro p e s m args below meth c s₁ B hml hv
  obtain ⟨rfl, hsz, hP, hKA, hD0⟩ := hv
  have hx := B.exec
  have hb := B.bytes
  have hr := B.returns
  have hts := atoms_spec (ws := wsX11_sums) B.pre
  have hown : s.vm.findClass RX11 = some m.cls := findClass_of_methodNamed B.named
  have hlocks := B.notSynchronized
  subst hsz
  have hK := hKA.1
  have hD := hD0
  generalize hAe : (fun q : Nat => s.heap.size ≤ q) = A
  have hA : ∀ q : Nat, s.heap.size ≤ q → A q := fun q h => by rw [← hAe]; exact h
  have hS : va_S A s.heap s.heap [] := va_S.rf
  have hP : va_P D vwCl [(mm, .inr (11, [.ref mm_now, .ref mm_kept, .ref mm_isKept, .ref mm_refused, .int mm_lineFrom, .int mm_lineTo, .ref mm_stands, .ref mm_far, .ref mm_queue, .int mm_queued, .ref mm_meets, .ref mm_bytes, .int (nI bl), .int (nI ta), .int (nI tl), .int mm_token, .int mm_value, .ref mm_next, .int (nI tk)])), (mm_now, .inl (cy 1, 122, .inl mm_now_f))] s.heap := hP
  have hl := lv_entry ([.ref mm, .long px, .int (nI pf), .int (nI pn)]) (n := 8) (Nat.le_of_ble_eq_true rfl)
  rw [lg_entry_eq]
  generalize (lg_sl ([.ref mm, .long px, .int (nI pf), .int (nI pn)]) ++ List.replicate (8 - (lg_sl ([.ref mm, .long px, .int (nI pf), .int (nI pn)])).length) Slot.unset).toArray = ls at hl ⊢
  have hl : lv_has ls 8 [(0, .ref mm), (1, .long px), (3, .int (nI pf)), (4, .int (nI pn))] := hl
  refine qW (fun QF hQF => ?_)
  have z0_ := hts (.constantLong RX11 277 31) (by decide +kernel)
  have z1_ := hts (.fieldLink RX11 7 "HeardSeenModel" "now" "[I") (by decide +kernel)
  have zi11_ : ∀ w ∈ u_ws RX11 TX11 19, w ∈ wsX11_sums := by decide +kernel
  obtain ⟨hW2, hW6, hH2, hH6, hSe, hS4, hS6, hP5⟩ := hF.rng
  refine lv_lload_n hx hb dX11_sums_0 rfl (lv_at hl 1 rfl) ?_
  refine lv_lstore (lv' := [(5, .long px), (0, .ref mm), (1, .long px), (3, .int (nI pf)), (4, .int (nI pn))]) hx hb dX11_sums_1 hl (by decide) rfl (fun ls hl => ?_)
  refine lv_iconst (v := 0) hx hb dX11_sums_3 (by decide) ?_
  refine lv_istore (lv' := [(7, .int 0), (5, .long px), (0, .ref mm), (1, .long px), (3, .int (nI pf)), (4, .int (nI pn))]) hx hb dX11_sums_4 hl (by decide) rfl (fun ls hl => ?_)
  have lp6 : ∀ (n6 : Nat) (v7_6 : Nat) (v5_6 : Int64) (hv7_6 : v7_6 < 2147483648), 2147483648 - v7_6 < n6 → ∀ (H : Heap) (locs : List Loc), va_P D vwCl [(mm, .inr (11, [.ref mm_now, .ref mm_kept, .ref mm_isKept, .ref mm_refused, .int mm_lineFrom, .int mm_lineTo, .ref mm_stands, .ref mm_far, .ref mm_queue, .int mm_queued, .ref mm_meets, .ref mm_bytes, .int (nI bl), .int (nI ta), .int (nI tl), .int mm_token, .int mm_value, .ref mm_next, .int (nI tk)])), (mm_now, .inl (cy 1, 122, .inl mm_now_f))] H → va_D (fun _ => True) [(mm, .inr (11, [.ref mm_now, .ref mm_kept, .ref mm_isKept, .ref mm_refused, .int mm_lineFrom, .int mm_lineTo, .ref mm_stands, .ref mm_far, .ref mm_queue, .int mm_queued, .ref mm_meets, .ref mm_bytes, .int (nI bl), .int (nI ta), .int (nI tl), .int mm_token, .int mm_value, .ref mm_next, .int (nI tk)])), (mm_now, .inl (cy 1, 122, .inl mm_now_f))] → va_S A s.heap H locs → ∀ ls : Array Slot, lv_has ls 8 [(7, .int (nI v7_6)), (5, .long v5_6), (0, .ref mm), (1, .long px), (3, .int (nI pf)), (4, .int (nI pn))] → W p l e (headSpec wsX11_sums ({ frames := 0, cells := 0, slots := 0, locals := 0 })).room s m [.ref mm, .long px, .int (nI pf), .int (nI pn)].toArray below meth c H locs 0 0 QF (F0 m 6 ls []) := by
    intro n6
    induction n6 with
    | zero => intro v7_6 v5_6 hv7_6 hm; exact absurd hm (Nat.not_lt_zero _)
    | succ n6 ih6 =>
      intro v7_6 v5_6 hv7_6 hm6 H locs hP hD hS ls hl
      refine lv_iload hx hb dX11_sums_6 (lv_at hl 0 rfl) ?_
      refine lv_iload hx hb dX11_sums_8 (lv_at hl 5 rfl) ?_
      refine lv_icmp_ge (tgt := 38) hx hb dX11_sums_10 (by decide) (fun c1 => ?_) (fun c1 => ?_)
      · skip
        refine lv_lload hx hb dX11_sums_38 (lv_at hl 1 rfl) ?_
        subst hQF
        exact W.lret (v := v5_6) hx hb hr (fun t ht hW => ⟨⟨v5_6, (), rfl, trivial, trivial⟩, hS.F ht⟩) hS.2.2 dX11_sums_40
      · skip
        have hk10 := ltM (n := pn) (k := v7_6) (by omega) (by assumption) (by assumption)
        refine lv_ldc2 hx hb hown z0_ dX11_sums_13 ?_
        refine lv_lload hx hb dX11_sums_16 (lv_at hl 1 rfl) ?_
        refine lv_lmul hx hb dX11_sums_18 ?_
        refine lv_aload_n hx hb dX11_sums_19 rfl (lv_at hl 2 rfl) ?_
        refine va_get (D := D) (ci := 11) (v := .ref mm_now) (C := RX11) (T := TX11) (N := 19) hx hb hts zi11_ hown hK hP 0 rfl rfl 0 (by decide) z1_ (fun _ h9 => h9) rfl dX11_sums_20 ?_
        refine lv_iload_n hx hb dX11_sums_23 rfl (lv_at hl 4 rfl) ?_
        refine lv_iload hx hb dX11_sums_24 (lv_at hl 0 rfl) ?_
        refine lv_iadd hx hb dX11_sums_26 ?_
        refine lv_topi (fun x2 ex2 => ?_)
        obtain rfl : x2 = nI (pf + v7_6) := by rw [ex2]; exact nI_add _ _
        refine my_iald hx hb hK hP 1 1 rfl rfl (by first | exact in_ge (N := 122) (by decide) (by omega) (by assumption) | exact vp_in_nI (by omega) (by omega)) (nI_clamp (by omega)) dX11_sums_27 ?_
        refine lv_i2l hx hb dX11_sums_28 rfl ?_
        refine lv_ladd hx hb dX11_sums_29 ?_
        refine lv_topl (fun x3 ex3 => ?_)
        refine lv_lstore (lv' := [(5, .long x3), (7, .int (nI v7_6)), (0, .ref mm), (1, .long px), (3, .int (nI pf)), (4, .int (nI pn))]) hx hb dX11_sums_30 hl (by decide) rfl (fun ls hl => ?_)
        refine lv_iinc (v := nI (v7_6 + 1)) (lv' := [(7, .int (nI (v7_6 + 1))), (5, .long x3), (0, .ref mm), (1, .long px), (3, .int (nI pf)), (4, .int (nI pn))]) hx hb dX11_sums_32 hl (k := 1) rfl (nI_1 _) (by decide) rfl (fun ls hl => ?_)
        refine lv_goto (tgt := 6) hx hb dX11_sums_35 (by decide) ?_
        exact ih6 (v7_6 + 1) x3 (by first | omega | exact nlt_max hv7_6 (by assumption)) (by first | omega | (have := nlt_max hv7_6 (by assumption); omega)) _ _ hP hD hS ls hl
  exact lp6 (2147483648 - 0 + 1) 0 px (by first | omega | exact nlt_max (by assumption) (by assumption)) (Nat.lt_succ_self _) _ _ hP hD hS ls hl

set_option maxHeartbeats 4000000 in
set_option maxRecDepth 100000 in
theorem n_X11_counted (l : Launch) (D : va_G) (cy : Nat → ClassId) (mW : Nat) (mH : Nat) (mS : Nat) (mP : Nat) (mm : Nat) (mm_now : Nat) (mm_kept : Nat) (mm_isKept : Nat) (mm_refused : Nat) (mm_lineFrom : Int32) (mm_lineTo : Int32) (mm_stands : Nat) (mm_far : Nat) (mm_queue : Nat) (mm_queued : Int32) (mm_meets : Nat) (mm_bytes : Nat) (bl : Nat) (ta : Nat) (tl : Nat) (mm_token : Int32) (mm_value : Int32) (mm_next : Nat) (tk : Nat) (mm_now_f : Nat → Int32) (px : Int32) (sz : Nat) (hF : mV mm_now_f mW mH mS mP) : Met l yX11_counted wsX11_counted ({ frames := 2, cells := 0, slots := 0, locals := 43 }) (va_Pc [.ref mm, .int px] (kPre D cy [(mm, .inr (11, [.ref mm_now, .ref mm_kept, .ref mm_isKept, .ref mm_refused, .int mm_lineFrom, .int mm_lineTo, .ref mm_stands, .ref mm_far, .ref mm_queue, .int mm_queued, .ref mm_meets, .ref mm_bytes, .int (nI bl), .int (nI ta), .int (nI tl), .int mm_token, .int mm_value, .ref mm_next, .int (nI tk)])), (mm_now, .inl (cy 1, 122, .inl mm_now_f))] sz)) (va_Qi (fun (r : Int32) (u : Unit) => True) (fun _ _ => True) (fun q : Nat => sz ≤ q)) 0 0 (fun q : Nat => sz ≤ q) := by
  refine Met.ofW (cc := cX11_counted) (maxL := 2) (ret := (some .int)) (by decide) rfl ?_
  intro p e s m args below meth c s₁ B hml hv
  obtain ⟨rfl, hsz, hP, hKA, hD0⟩ := hv
  have hx := B.exec
  have hb := B.bytes
  have hr := B.returns
  have hts := atoms_spec (ws := wsX11_counted) B.pre
  have hown : s.vm.findClass RX11 = some m.cls := findClass_of_methodNamed B.named
  have hlocks := B.notSynchronized
  subst hsz
  have hK := hKA.1
  have hD := hD0
  generalize hAe : (fun q : Nat => s.heap.size ≤ q) = A
  have hA : ∀ q : Nat, s.heap.size ≤ q → A q := fun q h => by rw [← hAe]; exact h
  have hS : va_S A s.heap s.heap [] := va_S.rf
  have hP : va_P D vwCl [(mm, .inr (11, [.ref mm_now, .ref mm_kept, .ref mm_isKept, .ref mm_refused, .int mm_lineFrom, .int mm_lineTo, .ref mm_stands, .ref mm_far, .ref mm_queue, .int mm_queued, .ref mm_meets, .ref mm_bytes, .int (nI bl), .int (nI ta), .int (nI tl), .int mm_token, .int mm_value, .ref mm_next, .int (nI tk)])), (mm_now, .inl (cy 1, 122, .inl mm_now_f))] s.heap := hP
  have hl := lv_entry ([.ref mm, .int px]) (n := 2) (Nat.le_of_ble_eq_true rfl)
  rw [lg_entry_eq]
  generalize (lg_sl ([.ref mm, .int px]) ++ List.replicate (2 - (lg_sl ([.ref mm, .int px])).length) Slot.unset).toArray = ls at hl ⊢
  have hl : lv_has ls 2 [(0, .ref mm), (1, .int px)] := hl
  refine qW (fun QF hQF => ?_)
  have z0_ := hts (.fieldLink RX11 7 "HeardSeenModel" "now" "[I") (by decide +kernel)
  have zi11_ : ∀ w ∈ u_ws RX11 TX11 19, w ∈ wsX11_counted := by decide +kernel
  have z2_ := hts (.fieldLink RX11 196 "HeardSeenModel" "bytesLong" "I") (by decide +kernel)
  obtain ⟨hW2, hW6, hH2, hH6, hSe, hS4, hS6, hP5⟩ := hF.rng
  refine lv_iload_n hx hb dX11_counted_0 rfl (lv_at hl 1 rfl) ?_
  by_cases c1 : px = 0
  · skip
    refine lv_tableIn (tgt := 40) hx hb dX11_counted_1 (by rw [c1]; decide) (by rw [c1]; decide) (by rw [c1]; rfl) (by decide) ?_
    refine lv_aload_n hx hb dX11_counted_40 rfl (lv_at hl 0 rfl) ?_
    refine rd_i (va_runV (As := []) (rest := []) ⟨hx, hb, hml, hown, hts⟩ (n_X11_people l D cy mW mH mS mP mm mm_now mm_kept mm_isKept mm_refused mm_lineFrom mm_lineTo mm_stands mm_far mm_queue mm_queued mm_meets mm_bytes bl ta tl mm_token mm_value mm_next tk mm_now_f _ (by first | assumption | omega)) (cwV 0 hts gX11_counted_X11_people rfl rfl rfl (by decide +kernel) ⟨Nat.le_of_ble_eq_true rfl, Nat.le_of_ble_eq_true rfl⟩) (pV (ci := 11) (k := 0) hKA (hP.sub (ws' := [(mm, .inr (11, [.ref mm_now, .ref mm_kept, .ref mm_isKept, .ref mm_refused, .int mm_lineFrom, .int mm_lineTo, .ref mm_stands, .ref mm_far, .ref mm_queue, .int mm_queued, .ref mm_meets, .ref mm_bytes, .int (nI bl), .int (nI ta), .int (nI tl), .int mm_token, .int mm_value, .ref mm_next, .int (nI tk)])), (mm_now, .inl (cy 1, 122, .inl mm_now_f))]) [0, 1] rfl) (hD.sub (ws' := [(mm, .inr (11, [.ref mm_now, .ref mm_kept, .ref mm_isKept, .ref mm_refused, .int mm_lineFrom, .int mm_lineTo, .ref mm_stands, .ref mm_far, .ref mm_queue, .int mm_queued, .ref mm_meets, .ref mm_bytes, .int (nI bl), .int (nI ta), .int (nI tl), .int mm_token, .int mm_value, .ref mm_next, .int (nI tk)])), (mm_now, .inl (cy 1, 122, .inl mm_now_f))]) [0, 1] (by decide) rfl) rfl rfl) rfl rfl hl.1 rfl (lv_room (Nat.le_of_ble_eq_true rfl)) dX11_counted_41 ⟨Nat.le_of_ble_eq_true rfl, Nat.le_of_ble_eq_true rfl⟩) hP hS hA (fun r2 H locs hwr2 hP hS => ?_)
    have hwr2 : r2 = nI mP := hwr2
    subst hwr2
    subst hQF
    exact W.iret (v := nI mP) hx hb hr (fun t ht hW => ⟨⟨nI mP, (), rfl, trivial, trivial⟩, hS.F ht⟩) hS.2.2 dX11_counted_44
  by_cases c3 : px = 1
  · skip
    refine lv_tableIn (tgt := 45) hx hb dX11_counted_1 (by rw [c3]; decide) (by rw [c3]; decide) (by rw [c3]; rfl) (by decide) ?_
    refine lv_aload_n hx hb dX11_counted_45 rfl (lv_at hl 0 rfl) ?_
    refine lv_bipush (v := 20) hx hb dX11_counted_46 (by decide) ?_
    refine rd_i (va_runV (As := [.int 20]) (rest := []) ⟨hx, hb, hml, hown, hts⟩ (n_X11_manyOf l D cy mW mH mS mP mm mm_now mm_kept mm_isKept mm_refused mm_lineFrom mm_lineTo mm_stands mm_far mm_queue mm_queued mm_meets mm_bytes bl ta tl mm_token mm_value mm_next tk mm_now_f 20 _ (by first | assumption | omega) (by first | assumption | omega)) (cwV 1 hts gX11_counted_X11_manyOf rfl rfl rfl (by decide +kernel) ⟨Nat.le_of_ble_eq_true rfl, Nat.le_of_ble_eq_true rfl⟩) (pV (ci := 11) (k := 0) hKA (hP.sub (ws' := [(mm, .inr (11, [.ref mm_now, .ref mm_kept, .ref mm_isKept, .ref mm_refused, .int mm_lineFrom, .int mm_lineTo, .ref mm_stands, .ref mm_far, .ref mm_queue, .int mm_queued, .ref mm_meets, .ref mm_bytes, .int (nI bl), .int (nI ta), .int (nI tl), .int mm_token, .int mm_value, .ref mm_next, .int (nI tk)])), (mm_now, .inl (cy 1, 122, .inl mm_now_f))]) [0, 1] rfl) (hD.sub (ws' := [(mm, .inr (11, [.ref mm_now, .ref mm_kept, .ref mm_isKept, .ref mm_refused, .int mm_lineFrom, .int mm_lineTo, .ref mm_stands, .ref mm_far, .ref mm_queue, .int mm_queued, .ref mm_meets, .ref mm_bytes, .int (nI bl), .int (nI ta), .int (nI tl), .int mm_token, .int mm_value, .ref mm_next, .int (nI tk)])), (mm_now, .inl (cy 1, 122, .inl mm_now_f))]) [0, 1] (by decide) rfl) rfl rfl) rfl rfl hl.1 rfl (lv_room (Nat.le_of_ble_eq_true rfl)) dX11_counted_48 ⟨Nat.le_of_ble_eq_true rfl, Nat.le_of_ble_eq_true rfl⟩) hP hS hA (fun r4 H locs hwr4 hP hS => ?_)
    subst hQF
    exact W.iret (v := r4) hx hb hr (fun t ht hW => ⟨⟨r4, (), rfl, trivial, trivial⟩, hS.F ht⟩) hS.2.2 dX11_counted_51
  by_cases c5 : px = 2
  · skip
    refine lv_tableIn (tgt := 52) hx hb dX11_counted_1 (by rw [c5]; decide) (by rw [c5]; decide) (by rw [c5]; rfl) (by decide) ?_
    refine lv_aload_n hx hb dX11_counted_52 rfl (lv_at hl 0 rfl) ?_
    refine lv_bipush (v := 56) hx hb dX11_counted_53 (by decide) ?_
    refine rd_i (va_runV (As := [.int 56]) (rest := []) ⟨hx, hb, hml, hown, hts⟩ (n_X11_manyOf l D cy mW mH mS mP mm mm_now mm_kept mm_isKept mm_refused mm_lineFrom mm_lineTo mm_stands mm_far mm_queue mm_queued mm_meets mm_bytes bl ta tl mm_token mm_value mm_next tk mm_now_f 56 _ (by first | assumption | omega) (by first | assumption | omega)) (cwV 1 hts gX11_counted_X11_manyOf rfl rfl rfl (by decide +kernel) ⟨Nat.le_of_ble_eq_true rfl, Nat.le_of_ble_eq_true rfl⟩) (pV (ci := 11) (k := 0) hKA (hP.sub (ws' := [(mm, .inr (11, [.ref mm_now, .ref mm_kept, .ref mm_isKept, .ref mm_refused, .int mm_lineFrom, .int mm_lineTo, .ref mm_stands, .ref mm_far, .ref mm_queue, .int mm_queued, .ref mm_meets, .ref mm_bytes, .int (nI bl), .int (nI ta), .int (nI tl), .int mm_token, .int mm_value, .ref mm_next, .int (nI tk)])), (mm_now, .inl (cy 1, 122, .inl mm_now_f))]) [0, 1] rfl) (hD.sub (ws' := [(mm, .inr (11, [.ref mm_now, .ref mm_kept, .ref mm_isKept, .ref mm_refused, .int mm_lineFrom, .int mm_lineTo, .ref mm_stands, .ref mm_far, .ref mm_queue, .int mm_queued, .ref mm_meets, .ref mm_bytes, .int (nI bl), .int (nI ta), .int (nI tl), .int mm_token, .int mm_value, .ref mm_next, .int (nI tk)])), (mm_now, .inl (cy 1, 122, .inl mm_now_f))]) [0, 1] (by decide) rfl) rfl rfl) rfl rfl hl.1 rfl (lv_room (Nat.le_of_ble_eq_true rfl)) dX11_counted_55 ⟨Nat.le_of_ble_eq_true rfl, Nat.le_of_ble_eq_true rfl⟩) hP hS hA (fun r6 H locs hwr6 hP hS => ?_)
    subst hQF
    exact W.iret (v := r6) hx hb hr (fun t ht hW => ⟨⟨r6, (), rfl, trivial, trivial⟩, hS.F ht⟩) hS.2.2 dX11_counted_58
  by_cases c7 : px = 3
  · skip
    refine lv_tableIn (tgt := 59) hx hb dX11_counted_1 (by rw [c7]; decide) (by rw [c7]; decide) (by rw [c7]; rfl) (by decide) ?_
    refine lv_aload_n hx hb dX11_counted_59 rfl (lv_at hl 0 rfl) ?_
    refine va_get (D := D) (ci := 11) (v := .ref mm_now) (C := RX11) (T := TX11) (N := 19) hx hb hts zi11_ hown hK hP 0 rfl rfl 0 (by decide) z0_ (fun _ h9 => h9) rfl dX11_counted_60 ?_
    refine lv_bipush (v := 92) hx hb dX11_counted_63 (by decide) ?_
    refine my_iald hx hb hK hP 1 1 rfl rfl (by rw [vp_in_iff]; decide +kernel) (k := 92) (by decide +kernel) dX11_counted_65 ?_
    refine lv_topi (fun x8 ex8 => ?_)
    subst hQF
    exact W.iret (v := x8) hx hb hr (fun t ht hW => ⟨⟨x8, (), rfl, trivial, trivial⟩, hS.F ht⟩) hS.2.2 dX11_counted_66
  by_cases c9 : px = 4
  · skip
    refine lv_tableIn (tgt := 67) hx hb dX11_counted_1 (by rw [c9]; decide) (by rw [c9]; decide) (by rw [c9]; rfl) (by decide) ?_
    refine lv_aload_n hx hb dX11_counted_67 rfl (lv_at hl 0 rfl) ?_
    refine va_get (D := D) (ci := 11) (v := .ref mm_now) (C := RX11) (T := TX11) (N := 19) hx hb hts zi11_ hown hK hP 0 rfl rfl 0 (by decide) z0_ (fun _ h9 => h9) rfl dX11_counted_68 ?_
    refine lv_bipush (v := 105) hx hb dX11_counted_71 (by decide) ?_
    refine my_iald hx hb hK hP 1 1 rfl rfl (by rw [vp_in_iff]; decide +kernel) (k := 105) (by decide +kernel) dX11_counted_73 ?_
    refine lv_topi (fun x10 ex10 => ?_)
    subst hQF
    exact W.iret (v := x10) hx hb hr (fun t ht hW => ⟨⟨x10, (), rfl, trivial, trivial⟩, hS.F ht⟩) hS.2.2 dX11_counted_74
  by_cases c11 : px = 5
  · skip
    refine lv_tableIn (tgt := 75) hx hb dX11_counted_1 (by rw [c11]; decide) (by rw [c11]; decide) (by rw [c11]; rfl) (by decide) ?_
    refine lv_aload_n hx hb dX11_counted_75 rfl (lv_at hl 0 rfl) ?_
    refine va_get (D := D) (ci := 11) (v := .int (nI bl)) (C := RX11) (T := TX11) (N := 19) hx hb hts zi11_ hown hK hP 0 rfl rfl 12 (by decide) z2_ (fun _ h9 => h9) rfl dX11_counted_76 ?_
    subst hQF
    exact W.iret (v := nI bl) hx hb hr (fun t ht hW => ⟨⟨nI bl, (), rfl, trivial, trivial⟩, hS.F ht⟩) hS.2.2 dX11_counted_79
  refine lv_tableOut (tgt := 80) hx hb dX11_counted_1 (by have q0 : ¬ px.toInt = 0 := fun h2 => absurd (Int32.toInt_inj.mp (h2.trans (by decide : (0 : Int) = (0 : Int32).toInt))) (by assumption); have q1 : ¬ px.toInt = 1 := fun h2 => absurd (Int32.toInt_inj.mp (h2.trans (by decide : (1 : Int) = (1 : Int32).toInt))) (by assumption); have q2 : ¬ px.toInt = 2 := fun h2 => absurd (Int32.toInt_inj.mp (h2.trans (by decide : (2 : Int) = (2 : Int32).toInt))) (by assumption); have q3 : ¬ px.toInt = 3 := fun h2 => absurd (Int32.toInt_inj.mp (h2.trans (by decide : (3 : Int) = (3 : Int32).toInt))) (by assumption); have q4 : ¬ px.toInt = 4 := fun h2 => absurd (Int32.toInt_inj.mp (h2.trans (by decide : (4 : Int) = (4 : Int32).toInt))) (by assumption); have q5 : ¬ px.toInt = 5 := fun h2 => absurd (Int32.toInt_inj.mp (h2.trans (by decide : (5 : Int) = (5 : Int32).toInt))) (by assumption); omega) (by decide) ?_
  refine lv_aload_n hx hb dX11_counted_80 rfl (lv_at hl 0 rfl) ?_
  refine rd_i (va_runV (As := []) (rest := []) ⟨hx, hb, hml, hown, hts⟩ (n_X11_squares l D cy mW mH mS mP mm mm_now mm_kept mm_isKept mm_refused mm_lineFrom mm_lineTo mm_stands mm_far mm_queue mm_queued mm_meets mm_bytes bl ta tl mm_token mm_value mm_next tk mm_now_f _ (by first | assumption | omega)) (cwV 0 hts gX11_counted_X11_squares rfl rfl rfl (by decide +kernel) ⟨Nat.le_of_ble_eq_true rfl, Nat.le_of_ble_eq_true rfl⟩) (pV (ci := 11) (k := 0) hKA (hP.sub (ws' := [(mm, .inr (11, [.ref mm_now, .ref mm_kept, .ref mm_isKept, .ref mm_refused, .int mm_lineFrom, .int mm_lineTo, .ref mm_stands, .ref mm_far, .ref mm_queue, .int mm_queued, .ref mm_meets, .ref mm_bytes, .int (nI bl), .int (nI ta), .int (nI tl), .int mm_token, .int mm_value, .ref mm_next, .int (nI tk)])), (mm_now, .inl (cy 1, 122, .inl mm_now_f))]) [0, 1] rfl) (hD.sub (ws' := [(mm, .inr (11, [.ref mm_now, .ref mm_kept, .ref mm_isKept, .ref mm_refused, .int mm_lineFrom, .int mm_lineTo, .ref mm_stands, .ref mm_far, .ref mm_queue, .int mm_queued, .ref mm_meets, .ref mm_bytes, .int (nI bl), .int (nI ta), .int (nI tl), .int mm_token, .int mm_value, .ref mm_next, .int (nI tk)])), (mm_now, .inl (cy 1, 122, .inl mm_now_f))]) [0, 1] (by decide) rfl) rfl rfl) rfl rfl hl.1 rfl (lv_room (Nat.le_of_ble_eq_true rfl)) dX11_counted_81 ⟨Nat.le_of_ble_eq_true rfl, Nat.le_of_ble_eq_true rfl⟩) hP hS hA (fun r12 H locs hwr12 hP hS => ?_)
  have hwr12 : r12 = nI mS := hwr12
  subst hwr12
  subst hQF
  exact W.iret (v := nI mS) hx hb hr (fun t ht hW => ⟨⟨nI mS, (), rfl, trivial, trivial⟩, hS.F ht⟩) hS.2.2 dX11_counted_84
