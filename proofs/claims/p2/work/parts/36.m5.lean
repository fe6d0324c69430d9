theorem dX11_place_0 : decode cX11_place 0 = .ok (.aload_n 0, 1) := by decide +kernel
theorem dX11_place_1 : decode cX11_place 1 = .ok (.iload_n 1, 1) := by decide +kernel
set_option maxRecDepth 20000 in
theorem ggX11_place_X11_isOne : GoodIn wsX11_place wsX11_isOne := goodIn_r _ [5, 6, 7, 8, 4, 9, 10, 11, 12, 13, 105, 106, 107, 108, 109, 110, 111, 112, 113, 114, 115, 116, 117, 118, 119, 120, 121, 122, 123] (by decide +kernel) (by decide +kernel)
set_option maxRecDepth 20000 in
theorem gX11_place_X11_isOne : GoodIn wsX11_place (wsV RX11 94 RX11 yX11_isOne wsX11_isOne) := goodIn_app (goodIn_of _ (by decide +kernel)) ggX11_place_X11_isOne
theorem dX11_place_2 : decode cX11_place 2 = .ok (.invokevirtual 94, 3) := by decide +kernel
theorem dX11_place_5 : decode cX11_place 5 = .ok (.ifCond .eq 11, 3) := by decide +kernel
theorem dX11_place_16 : decode cX11_place 16 = .ok (.aload_n 0, 1) := by decide +kernel
theorem dX11_place_17 : decode cX11_place 17 = .ok (.bipush (-2), 2) := by decide +kernel
set_option maxRecDepth 20000 in
theorem ggX11_place_X11_bad : GoodIn wsX11_place wsX11_bad := goodIn_r _ [21, 22, 105, 106, 107, 108, 109, 110, 111, 112, 113, 114, 115, 116, 117, 118, 119, 120, 121, 122, 123] (by decide +kernel) (by decide +kernel)
set_option maxRecDepth 20000 in
theorem gX11_place_X11_bad : GoodIn wsX11_place (wsV RX11 60 RX11 yX11_bad wsX11_bad) := goodIn_app (goodIn_of _ (by decide +kernel)) ggX11_place_X11_bad
theorem dX11_place_19 : decode cX11_place 19 = .ok (.invokevirtual 60, 3) := by decide +kernel
theorem dX11_place_22 : decode cX11_place 22 = .ok (.ireturn, 1) := by decide +kernel
theorem dX11_place_8 : decode cX11_place 8 = .ok (.aload_n 0, 1) := by decide +kernel
theorem dX11_place_9 : decode cX11_place 9 = .ok (.iload_n 2, 1) := by decide +kernel
set_option maxRecDepth 20000 in
theorem ggX11_place_X11_isSet : GoodIn wsX11_place wsX11_isSet := goodIn_r _ [17, 6, 7, 8, 4, 9, 10, 11, 12, 13, 105, 106, 107, 108, 109, 110, 111, 112, 113, 114, 115, 116, 117, 118, 119, 120, 121, 122, 123] (by decide +kernel) (by decide +kernel)
set_option maxRecDepth 20000 in
theorem gX11_place_X11_isSet : GoodIn wsX11_place (wsV RX11 160 RX11 yX11_isSet wsX11_isSet) := goodIn_app (goodIn_of _ (by decide +kernel)) ggX11_place_X11_isSet
theorem dX11_place_10 : decode cX11_place 10 = .ok (.invokevirtual 160, 3) := by decide +kernel
theorem dX11_place_13 : decode cX11_place 13 = .ok (.ifCond .ne 10, 3) := by decide +kernel
theorem dX11_place_23 : decode cX11_place 23 = .ok (.aload_n 0, 1) := by decide +kernel
theorem dX11_place_24 : decode cX11_place 24 = .ok (.iload_n 1, 1) := by decide +kernel
theorem dX11_place_25 : decode cX11_place 25 = .ok (.iconst 1, 1) := by decide +kernel
set_option maxRecDepth 20000 in
theorem ggX11_place_X11_of : GoodIn wsX11_place wsX11_of := goodIn_r _ [26, 10, 105, 106, 107, 108, 109, 110, 111, 112, 113, 114, 115, 116, 117, 118, 119, 120, 121, 122, 123] (by decide +kernel) (by decide +kernel)
set_option maxRecDepth 20000 in
theorem gX11_place_X11_of : GoodIn wsX11_place (wsV RX11 97 RX11 yX11_of wsX11_of) := goodIn_app (goodIn_of _ (by decide +kernel)) ggX11_place_X11_of
theorem dX11_place_26 : decode cX11_place 26 = .ok (.invokevirtual 97, 3) := by decide +kernel
theorem dX11_place_29 : decode cX11_place 29 = .ok (.istore_n 3, 1) := by decide +kernel
theorem dX11_place_30 : decode cX11_place 30 = .ok (.iconst (-1), 1) := by decide +kernel
theorem dX11_place_31 : decode cX11_place 31 = .ok (.istore 4, 2) := by decide +kernel
theorem dX11_place_33 : decode cX11_place 33 = .ok (.iconst 0, 1) := by decide +kernel
theorem dX11_place_34 : decode cX11_place 34 = .ok (.istore 5, 2) := by decide +kernel
theorem dX11_place_36 : decode cX11_place 36 = .ok (.iload 5, 2) := by decide +kernel
theorem dX11_place_38 : decode cX11_place 38 = .ok (.aload_n 0, 1) := by decide +kernel
set_option maxRecDepth 20000 in
theorem ggX11_place_X11_squares : GoodIn wsX11_place wsX11_squares := goodIn_r _ [30, 10, 105, 106, 107, 108, 109, 110, 111, 112, 113, 114, 115, 116, 117, 118, 119, 120, 121, 122, 123] (by decide +kernel) (by decide +kernel)
set_option maxRecDepth 20000 in
theorem gX11_place_X11_squares : GoodIn wsX11_place (wsV RX11 45 RX11 yX11_squares wsX11_squares) := goodIn_app (goodIn_of _ (by decide +kernel)) ggX11_place_X11_squares
theorem dX11_place_39 : decode cX11_place 39 = .ok (.invokevirtual 45, 3) := by decide +kernel
theorem dX11_place_90 : decode cX11_place 90 = .ok (.aload_n 0, 1) := by decide +kernel
theorem dX11_place_91 : decode cX11_place 91 = .ok (.iload_n 1, 1) := by decide +kernel
theorem dX11_place_92 : decode cX11_place 92 = .ok (.iload_n 3, 1) := by decide +kernel
set_option maxRecDepth 20000 in
theorem ggX11_place_X11_stand : GoodIn wsX11_place wsX11_stand := goodIn_r _ [41, 10, 105, 106, 107, 108, 109, 110, 111, 112, 113, 114, 115, 116, 117, 118, 119, 120, 121, 122, 123] (by decide +kernel) (by decide +kernel)
set_option maxRecDepth 20000 in
theorem gX11_place_X11_stand : GoodIn wsX11_place (wsV RX11 101 RX11 yX11_stand wsX11_stand) := goodIn_app (goodIn_of _ (by decide +kernel)) ggX11_place_X11_stand
theorem dX11_place_93 : decode cX11_place 93 = .ok (.invokevirtual 101, 3) := by decide +kernel
theorem dX11_place_96 : decode cX11_place 96 = .ok (.iload 4, 2) := by decide +kernel
theorem dX11_place_98 : decode cX11_place 98 = .ok (.ireturn, 1) := by decide +kernel
theorem dX11_place_42 : decode cX11_place 42 = .ok (.if_icmp .ge 48, 3) := by decide +kernel
theorem dX11_place_45 : decode cX11_place 45 = .ok (.iload 4, 2) := by decide +kernel
theorem dX11_place_47 : decode cX11_place 47 = .ok (.iconst (-1), 1) := by decide +kernel
theorem dX11_place_48 : decode cX11_place 48 = .ok (.if_icmp .ne 42, 3) := by decide +kernel
theorem dX11_place_51 : decode cX11_place 51 = .ok (.aload_n 0, 1) := by decide +kernel
theorem dX11_place_52 : decode cX11_place 52 = .ok (.iload 5, 2) := by decide +kernel
theorem dX11_place_54 : decode cX11_place 54 = .ok (.iload_n 1, 1) := by decide +kernel
set_option maxRecDepth 20000 in
theorem ggX11_place_X11_isFree : GoodIn wsX11_place wsX11_isFree := goodIn_r _ [34, 10, 35, 36, 4, 37, 105, 106, 107, 108, 109, 110, 111, 112, 113, 114, 115, 116, 117, 118, 119, 120, 121, 122, 123] (by decide +kernel) (by decide +kernel)
set_option maxRecDepth 20000 in
theorem gX11_place_X11_isFree : GoodIn wsX11_place (wsV RX11 83 RX11 yX11_isFree wsX11_isFree) := goodIn_app (goodIn_of _ (by decide +kernel)) ggX11_place_X11_isFree
theorem dX11_place_55 : decode cX11_place 55 = .ok (.invokevirtual 83, 3) := by decide +kernel
theorem dX11_place_58 : decode cX11_place 58 = .ok (.ifCond .eq 26, 3) := by decide +kernel
theorem dX11_place_84 : decode cX11_place 84 = .ok (.iinc 5 1, 3) := by decide +kernel
theorem dX11_place_87 : decode cX11_place 87 = .ok (.goto (-51), 3) := by decide +kernel
theorem dX11_place_61 : decode cX11_place 61 = .ok (.aload_n 0, 1) := by decide +kernel
theorem dX11_place_62 : decode cX11_place 62 = .ok (.iload_n 1, 1) := by decide +kernel
theorem dX11_place_63 : decode cX11_place 63 = .ok (.iload 5, 2) := by decide +kernel
theorem dX11_place_65 : decode cX11_place 65 = .ok (.invokevirtual 101, 3) := by decide +kernel
theorem dX11_place_68 : decode cX11_place 68 = .ok (.aload_n 0, 1) := by decide +kernel
theorem dX11_place_69 : decode cX11_place 69 = .ok (.iload_n 2, 1) := by decide +kernel
set_option maxRecDepth 20000 in
theorem ggX11_place_X11_isTold : GoodIn wsX11_place wsX11_isTold := goodIn_r _ [45, 10, 46, 47, 48, 4, 49, 6, 7, 8, 9, 50, 51, 52, 53, 23, 24, 25, 26, 54, 55, 56, 57, 58, 59, 60, 61, 62, 63, 64, 65, 66, 67, 68, 69, 27, 28, 29, 30, 70, 71, 72, 73, 74, 75, 76, 77, 78, 79, 80, 81, 82, 83, 84, 85, 86, 87, 88, 89, 90, 91, 92, 93, 94, 95, 96, 97, 98, 99, 100, 101, 102, 103, 104, 105, 106, 107, 108, 109, 110, 111, 112, 113, 114, 115, 116, 117, 118, 119, 120, 121, 122, 123] (by decide +kernel) (by decide +kernel)
set_option maxRecDepth 20000 in
theorem gX11_place_X11_isTold : GoodIn wsX11_place (wsV RX11 166 RX11 yX11_isTold wsX11_isTold) := goodIn_app (goodIn_of _ (by decide +kernel)) ggX11_place_X11_isTold
theorem dX11_place_70 : decode cX11_place 70 = .ok (.invokevirtual 166, 3) := by decide +kernel
theorem dX11_place_73 : decode cX11_place 73 = .ok (.ifCond .eq 8, 3) := by decide +kernel
theorem dX11_place_81 : decode cX11_place 81 = .ok (.iconst (-1), 1) := by decide +kernel
theorem dX11_place_82 : decode cX11_place 82 = .ok (.istore 4, 2) := by decide +kernel
theorem dX11_place_76 : decode cX11_place 76 = .ok (.iload 5, 2) := by decide +kernel
theorem dX11_place_78 : decode cX11_place 78 = .ok (.goto 4, 3) := by decide +kernel
theorem dX11_winds_0 : decode cX11_winds 0 = .ok (.aload_n 0, 1) := by decide +kernel
theorem dX11_winds_1 : decode cX11_winds 1 = .ok (.iload_n 1, 1) := by decide +kernel
set_option maxRecDepth 20000 in
theorem ggX11_winds_X11_isSet : GoodIn wsX11_winds wsX11_isSet := goodIn_r _ [6, 7, 8, 9, 5, 10, 1, 11, 12, 13, 90, 91, 92, 93, 94, 95, 96, 97, 98, 99, 100, 101, 102, 103, 104, 105, 106, 107, 108] (by decide +kernel) (by decide +kernel)
set_option maxRecDepth 20000 in
theorem gX11_winds_X11_isSet : GoodIn wsX11_winds (wsV RX11 160 RX11 yX11_isSet wsX11_isSet) := goodIn_app (goodIn_of _ (by decide +kernel)) ggX11_winds_X11_isSet
theorem dX11_winds_2 : decode cX11_winds 2 = .ok (.invokevirtual 160, 3) := by decide +kernel
theorem dX11_winds_5 : decode cX11_winds 5 = .ok (.ifCond .ne 10, 3) := by decide +kernel
theorem dX11_winds_15 : decode cX11_winds 15 = .ok (.aload_n 0, 1) := by decide +kernel
theorem dX11_winds_16 : decode cX11_winds 16 = .ok (.getfield 7, 3) := by decide +kernel
theorem dX11_winds_19 : decode cX11_winds 19 = .ok (.iconst 3, 1) := by decide +kernel
theorem dX11_winds_20 : decode cX11_winds 20 = .ok (.iaload, 1) := by decide +kernel
theorem dX11_winds_21 : decode cX11_winds 21 = .ok (.istore_n 2, 1) := by decide +kernel
theorem dX11_winds_22 : decode cX11_winds 22 = .ok (.iconst 0, 1) := by decide +kernel
theorem dX11_winds_23 : decode cX11_winds 23 = .ok (.istore_n 3, 1) := by decide +kernel
theorem dX11_winds_24 : decode cX11_winds 24 = .ok (.iconst (-1), 1) := by decide +kernel
theorem dX11_winds_25 : decode cX11_winds 25 = .ok (.istore 4, 2) := by decide +kernel
theorem dX11_winds_27 : decode cX11_winds 27 = .ok (.iload 4, 2) := by decide +kernel
theorem dX11_winds_29 : decode cX11_winds 29 = .ok (.iconst 1, 1) := by decide +kernel
theorem dX11_winds_30 : decode cX11_winds 30 = .ok (.if_icmp .gt 38, 3) := by decide +kernel
theorem dX11_winds_68 : decode cX11_winds 68 = .ok (.aload_n 0, 1) := by decide +kernel
theorem dX11_winds_69 : decode cX11_winds 69 = .ok (.getfield 7, 3) := by decide +kernel
theorem dX11_winds_72 : decode cX11_winds 72 = .ok (.iconst 3, 1) := by decide +kernel
theorem dX11_winds_73 : decode cX11_winds 73 = .ok (.iload_n 2, 1) := by decide +kernel
theorem dX11_winds_74 : decode cX11_winds 74 = .ok (.iastore, 1) := by decide +kernel
theorem dX11_winds_75 : decode cX11_winds 75 = .ok (.iload_n 3, 1) := by decide +kernel
theorem dX11_winds_76 : decode cX11_winds 76 = .ok (.ireturn, 1) := by decide +kernel
theorem dX11_winds_33 : decode cX11_winds 33 = .ok (.aload_n 0, 1) := by decide +kernel
theorem dX11_winds_34 : decode cX11_winds 34 = .ok (.getfield 7, 3) := by decide +kernel
theorem dX11_winds_37 : decode cX11_winds 37 = .ok (.iconst 3, 1) := by decide +kernel
theorem dX11_winds_38 : decode cX11_winds 38 = .ok (.iload 4, 2) := by decide +kernel
theorem dX11_winds_40 : decode cX11_winds 40 = .ok (.iastore, 1) := by decide +kernel
theorem dX11_winds_41 : decode cX11_winds 41 = .ok (.iload_n 3, 1) := by decide +kernel
theorem dX11_winds_42 : decode cX11_winds 42 = .ok (.aload_n 0, 1) := by decide +kernel
theorem dX11_winds_43 : decode cX11_winds 43 = .ok (.iload_n 1, 1) := by decide +kernel
set_option maxRecDepth 20000 in
theorem ggX11_winds_X11_isTold : GoodIn wsX11_winds wsX11_isTold := goodIn_r _ [22, 1, 23, 24, 25, 5, 26, 7, 8, 9, 10, 27, 28, 29, 30, 31, 32, 33, 34, 35, 36, 37, 38, 39, 40, 41, 42, 43, 44, 45, 46, 47, 48, 49, 50, 51, 52, 53, 54, 55, 56, 57, 58, 59, 60, 61, 62, 63, 64, 65, 66, 67, 68, 69, 70, 71, 72, 73, 74, 75, 76, 77, 78, 79, 80, 81, 82, 83, 84, 85, 86, 87, 88, 89, 90, 91, 92, 93, 94, 95, 96, 97, 98, 99, 100, 101, 102, 103, 104, 105, 106, 107, 108] (by decide +kernel) (by decide +kernel)
set_option maxRecDepth 20000 in
theorem gX11_winds_X11_isTold : GoodIn wsX11_winds (wsV RX11 166 RX11 yX11_isTold wsX11_isTold) := goodIn_app (goodIn_of _ (by decide +kernel)) ggX11_winds_X11_isTold
theorem dX11_winds_44 : decode cX11_winds 44 = .ok (.invokevirtual 166, 3) := by decide +kernel
theorem dX11_winds_47 : decode cX11_winds 47 = .ok (.ifCond .eq 12, 3) := by decide +kernel
theorem dX11_winds_59 : decode cX11_winds 59 = .ok (.iconst 0, 1) := by decide +kernel
theorem dX11_winds_60 : decode cX11_winds 60 = .ok (.ior, 1) := by decide +kernel
theorem dX11_winds_61 : decode cX11_winds 61 = .ok (.istore_n 3, 1) := by decide +kernel
theorem dX11_winds_62 : decode cX11_winds 62 = .ok (.iinc 4 1, 3) := by decide +kernel
theorem dX11_winds_65 : decode cX11_winds 65 = .ok (.goto (-38), 3) := by decide +kernel
theorem dX11_winds_50 : decode cX11_winds 50 = .ok (.iconst 1, 1) := by decide +kernel
theorem dX11_winds_51 : decode cX11_winds 51 = .ok (.iload 4, 2) := by decide +kernel
theorem dX11_winds_53 : decode cX11_winds 53 = .ok (.iconst 1, 1) := by decide +kernel
theorem dX11_winds_54 : decode cX11_winds 54 = .ok (.iadd, 1) := by decide +kernel
theorem dX11_winds_55 : decode cX11_winds 55 = .ok (.ishl, 1) := by decide +kernel
theorem dX11_winds_56 : decode cX11_winds 56 = .ok (.goto 4, 3) := by decide +kernel
theorem dX11_winds_8 : decode cX11_winds 8 = .ok (.aload_n 0, 1) := by decide +kernel
theorem dX11_winds_9 : decode cX11_winds 9 = .ok (.bipush (-2), 2) := by decide +kernel
set_option maxRecDepth 20000 in
theorem ggX11_winds_X11_bad : GoodIn wsX11_winds wsX11_bad := goodIn_r _ [17, 18, 90, 91, 92, 93, 94, 95, 96, 97, 98, 99, 100, 101, 102, 103, 104, 105, 106, 107, 108] (by decide +kernel) (by decide +kernel)
set_option maxRecDepth 20000 in
theorem gX11_winds_X11_bad : GoodIn wsX11_winds (wsV RX11 60 RX11 yX11_bad wsX11_bad) := goodIn_app (goodIn_of _ (by decide +kernel)) ggX11_winds_X11_bad
theorem dX11_winds_11 : decode cX11_winds 11 = .ok (.invokevirtual 60, 3) := by decide +kernel
theorem dX11_winds_14 : decode cX11_winds 14 = .ok (.ireturn, 1) := by decide +kernel
theorem dX11_findMay_0 : decode cX11_findMay 0 = .ok (.aload_n 0, 1) := by decide +kernel
theorem dX11_findMay_1 : decode cX11_findMay 1 = .ok (.iload_n 1, 1) := by decide +kernel
theorem dX11_findMay_2 : decode cX11_findMay 2 = .ok (.iconst 1, 1) := by decide +kernel
set_option maxRecDepth 20000 in
theorem ggX11_findMay_X11_of : GoodIn wsX11_findMay wsX11_of := goodIn_r _ [6, 7, 86, 87, 88, 89, 90, 91, 92, 93, 94, 95, 96, 97, 98, 99, 100, 101, 102, 103, 104] (by decide +kernel) (by decide +kernel)
set_option maxRecDepth 20000 in
theorem gX11_findMay_X11_of : GoodIn wsX11_findMay (wsV RX11 97 RX11 yX11_of wsX11_of) := goodIn_app (goodIn_of _ (by decide +kernel)) ggX11_findMay_X11_of
theorem dX11_findMay_3 : decode cX11_findMay 3 = .ok (.invokevirtual 97, 3) := by decide +kernel
theorem dX11_findMay_6 : decode cX11_findMay 6 = .ok (.istore_n 3, 1) := by decide +kernel
theorem dX11_findMay_7 : decode cX11_findMay 7 = .ok (.iconst 0, 1) := by decide +kernel
theorem dX11_findMay_8 : decode cX11_findMay 8 = .ok (.istore 4, 2) := by decide +kernel
theorem dX11_findMay_10 : decode cX11_findMay 10 = .ok (.iload 4, 2) := by decide +kernel
theorem dX11_findMay_12 : decode cX11_findMay 12 = .ok (.aload_n 0, 1) := by decide +kernel
set_option maxRecDepth 20000 in
theorem ggX11_findMay_X11_squares : GoodIn wsX11_findMay wsX11_squares := goodIn_r _ [11, 7, 86, 87, 88, 89, 90, 91, 92, 93, 94, 95, 96, 97, 98, 99, 100, 101, 102, 103, 104] (by decide +kernel) (by decide +kernel)
set_option maxRecDepth 20000 in
theorem gX11_findMay_X11_squares : GoodIn wsX11_findMay (wsV RX11 45 RX11 yX11_squares wsX11_squares) := goodIn_app (goodIn_of _ (by decide +kernel)) ggX11_findMay_X11_squares
theorem dX11_findMay_13 : decode cX11_findMay 13 = .ok (.invokevirtual 45, 3) := by decide +kernel
theorem dX11_findMay_16 : decode cX11_findMay 16 = .ok (.if_icmp .ge 61, 3) := by decide +kernel
theorem dX11_findMay_77 : decode cX11_findMay 77 = .ok (.aload_n 0, 1) := by decide +kernel
theorem dX11_findMay_78 : decode cX11_findMay 78 = .ok (.iload_n 1, 1) := by decide +kernel
theorem dX11_findMay_79 : decode cX11_findMay 79 = .ok (.iload_n 3, 1) := by decide +kernel
set_option maxRecDepth 20000 in
theorem ggX11_findMay_X11_stand : GoodIn wsX11_findMay wsX11_stand := goodIn_r _ [22, 7, 86, 87, 88, 89, 90, 91, 92, 93, 94, 95, 96, 97, 98, 99, 100, 101, 102, 103, 104] (by decide +kernel) (by decide +kernel)
set_option maxRecDepth 20000 in
theorem gX11_findMay_X11_stand : GoodIn wsX11_findMay (wsV RX11 101 RX11 yX11_stand wsX11_stand) := goodIn_app (goodIn_of _ (by decide +kernel)) ggX11_findMay_X11_stand
theorem dX11_findMay_80 : decode cX11_findMay 80 = .ok (.invokevirtual 101, 3) := by decide +kernel
theorem dX11_findMay_83 : decode cX11_findMay 83 = .ok (.return_, 1) := by decide +kernel
theorem dX11_findMay_19 : decode cX11_findMay 19 = .ok (.aload_n 0, 1) := by decide +kernel
theorem dX11_findMay_20 : decode cX11_findMay 20 = .ok (.getfield 23, 3) := by decide +kernel
theorem dX11_findMay_23 : decode cX11_findMay 23 = .ok (.iload 4, 2) := by decide +kernel
theorem dX11_findMay_25 : decode cX11_findMay 25 = .ok (.aload_n 0, 1) := by decide +kernel
theorem dX11_findMay_26 : decode cX11_findMay 26 = .ok (.iload 4, 2) := by decide +kernel
theorem dX11_findMay_28 : decode cX11_findMay 28 = .ok (.iload_n 1, 1) := by decide +kernel
set_option maxRecDepth 20000 in
theorem ggX11_findMay_X11_isFree : GoodIn wsX11_findMay wsX11_isFree := goodIn_r _ [15, 7, 16, 17, 5, 18, 86, 87, 88, 89, 90, 91, 92, 93, 94, 95, 96, 97, 98, 99, 100, 101, 102, 103, 104] (by decide +kernel) (by decide +kernel)
set_option maxRecDepth 20000 in
theorem gX11_findMay_X11_isFree : GoodIn wsX11_findMay (wsV RX11 83 RX11 yX11_isFree wsX11_isFree) := goodIn_app (goodIn_of _ (by decide +kernel)) ggX11_findMay_X11_isFree
theorem dX11_findMay_29 : decode cX11_findMay 29 = .ok (.invokevirtual 83, 3) := by decide +kernel
theorem dX11_findMay_32 : decode cX11_findMay 32 = .ok (.bastore, 1) := by decide +kernel
theorem dX11_findMay_33 : decode cX11_findMay 33 = .ok (.aload_n 0, 1) := by decide +kernel
theorem dX11_findMay_34 : decode cX11_findMay 34 = .ok (.getfield 23, 3) := by decide +kernel
theorem dX11_findMay_37 : decode cX11_findMay 37 = .ok (.iload 4, 2) := by decide +kernel
theorem dX11_findMay_39 : decode cX11_findMay 39 = .ok (.baload, 1) := by decide +kernel
theorem dX11_findMay_40 : decode cX11_findMay 40 = .ok (.ifCond .eq 31, 3) := by decide +kernel
theorem dX11_findMay_71 : decode cX11_findMay 71 = .ok (.iinc 4 1, 3) := by decide +kernel
theorem dX11_findMay_74 : decode cX11_findMay 74 = .ok (.goto (-64), 3) := by decide +kernel
theorem dX11_findMay_43 : decode cX11_findMay 43 = .ok (.aload_n 0, 1) := by decide +kernel
theorem dX11_findMay_44 : decode cX11_findMay 44 = .ok (.iload_n 1, 1) := by decide +kernel
theorem dX11_findMay_45 : decode cX11_findMay 45 = .ok (.iload 4, 2) := by decide +kernel
theorem dX11_findMay_47 : decode cX11_findMay 47 = .ok (.invokevirtual 101, 3) := by decide +kernel
theorem dX11_findMay_50 : decode cX11_findMay 50 = .ok (.aload_n 0, 1) := by decide +kernel
theorem dX11_findMay_51 : decode cX11_findMay 51 = .ok (.getfield 23, 3) := by decide +kernel
theorem dX11_findMay_54 : decode cX11_findMay 54 = .ok (.iload 4, 2) := by decide +kernel
theorem dX11_findMay_56 : decode cX11_findMay 56 = .ok (.aload_n 0, 1) := by decide +kernel
theorem dX11_findMay_57 : decode cX11_findMay 57 = .ok (.iload_n 2, 1) := by decide +kernel
set_option maxRecDepth 20000 in
theorem ggX11_findMay_X11_judged : GoodIn wsX11_findMay wsX11_judged := goodIn_r _ [26, 27, 28, 29, 5, 30, 7, 31, 32, 33, 34, 2, 3, 4, 6, 35, 36, 37, 38, 39, 40, 41, 42, 43, 44, 45, 46, 47, 48, 49, 50, 8, 9, 10, 11, 51, 52, 53, 54, 55, 56, 57, 58, 59, 60, 61, 62, 63, 64, 65, 66, 67, 68, 69, 70, 71, 72, 73, 74, 75, 76, 77, 78, 79, 80, 81, 82, 83, 84, 85, 86, 87, 88, 89, 90, 91, 92, 93, 94, 95, 96, 97, 98, 99, 100, 101, 102, 103, 104] (by decide +kernel) (by decide +kernel)
set_option maxRecDepth 20000 in
theorem gX11_findMay_X11_judged : GoodIn wsX11_findMay (wsV RX11 163 RX11 yX11_judged wsX11_judged) := goodIn_app (goodIn_of _ (by decide +kernel)) ggX11_findMay_X11_judged
theorem dX11_findMay_58 : decode cX11_findMay 58 = .ok (.invokevirtual 163, 3) := by decide +kernel
theorem dX11_findMay_61 : decode cX11_findMay 61 = .ok (.iconst (-1), 1) := by decide +kernel
theorem dX11_findMay_62 : decode cX11_findMay 62 = .ok (.if_icmp .ne 7, 3) := by decide +kernel
theorem dX11_findMay_69 : decode cX11_findMay 69 = .ok (.iconst 0, 1) := by decide +kernel
theorem dX11_findMay_70 : decode cX11_findMay 70 = .ok (.bastore, 1) := by decide +kernel
theorem dX11_findMay_65 : decode cX11_findMay 65 = .ok (.iconst 1, 1) := by decide +kernel
theorem dX11_findMay_66 : decode cX11_findMay 66 = .ok (.goto 4, 3) := by decide +kernel
theorem dX11_best_0 : decode cX11_best 0 = .ok (.iload_n 1, 1) := by decide +kernel
theorem dX11_best_1 : decode cX11_best 1 = .ok (.i2l, 1) := by decide +kernel
theorem dX11_best_2 : decode cX11_best 2 = .ok (.lconst 0, 1) := by decide +kernel
theorem dX11_best_3 : decode cX11_best 3 = .ok (.lconst 1, 1) := by decide +kernel
set_option maxRecDepth 20000 in
theorem ggX11_best_X11_in : GoodIn wsX11_best wsX11_in := goodIn_r _ [5] (by decide +kernel) (by decide +kernel)
set_option maxRecDepth 20000 in
theorem gX11_best_X11_in : GoodIn wsX11_best (va_wsS RX11 49 yX11_in wsX11_in) := goodIn_app (goodIn_of _ (by decide +kernel)) ggX11_best_X11_in
theorem dX11_best_4 : decode cX11_best 4 = .ok (.invokestatic 49, 3) := by decide +kernel
theorem dX11_best_7 : decode cX11_best 7 = .ok (.ifCond .ne 10, 3) := by decide +kernel
theorem dX11_best_17 : decode cX11_best 17 = .ok (.aload_n 0, 1) := by decide +kernel
set_option maxRecDepth 20000 in
theorem ggX11_best_X11_manySpeakers : GoodIn wsX11_best wsX11_manySpeakers := goodIn_r _ [14, 15, 16, 17, 4, 18, 19, 20, 21, 22, 1, 23, 24, 25, 26, 27, 28, 29, 30, 31, 32, 33, 34, 35, 36, 37, 38, 39, 40, 41, 42, 43, 44, 45, 46, 47, 48, 49, 50, 51, 52, 53, 54, 55, 56, 57, 58, 59, 60, 61, 62, 63, 64, 65, 66, 67, 68, 69, 70, 71, 72, 73, 74, 75, 76, 77, 78, 79, 80, 81, 82, 83, 84, 85, 86, 87, 88, 89, 97, 98, 99, 100, 101, 102, 103, 104, 105, 106, 107, 108, 109, 110, 111, 112, 113, 114, 115] (by decide +kernel) (by decide +kernel)
set_option maxRecDepth 20000 in
theorem gX11_best_X11_manySpeakers : GoodIn wsX11_best (wsV RX11 188 RX11 yX11_manySpeakers wsX11_manySpeakers) := goodIn_app (goodIn_of _ (by decide +kernel)) ggX11_best_X11_manySpeakers
theorem dX11_best_18 : decode cX11_best 18 = .ok (.invokevirtual 188, 3) := by decide +kernel
theorem dX11_best_21 : decode cX11_best 21 = .ok (.istore_n 2, 1) := by decide +kernel
theorem dX11_best_22 : decode cX11_best 22 = .ok (.iconst (-1), 1) := by decide +kernel
theorem dX11_best_23 : decode cX11_best 23 = .ok (.istore_n 3, 1) := by decide +kernel
theorem dX11_best_24 : decode cX11_best 24 = .ok (.iload_n 1, 1) := by decide +kernel
theorem dX11_best_25 : decode cX11_best 25 = .ok (.ifCond .ne 8, 3) := by decide +kernel
theorem dX11_best_33 : decode cX11_best 33 = .ok (.bipush 56, 2) := by decide +kernel
theorem dX11_best_35 : decode cX11_best 35 = .ok (.istore 4, 2) := by decide +kernel
theorem dX11_best_37 : decode cX11_best 37 = .ok (.iconst 0, 1) := by decide +kernel
theorem dX11_best_38 : decode cX11_best 38 = .ok (.istore 5, 2) := by decide +kernel
theorem dX11_best_40 : decode cX11_best 40 = .ok (.iload 5, 2) := by decide +kernel
theorem dX11_best_42 : decode cX11_best 42 = .ok (.aload_n 0, 1) := by decide +kernel
set_option maxRecDepth 20000 in
theorem ggX11_best_X11_squares : GoodIn wsX11_best wsX11_squares := goodIn_r _ [50, 1, 97, 98, 99, 100, 101, 102, 103, 104, 105, 106, 107, 108, 109, 110, 111, 112, 113, 114, 115] (by decide +kernel) (by decide +kernel)
set_option maxRecDepth 20000 in
theorem gX11_best_X11_squares : GoodIn wsX11_best (wsV RX11 45 RX11 yX11_squares wsX11_squares) := goodIn_app (goodIn_of _ (by decide +kernel)) ggX11_best_X11_squares
theorem dX11_best_43 : decode cX11_best 43 = .ok (.invokevirtual 45, 3) := by decide +kernel
theorem dX11_best_46 : decode cX11_best 46 = .ok (.if_icmp .ge 86, 3) := by decide +kernel
theorem dX11_best_132 : decode cX11_best 132 = .ok (.iload_n 3, 1) := by decide +kernel
theorem dX11_best_133 : decode cX11_best 133 = .ok (.ireturn, 1) := by decide +kernel
theorem dX11_best_49 : decode cX11_best 49 = .ok (.aload_n 0, 1) := by decide +kernel
theorem dX11_best_50 : decode cX11_best 50 = .ok (.iload 5, 2) := by decide +kernel
theorem dX11_best_52 : decode cX11_best 52 = .ok (.iconst (-1), 1) := by decide +kernel
set_option maxRecDepth 20000 in
theorem ggX11_best_X11_isFree : GoodIn wsX11_best wsX11_isFree := goodIn_r _ [93, 1, 94, 95, 4, 96, 97, 98, 99, 100, 101, 102, 103, 104, 105, 106, 107, 108, 109, 110, 111, 112, 113, 114, 115] (by decide +kernel) (by decide +kernel)
set_option maxRecDepth 20000 in
theorem gX11_best_X11_isFree : GoodIn wsX11_best (wsV RX11 83 RX11 yX11_isFree wsX11_isFree) := goodIn_app (goodIn_of _ (by decide +kernel)) ggX11_best_X11_isFree
theorem dX11_best_53 : decode cX11_best 53 = .ok (.invokevirtual 83, 3) := by decide +kernel
theorem dX11_best_56 : decode cX11_best 56 = .ok (.ifCond .eq 70, 3) := by decide +kernel
theorem dX11_best_126 : decode cX11_best 126 = .ok (.iinc 5 1, 3) := by decide +kernel
theorem dX11_best_129 : decode cX11_best 129 = .ok (.goto (-89), 3) := by decide +kernel
theorem dX11_best_59 : decode cX11_best 59 = .ok (.aload_n 0, 1) := by decide +kernel
theorem dX11_best_60 : decode cX11_best 60 = .ok (.getfield 7, 3) := by decide +kernel
theorem dX11_best_63 : decode cX11_best 63 = .ok (.iload 4, 2) := by decide +kernel
theorem dX11_best_65 : decode cX11_best 65 = .ok (.iload 5, 2) := by decide +kernel
theorem dX11_best_67 : decode cX11_best 67 = .ok (.iadd, 1) := by decide +kernel
theorem dX11_best_68 : decode cX11_best 68 = .ok (.iaload, 1) := by decide +kernel
theorem dX11_best_69 : decode cX11_best 69 = .ok (.ifCond .ne 57, 3) := by decide +kernel
theorem dX11_best_72 : decode cX11_best 72 = .ok (.aload_n 0, 1) := by decide +kernel
theorem dX11_best_73 : decode cX11_best 73 = .ok (.getfield 7, 3) := by decide +kernel
theorem dX11_best_76 : decode cX11_best 76 = .ok (.iload 4, 2) := by decide +kernel
theorem dX11_best_78 : decode cX11_best 78 = .ok (.iload 5, 2) := by decide +kernel
theorem dX11_best_80 : decode cX11_best 80 = .ok (.iadd, 1) := by decide +kernel
theorem dX11_best_81 : decode cX11_best 81 = .ok (.iconst 1, 1) := by decide +kernel
theorem dX11_best_82 : decode cX11_best 82 = .ok (.iastore, 1) := by decide +kernel
theorem dX11_best_83 : decode cX11_best 83 = .ok (.aload_n 0, 1) := by decide +kernel
theorem dX11_best_84 : decode cX11_best 84 = .ok (.invokevirtual 188, 3) := by decide +kernel
theorem dX11_best_87 : decode cX11_best 87 = .ok (.istore 6, 2) := by decide +kernel
theorem dX11_best_89 : decode cX11_best 89 = .ok (.aload_n 0, 1) := by decide +kernel
theorem dX11_best_90 : decode cX11_best 90 = .ok (.getfield 7, 3) := by decide +kernel
theorem dX11_best_93 : decode cX11_best 93 = .ok (.iload 4, 2) := by decide +kernel
theorem dX11_best_95 : decode cX11_best 95 = .ok (.iload 5, 2) := by decide +kernel
theorem dX11_best_97 : decode cX11_best 97 = .ok (.iadd, 1) := by decide +kernel
theorem dX11_best_98 : decode cX11_best 98 = .ok (.iconst 0, 1) := by decide +kernel
theorem dX11_best_99 : decode cX11_best 99 = .ok (.iastore, 1) := by decide +kernel
theorem dX11_best_100 : decode cX11_best 100 = .ok (.iload 6, 2) := by decide +kernel
theorem dX11_best_102 : decode cX11_best 102 = .ok (.iload_n 2, 1) := by decide +kernel
theorem dX11_best_112 : decode cX11_best 112 = .ok (.istore_n 3, 1) := by decide +kernel
theorem dX11_best_113 : decode cX11_best 113 = .ok (.iload 6, 2) := by decide +kernel
theorem dX11_best_115 : decode cX11_best 115 = .ok (.iload_n 2, 1) := by decide +kernel
theorem dX11_best_116 : decode cX11_best 116 = .ok (.if_icmp .le 8, 3) := by decide +kernel
theorem dX11_best_124 : decode cX11_best 124 = .ok (.iload_n 2, 1) := by decide +kernel
theorem dX11_best_125 : decode cX11_best 125 = .ok (.istore_n 2, 1) := by decide +kernel
theorem dX11_best_119 : decode cX11_best 119 = .ok (.iload 6, 2) := by decide +kernel
theorem dX11_best_121 : decode cX11_best 121 = .ok (.goto 4, 3) := by decide +kernel
theorem dX11_best_103 : decode cX11_best 103 = .ok (.if_icmp .le 8, 3) := by decide +kernel
theorem dX11_best_111 : decode cX11_best 111 = .ok (.iload_n 3, 1) := by decide +kernel
theorem dX11_best_106 : decode cX11_best 106 = .ok (.iload 5, 2) := by decide +kernel
theorem dX11_best_108 : decode cX11_best 108 = .ok (.goto 4, 3) := by decide +kernel
theorem dX11_best_28 : decode cX11_best 28 = .ok (.bipush 20, 2) := by decide +kernel
theorem dX11_best_30 : decode cX11_best 30 = .ok (.goto 5, 3) := by decide +kernel
theorem dX11_best_10 : decode cX11_best 10 = .ok (.aload_n 0, 1) := by decide +kernel
theorem dX11_best_11 : decode cX11_best 11 = .ok (.bipush (-2), 2) := by decide +kernel
set_option maxRecDepth 20000 in
theorem ggX11_best_X11_bad : GoodIn wsX11_best wsX11_bad := goodIn_r _ [9, 10, 97, 98, 99, 100, 101, 102, 103, 104, 105, 106, 107, 108, 109, 110, 111, 112, 113, 114, 115] (by decide +kernel) (by decide +kernel)
set_option maxRecDepth 20000 in
theorem gX11_best_X11_bad : GoodIn wsX11_best (wsV RX11 60 RX11 yX11_bad wsX11_bad) := goodIn_app (goodIn_of _ (by decide +kernel)) ggX11_best_X11_bad
theorem dX11_best_13 : decode cX11_best 13 = .ok (.invokevirtual 60, 3) := by decide +kernel
theorem dX11_best_16 : decode cX11_best 16 = .ok (.ireturn, 1) := by decide +kernel
theorem dX11_worth_0 : decode cX11_worth 0 = .ok (.aload_n 0, 1) := by decide +kernel
theorem dX11_worth_1 : decode cX11_worth 1 = .ok (.iload_n 1, 1) := by decide +kernel
set_option maxRecDepth 20000 in
theorem ggX11_worth_X11_isOne : GoodIn wsX11_worth wsX11_isOne := goodIn_r _ [7, 8, 9, 10, 6, 11, 2, 12, 13, 14, 95, 96, 97, 98, 99, 100, 101, 102, 103, 104, 105, 106, 107, 108, 109, 110, 111, 112, 113] (by decide +kernel) (by decide +kernel)
set_option maxRecDepth 20000 in
theorem gX11_worth_X11_isOne : GoodIn wsX11_worth (wsV RX11 94 RX11 yX11_isOne wsX11_isOne) := goodIn_app (goodIn_of _ (by decide +kernel)) ggX11_worth_X11_isOne
theorem dX11_worth_2 : decode cX11_worth 2 = .ok (.invokevirtual 94, 3) := by decide +kernel
theorem dX11_worth_5 : decode cX11_worth 5 = .ok (.ifCond .eq 15, 3) := by decide +kernel
theorem dX11_worth_20 : decode cX11_worth 20 = .ok (.aload_n 0, 1) := by decide +kernel
theorem dX11_worth_21 : decode cX11_worth 21 = .ok (.bipush (-10), 2) := by decide +kernel
set_option maxRecDepth 20000 in
theorem ggX11_worth_X11_bad : GoodIn wsX11_worth wsX11_bad := goodIn_r _ [18, 19, 95, 96, 97, 98, 99, 100, 101, 102, 103, 104, 105, 106, 107, 108, 109, 110, 111, 112, 113] (by decide +kernel) (by decide +kernel)
set_option maxRecDepth 20000 in
theorem gX11_worth_X11_bad : GoodIn wsX11_worth (wsV RX11 60 RX11 yX11_bad wsX11_bad) := goodIn_app (goodIn_of _ (by decide +kernel)) ggX11_worth_X11_bad
theorem dX11_worth_23 : decode cX11_worth 23 = .ok (.invokevirtual 60, 3) := by decide +kernel
theorem dX11_worth_26 : decode cX11_worth 26 = .ok (.ireturn, 1) := by decide +kernel
theorem dX11_worth_8 : decode cX11_worth 8 = .ok (.iload_n 2, 1) := by decide +kernel
theorem dX11_worth_9 : decode cX11_worth 9 = .ok (.i2l, 1) := by decide +kernel
theorem dX11_worth_10 : decode cX11_worth 10 = .ok (.lconst 0, 1) := by decide +kernel
theorem dX11_worth_11 : decode cX11_worth 11 = .ok (.ldc2_w 79, 3) := by decide +kernel
set_option maxRecDepth 20000 in
theorem ggX11_worth_X11_in : GoodIn wsX11_worth wsX11_in := goodIn_r _ [14] (by decide +kernel) (by decide +kernel)
set_option maxRecDepth 20000 in
theorem gX11_worth_X11_in : GoodIn wsX11_worth (va_wsS RX11 49 yX11_in wsX11_in) := goodIn_app (goodIn_of _ (by decide +kernel)) ggX11_worth_X11_in
theorem dX11_worth_14 : decode cX11_worth 14 = .ok (.invokestatic 49, 3) := by decide +kernel
theorem dX11_worth_17 : decode cX11_worth 17 = .ok (.ifCond .ne 10, 3) := by decide +kernel
theorem dX11_worth_27 : decode cX11_worth 27 = .ok (.aload_n 0, 1) := by decide +kernel
set_option maxRecDepth 20000 in
theorem ggX11_worth_X11_manySpeakers : GoodIn wsX11_worth wsX11_manySpeakers := goodIn_r _ [23, 24, 25, 26, 6, 27, 8, 9, 10, 11, 2, 28, 29, 30, 31, 32, 33, 34, 35, 36, 37, 38, 39, 40, 41, 42, 43, 44, 45, 46, 47, 48, 49, 50, 51, 52, 53, 54, 55, 56, 57, 58, 59, 60, 61, 62, 63, 64, 65, 66, 67, 68, 69, 70, 71, 72, 73, 74, 75, 76, 77, 78, 79, 80, 81, 82, 83, 84, 85, 86, 87, 88, 89, 90, 91, 92, 93, 94, 95, 96, 97, 98, 99, 100, 101, 102, 103, 104, 105, 106, 107, 108, 109, 110, 111, 112, 113] (by decide +kernel) (by decide +kernel)
set_option maxRecDepth 20000 in
theorem gX11_worth_X11_manySpeakers : GoodIn wsX11_worth (wsV RX11 188 RX11 yX11_manySpeakers wsX11_manySpeakers) := goodIn_app (goodIn_of _ (by decide +kernel)) ggX11_worth_X11_manySpeakers
theorem dX11_worth_28 : decode cX11_worth 28 = .ok (.invokevirtual 188, 3) := by decide +kernel
theorem dX11_worth_31 : decode cX11_worth 31 = .ok (.istore_n 3, 1) := by decide +kernel
theorem dX11_worth_32 : decode cX11_worth 32 = .ok (.aload_n 0, 1) := by decide +kernel
theorem dX11_worth_33 : decode cX11_worth 33 = .ok (.iload_n 1, 1) := by decide +kernel
theorem dX11_worth_34 : decode cX11_worth 34 = .ok (.iconst 0, 1) := by decide +kernel
set_option maxRecDepth 20000 in
theorem ggX11_worth_X11_of : GoodIn wsX11_worth wsX11_of := goodIn_r _ [35, 2, 95, 96, 97, 98, 99, 100, 101, 102, 103, 104, 105, 106, 107, 108, 109, 110, 111, 112, 113] (by decide +kernel) (by decide +kernel)
set_option maxRecDepth 20000 in
theorem gX11_worth_X11_of : GoodIn wsX11_worth (wsV RX11 97 RX11 yX11_of wsX11_of) := goodIn_app (goodIn_of _ (by decide +kernel)) ggX11_worth_X11_of
theorem dX11_worth_35 : decode cX11_worth 35 = .ok (.invokevirtual 97, 3) := by decide +kernel
theorem dX11_worth_38 : decode cX11_worth 38 = .ok (.istore 4, 2) := by decide +kernel
theorem dX11_worth_40 : decode cX11_worth 40 = .ok (.aload_n 0, 1) := by decide +kernel
theorem dX11_worth_41 : decode cX11_worth 41 = .ok (.getfield 7, 3) := by decide +kernel
theorem dX11_worth_44 : decode cX11_worth 44 = .ok (.iconst 5, 1) := by decide +kernel
theorem dX11_worth_45 : decode cX11_worth 45 = .ok (.iconst 3, 1) := by decide +kernel
theorem dX11_worth_46 : decode cX11_worth 46 = .ok (.iload_n 1, 1) := by decide +kernel
theorem dX11_worth_47 : decode cX11_worth 47 = .ok (.imul, 1) := by decide +kernel
theorem dX11_worth_48 : decode cX11_worth 48 = .ok (.iadd, 1) := by decide +kernel
theorem dX11_worth_49 : decode cX11_worth 49 = .ok (.iconst 0, 1) := by decide +kernel
theorem dX11_worth_50 : decode cX11_worth 50 = .ok (.iadd, 1) := by decide +kernel
theorem dX11_worth_51 : decode cX11_worth 51 = .ok (.iload_n 2, 1) := by decide +kernel
theorem dX11_worth_52 : decode cX11_worth 52 = .ok (.iastore, 1) := by decide +kernel
theorem dX11_worth_53 : decode cX11_worth 53 = .ok (.aload_n 0, 1) := by decide +kernel
theorem dX11_worth_54 : decode cX11_worth 54 = .ok (.invokevirtual 188, 3) := by decide +kernel
theorem dX11_worth_57 : decode cX11_worth 57 = .ok (.istore 5, 2) := by decide +kernel
theorem dX11_worth_59 : decode cX11_worth 59 = .ok (.aload_n 0, 1) := by decide +kernel
theorem dX11_worth_60 : decode cX11_worth 60 = .ok (.getfield 7, 3) := by decide +kernel
theorem dX11_worth_63 : decode cX11_worth 63 = .ok (.iconst 5, 1) := by decide +kernel
theorem dX11_worth_64 : decode cX11_worth 64 = .ok (.iconst 3, 1) := by decide +kernel
theorem dX11_worth_65 : decode cX11_worth 65 = .ok (.iload_n 1, 1) := by decide +kernel
theorem dX11_worth_66 : decode cX11_worth 66 = .ok (.imul, 1) := by decide +kernel
theorem dX11_worth_67 : decode cX11_worth 67 = .ok (.iadd, 1) := by decide +kernel
theorem dX11_worth_68 : decode cX11_worth 68 = .ok (.iconst 0, 1) := by decide +kernel
theorem dX11_worth_69 : decode cX11_worth 69 = .ok (.iadd, 1) := by decide +kernel
theorem dX11_worth_70 : decode cX11_worth 70 = .ok (.iload 4, 2) := by decide +kernel
theorem dX11_worth_72 : decode cX11_worth 72 = .ok (.iastore, 1) := by decide +kernel
theorem dX11_worth_73 : decode cX11_worth 73 = .ok (.iload 5, 2) := by decide +kernel
theorem dX11_worth_75 : decode cX11_worth 75 = .ok (.iload_n 3, 1) := by decide +kernel
theorem dX11_worth_76 : decode cX11_worth 76 = .ok (.isub, 1) := by decide +kernel
theorem dX11_worth_77 : decode cX11_worth 77 = .ok (.ireturn, 1) := by decide +kernel
theorem dX11_spots_0 : decode cX11_spots 0 = .ok (.aload_n 0, 1) := by decide +kernel
theorem dX11_spots_1 : decode cX11_spots 1 = .ok (.iload_n 1, 1) := by decide +kernel
set_option maxRecDepth 20000 in
theorem ggX11_spots_X11_isOne : GoodIn wsX11_spots wsX11_isOne := goodIn_r _ [5, 6, 7, 8, 4, 9, 10, 11, 12, 13, 93, 94, 95, 96, 97, 98, 99, 100, 101, 102, 103, 104, 105, 106, 107, 108, 109, 110, 111] (by decide +kernel) (by decide +kernel)
set_option maxRecDepth 20000 in
theorem gX11_spots_X11_isOne : GoodIn wsX11_spots (wsV RX11 94 RX11 yX11_isOne wsX11_isOne) := goodIn_app (goodIn_of _ (by decide +kernel)) ggX11_spots_X11_isOne
theorem dX11_spots_2 : decode cX11_spots 2 = .ok (.invokevirtual 94, 3) := by decide +kernel
theorem dX11_spots_5 : decode cX11_spots 5 = .ok (.ifCond .eq 8, 3) := by decide +kernel
theorem dX11_spots_13 : decode cX11_spots 13 = .ok (.aload_n 0, 1) := by decide +kernel
theorem dX11_spots_14 : decode cX11_spots 14 = .ok (.bipush (-10), 2) := by decide +kernel
set_option maxRecDepth 20000 in
theorem ggX11_spots_X11_bad : GoodIn wsX11_spots wsX11_bad := goodIn_r _ [17, 18, 93, 94, 95, 96, 97, 98, 99, 100, 101, 102, 103, 104, 105, 106, 107, 108, 109, 110, 111] (by decide +kernel) (by decide +kernel)
set_option maxRecDepth 20000 in
theorem gX11_spots_X11_bad : GoodIn wsX11_spots (wsV RX11 60 RX11 yX11_bad wsX11_bad) := goodIn_app (goodIn_of _ (by decide +kernel)) ggX11_spots_X11_bad
theorem dX11_spots_16 : decode cX11_spots 16 = .ok (.invokevirtual 60, 3) := by decide +kernel
theorem dX11_spots_19 : decode cX11_spots 19 = .ok (.ireturn, 1) := by decide +kernel
theorem dX11_spots_8 : decode cX11_spots 8 = .ok (.iload_n 2, 1) := by decide +kernel
theorem dX11_spots_9 : decode cX11_spots 9 = .ok (.iconst (-1), 1) := by decide +kernel
theorem dX11_spots_10 : decode cX11_spots 10 = .ok (.if_icmp .ge 10, 3) := by decide +kernel
theorem dX11_spots_20 : decode cX11_spots 20 = .ok (.aload_n 0, 1) := by decide +kernel
theorem dX11_spots_21 : decode cX11_spots 21 = .ok (.iload_n 1, 1) := by decide +kernel
theorem dX11_spots_22 : decode cX11_spots 22 = .ok (.iconst 1, 1) := by decide +kernel
set_option maxRecDepth 20000 in
theorem ggX11_spots_X11_of : GoodIn wsX11_spots wsX11_of := goodIn_r _ [22, 10, 93, 94, 95, 96, 97, 98, 99, 100, 101, 102, 103, 104, 105, 106, 107, 108, 109, 110, 111] (by decide +kernel) (by decide +kernel)
set_option maxRecDepth 20000 in
theorem gX11_spots_X11_of : GoodIn wsX11_spots (wsV RX11 97 RX11 yX11_of wsX11_of) := goodIn_app (goodIn_of _ (by decide +kernel)) ggX11_spots_X11_of
theorem dX11_spots_23 : decode cX11_spots 23 = .ok (.invokevirtual 97, 3) := by decide +kernel
theorem dX11_spots_26 : decode cX11_spots 26 = .ok (.istore_n 3, 1) := by decide +kernel
theorem dX11_spots_27 : decode cX11_spots 27 = .ok (.iconst 0, 1) := by decide +kernel
theorem dX11_spots_28 : decode cX11_spots 28 = .ok (.istore 4, 2) := by decide +kernel
theorem dX11_spots_30 : decode cX11_spots 30 = .ok (.bipush (-5), 2) := by decide +kernel
theorem dX11_spots_32 : decode cX11_spots 32 = .ok (.istore 5, 2) := by decide +kernel
theorem dX11_spots_34 : decode cX11_spots 34 = .ok (.iconst 0, 1) := by decide +kernel
theorem dX11_spots_35 : decode cX11_spots 35 = .ok (.istore 6, 2) := by decide +kernel
theorem dX11_spots_37 : decode cX11_spots 37 = .ok (.iload 6, 2) := by decide +kernel
theorem dX11_spots_39 : decode cX11_spots 39 = .ok (.aload_n 0, 1) := by decide +kernel
set_option maxRecDepth 20000 in
theorem ggX11_spots_X11_squares : GoodIn wsX11_spots wsX11_squares := goodIn_r _ [26, 10, 93, 94, 95, 96, 97, 98, 99, 100, 101, 102, 103, 104, 105, 106, 107, 108, 109, 110, 111] (by decide +kernel) (by decide +kernel)
set_option maxRecDepth 20000 in
theorem gX11_spots_X11_squares : GoodIn wsX11_spots (wsV RX11 45 RX11 yX11_squares wsX11_squares) := goodIn_app (goodIn_of _ (by decide +kernel)) ggX11_spots_X11_squares
theorem dX11_spots_40 : decode cX11_spots 40 = .ok (.invokevirtual 45, 3) := by decide +kernel
theorem dX11_spots_43 : decode cX11_spots 43 = .ok (.if_icmp .ge 52, 3) := by decide +kernel
theorem dX11_spots_95 : decode cX11_spots 95 = .ok (.aload_n 0, 1) := by decide +kernel
theorem dX11_spots_96 : decode cX11_spots 96 = .ok (.iload_n 1, 1) := by decide +kernel
theorem dX11_spots_97 : decode cX11_spots 97 = .ok (.iload_n 3, 1) := by decide +kernel
set_option maxRecDepth 20000 in
theorem ggX11_spots_X11_stand : GoodIn wsX11_spots wsX11_stand := goodIn_r _ [37, 10, 93, 94, 95, 96, 97, 98, 99, 100, 101, 102, 103, 104, 105, 106, 107, 108, 109, 110, 111] (by decide +kernel) (by decide +kernel)
set_option maxRecDepth 20000 in
theorem gX11_spots_X11_stand : GoodIn wsX11_spots (wsV RX11 101 RX11 yX11_stand wsX11_stand) := goodIn_app (goodIn_of _ (by decide +kernel)) ggX11_spots_X11_stand
theorem dX11_spots_98 : decode cX11_spots 98 = .ok (.invokevirtual 101, 3) := by decide +kernel
theorem dX11_spots_101 : decode cX11_spots 101 = .ok (.iload_n 2, 1) := by decide +kernel
theorem dX11_spots_102 : decode cX11_spots 102 = .ok (.iconst (-1), 1) := by decide +kernel
theorem dX11_spots_103 : decode cX11_spots 103 = .ok (.if_icmp .ne 8, 3) := by decide +kernel
theorem dX11_spots_111 : decode cX11_spots 111 = .ok (.iload 5, 2) := by decide +kernel
theorem dX11_spots_113 : decode cX11_spots 113 = .ok (.ireturn, 1) := by decide +kernel
theorem dX11_spots_106 : decode cX11_spots 106 = .ok (.iload 4, 2) := by decide +kernel
theorem dX11_spots_108 : decode cX11_spots 108 = .ok (.goto 5, 3) := by decide +kernel
theorem dX11_spots_46 : decode cX11_spots 46 = .ok (.aload_n 0, 1) := by decide +kernel
theorem dX11_spots_47 : decode cX11_spots 47 = .ok (.iload 6, 2) := by decide +kernel
theorem dX11_spots_49 : decode cX11_spots 49 = .ok (.iload_n 1, 1) := by decide +kernel
set_option maxRecDepth 20000 in
theorem ggX11_spots_X11_isFree : GoodIn wsX11_spots wsX11_isFree := goodIn_r _ [30, 10, 31, 32, 4, 33, 93, 94, 95, 96, 97, 98, 99, 100, 101, 102, 103, 104, 105, 106, 107, 108, 109, 110, 111] (by decide +kernel) (by decide +kernel)
set_option maxRecDepth 20000 in
theorem gX11_spots_X11_isFree : GoodIn wsX11_spots (wsV RX11 83 RX11 yX11_isFree wsX11_isFree) := goodIn_app (goodIn_of _ (by decide +kernel)) ggX11_spots_X11_isFree
theorem dX11_spots_50 : decode cX11_spots 50 = .ok (.invokevirtual 83, 3) := by decide +kernel
theorem dX11_spots_53 : decode cX11_spots 53 = .ok (.ifCond .eq 36, 3) := by decide +kernel
theorem dX11_spots_89 : decode cX11_spots 89 = .ok (.iinc 6 1, 3) := by decide +kernel
theorem dX11_spots_92 : decode cX11_spots 92 = .ok (.goto (-55), 3) := by decide +kernel
theorem dX11_spots_56 : decode cX11_spots 56 = .ok (.aload_n 0, 1) := by decide +kernel
theorem dX11_spots_57 : decode cX11_spots 57 = .ok (.iload_n 1, 1) := by decide +kernel
theorem dX11_spots_58 : decode cX11_spots 58 = .ok (.iload 6, 2) := by decide +kernel
theorem dX11_spots_60 : decode cX11_spots 60 = .ok (.invokevirtual 101, 3) := by decide +kernel
theorem dX11_spots_63 : decode cX11_spots 63 = .ok (.aload_n 0, 1) := by decide +kernel
theorem dX11_spots_64 : decode cX11_spots 64 = .ok (.iload_n 1, 1) := by decide +kernel
set_option maxRecDepth 20000 in
theorem ggX11_spots_X11_isReported : GoodIn wsX11_spots wsX11_isReported := goodIn_r _ [41, 10, 42, 43, 44, 4, 45, 19, 20, 21, 22, 46, 47, 48, 49, 50, 51, 52, 53, 54, 55, 56, 57, 23, 24, 25, 26, 58, 59, 60, 61, 62, 63, 64, 65, 66, 67, 68, 69, 70, 71, 72, 73, 74, 75, 76, 77, 78, 79, 80, 81, 82, 83, 84, 85, 86, 87, 88, 89, 90, 91, 92, 93, 94, 95, 96, 97, 98, 99, 100, 101, 102, 103, 104, 105, 106, 107, 108, 109, 110, 111] (by decide +kernel) (by decide +kernel)
set_option maxRecDepth 20000 in
theorem gX11_spots_X11_isReported : GoodIn wsX11_spots (wsV RX11 191 RX11 yX11_isReported wsX11_isReported) := goodIn_app (goodIn_of _ (by decide +kernel)) ggX11_spots_X11_isReported
theorem dX11_spots_65 : decode cX11_spots 65 = .ok (.invokevirtual 191, 3) := by decide +kernel
theorem dX11_spots_68 : decode cX11_spots 68 = .ok (.ifCond .eq 21, 3) := by decide +kernel
theorem dX11_spots_71 : decode cX11_spots 71 = .ok (.iload 4, 2) := by decide +kernel
theorem dX11_spots_73 : decode cX11_spots 73 = .ok (.iload_n 2, 1) := by decide +kernel
theorem dX11_spots_74 : decode cX11_spots 74 = .ok (.if_icmp .ne 8, 3) := by decide +kernel
theorem dX11_spots_82 : decode cX11_spots 82 = .ok (.iload 5, 2) := by decide +kernel
theorem dX11_spots_84 : decode cX11_spots 84 = .ok (.istore 5, 2) := by decide +kernel
theorem dX11_spots_86 : decode cX11_spots 86 = .ok (.iinc 4 1, 3) := by decide +kernel
theorem dX11_spots_77 : decode cX11_spots 77 = .ok (.iload 6, 2) := by decide +kernel
theorem dX11_spots_79 : decode cX11_spots 79 = .ok (.goto 5, 3) := by decide +kernel
theorem dX11_speakers_0 : decode cX11_speakers 0 = .ok (.aload_n 0, 1) := by decide +kernel
set_option maxRecDepth 20000 in
theorem ggX11_speakers_X11_manySpeakers : GoodIn wsX11_speakers wsX11_manySpeakers := goodIn_r _ [5, 6, 7, 8, 4, 9, 10, 11, 12, 13, 14, 15, 16, 17, 18, 19, 20, 21, 22, 23, 24, 25, 26, 27, 28, 29, 30, 31, 32, 33, 34, 35, 36, 37, 38, 39, 40, 41, 42, 43, 44, 45, 46, 47, 48, 49, 50, 51, 52, 53, 54, 55, 56, 57, 58, 59, 60, 61, 62, 63, 64, 65, 66, 67, 68, 69, 70, 71, 72, 73, 74, 75, 76, 77, 78, 79, 80, 81, 82, 83, 84, 85, 86, 87, 88, 89, 90, 91, 92, 93, 94, 95, 96, 97, 98, 99, 100] (by decide +kernel) (by decide +kernel)
set_option maxRecDepth 20000 in
theorem gX11_speakers_X11_manySpeakers : GoodIn wsX11_speakers (wsV RX11 188 RX11 yX11_manySpeakers wsX11_manySpeakers) := goodIn_app (goodIn_of _ (by decide +kernel)) ggX11_speakers_X11_manySpeakers
theorem dX11_speakers_1 : decode cX11_speakers 1 = .ok (.invokevirtual 188, 3) := by decide +kernel
theorem dX11_speakers_4 : decode cX11_speakers 4 = .ok (.ireturn, 1) := by decide +kernel
theorem dX11_status_0 : decode cX11_status 0 = .ok (.iload_n 1, 1) := by decide +kernel
theorem dX11_status_1 : decode cX11_status 1 = .ok (.i2l, 1) := by decide +kernel
theorem dX11_status_2 : decode cX11_status 2 = .ok (.lconst 0, 1) := by decide +kernel
theorem dX11_status_3 : decode cX11_status 3 = .ok (.ldc2_w 56, 3) := by decide +kernel
set_option maxRecDepth 20000 in
theorem ggX11_status_X11_in : GoodIn wsX11_status wsX11_in := goodIn_r _ [6] (by decide +kernel) (by decide +kernel)
set_option maxRecDepth 20000 in
theorem gX11_status_X11_in : GoodIn wsX11_status (va_wsS RX11 49 yX11_in wsX11_in) := goodIn_app (goodIn_of _ (by decide +kernel)) ggX11_status_X11_in
theorem dX11_status_6 : decode cX11_status 6 = .ok (.invokestatic 49, 3) := by decide +kernel
theorem dX11_status_9 : decode cX11_status 9 = .ok (.ifCond .eq 12, 3) := by decide +kernel
theorem dX11_status_21 : decode cX11_status 21 = .ok (.aload_n 0, 1) := by decide +kernel
theorem dX11_status_22 : decode cX11_status 22 = .ok (.iconst (-1), 1) := by decide +kernel
set_option maxRecDepth 20000 in
theorem ggX11_status_X11_bad : GoodIn wsX11_status wsX11_bad := goodIn_r _ [10, 2, 11, 12, 13, 14, 15, 16, 17, 18, 19, 20, 21, 22, 23, 24, 25, 26, 27, 28, 29] (by decide +kernel) (by decide +kernel)
set_option maxRecDepth 20000 in
theorem gX11_status_X11_bad : GoodIn wsX11_status (wsV RX11 60 RX11 yX11_bad wsX11_bad) := goodIn_app (goodIn_of _ (by decide +kernel)) ggX11_status_X11_bad
theorem dX11_status_23 : decode cX11_status 23 = .ok (.invokevirtual 60, 3) := by decide +kernel
theorem dX11_status_26 : decode cX11_status 26 = .ok (.ireturn, 1) := by decide +kernel
theorem dX11_status_12 : decode cX11_status 12 = .ok (.aload_n 0, 1) := by decide +kernel
theorem dX11_status_13 : decode cX11_status 13 = .ok (.getfield 20, 3) := by decide +kernel
theorem dX11_status_16 : decode cX11_status 16 = .ok (.iload_n 1, 1) := by decide +kernel
theorem dX11_status_17 : decode cX11_status 17 = .ok (.iaload, 1) := by decide +kernel
theorem dX11_status_18 : decode cX11_status 18 = .ok (.goto 8, 3) := by decide +kernel
theorem dX11_count_0 : decode cX11_count 0 = .ok (.iload_n 1, 1) := by decide +kernel
theorem dX11_count_1 : decode cX11_count 1 = .ok (.i2l, 1) := by decide +kernel
theorem dX11_count_2 : decode cX11_count 2 = .ok (.lconst 0, 1) := by decide +kernel
theorem dX11_count_3 : decode cX11_count 3 = .ok (.ldc2_w 58, 3) := by decide +kernel
set_option maxRecDepth 20000 in
theorem ggX11_count_X11_in : GoodIn wsX11_count wsX11_in := goodIn_r _ [5] (by decide +kernel) (by decide +kernel)
set_option maxRecDepth 20000 in
theorem gX11_count_X11_in : GoodIn wsX11_count (va_wsS RX11 49 yX11_in wsX11_in) := goodIn_app (goodIn_of _ (by decide +kernel)) ggX11_count_X11_in
theorem dX11_count_6 : decode cX11_count 6 = .ok (.invokestatic 49, 3) := by decide +kernel
theorem dX11_count_9 : decode cX11_count 9 = .ok (.ifCond .eq 11, 3) := by decide +kernel
theorem dX11_count_20 : decode cX11_count 20 = .ok (.aload_n 0, 1) := by decide +kernel
theorem dX11_count_21 : decode cX11_count 21 = .ok (.bipush (-2), 2) := by decide +kernel
set_option maxRecDepth 20000 in
theorem ggX11_count_X11_bad : GoodIn wsX11_count wsX11_bad := goodIn_r _ [27, 28, 29, 30, 31, 32, 33, 34, 35, 36, 37, 38, 39, 40, 41, 42, 43, 44, 45, 46, 47] (by decide +kernel) (by decide +kernel)
set_option maxRecDepth 20000 in
theorem gX11_count_X11_bad : GoodIn wsX11_count (wsV RX11 60 RX11 yX11_bad wsX11_bad) := goodIn_app (goodIn_of _ (by decide +kernel)) ggX11_count_X11_bad
theorem dX11_count_23 : decode cX11_count 23 = .ok (.invokevirtual 60, 3) := by decide +kernel
theorem dX11_count_26 : decode cX11_count 26 = .ok (.ireturn, 1) := by decide +kernel
theorem dX11_count_12 : decode cX11_count 12 = .ok (.aload_n 0, 1) := by decide +kernel
theorem dX11_count_13 : decode cX11_count 13 = .ok (.iload_n 1, 1) := by decide +kernel
set_option maxRecDepth 20000 in
theorem ggX11_count_X11_counted : GoodIn wsX11_count wsX11_counted := goodIn_r _ [9, 10, 11, 12, 13, 14, 4, 15, 16, 17, 18, 19, 20, 21, 22, 23, 29, 30, 31, 32, 33, 34, 35, 36, 37, 38, 39, 40, 41, 42, 43, 44, 45, 46, 47] (by decide +kernel) (by decide +kernel)
set_option maxRecDepth 20000 in
theorem gX11_count_X11_counted : GoodIn wsX11_count (wsV RX11 274 RX11 yX11_counted wsX11_counted) := goodIn_app (goodIn_of _ (by decide +kernel)) ggX11_count_X11_counted
theorem dX11_count_14 : decode cX11_count 14 = .ok (.invokevirtual 274, 3) := by decide +kernel
theorem dX11_count_17 : decode cX11_count 17 = .ok (.goto 9, 3) := by decide +kernel
theorem dX11_digest_0 : decode cX11_digest 0 = .ok (.ldc2_w 279, 3) := by decide +kernel
theorem dX11_digest_3 : decode cX11_digest 3 = .ok (.lstore_n 1, 1) := by decide +kernel
theorem dX11_digest_4 : decode cX11_digest 4 = .ok (.iconst 0, 1) := by decide +kernel
theorem dX11_digest_5 : decode cX11_digest 5 = .ok (.istore_n 3, 1) := by decide +kernel
theorem dX11_digest_6 : decode cX11_digest 6 = .ok (.iload_n 3, 1) := by decide +kernel
theorem dX11_digest_7 : decode cX11_digest 7 = .ok (.bipush 7, 2) := by decide +kernel
theorem dX11_digest_9 : decode cX11_digest 9 = .ok (.if_icmp .ge 22, 3) := by decide +kernel
theorem dX11_digest_31 : decode cX11_digest 31 = .ok (.ldc2_w 277, 3) := by decide +kernel
theorem dX11_digest_34 : decode cX11_digest 34 = .ok (.ldc2_w 277, 3) := by decide +kernel
theorem dX11_digest_37 : decode cX11_digest 37 = .ok (.ldc2_w 277, 3) := by decide +kernel
theorem dX11_digest_40 : decode cX11_digest 40 = .ok (.lload_n 1, 1) := by decide +kernel
theorem dX11_digest_41 : decode cX11_digest 41 = .ok (.lmul, 1) := by decide +kernel
theorem dX11_digest_42 : decode cX11_digest 42 = .ok (.aload_n 0, 1) := by decide +kernel
theorem dX11_digest_43 : decode cX11_digest 43 = .ok (.getfield 7, 3) := by decide +kernel
theorem dX11_digest_46 : decode cX11_digest 46 = .ok (.iconst 0, 1) := by decide +kernel
theorem dX11_digest_47 : decode cX11_digest 47 = .ok (.iaload, 1) := by decide +kernel
theorem dX11_digest_48 : decode cX11_digest 48 = .ok (.i2l, 1) := by decide +kernel
theorem dX11_digest_49 : decode cX11_digest 49 = .ok (.ladd, 1) := by decide +kernel
theorem dX11_digest_50 : decode cX11_digest 50 = .ok (.lmul, 1) := by decide +kernel
theorem dX11_digest_51 : decode cX11_digest 51 = .ok (.aload_n 0, 1) := by decide +kernel
theorem dX11_digest_52 : decode cX11_digest 52 = .ok (.getfield 7, 3) := by decide +kernel
theorem dX11_digest_55 : decode cX11_digest 55 = .ok (.iconst 2, 1) := by decide +kernel
theorem dX11_digest_56 : decode cX11_digest 56 = .ok (.iaload, 1) := by decide +kernel
theorem dX11_digest_57 : decode cX11_digest 57 = .ok (.i2l, 1) := by decide +kernel
theorem dX11_digest_58 : decode cX11_digest 58 = .ok (.ladd, 1) := by decide +kernel
theorem dX11_digest_59 : decode cX11_digest 59 = .ok (.lmul, 1) := by decide +kernel
theorem dX11_digest_60 : decode cX11_digest 60 = .ok (.aload_n 0, 1) := by decide +kernel
theorem dX11_digest_61 : decode cX11_digest 61 = .ok (.getfield 7, 3) := by decide +kernel
theorem dX11_digest_64 : decode cX11_digest 64 = .ok (.iconst 3, 1) := by decide +kernel
theorem dX11_digest_65 : decode cX11_digest 65 = .ok (.iaload, 1) := by decide +kernel
theorem dX11_digest_66 : decode cX11_digest 66 = .ok (.i2l, 1) := by decide +kernel
theorem dX11_digest_67 : decode cX11_digest 67 = .ok (.ladd, 1) := by decide +kernel
theorem dX11_digest_68 : decode cX11_digest 68 = .ok (.lstore_n 1, 1) := by decide +kernel
theorem dX11_digest_69 : decode cX11_digest 69 = .ok (.aload_n 0, 1) := by decide +kernel
theorem dX11_digest_70 : decode cX11_digest 70 = .ok (.lload_n 1, 1) := by decide +kernel
theorem dX11_digest_71 : decode cX11_digest 71 = .ok (.iconst 5, 1) := by decide +kernel
theorem dX11_digest_72 : decode cX11_digest 72 = .ok (.iconst 3, 1) := by decide +kernel
theorem dX11_digest_73 : decode cX11_digest 73 = .ok (.aload_n 0, 1) := by decide +kernel
set_option maxRecDepth 20000 in
theorem ggX11_digest_X11_people : GoodIn wsX11_digest wsX11_people := goodIn_r _ [13, 3, 26, 27, 28, 29, 30, 31, 32, 33, 34, 35, 36, 37, 38, 39, 40, 41, 42, 43, 44] (by decide +kernel) (by decide +kernel)
set_option maxRecDepth 20000 in
theorem gX11_digest_X11_people : GoodIn wsX11_digest (wsV RX11 53 RX11 yX11_people wsX11_people) := goodIn_app (goodIn_of _ (by decide +kernel)) ggX11_digest_X11_people
theorem dX11_digest_74 : decode cX11_digest 74 = .ok (.invokevirtual 53, 3) := by decide +kernel
theorem dX11_digest_77 : decode cX11_digest 77 = .ok (.imul, 1) := by decide +kernel
set_option maxRecDepth 20000 in
theorem ggX11_digest_X11_sums : GoodIn wsX11_digest wsX11_sums := goodIn_r _ [25, 2, 3, 26, 27, 28, 29, 30, 31, 32, 33, 34, 35, 36, 37, 38, 39, 40, 41, 42, 43, 44] (by decide +kernel) (by decide +kernel)
set_option maxRecDepth 20000 in
theorem gX11_digest_X11_sums : GoodIn wsX11_digest (wsV RX11 281 RX11 yX11_sums wsX11_sums) := goodIn_app (goodIn_of _ (by decide +kernel)) ggX11_digest_X11_sums
theorem dX11_digest_78 : decode cX11_digest 78 = .ok (.invokevirtual 281, 3) := by decide +kernel
theorem dX11_digest_81 : decode cX11_digest 81 = .ok (.lstore_n 1, 1) := by decide +kernel
theorem dX11_digest_82 : decode cX11_digest 82 = .ok (.iconst 0, 1) := by decide +kernel
theorem dX11_digest_83 : decode cX11_digest 83 = .ok (.istore_n 3, 1) := by decide +kernel
theorem dX11_digest_84 : decode cX11_digest 84 = .ok (.iload_n 3, 1) := by decide +kernel
theorem dX11_digest_85 : decode cX11_digest 85 = .ok (.aload_n 0, 1) := by decide +kernel
set_option maxRecDepth 20000 in
theorem ggX11_digest_X11_squares : GoodIn wsX11_digest wsX11_squares := goodIn_r _ [21, 3, 26, 27, 28, 29, 30, 31, 32, 33, 34, 35, 36, 37, 38, 39, 40, 41, 42, 43, 44] (by decide +kernel) (by decide +kernel)
set_option maxRecDepth 20000 in
theorem gX11_digest_X11_squares : GoodIn wsX11_digest (wsV RX11 45 RX11 yX11_squares wsX11_squares) := goodIn_app (goodIn_of _ (by decide +kernel)) ggX11_digest_X11_squares
theorem dX11_digest_86 : decode cX11_digest 86 = .ok (.invokevirtual 45, 3) := by decide +kernel
theorem dX11_digest_89 : decode cX11_digest 89 = .ok (.if_icmp .ge 41, 3) := by decide +kernel
theorem dX11_digest_130 : decode cX11_digest 130 = .ok (.aload_n 0, 1) := by decide +kernel
theorem dX11_digest_131 : decode cX11_digest 131 = .ok (.lload_n 1, 1) := by decide +kernel
theorem dX11_digest_132 : decode cX11_digest 132 = .ok (.bipush 93, 2) := by decide +kernel
theorem dX11_digest_134 : decode cX11_digest 134 = .ok (.iconst 2, 1) := by decide +kernel
theorem dX11_digest_135 : decode cX11_digest 135 = .ok (.aload_n 0, 1) := by decide +kernel
theorem dX11_digest_136 : decode cX11_digest 136 = .ok (.getfield 7, 3) := by decide +kernel
theorem dX11_digest_139 : decode cX11_digest 139 = .ok (.bipush 92, 2) := by decide +kernel
theorem dX11_digest_141 : decode cX11_digest 141 = .ok (.iaload, 1) := by decide +kernel
theorem dX11_digest_142 : decode cX11_digest 142 = .ok (.imul, 1) := by decide +kernel
theorem dX11_digest_143 : decode cX11_digest 143 = .ok (.invokevirtual 281, 3) := by decide +kernel
theorem dX11_digest_146 : decode cX11_digest 146 = .ok (.lstore_n 1, 1) := by decide +kernel
theorem dX11_digest_147 : decode cX11_digest 147 = .ok (.aload_n 0, 1) := by decide +kernel
theorem dX11_digest_148 : decode cX11_digest 148 = .ok (.lload_n 1, 1) := by decide +kernel
theorem dX11_digest_149 : decode cX11_digest 149 = .ok (.bipush 106, 2) := by decide +kernel
theorem dX11_digest_151 : decode cX11_digest 151 = .ok (.iconst 2, 1) := by decide +kernel
theorem dX11_digest_152 : decode cX11_digest 152 = .ok (.aload_n 0, 1) := by decide +kernel
theorem dX11_digest_153 : decode cX11_digest 153 = .ok (.getfield 7, 3) := by decide +kernel
theorem dX11_digest_156 : decode cX11_digest 156 = .ok (.bipush 105, 2) := by decide +kernel
theorem dX11_digest_158 : decode cX11_digest 158 = .ok (.iaload, 1) := by decide +kernel
theorem dX11_digest_159 : decode cX11_digest 159 = .ok (.imul, 1) := by decide +kernel
theorem dX11_digest_160 : decode cX11_digest 160 = .ok (.invokevirtual 281, 3) := by decide +kernel
theorem dX11_digest_163 : decode cX11_digest 163 = .ok (.lreturn, 1) := by decide +kernel
theorem dX11_digest_92 : decode cX11_digest 92 = .ok (.ldc2_w 277, 3) := by decide +kernel
theorem dX11_digest_95 : decode cX11_digest 95 = .ok (.ldc2_w 277, 3) := by decide +kernel
theorem dX11_digest_98 : decode cX11_digest 98 = .ok (.lload_n 1, 1) := by decide +kernel
theorem dX11_digest_99 : decode cX11_digest 99 = .ok (.lmul, 1) := by decide +kernel
theorem dX11_digest_100 : decode cX11_digest 100 = .ok (.aload_n 0, 1) := by decide +kernel
theorem dX11_digest_101 : decode cX11_digest 101 = .ok (.getfield 7, 3) := by decide +kernel
theorem dX11_digest_104 : decode cX11_digest 104 = .ok (.bipush 20, 2) := by decide +kernel
theorem dX11_digest_106 : decode cX11_digest 106 = .ok (.iload_n 3, 1) := by decide +kernel
theorem dX11_digest_107 : decode cX11_digest 107 = .ok (.iadd, 1) := by decide +kernel
theorem dX11_digest_108 : decode cX11_digest 108 = .ok (.iaload, 1) := by decide +kernel
theorem dX11_digest_109 : decode cX11_digest 109 = .ok (.i2l, 1) := by decide +kernel
theorem dX11_digest_110 : decode cX11_digest 110 = .ok (.ladd, 1) := by decide +kernel
theorem dX11_digest_111 : decode cX11_digest 111 = .ok (.lmul, 1) := by decide +kernel
theorem dX11_digest_112 : decode cX11_digest 112 = .ok (.aload_n 0, 1) := by decide +kernel
theorem dX11_digest_113 : decode cX11_digest 113 = .ok (.getfield 7, 3) := by decide +kernel
theorem dX11_digest_116 : decode cX11_digest 116 = .ok (.bipush 56, 2) := by decide +kernel
theorem dX11_digest_118 : decode cX11_digest 118 = .ok (.iload_n 3, 1) := by decide +kernel
theorem dX11_digest_119 : decode cX11_digest 119 = .ok (.iadd, 1) := by decide +kernel
theorem dX11_digest_120 : decode cX11_digest 120 = .ok (.iaload, 1) := by decide +kernel
theorem dX11_digest_121 : decode cX11_digest 121 = .ok (.i2l, 1) := by decide +kernel
theorem dX11_digest_122 : decode cX11_digest 122 = .ok (.ladd, 1) := by decide +kernel
theorem dX11_digest_123 : decode cX11_digest 123 = .ok (.lstore_n 1, 1) := by decide +kernel
theorem dX11_digest_124 : decode cX11_digest 124 = .ok (.iinc 3 1, 3) := by decide +kernel
theorem dX11_digest_127 : decode cX11_digest 127 = .ok (.goto (-43), 3) := by decide +kernel
theorem dX11_digest_12 : decode cX11_digest 12 = .ok (.ldc2_w 277, 3) := by decide +kernel
theorem dX11_digest_15 : decode cX11_digest 15 = .ok (.lload_n 1, 1) := by decide +kernel
theorem dX11_digest_16 : decode cX11_digest 16 = .ok (.lmul, 1) := by decide +kernel
theorem dX11_digest_17 : decode cX11_digest 17 = .ok (.aload_n 0, 1) := by decide +kernel
theorem dX11_digest_18 : decode cX11_digest 18 = .ok (.iload_n 3, 1) := by decide +kernel
set_option maxRecDepth 20000 in
theorem ggX11_digest_X11_counted : GoodIn wsX11_digest wsX11_counted := goodIn_r _ [8, 3, 9, 10, 11, 12, 7, 13, 14, 15, 16, 17, 18, 19, 20, 21, 26, 27, 28, 29, 30, 31, 32, 33, 34, 35, 36, 37, 38, 39, 40, 41, 42, 43, 44] (by decide +kernel) (by decide +kernel)
set_option maxRecDepth 20000 in
theorem gX11_digest_X11_counted : GoodIn wsX11_digest (wsV RX11 274 RX11 yX11_counted wsX11_counted) := goodIn_app (goodIn_of _ (by decide +kernel)) ggX11_digest_X11_counted
theorem dX11_digest_19 : decode cX11_digest 19 = .ok (.invokevirtual 274, 3) := by decide +kernel
theorem dX11_digest_22 : decode cX11_digest 22 = .ok (.i2l, 1) := by decide +kernel
theorem dX11_digest_23 : decode cX11_digest 23 = .ok (.ladd, 1) := by decide +kernel
theorem dX11_digest_24 : decode cX11_digest 24 = .ok (.lstore_n 1, 1) := by decide +kernel
theorem dX11_digest_25 : decode cX11_digest 25 = .ok (.iinc 3 1, 3) := by decide +kernel
theorem dX11_digest_28 : decode cX11_digest 28 = .ok (.goto (-22), 3) := by decide +kernel
set_option maxHeartbeats 4000000 in
set_option maxRecDepth 100000 in
theorem n_X11_place (l : Launch) (D : va_G) (cy : Nat → ClassId) (mm : Nat) (mm_now : Nat) (mm_kept : Nat) (mm_isKept : Nat) (mm_refused : Nat) (mm_lineFrom : Int32) (mm_lineTo : Int32) (mm_stands : Nat) (mm_far : Nat) (mm_queue : Nat) (mm_queued : Int32) (mm_meets : Nat) (mm_bytes : Nat) (bl : Nat) (ta : Nat) (tl : Nat) (mm_token : Int32) (mm_value : Int32) (mm_next : Nat) (tk : Nat) (mm_now_f : Nat → Int32) (mm_refused_f : Nat → Int32) (px : Int32) (py : Int32) (sz : Nat) (hN : mN mm_now_f) : Met l yX11_place wsX11_place ({ frames := 9, cells := 0, slots := 0, locals := 206 }) (va_Pc [.ref mm, .int px, .int py] (kPre D cy [(mm, .inr (11, [.ref mm_now, .ref mm_kept, .ref mm_isKept, .ref mm_refused, .int mm_lineFrom, .int mm_lineTo, .ref mm_stands, .ref mm_far, .ref mm_queue, .int mm_queued, .ref mm_meets, .ref mm_bytes, .int (nI bl), .int (nI ta), .int (nI tl), .int mm_token, .int mm_value, .ref mm_next, .int (nI tk)])), (mm_now, .inl (cy 1, 122, .inl mm_now_f)), (mm_refused, .inl (cy 1, 3, .inl mm_refused_f))] sz)) (va_Qi (fun (r : Int32) (u : Int32 × Int32 × (Nat → Int32) × (Nat → Int32)) => mN u.2.2.1) (fun (u : Int32 × Int32 × (Nat → Int32) × (Nat → Int32)) t => va_P D vwCl ([(mm, .inr (11, [.ref mm_now, .ref mm_kept, .ref mm_isKept, .ref mm_refused, .int u.1, .int u.2.1, .ref mm_stands, .ref mm_far, .ref mm_queue, .int mm_queued, .ref mm_meets, .ref mm_bytes, .int (nI bl), .int (nI ta), .int (nI tl), .int mm_token, .int mm_value, .ref mm_next, .int (nI tk)])), (mm_now, .inl (cy 1, 122, .inl u.2.2.1)), (mm_refused, .inl (cy 1, 3, .inl u.2.2.2))]) t.heap ∧ va_D (va_A [(mm, .inr (11, [.ref mm_now, .ref mm_kept, .ref mm_isKept, .ref mm_refused, .int mm_lineFrom, .int mm_lineTo, .ref mm_stands, .ref mm_far, .ref mm_queue, .int mm_queued, .ref mm_meets, .ref mm_bytes, .int (nI bl), .int (nI ta), .int (nI tl), .int mm_token, .int mm_value, .ref mm_next, .int (nI tk)])), (mm_now, .inl (cy 1, 122, .inl mm_now_f)), (mm_refused, .inl (cy 1, 3, .inl mm_refused_f))] sz) ([(mm, .inr (11, [.ref mm_now, .ref mm_kept, .ref mm_isKept, .ref mm_refused, .int u.1, .int u.2.1, .ref mm_stands, .ref mm_far, .ref mm_queue, .int mm_queued, .ref mm_meets, .ref mm_bytes, .int (nI bl), .int (nI ta), .int (nI tl), .int mm_token, .int mm_value, .ref mm_next, .int (nI tk)])), (mm_now, .inl (cy 1, 122, .inl u.2.2.1)), (mm_refused, .inl (cy 1, 3, .inl u.2.2.2))])) (va_A [(mm, .inr (11, [.ref mm_now, .ref mm_kept, .ref mm_isKept, .ref mm_refused, .int mm_lineFrom, .int mm_lineTo, .ref mm_stands, .ref mm_far, .ref mm_queue, .int mm_queued, .ref mm_meets, .ref mm_bytes, .int (nI bl), .int (nI ta), .int (nI tl), .int mm_token, .int mm_value, .ref mm_next, .int (nI tk)])), (mm_now, .inl (cy 1, 122, .inl mm_now_f)), (mm_refused, .inl (cy 1, 3, .inl mm_refused_f))] sz)) 0 0 (va_A [(mm, .inr (11, [.ref mm_now, .ref mm_kept, .ref mm_isKept, .ref mm_refused, .int mm_lineFrom, .int mm_lineTo, .ref mm_stands, .ref mm_far, .ref mm_queue, .int mm_queued, .ref mm_meets, .ref mm_bytes, .int (nI bl), .int (nI ta), .int (nI tl), .int mm_token, .int mm_value, .ref mm_next, .int (nI tk)])), (mm_now, .inl (cy 1, 122, .inl mm_now_f)), (mm_refused, .inl (cy 1, 3, .inl mm_refused_f))] sz) := by
  refine Met.ofW (cc := cX11_place) (maxL := 6) (ret := (some .int)) (by decide) rfl ?_
  intro p e s m args below meth c s₁ B hml hv
  obtain ⟨rfl, hsz, hP, hKA, hD0⟩ := hv
  have hx := B.exec
  have hb := B.bytes
  have hr := B.returns
  have hts := atoms_spec (ws := wsX11_place) B.pre
  have hown : s.vm.findClass RX11 = some m.cls := findClass_of_methodNamed B.named
  have hlocks := B.notSynchronized
  subst hsz
  have hK := hKA.1
  have hD := hD0.self (sz := s.heap.size)
  generalize hAe : va_A [(mm, .inr (11, [.ref mm_now, .ref mm_kept, .ref mm_isKept, .ref mm_refused, .int mm_lineFrom, .int mm_lineTo, .ref mm_stands, .ref mm_far, .ref mm_queue, .int mm_queued, .ref mm_meets, .ref mm_bytes, .int (nI bl), .int (nI ta), .int (nI tl), .int mm_token, .int mm_value, .ref mm_next, .int (nI tk)])), (mm_now, .inl (cy 1, 122, .inl mm_now_f)), (mm_refused, .inl (cy 1, 3, .inl mm_refused_f))] s.heap.size = A at hD ⊢
  have hA : ∀ q : Nat, s.heap.size ≤ q → A q := fun q h => by rw [← hAe]; exact Or.inr h
  have hS : va_S A s.heap s.heap [] := va_S.rf
  have hP : va_P D vwCl [(mm, .inr (11, [.ref mm_now, .ref mm_kept, .ref mm_isKept, .ref mm_refused, .int mm_lineFrom, .int mm_lineTo, .ref mm_stands, .ref mm_far, .ref mm_queue, .int mm_queued, .ref mm_meets, .ref mm_bytes, .int (nI bl), .int (nI ta), .int (nI tl), .int mm_token, .int mm_value, .ref mm_next, .int (nI tk)])), (mm_now, .inl (cy 1, 122, .inl mm_now_f)), (mm_refused, .inl (cy 1, 3, .inl mm_refused_f))] s.heap := hP
  have hl := lv_entry ([.ref mm, .int px, .int py]) (n := 6) (Nat.le_of_ble_eq_true rfl)
  rw [lg_entry_eq]
  generalize (lg_sl ([.ref mm, .int px, .int py]) ++ List.replicate (6 - (lg_sl ([.ref mm, .int px, .int py])).length) Slot.unset).toArray = ls at hl ⊢
  have hl : lv_has ls 6 [(0, .ref mm), (1, .int px), (2, .int py)] := hl
  refine qW (fun QF hQF => ?_)
  obtain ⟨mW, mH, mS, mP, hF⟩ := hN
  obtain ⟨hW2, hW6, hH2, hH6, hSe, hS4, hS6, hP5⟩ := hF.rng
  refine lv_aload_n hx hb dX11_place_0 rfl (lv_at hl 0 rfl) ?_
  refine lv_iload_n hx hb dX11_place_1 rfl (lv_at hl 1 rfl) ?_
  refine rd_i (va_runV (As := [.int px]) (rest := []) ⟨hx, hb, hml, hown, hts⟩ (n_X11_isOne l D cy mW mH mS mP mm mm_now mm_kept mm_isKept mm_refused mm_lineFrom mm_lineTo mm_stands mm_far mm_queue mm_queued mm_meets mm_bytes bl ta tl mm_token mm_value mm_next tk mm_now_f px _ (by first | assumption | omega)) (cwV 1 hts gX11_place_X11_isOne rfl rfl rfl (by decide +kernel) ⟨Nat.le_of_ble_eq_true rfl, Nat.le_of_ble_eq_true rfl⟩) (pV (ci := 11) (k := 0) hKA (hP.sub (ws' := [(mm, .inr (11, [.ref mm_now, .ref mm_kept, .ref mm_isKept, .ref mm_refused, .int mm_lineFrom, .int mm_lineTo, .ref mm_stands, .ref mm_far, .ref mm_queue, .int mm_queued, .ref mm_meets, .ref mm_bytes, .int (nI bl), .int (nI ta), .int (nI tl), .int mm_token, .int mm_value, .ref mm_next, .int (nI tk)])), (mm_now, .inl (cy 1, 122, .inl mm_now_f))]) [0, 1] rfl) (hD.sub (ws' := [(mm, .inr (11, [.ref mm_now, .ref mm_kept, .ref mm_isKept, .ref mm_refused, .int mm_lineFrom, .int mm_lineTo, .ref mm_stands, .ref mm_far, .ref mm_queue, .int mm_queued, .ref mm_meets, .ref mm_bytes, .int (nI bl), .int (nI ta), .int (nI tl), .int mm_token, .int mm_value, .ref mm_next, .int (nI tk)])), (mm_now, .inl (cy 1, 122, .inl mm_now_f))]) [0, 1] (by decide) rfl) rfl rfl) rfl rfl hl.1 rfl (lv_room (Nat.le_of_ble_eq_true rfl)) dX11_place_2 ⟨Nat.le_of_ble_eq_true rfl, Nat.le_of_ble_eq_true rfl⟩) hP hS hA (fun r1 H locs hwr1 hP hS => ?_)
  have hwr1 : (r1 = 1 ∧ (∃ j : Nat, j < mP ∧ px = nI j)) ∨ (r1 = 0 ∧ True) := hwr1
  refine lv_if_eq (tgt := 16) hx hb dX11_place_5 (by decide) (fun c2 => ?_) (fun c2 => ?_)
  · skip
    refine lv_aload_n hx hb dX11_place_16 rfl (lv_at hl 0 rfl) ?_
    refine lv_bipush (v := (-2)) hx hb dX11_place_17 (by decide) ?_
    refine wr_i (wr := [(mm_now, .inl (cy 1, 122, .inl mm_now_f))]) (va_runV (As := [.int (-2)]) (rest := []) ⟨hx, hb, hml, hown, hts⟩ (n_X11_bad l D cy mm mm_now mm_kept mm_isKept mm_refused mm_lineFrom mm_lineTo mm_stands mm_far mm_queue mm_queued mm_meets mm_bytes bl ta tl mm_token mm_value mm_next tk mm_refused_f (-2) _ ) (cwV 1 hts gX11_place_X11_bad rfl rfl rfl (by decide +kernel) ⟨Nat.le_of_ble_eq_true rfl, Nat.le_of_ble_eq_true rfl⟩) (pV (ci := 11) (k := 0) hKA (hP.sub (ws' := [(mm, .inr (11, [.ref mm_now, .ref mm_kept, .ref mm_isKept, .ref mm_refused, .int mm_lineFrom, .int mm_lineTo, .ref mm_stands, .ref mm_far, .ref mm_queue, .int mm_queued, .ref mm_meets, .ref mm_bytes, .int (nI bl), .int (nI ta), .int (nI tl), .int mm_token, .int mm_value, .ref mm_next, .int (nI tk)])), (mm_refused, .inl (cy 1, 3, .inl mm_refused_f))]) [0, 2] rfl) (hD.sub (ws' := [(mm, .inr (11, [.ref mm_now, .ref mm_kept, .ref mm_isKept, .ref mm_refused, .int mm_lineFrom, .int mm_lineTo, .ref mm_stands, .ref mm_far, .ref mm_queue, .int mm_queued, .ref mm_meets, .ref mm_bytes, .int (nI bl), .int (nI ta), .int (nI tl), .int mm_token, .int mm_value, .ref mm_next, .int (nI tk)])), (mm_refused, .inl (cy 1, 3, .inl mm_refused_f))]) [0, 2] (by decide) rfl) rfl rfl) rfl rfl hl.1 rfl (lv_room (Nat.le_of_ble_eq_true rfl)) dX11_place_19 ⟨Nat.le_of_ble_eq_true rfl, Nat.le_of_ble_eq_true rfl⟩) hP hD hS hA [0, 2] [1] rfl rfl (by decide +kernel) (by decide +kernel) (fun r3 ur3 H locs hwr3 hP hD hS => ?_)
    obtain ⟨z4, rfl⟩ : ∃ z, z = ur3 := ⟨_, rfl⟩
    have hP : va_P D vwCl [(mm_now, .inl (cy 1, 122, .inl mm_now_f)), (mm, .inr (11, [.ref mm_now, .ref mm_kept, .ref mm_isKept, .ref mm_refused, .int mm_lineFrom, .int mm_lineTo, .ref mm_stands, .ref mm_far, .ref mm_queue, .int mm_queued, .ref mm_meets, .ref mm_bytes, .int (nI bl), .int (nI ta), .int (nI tl), .int mm_token, .int mm_value, .ref mm_next, .int (nI tk)])), (mm_refused, .inl (cy 1, 3, .inl z4))] H := hP
    have hD : va_D A [(mm_now, .inl (cy 1, 122, .inl mm_now_f)), (mm, .inr (11, [.ref mm_now, .ref mm_kept, .ref mm_isKept, .ref mm_refused, .int mm_lineFrom, .int mm_lineTo, .ref mm_stands, .ref mm_far, .ref mm_queue, .int mm_queued, .ref mm_meets, .ref mm_bytes, .int (nI bl), .int (nI ta), .int (nI tl), .int mm_token, .int mm_value, .ref mm_next, .int (nI tk)])), (mm_refused, .inl (cy 1, 3, .inl z4))] := hD
    have hwr3 : r3 = (-2) := hwr3
    subst hwr3
    subst hQF
    have hP9 := hP.sub (ws' := [(mm, .inr (11, [.ref mm_now, .ref mm_kept, .ref mm_isKept, .ref mm_refused, .int mm_lineFrom, .int mm_lineTo, .ref mm_stands, .ref mm_far, .ref mm_queue, .int mm_queued, .ref mm_meets, .ref mm_bytes, .int (nI bl), .int (nI ta), .int (nI tl), .int mm_token, .int mm_value, .ref mm_next, .int (nI tk)])), (mm_now, .inl (cy 1, 122, .inl mm_now_f)), (mm_refused, .inl (cy 1, 3, .inl z4))]) [1, 0, 2] rfl
    have hD9 := hD.sub (ws' := [(mm, .inr (11, [.ref mm_now, .ref mm_kept, .ref mm_isKept, .ref mm_refused, .int mm_lineFrom, .int mm_lineTo, .ref mm_stands, .ref mm_far, .ref mm_queue, .int mm_queued, .ref mm_meets, .ref mm_bytes, .int (nI bl), .int (nI ta), .int (nI tl), .int mm_token, .int mm_value, .ref mm_next, .int (nI tk)])), (mm_now, .inl (cy 1, 122, .inl mm_now_f)), (mm_refused, .inl (cy 1, 3, .inl z4))]) [1, 0, 2] (by decide) rfl
    exact W.iret (v := (-2)) hx hb hr (fun t ht hW => ⟨⟨(-2), (mm_lineFrom, mm_lineTo, mm_now_f, z4), rfl, ⟨_, _, _, _, hF⟩, by rw [ht]; exact hP9, hD9⟩, hS.F ht⟩) hS.2.2 dX11_place_22
  · skip
    have hp5 := z_b1 hwr1 c2
    obtain ⟨j6, hj6, ej6⟩ := hp5
    refine lv_aload_n hx hb dX11_place_8 rfl (lv_at hl 0 rfl) ?_
    refine lv_iload_n hx hb dX11_place_9 rfl (lv_at hl 2 rfl) ?_
    refine rd_i (va_runV (As := [.int py]) (rest := []) ⟨hx, hb, hml, hown, hts⟩ (n_X11_isSet l D cy mW mH mS mP mm mm_now mm_kept mm_isKept mm_refused mm_lineFrom mm_lineTo mm_stands mm_far mm_queue mm_queued mm_meets mm_bytes bl ta tl mm_token mm_value mm_next tk mm_now_f py _ (by first | assumption | omega)) (cwV 1 hts gX11_place_X11_isSet rfl rfl rfl (by decide +kernel) ⟨Nat.le_of_ble_eq_true rfl, Nat.le_of_ble_eq_true rfl⟩) (pV (ci := 11) (k := 0) hKA (hP.sub (ws' := [(mm, .inr (11, [.ref mm_now, .ref mm_kept, .ref mm_isKept, .ref mm_refused, .int mm_lineFrom, .int mm_lineTo, .ref mm_stands, .ref mm_far, .ref mm_queue, .int mm_queued, .ref mm_meets, .ref mm_bytes, .int (nI bl), .int (nI ta), .int (nI tl), .int mm_token, .int mm_value, .ref mm_next, .int (nI tk)])), (mm_now, .inl (cy 1, 122, .inl mm_now_f))]) [0, 1] rfl) (hD.sub (ws' := [(mm, .inr (11, [.ref mm_now, .ref mm_kept, .ref mm_isKept, .ref mm_refused, .int mm_lineFrom, .int mm_lineTo, .ref mm_stands, .ref mm_far, .ref mm_queue, .int mm_queued, .ref mm_meets, .ref mm_bytes, .int (nI bl), .int (nI ta), .int (nI tl), .int mm_token, .int mm_value, .ref mm_next, .int (nI tk)])), (mm_now, .inl (cy 1, 122, .inl mm_now_f))]) [0, 1] (by decide) rfl) rfl rfl) rfl rfl hl.1 rfl (lv_room (Nat.le_of_ble_eq_true rfl)) dX11_place_10 ⟨Nat.le_of_ble_eq_true rfl, Nat.le_of_ble_eq_true rfl⟩) hP hS hA (fun r7 H locs hwr7 hP hS => ?_)
    have hwr7 : (r7 = 1 ∧ True) ∨ (r7 = 0 ∧ True) := hwr7
    refine lv_if_ne (tgt := 23) hx hb dX11_place_13 (by decide) (fun c8 => ?_) (fun c8 => ?_)
    · skip
      refine lv_aload_n hx hb dX11_place_23 rfl (lv_at hl 0 rfl) ?_
      refine lv_iload_n hx hb dX11_place_24 rfl (lv_at hl 1 rfl) ?_
      refine W.eq (g2 := F0 m 25 ls [.int (nI j6), .ref mm]) (congrArg (fun v9 : Int32 => F0 m 25 ls [.int v9, .ref mm]) ej6) ?_
      refine lv_iconst (v := 1) hx hb dX11_place_25 (by decide) ?_
      refine rd_i (va_runV (As := [.int (nI j6), .int 1]) (rest := []) ⟨hx, hb, hml, hown, hts⟩ (n_X11_of l D cy mW mH mS mP mm mm_now mm_kept mm_isKept mm_refused mm_lineFrom mm_lineTo mm_stands mm_far mm_queue mm_queued mm_meets mm_bytes bl ta tl mm_token mm_value mm_next tk mm_now_f j6 1 _ (by first | assumption | omega) (by first | assumption | omega) (by first | assumption | omega)) (cwV 2 hts gX11_place_X11_of rfl rfl rfl (by decide +kernel) ⟨Nat.le_of_ble_eq_true rfl, Nat.le_of_ble_eq_true rfl⟩) (pV (ci := 11) (k := 0) hKA (hP.sub (ws' := [(mm, .inr (11, [.ref mm_now, .ref mm_kept, .ref mm_isKept, .ref mm_refused, .int mm_lineFrom, .int mm_lineTo, .ref mm_stands, .ref mm_far, .ref mm_queue, .int mm_queued, .ref mm_meets, .ref mm_bytes, .int (nI bl), .int (nI ta), .int (nI tl), .int mm_token, .int mm_value, .ref mm_next, .int (nI tk)])), (mm_now, .inl (cy 1, 122, .inl mm_now_f))]) [0, 1] rfl) (hD.sub (ws' := [(mm, .inr (11, [.ref mm_now, .ref mm_kept, .ref mm_isKept, .ref mm_refused, .int mm_lineFrom, .int mm_lineTo, .ref mm_stands, .ref mm_far, .ref mm_queue, .int mm_queued, .ref mm_meets, .ref mm_bytes, .int (nI bl), .int (nI ta), .int (nI tl), .int mm_token, .int mm_value, .ref mm_next, .int (nI tk)])), (mm_now, .inl (cy 1, 122, .inl mm_now_f))]) [0, 1] (by decide) rfl) rfl rfl) rfl rfl hl.1 rfl (lv_room (Nat.le_of_ble_eq_true rfl)) dX11_place_26 ⟨Nat.le_of_ble_eq_true rfl, Nat.le_of_ble_eq_true rfl⟩) hP hS hA (fun r9 H locs hwr9 hP hS => ?_)
      have hwr9 : r9 = mm_now_f (5 + 3 * j6 + 1) := hwr9
      subst hwr9
      obtain ⟨jh, ejh, hjh⟩ := mV.get hF (5 + 3 * j6 + 1) 35 (by omega) (by omega) (by unfold mHi; (repeat' split) <;> omega)
      refine W.eq (g2 := F0 m 29 ls [.int (nI jh)]) (congrArg (fun v9 : Int32 => F0 m 29 ls [.int v9]) ejh) ?_
      refine lv_istore_n (lv' := [(3, .int (nI jh)), (0, .ref mm), (1, .int px), (2, .int py)]) hx hb dX11_place_29 rfl hl (by decide) rfl (fun ls hl => ?_)
      refine lv_iconst (v := (-1)) hx hb dX11_place_30 (by decide) ?_
      refine lv_istore (lv' := [(4, .int (-1)), (3, .int (nI jh)), (0, .ref mm), (1, .int px), (2, .int py)]) hx hb dX11_place_31 hl (by decide) rfl (fun ls hl => ?_)
      refine lv_iconst (v := 0) hx hb dX11_place_33 (by decide) ?_
      refine lv_istore (lv' := [(5, .int 0), (4, .int (-1)), (3, .int (nI jh)), (0, .ref mm), (1, .int px), (2, .int py)]) hx hb dX11_place_34 hl (by decide) rfl (fun ls hl => ?_)
      have lp36 : ∀ (n36 : Nat) (v5_36 : Nat) (u_mm_4_36 : Int32) (u_mm_5_36 : Int32) (y_mm_now_36 : Nat → Int32) (v4_36 : Int32) (hi_y_mm_now_36 : mV y_mm_now_36 mW mH mS mP) (hv5_36 : v5_36 < 2147483648), 2147483648 - v5_36 < n36 → ∀ (H : Heap) (locs : List Loc), va_P D vwCl [(mm, .inr (11, [.ref mm_now, .ref mm_kept, .ref mm_isKept, .ref mm_refused, .int u_mm_4_36, .int u_mm_5_36, .ref mm_stands, .ref mm_far, .ref mm_queue, .int mm_queued, .ref mm_meets, .ref mm_bytes, .int (nI bl), .int (nI ta), .int (nI tl), .int mm_token, .int mm_value, .ref mm_next, .int (nI tk)])), (mm_now, .inl (cy 1, 122, .inl y_mm_now_36)), (mm_refused, .inl (cy 1, 3, .inl mm_refused_f))] H → va_D A [(mm, .inr (11, [.ref mm_now, .ref mm_kept, .ref mm_isKept, .ref mm_refused, .int u_mm_4_36, .int u_mm_5_36, .ref mm_stands, .ref mm_far, .ref mm_queue, .int mm_queued, .ref mm_meets, .ref mm_bytes, .int (nI bl), .int (nI ta), .int (nI tl), .int mm_token, .int mm_value, .ref mm_next, .int (nI tk)])), (mm_now, .inl (cy 1, 122, .inl y_mm_now_36)), (mm_refused, .inl (cy 1, 3, .inl mm_refused_f))] → va_S A s.heap H locs → ∀ ls : Array Slot, lv_has ls 6 [(5, .int (nI v5_36)), (4, .int v4_36), (3, .int (nI jh)), (0, .ref mm), (1, .int px), (2, .int py)] → W p l e (headSpec wsX11_place ({ frames := 9, cells := 0, slots := 0, locals := 206 })).room s m [.ref mm, .int px, .int py].toArray below meth c H locs 0 0 QF (F0 m 36 ls []) := by
        intro n36
        induction n36 with
        | zero => intro v5_36 u_mm_4_36 u_mm_5_36 y_mm_now_36 v4_36 hi_y_mm_now_36 hv5_36 hm; exact absurd hm (Nat.not_lt_zero _)
        | succ n36 ih36 =>
          intro v5_36 u_mm_4_36 u_mm_5_36 y_mm_now_36 v4_36 hi_y_mm_now_36 hv5_36 hm36 H locs hP hD hS ls hl
          refine lv_iload hx hb dX11_place_36 (lv_at hl 0 rfl) ?_
          refine lv_aload_n hx hb dX11_place_38 rfl (lv_at hl 3 rfl) ?_
          refine rd_i (va_runV (As := []) (rest := [.int (nI v5_36)]) ⟨hx, hb, hml, hown, hts⟩ (n_X11_squares l D cy mW mH mS mP mm mm_now mm_kept mm_isKept mm_refused u_mm_4_36 u_mm_5_36 mm_stands mm_far mm_queue mm_queued mm_meets mm_bytes bl ta tl mm_token mm_value mm_next tk y_mm_now_36 _ (by first | assumption | omega)) (cwV 0 hts gX11_place_X11_squares rfl rfl rfl (by decide +kernel) ⟨Nat.le_of_ble_eq_true rfl, Nat.le_of_ble_eq_true rfl⟩) (pV (ci := 11) (k := 0) hKA (hP.sub (ws' := [(mm, .inr (11, [.ref mm_now, .ref mm_kept, .ref mm_isKept, .ref mm_refused, .int u_mm_4_36, .int u_mm_5_36, .ref mm_stands, .ref mm_far, .ref mm_queue, .int mm_queued, .ref mm_meets, .ref mm_bytes, .int (nI bl), .int (nI ta), .int (nI tl), .int mm_token, .int mm_value, .ref mm_next, .int (nI tk)])), (mm_now, .inl (cy 1, 122, .inl y_mm_now_36))]) [0, 1] rfl) (hD.sub (ws' := [(mm, .inr (11, [.ref mm_now, .ref mm_kept, .ref mm_isKept, .ref mm_refused, .int u_mm_4_36, .int u_mm_5_36, .ref mm_stands, .ref mm_far, .ref mm_queue, .int mm_queued, .ref mm_meets, .ref mm_bytes, .int (nI bl), .int (nI ta), .int (nI tl), .int mm_token, .int mm_value, .ref mm_next, .int (nI tk)])), (mm_now, .inl (cy 1, 122, .inl y_mm_now_36))]) [0, 1] (by decide) rfl) rfl rfl) rfl rfl hl.1 rfl (lv_room (Nat.le_of_ble_eq_true rfl)) dX11_place_39 ⟨Nat.le_of_ble_eq_true rfl, Nat.le_of_ble_eq_true rfl⟩) hP hS hA (fun r10 H locs hwr10 hP hS => ?_)
          have hwr10 : r10 = nI mS := hwr10
          subst hwr10
          have j90 : ∀ (H : Heap) (locs : List Loc), va_P D vwCl [(mm, .inr (11, [.ref mm_now, .ref mm_kept, .ref mm_isKept, .ref mm_refused, .int u_mm_4_36, .int u_mm_5_36, .ref mm_stands, .ref mm_far, .ref mm_queue, .int mm_queued, .ref mm_meets, .ref mm_bytes, .int (nI bl), .int (nI ta), .int (nI tl), .int mm_token, .int mm_value, .ref mm_next, .int (nI tk)])), (mm_now, .inl (cy 1, 122, .inl y_mm_now_36)), (mm_refused, .inl (cy 1, 3, .inl mm_refused_f))] H → va_D A [(mm, .inr (11, [.ref mm_now, .ref mm_kept, .ref mm_isKept, .ref mm_refused, .int u_mm_4_36, .int u_mm_5_36, .ref mm_stands, .ref mm_far, .ref mm_queue, .int mm_queued, .ref mm_meets, .ref mm_bytes, .int (nI bl), .int (nI ta), .int (nI tl), .int mm_token, .int mm_value, .ref mm_next, .int (nI tk)])), (mm_now, .inl (cy 1, 122, .inl y_mm_now_36)), (mm_refused, .inl (cy 1, 3, .inl mm_refused_f))] → va_S A s.heap H locs → ∀ ls : Array Slot, lv_has ls 6 [(5, .int (nI v5_36)), (4, .int v4_36), (3, .int (nI jh)), (0, .ref mm), (1, .int px), (2, .int py)] → W p l e (headSpec wsX11_place ({ frames := 9, cells := 0, slots := 0, locals := 206 })).room s m [.ref mm, .int px, .int py].toArray below meth c H locs 0 0 QF (F0 m 90 ls []) := by
            intro  H locs hP hD hS ls hl
            refine lv_aload_n hx hb dX11_place_90 rfl (lv_at hl 3 rfl) ?_
            refine lv_iload_n hx hb dX11_place_91 rfl (lv_at hl 4 rfl) ?_
            refine W.eq (g2 := F0 m 92 ls [.int (nI j6), .ref mm]) (congrArg (fun v9 : Int32 => F0 m 92 ls [.int v9, .ref mm]) ej6) ?_
            refine lv_iload_n hx hb dX11_place_92 rfl (lv_at hl 2 rfl) ?_
            refine wr_v (wr := [(mm_refused, .inl (cy 1, 3, .inl mm_refused_f))]) (va_runV (As := [.int (nI j6), .int (nI jh)]) (rest := []) ⟨hx, hb, hml, hown, hts⟩ (n_X11_stand l D cy mW mH mS mP mm mm_now mm_kept mm_isKept mm_refused u_mm_4_36 u_mm_5_36 mm_stands mm_far mm_queue mm_queued mm_meets mm_bytes bl ta tl mm_token mm_value mm_next tk y_mm_now_36 j6 jh _ (by first | assumption | omega) (by first | assumption | omega) (by first | assumption | omega)) (cwV 2 hts gX11_place_X11_stand rfl rfl rfl (by decide +kernel) ⟨Nat.le_of_ble_eq_true rfl, Nat.le_of_ble_eq_true rfl⟩) (pV (ci := 11) (k := 0) hKA (hP.sub (ws' := [(mm, .inr (11, [.ref mm_now, .ref mm_kept, .ref mm_isKept, .ref mm_refused, .int u_mm_4_36, .int u_mm_5_36, .ref mm_stands, .ref mm_far, .ref mm_queue, .int mm_queued, .ref mm_meets, .ref mm_bytes, .int (nI bl), .int (nI ta), .int (nI tl), .int mm_token, .int mm_value, .ref mm_next, .int (nI tk)])), (mm_now, .inl (cy 1, 122, .inl y_mm_now_36))]) [0, 1] rfl) (hD.sub (ws' := [(mm, .inr (11, [.ref mm_now, .ref mm_kept, .ref mm_isKept, .ref mm_refused, .int u_mm_4_36, .int u_mm_5_36, .ref mm_stands, .ref mm_far, .ref mm_queue, .int mm_queued, .ref mm_meets, .ref mm_bytes, .int (nI bl), .int (nI ta), .int (nI tl), .int mm_token, .int mm_value, .ref mm_next, .int (nI tk)])), (mm_now, .inl (cy 1, 122, .inl y_mm_now_36))]) [0, 1] (by decide) rfl) rfl rfl) rfl rfl hl.1 rfl (lv_room (Nat.le_of_ble_eq_true rfl)) dX11_place_93 ⟨Nat.le_of_ble_eq_true rfl, Nat.le_of_ble_eq_true rfl⟩) hP hD hS hA [0, 1] [2] rfl rfl (by decide +kernel) (by decide +kernel) (fun ur11 H locs hwr11 hP hD hS => ?_)
            obtain ⟨z12, rfl⟩ : ∃ z, z = ur11 := ⟨_, rfl⟩
            have hP : va_P D vwCl [(mm_refused, .inl (cy 1, 3, .inl mm_refused_f)), (mm, .inr (11, [.ref mm_now, .ref mm_kept, .ref mm_isKept, .ref mm_refused, .int u_mm_4_36, .int u_mm_5_36, .ref mm_stands, .ref mm_far, .ref mm_queue, .int mm_queued, .ref mm_meets, .ref mm_bytes, .int (nI bl), .int (nI ta), .int (nI tl), .int mm_token, .int mm_value, .ref mm_next, .int (nI tk)])), (mm_now, .inl (cy 1, 122, .inl z12))] H := hP
            have hD : va_D A [(mm_refused, .inl (cy 1, 3, .inl mm_refused_f)), (mm, .inr (11, [.ref mm_now, .ref mm_kept, .ref mm_isKept, .ref mm_refused, .int u_mm_4_36, .int u_mm_5_36, .ref mm_stands, .ref mm_far, .ref mm_queue, .int mm_queued, .ref mm_meets, .ref mm_bytes, .int (nI bl), .int (nI ta), .int (nI tl), .int mm_token, .int mm_value, .ref mm_next, .int (nI tk)])), (mm_now, .inl (cy 1, 122, .inl z12))] := hD
            have hwr11 : mV z12 mW mH mS mP := hwr11
            have hv13 := hwr11
            refine lv_iload hx hb dX11_place_96 (lv_at hl 1 rfl) ?_
            subst hQF
            have hP9 := hP.sub (ws' := [(mm, .inr (11, [.ref mm_now, .ref mm_kept, .ref mm_isKept, .ref mm_refused, .int u_mm_4_36, .int u_mm_5_36, .ref mm_stands, .ref mm_far, .ref mm_queue, .int mm_queued, .ref mm_meets, .ref mm_bytes, .int (nI bl), .int (nI ta), .int (nI tl), .int mm_token, .int mm_value, .ref mm_next, .int (nI tk)])), (mm_now, .inl (cy 1, 122, .inl z12)), (mm_refused, .inl (cy 1, 3, .inl mm_refused_f))]) [1, 2, 0] rfl
            have hD9 := hD.sub (ws' := [(mm, .inr (11, [.ref mm_now, .ref mm_kept, .ref mm_isKept, .ref mm_refused, .int u_mm_4_36, .int u_mm_5_36, .ref mm_stands, .ref mm_far, .ref mm_queue, .int mm_queued, .ref mm_meets, .ref mm_bytes, .int (nI bl), .int (nI ta), .int (nI tl), .int mm_token, .int mm_value, .ref mm_next, .int (nI tk)])), (mm_now, .inl (cy 1, 122, .inl z12)), (mm_refused, .inl (cy 1, 3, .inl mm_refused_f))]) [1, 2, 0] (by decide) rfl
            exact W.iret (v := v4_36) hx hb hr (fun t ht hW => ⟨⟨v4_36, (u_mm_4_36, u_mm_5_36, z12, mm_refused_f), rfl, ⟨_, _, _, _, hv13⟩, by rw [ht]; exact hP9, hD9⟩, hS.F ht⟩) hS.2.2 dX11_place_98
          refine lv_icmp_ge (tgt := 90) hx hb dX11_place_42 (by decide) (fun c14 => ?_) (fun c14 => ?_)
          · skip
            exact j90 _ _ hP hD hS ls hl
          · skip
            have hk42 := ltM (n := mS) (k := v5_36) (by omega) (by assumption) (by assumption)
            refine lv_iload hx hb dX11_place_45 (lv_at hl 1 rfl) ?_
            refine lv_iconst (v := (-1)) hx hb dX11_place_47 (by decide) ?_
            refine lv_icmp_ne (tgt := 90) hx hb dX11_place_48 (by decide) (fun c15 => ?_) (fun c15 => ?_)
            · skip
              exact j90 _ _ hP hD hS ls hl
            · skip
              refine lv_aload_n hx hb dX11_place_51 rfl (lv_at hl 3 rfl) ?_
              refine lv_iload hx hb dX11_place_52 (lv_at hl 0 rfl) ?_
              refine lv_iload_n hx hb dX11_place_54 rfl (lv_at hl 4 rfl) ?_
              refine W.eq (g2 := F0 m 55 ls [.int (nI j6), .int (nI v5_36), .ref mm]) (congrArg (fun v9 : Int32 => F0 m 55 ls [.int v9, .int (nI v5_36), .ref mm]) ej6) ?_
              refine rd_i (va_runV (As := [.int (nI v5_36), .int (nI j6)]) (rest := []) ⟨hx, hb, hml, hown, hts⟩ (n_X11_isFree l D cy mW mH mS mP mm mm_now mm_kept mm_isKept mm_refused u_mm_4_36 u_mm_5_36 mm_stands mm_far mm_queue mm_queued mm_meets mm_bytes bl ta tl mm_token mm_value mm_next tk y_mm_now_36 v5_36 (nI j6) _ (by first | assumption | omega) (by first | assumption | omega)) (cwV 2 hts gX11_place_X11_isFree rfl rfl rfl (by decide +kernel) ⟨Nat.le_of_ble_eq_true rfl, Nat.le_of_ble_eq_true rfl⟩) (pV (ci := 11) (k := 0) hKA (hP.sub (ws' := [(mm, .inr (11, [.ref mm_now, .ref mm_kept, .ref mm_isKept, .ref mm_refused, .int u_mm_4_36, .int u_mm_5_36, .ref mm_stands, .ref mm_far, .ref mm_queue, .int mm_queued, .ref mm_meets, .ref mm_bytes, .int (nI bl), .int (nI ta), .int (nI tl), .int mm_token, .int mm_value, .ref mm_next, .int (nI tk)])), (mm_now, .inl (cy 1, 122, .inl y_mm_now_36))]) [0, 1] rfl) (hD.sub (ws' := [(mm, .inr (11, [.ref mm_now, .ref mm_kept, .ref mm_isKept, .ref mm_refused, .int u_mm_4_36, .int u_mm_5_36, .ref mm_stands, .ref mm_far, .ref mm_queue, .int mm_queued, .ref mm_meets, .ref mm_bytes, .int (nI bl), .int (nI ta), .int (nI tl), .int mm_token, .int mm_value, .ref mm_next, .int (nI tk)])), (mm_now, .inl (cy 1, 122, .inl y_mm_now_36))]) [0, 1] (by decide) rfl) rfl rfl) rfl rfl hl.1 rfl (lv_room (Nat.le_of_ble_eq_true rfl)) dX11_place_55 ⟨Nat.le_of_ble_eq_true rfl, Nat.le_of_ble_eq_true rfl⟩) hP hS hA (fun r16 H locs hwr16 hP hS => ?_)
              have hwr16 : (r16 = 1 ∧ True) ∨ (r16 = 0 ∧ True) := hwr16
              refine lv_if_eq (tgt := 84) hx hb dX11_place_58 (by decide) (fun c17 => ?_) (fun c17 => ?_)
              · skip
                refine lv_iinc (v := nI (v5_36 + 1)) (lv' := [(5, .int (nI (v5_36 + 1))), (4, .int v4_36), (3, .int (nI jh)), (0, .ref mm), (1, .int px), (2, .int py)]) hx hb dX11_place_84 hl (k := 0) rfl (nI_1 _) (by decide) rfl (fun ls hl => ?_)
                refine lv_goto (tgt := 36) hx hb dX11_place_87 (by decide) ?_
                exact ih36 (v5_36 + 1) u_mm_4_36 u_mm_5_36 y_mm_now_36 v4_36 hi_y_mm_now_36 (by first | omega | exact nlt_max hv5_36 (by assumption)) (by first | omega | (have := nlt_max hv5_36 (by assumption); omega)) _ _ hP hD hS ls hl
              · skip
                refine lv_aload_n hx hb dX11_place_61 rfl (lv_at hl 3 rfl) ?_
                refine lv_iload_n hx hb dX11_place_62 rfl (lv_at hl 4 rfl) ?_
                refine W.eq (g2 := F0 m 63 ls [.int (nI j6), .ref mm]) (congrArg (fun v9 : Int32 => F0 m 63 ls [.int v9, .ref mm]) ej6) ?_
                refine lv_iload hx hb dX11_place_63 (lv_at hl 0 rfl) ?_
                refine wr_v (wr := [(mm_refused, .inl (cy 1, 3, .inl mm_refused_f))]) (va_runV (As := [.int (nI j6), .int (nI v5_36)]) (rest := []) ⟨hx, hb, hml, hown, hts⟩ (n_X11_stand l D cy mW mH mS mP mm mm_now mm_kept mm_isKept mm_refused u_mm_4_36 u_mm_5_36 mm_stands mm_far mm_queue mm_queued mm_meets mm_bytes bl ta tl mm_token mm_value mm_next tk y_mm_now_36 j6 v5_36 _ (by first | assumption | omega) (by first | assumption | omega) (by first | assumption | omega)) (cwV 2 hts gX11_place_X11_stand rfl rfl rfl (by decide +kernel) ⟨Nat.le_of_ble_eq_true rfl, Nat.le_of_ble_eq_true rfl⟩) (pV (ci := 11) (k := 0) hKA (hP.sub (ws' := [(mm, .inr (11, [.ref mm_now, .ref mm_kept, .ref mm_isKept, .ref mm_refused, .int u_mm_4_36, .int u_mm_5_36, .ref mm_stands, .ref mm_far, .ref mm_queue, .int mm_queued, .ref mm_meets, .ref mm_bytes, .int (nI bl), .int (nI ta), .int (nI tl), .int mm_token, .int mm_value, .ref mm_next, .int (nI tk)])), (mm_now, .inl (cy 1, 122, .inl y_mm_now_36))]) [0, 1] rfl) (hD.sub (ws' := [(mm, .inr (11, [.ref mm_now, .ref mm_kept, .ref mm_isKept, .ref mm_refused, .int u_mm_4_36, .int u_mm_5_36, .ref mm_stands, .ref mm_far, .ref mm_queue, .int mm_queued, .ref mm_meets, .ref mm_bytes, .int (nI bl), .int (nI ta), .int (nI tl), .int mm_token, .int mm_value, .ref mm_next, .int (nI tk)])), (mm_now, .inl (cy 1, 122, .inl y_mm_now_36))]) [0, 1] (by decide) rfl) rfl rfl) rfl rfl hl.1 rfl (lv_room (Nat.le_of_ble_eq_true rfl)) dX11_place_65 ⟨Nat.le_of_ble_eq_true rfl, Nat.le_of_ble_eq_true rfl⟩) hP hD hS hA [0, 1] [2] rfl rfl (by decide +kernel) (by decide +kernel) (fun ur18 H locs hwr18 hP hD hS => ?_)
                obtain ⟨z19, rfl⟩ : ∃ z, z = ur18 := ⟨_, rfl⟩
                have hP : va_P D vwCl [(mm_refused, .inl (cy 1, 3, .inl mm_refused_f)), (mm, .inr (11, [.ref mm_now, .ref mm_kept, .ref mm_isKept, .ref mm_refused, .int u_mm_4_36, .int u_mm_5_36, .ref mm_stands, .ref mm_far, .ref mm_queue, .int mm_queued, .ref mm_meets, .ref mm_bytes, .int (nI bl), .int (nI ta), .int (nI tl), .int mm_token, .int mm_value, .ref mm_next, .int (nI tk)])), (mm_now, .inl (cy 1, 122, .inl z19))] H := hP
                have hD : va_D A [(mm_refused, .inl (cy 1, 3, .inl mm_refused_f)), (mm, .inr (11, [.ref mm_now, .ref mm_kept, .ref mm_isKept, .ref mm_refused, .int u_mm_4_36, .int u_mm_5_36, .ref mm_stands, .ref mm_far, .ref mm_queue, .int mm_queued, .ref mm_meets, .ref mm_bytes, .int (nI bl), .int (nI ta), .int (nI tl), .int mm_token, .int mm_value, .ref mm_next, .int (nI tk)])), (mm_now, .inl (cy 1, 122, .inl z19))] := hD
                have hwr18 : mV z19 mW mH mS mP := hwr18
                have hv20 := hwr18
                refine lv_aload_n hx hb dX11_place_68 rfl (lv_at hl 3 rfl) ?_
                refine lv_iload_n hx hb dX11_place_69 rfl (lv_at hl 5 rfl) ?_
                refine wr_i (wr := [(mm_refused, .inl (cy 1, 3, .inl mm_refused_f))]) (va_runV (As := [.int py]) (rest := []) ⟨hx, hb, hml, hown, hts⟩ (n_X11_isTold l D cy mW mH mS mP mm mm_now mm_kept mm_isKept mm_refused u_mm_4_36 u_mm_5_36 mm_stands mm_far mm_queue mm_queued mm_meets mm_bytes bl ta tl mm_token mm_value mm_next tk z19 py _ (by first | assumption | omega)) (cwV 1 hts gX11_place_X11_isTold rfl rfl rfl (by decide +kernel) ⟨Nat.le_of_ble_eq_true rfl, Nat.le_of_ble_eq_true rfl⟩) (pV (ci := 11) (k := 0) hKA (hP.sub (ws' := [(mm, .inr (11, [.ref mm_now, .ref mm_kept, .ref mm_isKept, .ref mm_refused, .int u_mm_4_36, .int u_mm_5_36, .ref mm_stands, .ref mm_far, .ref mm_queue, .int mm_queued, .ref mm_meets, .ref mm_bytes, .int (nI bl), .int (nI ta), .int (nI tl), .int mm_token, .int mm_value, .ref mm_next, .int (nI tk)])), (mm_now, .inl (cy 1, 122, .inl z19))]) [1, 2] rfl) (hD.sub (ws' := [(mm, .inr (11, [.ref mm_now, .ref mm_kept, .ref mm_isKept, .ref mm_refused, .int u_mm_4_36, .int u_mm_5_36, .ref mm_stands, .ref mm_far, .ref mm_queue, .int mm_queued, .ref mm_meets, .ref mm_bytes, .int (nI bl), .int (nI ta), .int (nI tl), .int mm_token, .int mm_value, .ref mm_next, .int (nI tk)])), (mm_now, .inl (cy 1, 122, .inl z19))]) [1, 2] (by decide) rfl) rfl rfl) rfl rfl hl.1 rfl (lv_room (Nat.le_of_ble_eq_true rfl)) dX11_place_70 ⟨Nat.le_of_ble_eq_true rfl, Nat.le_of_ble_eq_true rfl⟩) hP hD hS hA [1, 2] [0] rfl rfl (by decide +kernel) (by decide +kernel) (fun r21 ur21 H locs hwr21 hP hD hS => ?_)
                obtain ⟨z22, z23⟩ := ur21
                have hP : va_P D vwCl [(mm_refused, .inl (cy 1, 3, .inl mm_refused_f)), (mm, .inr (11, [.ref mm_now, .ref mm_kept, .ref mm_isKept, .ref mm_refused, .int z22, .int z23, .ref mm_stands, .ref mm_far, .ref mm_queue, .int mm_queued, .ref mm_meets, .ref mm_bytes, .int (nI bl), .int (nI ta), .int (nI tl), .int mm_token, .int mm_value, .ref mm_next, .int (nI tk)])), (mm_now, .inl (cy 1, 122, .inl z19))] H := hP
                have hD : va_D A [(mm_refused, .inl (cy 1, 3, .inl mm_refused_f)), (mm, .inr (11, [.ref mm_now, .ref mm_kept, .ref mm_isKept, .ref mm_refused, .int z22, .int z23, .ref mm_stands, .ref mm_far, .ref mm_queue, .int mm_queued, .ref mm_meets, .ref mm_bytes, .int (nI bl), .int (nI ta), .int (nI tl), .int mm_token, .int mm_value, .ref mm_next, .int (nI tk)])), (mm_now, .inl (cy 1, 122, .inl z19))] := hD
                have hwr21 : (r21 = 1 ∧ True) ∨ (r21 = 0 ∧ True) := hwr21
                refine lv_if_eq (tgt := 81) hx hb dX11_place_73 (by decide) (fun c24 => ?_) (fun c24 => ?_)
                · skip
                  refine lv_iconst (v := (-1)) hx hb dX11_place_81 (by decide) ?_
                  refine lv_istore (lv' := [(4, .int (-1)), (5, .int (nI v5_36)), (3, .int (nI jh)), (0, .ref mm), (1, .int px), (2, .int py)]) hx hb dX11_place_82 hl (by decide) rfl (fun ls hl => ?_)
                  refine lv_iinc (v := nI (v5_36 + 1)) (lv' := [(5, .int (nI (v5_36 + 1))), (4, .int (-1)), (3, .int (nI jh)), (0, .ref mm), (1, .int px), (2, .int py)]) hx hb dX11_place_84 hl (k := 1) rfl (nI_1 _) (by decide) rfl (fun ls hl => ?_)
                  refine lv_goto (tgt := 36) hx hb dX11_place_87 (by decide) ?_
                  exact ih36 (v5_36 + 1) z22 z23 z19 (-1) hv20 (by first | omega | exact nlt_max hv5_36 (by assumption)) (by first | omega | (have := nlt_max hv5_36 (by assumption); omega)) _ _ (hP.sub (ws' := [(mm, .inr (11, [.ref mm_now, .ref mm_kept, .ref mm_isKept, .ref mm_refused, .int z22, .int z23, .ref mm_stands, .ref mm_far, .ref mm_queue, .int mm_queued, .ref mm_meets, .ref mm_bytes, .int (nI bl), .int (nI ta), .int (nI tl), .int mm_token, .int mm_value, .ref mm_next, .int (nI tk)])), (mm_now, .inl (cy 1, 122, .inl z19)), (mm_refused, .inl (cy 1, 3, .inl mm_refused_f))]) [1, 2, 0] rfl) (hD.sub (ws' := [(mm, .inr (11, [.ref mm_now, .ref mm_kept, .ref mm_isKept, .ref mm_refused, .int z22, .int z23, .ref mm_stands, .ref mm_far, .ref mm_queue, .int mm_queued, .ref mm_meets, .ref mm_bytes, .int (nI bl), .int (nI ta), .int (nI tl), .int mm_token, .int mm_value, .ref mm_next, .int (nI tk)])), (mm_now, .inl (cy 1, 122, .inl z19)), (mm_refused, .inl (cy 1, 3, .inl mm_refused_f))]) [1, 2, 0] (by decide) rfl) hS ls hl
                · skip
                  refine lv_iload hx hb dX11_place_76 (lv_at hl 0 rfl) ?_
                  refine lv_goto (tgt := 82) hx hb dX11_place_78 (by decide) ?_
                  refine lv_istore (lv' := [(4, .int (nI v5_36)), (5, .int (nI v5_36)), (3, .int (nI jh)), (0, .ref mm), (1, .int px), (2, .int py)]) hx hb dX11_place_82 hl (by decide) rfl (fun ls hl => ?_)
                  refine lv_iinc (v := nI (v5_36 + 1)) (lv' := [(5, .int (nI (v5_36 + 1))), (4, .int (nI v5_36)), (3, .int (nI jh)), (0, .ref mm), (1, .int px), (2, .int py)]) hx hb dX11_place_84 hl (k := 1) rfl (nI_1 _) (by decide) rfl (fun ls hl => ?_)
                  refine lv_goto (tgt := 36) hx hb dX11_place_87 (by decide) ?_
                  exact ih36 (v5_36 + 1) z22 z23 z19 (nI v5_36) hv20 (by first | omega | exact nlt_max hv5_36 (by assumption)) (by first | omega | (have := nlt_max hv5_36 (by assumption); omega)) _ _ (hP.sub (ws' := [(mm, .inr (11, [.ref mm_now, .ref mm_kept, .ref mm_isKept, .ref mm_refused, .int z22, .int z23, .ref mm_stands, .ref mm_far, .ref mm_queue, .int mm_queued, .ref mm_meets, .ref mm_bytes, .int (nI bl), .int (nI ta), .int (nI tl), .int mm_token, .int mm_value, .ref mm_next, .int (nI tk)])), (mm_now, .inl (cy 1, 122, .inl z19)), (mm_refused, .inl (cy 1, 3, .inl mm_refused_f))]) [1, 2, 0] rfl) (hD.sub (ws' := [(mm, .inr (11, [.ref mm_now, .ref mm_kept, .ref mm_isKept, .ref mm_refused, .int z22, .int z23, .ref mm_stands, .ref mm_far, .ref mm_queue, .int mm_queued, .ref mm_meets, .ref mm_bytes, .int (nI bl), .int (nI ta), .int (nI tl), .int mm_token, .int mm_value, .ref mm_next, .int (nI tk)])), (mm_now, .inl (cy 1, 122, .inl z19)), (mm_refused, .inl (cy 1, 3, .inl mm_refused_f))]) [1, 2, 0] (by decide) rfl) hS ls hl
      exact lp36 (2147483648 - 0 + 1) 0 mm_lineFrom mm_lineTo mm_now_f (-1) hF (by first | omega | exact nlt_max (by assumption) (by assumption)) (Nat.lt_succ_self _) _ _ hP hD hS ls hl
    · skip
      refine lv_aload_n hx hb dX11_place_16 rfl (lv_at hl 0 rfl) ?_
      refine lv_bipush (v := (-2)) hx hb dX11_place_17 (by decide) ?_
      refine wr_i (wr := [(mm_now, .inl (cy 1, 122, .inl mm_now_f))]) (va_runV (As := [.int (-2)]) (rest := []) ⟨hx, hb, hml, hown, hts⟩ (n_X11_bad l D cy mm mm_now mm_kept mm_isKept mm_refused mm_lineFrom mm_lineTo mm_stands mm_far mm_queue mm_queued mm_meets mm_bytes bl ta tl mm_token mm_value mm_next tk mm_refused_f (-2) _ ) (cwV 1 hts gX11_place_X11_bad rfl rfl rfl (by decide +kernel) ⟨Nat.le_of_ble_eq_true rfl, Nat.le_of_ble_eq_true rfl⟩) (pV (ci := 11) (k := 0) hKA (hP.sub (ws' := [(mm, .inr (11, [.ref mm_now, .ref mm_kept, .ref mm_isKept, .ref mm_refused, .int mm_lineFrom, .int mm_lineTo, .ref mm_stands, .ref mm_far, .ref mm_queue, .int mm_queued, .ref mm_meets, .ref mm_bytes, .int (nI bl), .int (nI ta), .int (nI tl), .int mm_token, .int mm_value, .ref mm_next, .int (nI tk)])), (mm_refused, .inl (cy 1, 3, .inl mm_refused_f))]) [0, 2] rfl) (hD.sub (ws' := [(mm, .inr (11, [.ref mm_now, .ref mm_kept, .ref mm_isKept, .ref mm_refused, .int mm_lineFrom, .int mm_lineTo, .ref mm_stands, .ref mm_far, .ref mm_queue, .int mm_queued, .ref mm_meets, .ref mm_bytes, .int (nI bl), .int (nI ta), .int (nI tl), .int mm_token, .int mm_value, .ref mm_next, .int (nI tk)])), (mm_refused, .inl (cy 1, 3, .inl mm_refused_f))]) [0, 2] (by decide) rfl) rfl rfl) rfl rfl hl.1 rfl (lv_room (Nat.le_of_ble_eq_true rfl)) dX11_place_19 ⟨Nat.le_of_ble_eq_true rfl, Nat.le_of_ble_eq_true rfl⟩) hP hD hS hA [0, 2] [1] rfl rfl (by decide +kernel) (by decide +kernel) (fun r25 ur25 H locs hwr25 hP hD hS => ?_)
      obtain ⟨z26, rfl⟩ : ∃ z, z = ur25 := ⟨_, rfl⟩
      have hP : va_P D vwCl [(mm_now, .inl (cy 1, 122, .inl mm_now_f)), (mm, .inr (11, [.ref mm_now, .ref mm_kept, .ref mm_isKept, .ref mm_refused, .int mm_lineFrom, .int mm_lineTo, .ref mm_stands, .ref mm_far, .ref mm_queue, .int mm_queued, .ref mm_meets, .ref mm_bytes, .int (nI bl), .int (nI ta), .int (nI tl), .int mm_token, .int mm_value, .ref mm_next, .int (nI tk)])), (mm_refused, .inl (cy 1, 3, .inl z26))] H := hP
      have hD : va_D A [(mm_now, .inl (cy 1, 122, .inl mm_now_f)), (mm, .inr (11, [.ref mm_now, .ref mm_kept, .ref mm_isKept, .ref mm_refused, .int mm_lineFrom, .int mm_lineTo, .ref mm_stands, .ref mm_far, .ref mm_queue, .int mm_queued, .ref mm_meets, .ref mm_bytes, .int (nI bl), .int (nI ta), .int (nI tl), .int mm_token, .int mm_value, .ref mm_next, .int (nI tk)])), (mm_refused, .inl (cy 1, 3, .inl z26))] := hD
      have hwr25 : r25 = (-2) := hwr25
      subst hwr25
      subst hQF
      have hP9 := hP.sub (ws' := [(mm, .inr (11, [.ref mm_now, .ref mm_kept, .ref mm_isKept, .ref mm_refused, .int mm_lineFrom, .int mm_lineTo, .ref mm_stands, .ref mm_far, .ref mm_queue, .int mm_queued, .ref mm_meets, .ref mm_bytes, .int (nI bl), .int (nI ta), .int (nI tl), .int mm_token, .int mm_value, .ref mm_next, .int (nI tk)])), (mm_now, .inl (cy 1, 122, .inl mm_now_f)), (mm_refused, .inl (cy 1, 3, .inl z26))]) [1, 0, 2] rfl
      have hD9 := hD.sub (ws' := [(mm, .inr (11, [.ref mm_now, .ref mm_kept, .ref mm_isKept, .ref mm_refused, .int mm_lineFrom, .int mm_lineTo, .ref mm_stands, .ref mm_far, .ref mm_queue, .int mm_queued, .ref mm_meets, .ref mm_bytes, .int (nI bl), .int (nI ta), .int (nI tl), .int mm_token, .int mm_value, .ref mm_next, .int (nI tk)])), (mm_now, .inl (cy 1, 122, .inl mm_now_f)), (mm_refused, .inl (cy 1, 3, .inl z26))]) [1, 0, 2] (by decide) rfl
      exact W.iret (v := (-2)) hx hb hr (fun t ht hW => ⟨⟨(-2), (mm_lineFrom, mm_lineTo, mm_now_f, z26), rfl, ⟨_, _, _, _, hF⟩, by rw [ht]; exact hP9, hD9⟩, hS.F ht⟩) hS.2.2 dX11_place_22

set_option maxHeartbeats 4000000 in
set_option maxRecDepth 100000 in
theorem n_X11_winds (l : Launch) (D : va_G) (cy : Nat → ClassId) (mm : Nat) (mm_now : Nat) (mm_kept : Nat) (mm_isKept : Nat) (mm_refused : Nat) (mm_lineFrom : Int32) (mm_lineTo : Int32) (mm_stands : Nat) (mm_far : Nat) (mm_queue : Nat) (mm_queued : Int32) (mm_meets : Nat) (mm_bytes : Nat) (bl : Nat) (ta : Nat) (tl : Nat) (mm_token : Int32) (mm_value : Int32) (mm_next : Nat) (tk : Nat) (mm_now_f : Nat → Int32) (mm_refused_f : Nat → Int32) (px : Int32) (sz : Nat) (hN : mN mm_now_f) : Met l yX11_winds wsX11_winds ({ frames := 9, cells := 0, slots := 0, locals := 206 }) (va_Pc [.ref mm, .int px] (kPre D cy [(mm, .inr (11, [.ref mm_now, .ref mm_kept, .ref mm_isKept, .ref mm_refused, .int mm_lineFrom, .int mm_lineTo, .ref mm_stands, .ref mm_far, .ref mm_queue, .int mm_queued, .ref mm_meets, .ref mm_bytes, .int (nI bl), .int (nI ta), .int (nI tl), .int mm_token, .int mm_value, .ref mm_next, .int (nI tk)])), (mm_now, .inl (cy 1, 122, .inl mm_now_f)), (mm_refused, .inl (cy 1, 3, .inl mm_refused_f))] sz)) (va_Qi (fun (r : Int32) (u : Int32 × Int32 × (Nat → Int32) × (Nat → Int32)) => mN u.2.2.1) (fun (u : Int32 × Int32 × (Nat → Int32) × (Nat → Int32)) t => va_P D vwCl ([(mm, .inr (11, [.ref mm_now, .ref mm_kept, .ref mm_isKept, .ref mm_refused, .int u.1, .int u.2.1, .ref mm_stands, .ref mm_far, .ref mm_queue, .int mm_queued, .ref mm_meets, .ref mm_bytes, .int (nI bl), .int (nI ta), .int (nI tl), .int mm_token, .int mm_value, .ref mm_next, .int (nI tk)])), (mm_now, .inl (cy 1, 122, .inl u.2.2.1)), (mm_refused, .inl (cy 1, 3, .inl u.2.2.2))]) t.heap ∧ va_D (va_A [(mm, .inr (11, [.ref mm_now, .ref mm_kept, .ref mm_isKept, .ref mm_refused, .int mm_lineFrom, .int mm_lineTo, .ref mm_stands, .ref mm_far, .ref mm_queue, .int mm_queued, .ref mm_meets, .ref mm_bytes, .int (nI bl), .int (nI ta), .int (nI tl), .int mm_token, .int mm_value, .ref mm_next, .int (nI tk)])), (mm_now, .inl (cy 1, 122, .inl mm_now_f)), (mm_refused, .inl (cy 1, 3, .inl mm_refused_f))] sz) ([(mm, .inr (11, [.ref mm_now, .ref mm_kept, .ref mm_isKept, .ref mm_refused, .int u.1, .int u.2.1, .ref mm_stands, .ref mm_far, .ref mm_queue, .int mm_queued, .ref mm_meets, .ref mm_bytes, .int (nI bl), .int (nI ta), .int (nI tl), .int mm_token, .int mm_value, .ref mm_next, .int (nI tk)])), (mm_now, .inl (cy 1, 122, .inl u.2.2.1)), (mm_refused, .inl (cy 1, 3, .inl u.2.2.2))])) (va_A [(mm, .inr (11, [.ref mm_now, .ref mm_kept, .ref mm_isKept, .ref mm_refused, .int mm_lineFrom, .int mm_lineTo, .ref mm_stands, .ref mm_far, .ref mm_queue, .int mm_queued, .ref mm_meets, .ref mm_bytes, .int (nI bl), .int (nI ta), .int (nI tl), .int mm_token, .int mm_value, .ref mm_next, .int (nI tk)])), (mm_now, .inl (cy 1, 122, .inl mm_now_f)), (mm_refused, .inl (cy 1, 3, .inl mm_refused_f))] sz)) 0 0 (va_A [(mm, .inr (11, [.ref mm_now, .ref mm_kept, .ref mm_isKept, .ref mm_refused, .int mm_lineFrom, .int mm_lineTo, .ref mm_stands, .ref mm_far, .ref mm_queue, .int mm_queued, .ref mm_meets, .ref mm_bytes, .int (nI bl), .int (nI ta), .int (nI tl), .int mm_token, .int mm_value, .ref mm_next, .int (nI tk)])), (mm_now, .inl (cy 1, 122, .inl mm_now_f)), (mm_refused, .inl (cy 1, 3, .inl mm_refused_f))] sz) := by
  refine Met.ofW (cc := cX11_winds) (maxL := 5) (ret := (some .int)) (by decide) rfl ?_
  intro p e s m args below meth c s₁ B hml hv
  obtain ⟨rfl, hsz, hP, hKA, hD0⟩ := hv
  have hx := B.exec
  have hb := B.bytes
  have hr := B.returns
  have hts := atoms_spec (ws := wsX11_winds) B.pre
  have hown : s.vm.findClass RX11 = some m.cls := findClass_of_methodNamed B.named
  have hlocks := B.notSynchronized
  subst hsz
  have hK := hKA.1
  have hD := hD0.self (sz := s.heap.size)
  generalize hAe : va_A [(mm, .inr (11, [.ref mm_now, .ref mm_kept, .ref mm_isKept, .ref mm_refused, .int mm_lineFrom, .int mm_lineTo, .ref mm_stands, .ref mm_far, .ref mm_queue, .int mm_queued, .ref mm_meets, .ref mm_bytes, .int (nI bl), .int (nI ta), .int (nI tl), .int mm_token, .int mm_value, .ref mm_next, .int (nI tk)])), (mm_now, .inl (cy 1, 122, .inl mm_now_f)), (mm_refused, .inl (cy 1, 3, .inl mm_refused_f))] s.heap.size = A at hD ⊢
  have hA : ∀ q : Nat, s.heap.size ≤ q → A q := fun q h => by rw [← hAe]; exact Or.inr h
  have hS : va_S A s.heap s.heap [] := va_S.rf
  have hP : va_P D vwCl [(mm, .inr (11, [.ref mm_now, .ref mm_kept, .ref mm_isKept, .ref mm_refused, .int mm_lineFrom, .int mm_lineTo, .ref mm_stands, .ref mm_far, .ref mm_queue, .int mm_queued, .ref mm_meets, .ref mm_bytes, .int (nI bl), .int (nI ta), .int (nI tl), .int mm_token, .int mm_value, .ref mm_next, .int (nI tk)])), (mm_now, .inl (cy 1, 122, .inl mm_now_f)), (mm_refused, .inl (cy 1, 3, .inl mm_refused_f))] s.heap := hP
  have hl := lv_entry ([.ref mm, .int px]) (n := 5) (Nat.le_of_ble_eq_true rfl)
  rw [lg_entry_eq]
  generalize (lg_sl ([.ref mm, .int px]) ++ List.replicate (5 - (lg_sl ([.ref mm, .int px])).length) Slot.unset).toArray = ls at hl ⊢
  have hl : lv_has ls 5 [(0, .ref mm), (1, .int px)] := hl
  refine qW (fun QF hQF => ?_)
  have z0_ := hts (.fieldLink RX11 7 "HeardSeenModel" "now" "[I") (by decide +kernel)
  have zi11_ : ∀ w ∈ u_ws RX11 TX11 19, w ∈ wsX11_winds := by decide +kernel
  obtain ⟨mW, mH, mS, mP, hF⟩ := hN
  obtain ⟨hW2, hW6, hH2, hH6, hSe, hS4, hS6, hP5⟩ := hF.rng
  refine lv_aload_n hx hb dX11_winds_0 rfl (lv_at hl 0 rfl) ?_
  refine lv_iload_n hx hb dX11_winds_1 rfl (lv_at hl 1 rfl) ?_
  refine rd_i (va_runV (As := [.int px]) (rest := []) ⟨hx, hb, hml, hown, hts⟩ (n_X11_isSet l D cy mW mH mS mP mm mm_now mm_kept mm_isKept mm_refused mm_lineFrom mm_lineTo mm_stands mm_far mm_queue mm_queued mm_meets mm_bytes bl ta tl mm_token mm_value mm_next tk mm_now_f px _ (by first | assumption | omega)) (cwV 1 hts gX11_winds_X11_isSet rfl rfl rfl (by decide +kernel) ⟨Nat.le_of_ble_eq_true rfl, Nat.le_of_ble_eq_true rfl⟩) (pV (ci := 11) (k := 0) hKA (hP.sub (ws' := [(mm, .inr (11, [.ref mm_now, .ref mm_kept, .ref mm_isKept, .ref mm_refused, .int mm_lineFrom, .int mm_lineTo, .ref mm_stands, .ref mm_far, .ref mm_queue, .int mm_queued, .ref mm_meets, .ref mm_bytes, .int (nI bl), .int (nI ta), .int (nI tl), .int mm_token, .int mm_value, .ref mm_next, .int (nI tk)])), (mm_now, .inl (cy 1, 122, .inl mm_now_f))]) [0, 1] rfl) (hD.sub (ws' := [(mm, .inr (11, [.ref mm_now, .ref mm_kept, .ref mm_isKept, .ref mm_refused, .int mm_lineFrom, .int mm_lineTo, .ref mm_stands, .ref mm_far, .ref mm_queue, .int mm_queued, .ref mm_meets, .ref mm_bytes, .int (nI bl), .int (nI ta), .int (nI tl), .int mm_token, .int mm_value, .ref mm_next, .int (nI tk)])), (mm_now, .inl (cy 1, 122, .inl mm_now_f))]) [0, 1] (by decide) rfl) rfl rfl) rfl rfl hl.1 rfl (lv_room (Nat.le_of_ble_eq_true rfl)) dX11_winds_2 ⟨Nat.le_of_ble_eq_true rfl, Nat.le_of_ble_eq_true rfl⟩) hP hS hA (fun r1 H locs hwr1 hP hS => ?_)
  have hwr1 : (r1 = 1 ∧ True) ∨ (r1 = 0 ∧ True) := hwr1
  refine lv_if_ne (tgt := 15) hx hb dX11_winds_5 (by decide) (fun c2 => ?_) (fun c2 => ?_)
  · skip
    refine lv_aload_n hx hb dX11_winds_15 rfl (lv_at hl 0 rfl) ?_
    refine va_get (D := D) (ci := 11) (v := .ref mm_now) (C := RX11) (T := TX11) (N := 19) hx hb hts zi11_ hown hK hP 0 rfl rfl 0 (by decide) z0_ (fun _ h9 => h9) rfl dX11_winds_16 ?_
    refine lv_iconst (v := 3) hx hb dX11_winds_19 (by decide) ?_
    refine my_iald hx hb hK hP 1 1 rfl rfl (by rw [vp_in_iff]; decide +kernel) (k := 3) (by decide +kernel) dX11_winds_20 ?_
    refine lv_topi (fun x3 ex3 => ?_)
    refine lv_istore_n (lv' := [(2, .int x3), (0, .ref mm), (1, .int px)]) hx hb dX11_winds_21 rfl hl (by decide) rfl (fun ls hl => ?_)
    refine lv_iconst (v := 0) hx hb dX11_winds_22 (by decide) ?_
    refine lv_istore_n (lv' := [(3, .int 0), (2, .int x3), (0, .ref mm), (1, .int px)]) hx hb dX11_winds_23 rfl hl (by decide) rfl (fun ls hl => ?_)
    refine lv_iconst (v := (-1)) hx hb dX11_winds_24 (by decide) ?_
    refine lv_istore (lv' := [(4, .int (-1)), (3, .int 0), (2, .int x3), (0, .ref mm), (1, .int px)]) hx hb dX11_winds_25 hl (by decide) rfl (fun ls hl => ?_)
    have lp27 : ∀ (n27 : Nat) (v4_27 : Int32) (u_mm_4_27 : Int32) (u_mm_5_27 : Int32) (y_mm_now_27 : Nat → Int32) (v3_27 : Int32) (hi_y_mm_now_27 : mV y_mm_now_27 mW mH mS mP), (2147483647 - (v4_27 : Int32).toInt).toNat < n27 → ∀ (H : Heap) (locs : List Loc), va_P D vwCl [(mm, .inr (11, [.ref mm_now, .ref mm_kept, .ref mm_isKept, .ref mm_refused, .int u_mm_4_27, .int u_mm_5_27, .ref mm_stands, .ref mm_far, .ref mm_queue, .int mm_queued, .ref mm_meets, .ref mm_bytes, .int (nI bl), .int (nI ta), .int (nI tl), .int mm_token, .int mm_value, .ref mm_next, .int (nI tk)])), (mm_now, .inl (cy 1, 122, .inl y_mm_now_27)), (mm_refused, .inl (cy 1, 3, .inl mm_refused_f))] H → va_D A [(mm, .inr (11, [.ref mm_now, .ref mm_kept, .ref mm_isKept, .ref mm_refused, .int u_mm_4_27, .int u_mm_5_27, .ref mm_stands, .ref mm_far, .ref mm_queue, .int mm_queued, .ref mm_meets, .ref mm_bytes, .int (nI bl), .int (nI ta), .int (nI tl), .int mm_token, .int mm_value, .ref mm_next, .int (nI tk)])), (mm_now, .inl (cy 1, 122, .inl y_mm_now_27)), (mm_refused, .inl (cy 1, 3, .inl mm_refused_f))] → va_S A s.heap H locs → ∀ ls : Array Slot, lv_has ls 5 [(4, .int v4_27), (3, .int v3_27), (2, .int x3), (0, .ref mm), (1, .int px)] → W p l e (headSpec wsX11_winds ({ frames := 9, cells := 0, slots := 0, locals := 206 })).room s m [.ref mm, .int px].toArray below meth c H locs 0 0 QF (F0 m 27 ls []) := by
      intro n27
      induction n27 with
      | zero => intro v4_27 u_mm_4_27 u_mm_5_27 y_mm_now_27 v3_27 hi_y_mm_now_27 hm; exact absurd hm (Nat.not_lt_zero _)
      | succ n27 ih27 =>
        intro v4_27 u_mm_4_27 u_mm_5_27 y_mm_now_27 v3_27 hi_y_mm_now_27 hm27 H locs hP hD hS ls hl
        refine lv_iload hx hb dX11_winds_27 (lv_at hl 0 rfl) ?_
        refine lv_iconst (v := 1) hx hb dX11_winds_29 (by decide) ?_
        refine lv_icmp_gt (tgt := 68) hx hb dX11_winds_30 (by decide) (fun c4 => ?_) (fun c4 => ?_)
        · skip
          refine lv_aload_n hx hb dX11_winds_68 rfl (lv_at hl 3 rfl) ?_
          refine va_get (D := D) (ci := 11) (v := .ref mm_now) (C := RX11) (T := TX11) (N := 19) hx hb hts zi11_ hown hK hP 0 rfl rfl 0 (by decide) z0_ (fun _ h9 => h9) rfl dX11_winds_69 ?_
          refine lv_iconst (v := 3) hx hb dX11_winds_72 (by decide) ?_
          refine lv_iload_n hx hb dX11_winds_73 rfl (lv_at hl 2 rfl) ?_
          refine my_iast hx hb hK hP hD hS 1 1 rfl rfl (by rw [vp_in_iff]; decide +kernel) (k := 3) (by decide +kernel) dX11_winds_74 (fun H locs hP hD hS => ?_)
          have hP : va_P D vwCl [(mm, .inr (11, [.ref mm_now, .ref mm_kept, .ref mm_isKept, .ref mm_refused, .int u_mm_4_27, .int u_mm_5_27, .ref mm_stands, .ref mm_far, .ref mm_queue, .int mm_queued, .ref mm_meets, .ref mm_bytes, .int (nI bl), .int (nI ta), .int (nI tl), .int mm_token, .int mm_value, .ref mm_next, .int (nI tk)])), (mm_now, .inl (cy 1, 122, .inl (upd y_mm_now_27 3 x3))), (mm_refused, .inl (cy 1, 3, .inl mm_refused_f))] H := hP
          have hD : va_D A [(mm, .inr (11, [.ref mm_now, .ref mm_kept, .ref mm_isKept, .ref mm_refused, .int u_mm_4_27, .int u_mm_5_27, .ref mm_stands, .ref mm_far, .ref mm_queue, .int mm_queued, .ref mm_meets, .ref mm_bytes, .int (nI bl), .int (nI ta), .int (nI tl), .int mm_token, .int mm_value, .ref mm_next, .int (nI tk)])), (mm_now, .inl (cy 1, 122, .inl (upd y_mm_now_27 3 x3))), (mm_refused, .inl (cy 1, 3, .inl mm_refused_f))] := hD
          obtain ⟨f5, ef5⟩ : ∃ y : Nat → Int32, y = upd y_mm_now_27 3 x3 := ⟨_, rfl⟩
          rw [← ef5] at hP hD
          have hf5 : mV f5 mW mH mS mP := by rw [ef5]; exact mV.put23 hi_y_mm_now_27 3 _ (by decide)
          have hP : va_P D vwCl [(mm, .inr (11, [.ref mm_now, .ref mm_kept, .ref mm_isKept, .ref mm_refused, .int u_mm_4_27, .int u_mm_5_27, .ref mm_stands, .ref mm_far, .ref mm_queue, .int mm_queued, .ref mm_meets, .ref mm_bytes, .int (nI bl), .int (nI ta), .int (nI tl), .int mm_token, .int mm_value, .ref mm_next, .int (nI tk)])), (mm_now, .inl (cy 1, 122, .inl f5)), (mm_refused, .inl (cy 1, 3, .inl mm_refused_f))] H := hP
          have hD : va_D A [(mm, .inr (11, [.ref mm_now, .ref mm_kept, .ref mm_isKept, .ref mm_refused, .int u_mm_4_27, .int u_mm_5_27, .ref mm_stands, .ref mm_far, .ref mm_queue, .int mm_queued, .ref mm_meets, .ref mm_bytes, .int (nI bl), .int (nI ta), .int (nI tl), .int mm_token, .int mm_value, .ref mm_next, .int (nI tk)])), (mm_now, .inl (cy 1, 122, .inl f5)), (mm_refused, .inl (cy 1, 3, .inl mm_refused_f))] := hD
          refine lv_iload_n hx hb dX11_winds_75 rfl (lv_at hl 1 rfl) ?_
          subst hQF
          have hP9 := hP
          have hD9 := hD
          exact W.iret (v := v3_27) hx hb hr (fun t ht hW => ⟨⟨v3_27, (u_mm_4_27, u_mm_5_27, f5, mm_refused_f), rfl, ⟨_, _, _, _, hf5⟩, by rw [ht]; exact hP9, hD9⟩, hS.F ht⟩) hS.2.2 dX11_winds_76
        · skip
          refine lv_aload_n hx hb dX11_winds_33 rfl (lv_at hl 3 rfl) ?_
          refine va_get (D := D) (ci := 11) (v := .ref mm_now) (C := RX11) (T := TX11) (N := 19) hx hb hts zi11_ hown hK hP 0 rfl rfl 0 (by decide) z0_ (fun _ h9 => h9) rfl dX11_winds_34 ?_
          refine lv_iconst (v := 3) hx hb dX11_winds_37 (by decide) ?_
          refine lv_iload hx hb dX11_winds_38 (lv_at hl 0 rfl) ?_
          refine my_iast hx hb hK hP hD hS 1 1 rfl rfl (by rw [vp_in_iff]; decide +kernel) (k := 3) (by decide +kernel) dX11_winds_40 (fun H locs hP hD hS => ?_)
          have hP : va_P D vwCl [(mm, .inr (11, [.ref mm_now, .ref mm_kept, .ref mm_isKept, .ref mm_refused, .int u_mm_4_27, .int u_mm_5_27, .ref mm_stands, .ref mm_far, .ref mm_queue, .int mm_queued, .ref mm_meets, .ref mm_bytes, .int (nI bl), .int (nI ta), .int (nI tl), .int mm_token, .int mm_value, .ref mm_next, .int (nI tk)])), (mm_now, .inl (cy 1, 122, .inl (upd y_mm_now_27 3 v4_27))), (mm_refused, .inl (cy 1, 3, .inl mm_refused_f))] H := hP
          have hD : va_D A [(mm, .inr (11, [.ref mm_now, .ref mm_kept, .ref mm_isKept, .ref mm_refused, .int u_mm_4_27, .int u_mm_5_27, .ref mm_stands, .ref mm_far, .ref mm_queue, .int mm_queued, .ref mm_meets, .ref mm_bytes, .int (nI bl), .int (nI ta), .int (nI tl), .int mm_token, .int mm_value, .ref mm_next, .int (nI tk)])), (mm_now, .inl (cy 1, 122, .inl (upd y_mm_now_27 3 v4_27))), (mm_refused, .inl (cy 1, 3, .inl mm_refused_f))] := hD
          obtain ⟨f6, ef6⟩ : ∃ y : Nat → Int32, y = upd y_mm_now_27 3 v4_27 := ⟨_, rfl⟩
          rw [← ef6] at hP hD
          have hf6 : mV f6 mW mH mS mP := by rw [ef6]; exact mV.put23 hi_y_mm_now_27 3 _ (by decide)
          have hP : va_P D vwCl [(mm, .inr (11, [.ref mm_now, .ref mm_kept, .ref mm_isKept, .ref mm_refused, .int u_mm_4_27, .int u_mm_5_27, .ref mm_stands, .ref mm_far, .ref mm_queue, .int mm_queued, .ref mm_meets, .ref mm_bytes, .int (nI bl), .int (nI ta), .int (nI tl), .int mm_token, .int mm_value, .ref mm_next, .int (nI tk)])), (mm_now, .inl (cy 1, 122, .inl f6)), (mm_refused, .inl (cy 1, 3, .inl mm_refused_f))] H := hP
          have hD : va_D A [(mm, .inr (11, [.ref mm_now, .ref mm_kept, .ref mm_isKept, .ref mm_refused, .int u_mm_4_27, .int u_mm_5_27, .ref mm_stands, .ref mm_far, .ref mm_queue, .int mm_queued, .ref mm_meets, .ref mm_bytes, .int (nI bl), .int (nI ta), .int (nI tl), .int mm_token, .int mm_value, .ref mm_next, .int (nI tk)])), (mm_now, .inl (cy 1, 122, .inl f6)), (mm_refused, .inl (cy 1, 3, .inl mm_refused_f))] := hD
          refine lv_iload_n hx hb dX11_winds_41 rfl (lv_at hl 1 rfl) ?_
          refine lv_aload_n hx hb dX11_winds_42 rfl (lv_at hl 3 rfl) ?_
          refine lv_iload_n hx hb dX11_winds_43 rfl (lv_at hl 4 rfl) ?_
          refine wr_i (wr := [(mm_refused, .inl (cy 1, 3, .inl mm_refused_f))]) (va_runV (As := [.int px]) (rest := [.int v3_27]) ⟨hx, hb, hml, hown, hts⟩ (n_X11_isTold l D cy mW mH mS mP mm mm_now mm_kept mm_isKept mm_refused u_mm_4_27 u_mm_5_27 mm_stands mm_far mm_queue mm_queued mm_meets mm_bytes bl ta tl mm_token mm_value mm_next tk f6 px _ (by first | assumption | omega)) (cwV 1 hts gX11_winds_X11_isTold rfl rfl rfl (by decide +kernel) ⟨Nat.le_of_ble_eq_true rfl, Nat.le_of_ble_eq_true rfl⟩) (pV (ci := 11) (k := 0) hKA (hP.sub (ws' := [(mm, .inr (11, [.ref mm_now, .ref mm_kept, .ref mm_isKept, .ref mm_refused, .int u_mm_4_27, .int u_mm_5_27, .ref mm_stands, .ref mm_far, .ref mm_queue, .int mm_queued, .ref mm_meets, .ref mm_bytes, .int (nI bl), .int (nI ta), .int (nI tl), .int mm_token, .int mm_value, .ref mm_next, .int (nI tk)])), (mm_now, .inl (cy 1, 122, .inl f6))]) [0, 1] rfl) (hD.sub (ws' := [(mm, .inr (11, [.ref mm_now, .ref mm_kept, .ref mm_isKept, .ref mm_refused, .int u_mm_4_27, .int u_mm_5_27, .ref mm_stands, .ref mm_far, .ref mm_queue, .int mm_queued, .ref mm_meets, .ref mm_bytes, .int (nI bl), .int (nI ta), .int (nI tl), .int mm_token, .int mm_value, .ref mm_next, .int (nI tk)])), (mm_now, .inl (cy 1, 122, .inl f6))]) [0, 1] (by decide) rfl) rfl rfl) rfl rfl hl.1 rfl (lv_room (Nat.le_of_ble_eq_true rfl)) dX11_winds_44 ⟨Nat.le_of_ble_eq_true rfl, Nat.le_of_ble_eq_true rfl⟩) hP hD hS hA [0, 1] [2] rfl rfl (by decide +kernel) (by decide +kernel) (fun r7 ur7 H locs hwr7 hP hD hS => ?_)
          obtain ⟨z8, z9⟩ := ur7
          have hP : va_P D vwCl [(mm_refused, .inl (cy 1, 3, .inl mm_refused_f)), (mm, .inr (11, [.ref mm_now, .ref mm_kept, .ref mm_isKept, .ref mm_refused, .int z8, .int z9, .ref mm_stands, .ref mm_far, .ref mm_queue, .int mm_queued, .ref mm_meets, .ref mm_bytes, .int (nI bl), .int (nI ta), .int (nI tl), .int mm_token, .int mm_value, .ref mm_next, .int (nI tk)])), (mm_now, .inl (cy 1, 122, .inl f6))] H := hP
          have hD : va_D A [(mm_refused, .inl (cy 1, 3, .inl mm_refused_f)), (mm, .inr (11, [.ref mm_now, .ref mm_kept, .ref mm_isKept, .ref mm_refused, .int z8, .int z9, .ref mm_stands, .ref mm_far, .ref mm_queue, .int mm_queued, .ref mm_meets, .ref mm_bytes, .int (nI bl), .int (nI ta), .int (nI tl), .int mm_token, .int mm_value, .ref mm_next, .int (nI tk)])), (mm_now, .inl (cy 1, 122, .inl f6))] := hD
          have hwr7 : (r7 = 1 ∧ True) ∨ (r7 = 0 ∧ True) := hwr7
          refine lv_if_eq (tgt := 59) hx hb dX11_winds_47 (by decide) (fun c10 => ?_) (fun c10 => ?_)
          · skip
            refine lv_iconst (v := 0) hx hb dX11_winds_59 (by decide) ?_
            refine lv_ior hx hb dX11_winds_60 ?_
            refine lv_topi (fun x11 ex11 => ?_)
            refine lv_istore_n (lv' := [(3, .int x11), (4, .int v4_27), (2, .int x3), (0, .ref mm), (1, .int px)]) hx hb dX11_winds_61 rfl hl (by decide) rfl (fun ls hl => ?_)
            obtain ⟨x12, ex12⟩ : ∃ y : Int32, y = v4_27 + 1 := ⟨_, rfl⟩
            refine lv_iinc (v := x12) (lv' := [(4, .int x12), (3, .int x11), (2, .int x3), (0, .ref mm), (1, .int px)]) hx hb dX11_winds_62 hl (k := 1) rfl (by rw [ex12]; rfl) (by decide) rfl (fun ls hl => ?_)
            refine lv_goto (tgt := 27) hx hb dX11_winds_65 (by decide) ?_
            exact ih27 x12 z8 z9 f6 x11 hf6 (z_up (L := 1) (by assumption) (by decide) hm27 ex12) _ _ (hP.sub (ws' := [(mm, .inr (11, [.ref mm_now, .ref mm_kept, .ref mm_isKept, .ref mm_refused, .int z8, .int z9, .ref mm_stands, .ref mm_far, .ref mm_queue, .int mm_queued, .ref mm_meets, .ref mm_bytes, .int (nI bl), .int (nI ta), .int (nI tl), .int mm_token, .int mm_value, .ref mm_next, .int (nI tk)])), (mm_now, .inl (cy 1, 122, .inl f6)), (mm_refused, .inl (cy 1, 3, .inl mm_refused_f))]) [1, 2, 0] rfl) (hD.sub (ws' := [(mm, .inr (11, [.ref mm_now, .ref mm_kept, .ref mm_isKept, .ref mm_refused, .int z8, .int z9, .ref mm_stands, .ref mm_far, .ref mm_queue, .int mm_queued, .ref mm_meets, .ref mm_bytes, .int (nI bl), .int (nI ta), .int (nI tl), .int mm_token, .int mm_value, .ref mm_next, .int (nI tk)])), (mm_now, .inl (cy 1, 122, .inl f6)), (mm_refused, .inl (cy 1, 3, .inl mm_refused_f))]) [1, 2, 0] (by decide) rfl) hS ls hl
          · skip
            refine lv_iconst (v := 1) hx hb dX11_winds_50 (by decide) ?_
            refine lv_iload hx hb dX11_winds_51 (lv_at hl 0 rfl) ?_
            refine lv_iconst (v := 1) hx hb dX11_winds_53 (by decide) ?_
            refine lv_iadd hx hb dX11_winds_54 ?_
            refine lv_ishl hx hb dX11_winds_55 ?_
            refine lv_goto (tgt := 60) hx hb dX11_winds_56 (by decide) ?_
            refine lv_ior hx hb dX11_winds_60 ?_
            refine lv_topi (fun x13 ex13 => ?_)
            refine lv_istore_n (lv' := [(3, .int x13), (4, .int v4_27), (2, .int x3), (0, .ref mm), (1, .int px)]) hx hb dX11_winds_61 rfl hl (by decide) rfl (fun ls hl => ?_)
            obtain ⟨x14, ex14⟩ : ∃ y : Int32, y = v4_27 + 1 := ⟨_, rfl⟩
            refine lv_iinc (v := x14) (lv' := [(4, .int x14), (3, .int x13), (2, .int x3), (0, .ref mm), (1, .int px)]) hx hb dX11_winds_62 hl (k := 1) rfl (by rw [ex14]; rfl) (by decide) rfl (fun ls hl => ?_)
            refine lv_goto (tgt := 27) hx hb dX11_winds_65 (by decide) ?_
            exact ih27 x14 z8 z9 f6 x13 hf6 (z_up (L := 1) (by assumption) (by decide) hm27 ex14) _ _ (hP.sub (ws' := [(mm, .inr (11, [.ref mm_now, .ref mm_kept, .ref mm_isKept, .ref mm_refused, .int z8, .int z9, .ref mm_stands, .ref mm_far, .ref mm_queue, .int mm_queued, .ref mm_meets, .ref mm_bytes, .int (nI bl), .int (nI ta), .int (nI tl), .int mm_token, .int mm_value, .ref mm_next, .int (nI tk)])), (mm_now, .inl (cy 1, 122, .inl f6)), (mm_refused, .inl (cy 1, 3, .inl mm_refused_f))]) [1, 2, 0] rfl) (hD.sub (ws' := [(mm, .inr (11, [.ref mm_now, .ref mm_kept, .ref mm_isKept, .ref mm_refused, .int z8, .int z9, .ref mm_stands, .ref mm_far, .ref mm_queue, .int mm_queued, .ref mm_meets, .ref mm_bytes, .int (nI bl), .int (nI ta), .int (nI tl), .int mm_token, .int mm_value, .ref mm_next, .int (nI tk)])), (mm_now, .inl (cy 1, 122, .inl f6)), (mm_refused, .inl (cy 1, 3, .inl mm_refused_f))]) [1, 2, 0] (by decide) rfl) hS ls hl
    exact lp27 ((2147483647 - ((-1) : Int32).toInt).toNat + 1) (-1) mm_lineFrom mm_lineTo mm_now_f 0 hF (Nat.lt_succ_self _) _ _ hP hD hS ls hl
  · skip
    refine lv_aload_n hx hb dX11_winds_8 rfl (lv_at hl 0 rfl) ?_
    refine lv_bipush (v := (-2)) hx hb dX11_winds_9 (by decide) ?_
    refine wr_i (wr := [(mm_now, .inl (cy 1, 122, .inl mm_now_f))]) (va_runV (As := [.int (-2)]) (rest := []) ⟨hx, hb, hml, hown, hts⟩ (n_X11_bad l D cy mm mm_now mm_kept mm_isKept mm_refused mm_lineFrom mm_lineTo mm_stands mm_far mm_queue mm_queued mm_meets mm_bytes bl ta tl mm_token mm_value mm_next tk mm_refused_f (-2) _ ) (cwV 1 hts gX11_winds_X11_bad rfl rfl rfl (by decide +kernel) ⟨Nat.le_of_ble_eq_true rfl, Nat.le_of_ble_eq_true rfl⟩) (pV (ci := 11) (k := 0) hKA (hP.sub (ws' := [(mm, .inr (11, [.ref mm_now, .ref mm_kept, .ref mm_isKept, .ref mm_refused, .int mm_lineFrom, .int mm_lineTo, .ref mm_stands, .ref mm_far, .ref mm_queue, .int mm_queued, .ref mm_meets, .ref mm_bytes, .int (nI bl), .int (nI ta), .int (nI tl), .int mm_token, .int mm_value, .ref mm_next, .int (nI tk)])), (mm_refused, .inl (cy 1, 3, .inl mm_refused_f))]) [0, 2] rfl) (hD.sub (ws' := [(mm, .inr (11, [.ref mm_now, .ref mm_kept, .ref mm_isKept, .ref mm_refused, .int mm_lineFrom, .int mm_lineTo, .ref mm_stands, .ref mm_far, .ref mm_queue, .int mm_queued, .ref mm_meets, .ref mm_bytes, .int (nI bl), .int (nI ta), .int (nI tl), .int mm_token, .int mm_value, .ref mm_next, .int (nI tk)])), (mm_refused, .inl (cy 1, 3, .inl mm_refused_f))]) [0, 2] (by decide) rfl) rfl rfl) rfl rfl hl.1 rfl (lv_room (Nat.le_of_ble_eq_true rfl)) dX11_winds_11 ⟨Nat.le_of_ble_eq_true rfl, Nat.le_of_ble_eq_true rfl⟩) hP hD hS hA [0, 2] [1] rfl rfl (by decide +kernel) (by decide +kernel) (fun r15 ur15 H locs hwr15 hP hD hS => ?_)
    obtain ⟨z16, rfl⟩ : ∃ z, z = ur15 := ⟨_, rfl⟩
    have hP : va_P D vwCl [(mm_now, .inl (cy 1, 122, .inl mm_now_f)), (mm, .inr (11, [.ref mm_now, .ref mm_kept, .ref mm_isKept, .ref mm_refused, .int mm_lineFrom, .int mm_lineTo, .ref mm_stands, .ref mm_far, .ref mm_queue, .int mm_queued, .ref mm_meets, .ref mm_bytes, .int (nI bl), .int (nI ta), .int (nI tl), .int mm_token, .int mm_value, .ref mm_next, .int (nI tk)])), (mm_refused, .inl (cy 1, 3, .inl z16))] H := hP
    have hD : va_D A [(mm_now, .inl (cy 1, 122, .inl mm_now_f)), (mm, .inr (11, [.ref mm_now, .ref mm_kept, .ref mm_isKept, .ref mm_refused, .int mm_lineFrom, .int mm_lineTo, .ref mm_stands, .ref mm_far, .ref mm_queue, .int mm_queued, .ref mm_meets, .ref mm_bytes, .int (nI bl), .int (nI ta), .int (nI tl), .int mm_token, .int mm_value, .ref mm_next, .int (nI tk)])), (mm_refused, .inl (cy 1, 3, .inl z16))] := hD
    have hwr15 : r15 = (-2) := hwr15
    subst hwr15
    subst hQF
    have hP9 := hP.sub (ws' := [(mm, .inr (11, [.ref mm_now, .ref mm_kept, .ref mm_isKept, .ref mm_refused, .int mm_lineFrom, .int mm_lineTo, .ref mm_stands, .ref mm_far, .ref mm_queue, .int mm_queued, .ref mm_meets, .ref mm_bytes, .int (nI bl), .int (nI ta), .int (nI tl), .int mm_token, .int mm_value, .ref mm_next, .int (nI tk)])), (mm_now, .inl (cy 1, 122, .inl mm_now_f)), (mm_refused, .inl (cy 1, 3, .inl z16))]) [1, 0, 2] rfl
    have hD9 := hD.sub (ws' := [(mm, .inr (11, [.ref mm_now, .ref mm_kept, .ref mm_isKept, .ref mm_refused, .int mm_lineFrom, .int mm_lineTo, .ref mm_stands, .ref mm_far, .ref mm_queue, .int mm_queued, .ref mm_meets, .ref mm_bytes, .int (nI bl), .int (nI ta), .int (nI tl), .int mm_token, .int mm_value, .ref mm_next, .int (nI tk)])), (mm_now, .inl (cy 1, 122, .inl mm_now_f)), (mm_refused, .inl (cy 1, 3, .inl z16))]) [1, 0, 2] (by decide) rfl
    exact W.iret (v := (-2)) hx hb hr (fun t ht hW => ⟨⟨(-2), (mm_lineFrom, mm_lineTo, mm_now_f, z16), rfl, ⟨_, _, _, _, hF⟩, by rw [ht]; exact hP9, hD9⟩, hS.F ht⟩) hS.2.2 dX11_winds_14

set_option maxHeartbeats 4000000 in
set_option maxRecDepth 100000 in
theorem n_X11_findMay (l : Launch) (D : va_G) (cy : Nat → ClassId) (mW : Nat) (mH : Nat) (mS : Nat) (mP : Nat) (mm : Nat) (mm_now : Nat) (mm_kept : Nat) (mm_isKept : Nat) (mm_refused : Nat) (mm_lineFrom : Int32) (mm_lineTo : Int32) (mm_stands : Nat) (mm_far : Nat) (mm_queue : Nat) (mm_queued : Int32) (mm_meets : Nat) (mm_bytes : Nat) (bl : Nat) (ta : Nat) (tl : Nat) (mm_token : Int32) (mm_value : Int32) (mm_next : Nat) (tk : Nat) (mm_now_f : Nat → Int32) (mm_stands_f : Nat → Int32) (pp : Nat) (pz : Int32) (sz : Nat) (hF : mV mm_now_f mW mH mS mP) (hpp : pp < 5) : Met l yX11_findMay wsX11_findMay ({ frames := 8, cells := 0, slots := 0, locals := 179 }) (va_Pc [.ref mm, .int (nI pp), .int pz] (kPre D cy [(mm, .inr (11, [.ref mm_now, .ref mm_kept, .ref mm_isKept, .ref mm_refused, .int mm_lineFrom, .int mm_lineTo, .ref mm_stands, .ref mm_far, .ref mm_queue, .int mm_queued, .ref mm_meets, .ref mm_bytes, .int (nI bl), .int (nI ta), .int (nI tl), .int mm_token, .int mm_value, .ref mm_next, .int (nI tk)])), (mm_now, .inl (cy 1, 122, .inl mm_now_f)), (mm_stands, .inl (cy 2, 36, .inl mm_stands_f))] sz)) (va_Qv (fun (u : Int32 × Int32 × (Nat → Int32) × (Nat → Int32)) => mV u.2.2.1 mW mH mS mP) (fun (u : Int32 × Int32 × (Nat → Int32) × (Nat → Int32)) t => va_P D vwCl ([(mm, .inr (11, [.ref mm_now, .ref mm_kept, .ref mm_isKept, .ref mm_refused, .int u.1, .int u.2.1, .ref mm_stands, .ref mm_far, .ref mm_queue, .int mm_queued, .ref mm_meets, .ref mm_bytes, .int (nI bl), .int (nI ta), .int (nI tl), .int mm_token, .int mm_value, .ref mm_next, .int (nI tk)])), (mm_now, .inl (cy 1, 122, .inl u.2.2.1)), (mm_stands, .inl (cy 2, 36, .inl u.2.2.2))]) t.heap ∧ va_D (va_A [(mm, .inr (11, [.ref mm_now, .ref mm_kept, .ref mm_isKept, .ref mm_refused, .int mm_lineFrom, .int mm_lineTo, .ref mm_stands, .ref mm_far, .ref mm_queue, .int mm_queued, .ref mm_meets, .ref mm_bytes, .int (nI bl), .int (nI ta), .int (nI tl), .int mm_token, .int mm_value, .ref mm_next, .int (nI tk)])), (mm_now, .inl (cy 1, 122, .inl mm_now_f)), (mm_stands, .inl (cy 2, 36, .inl mm_stands_f))] sz) ([(mm, .inr (11, [.ref mm_now, .ref mm_kept, .ref mm_isKept, .ref mm_refused, .int u.1, .int u.2.1, .ref mm_stands, .ref mm_far, .ref mm_queue, .int mm_queued, .ref mm_meets, .ref mm_bytes, .int (nI bl), .int (nI ta), .int (nI tl), .int mm_token, .int mm_value, .ref mm_next, .int (nI tk)])), (mm_now, .inl (cy 1, 122, .inl u.2.2.1)), (mm_stands, .inl (cy 2, 36, .inl u.2.2.2))])) (va_A [(mm, .inr (11, [.ref mm_now, .ref mm_kept, .ref mm_isKept, .ref mm_refused, .int mm_lineFrom, .int mm_lineTo, .ref mm_stands, .ref mm_far, .ref mm_queue, .int mm_queued, .ref mm_meets, .ref mm_bytes, .int (nI bl), .int (nI ta), .int (nI tl), .int mm_token, .int mm_value, .ref mm_next, .int (nI tk)])), (mm_now, .inl (cy 1, 122, .inl mm_now_f)), (mm_stands, .inl (cy 2, 36, .inl mm_stands_f))] sz)) 0 0 (va_A [(mm, .inr (11, [.ref mm_now, .ref mm_kept, .ref mm_isKept, .ref mm_refused, .int mm_lineFrom, .int mm_lineTo, .ref mm_stands, .ref mm_far, .ref mm_queue, .int mm_queued, .ref mm_meets, .ref mm_bytes, .int (nI bl), .int (nI ta), .int (nI tl), .int mm_token, .int mm_value, .ref mm_next, .int (nI tk)])), (mm_now, .inl (cy 1, 122, .inl mm_now_f)), (mm_stands, .inl (cy 2, 36, .inl mm_stands_f))] sz) := by
  refine Met.ofW (cc := cX11_findMay) (maxL := 5) (ret := none) (by decide) rfl ?_
  intro p e s m args below meth c s₁ B hml hv
  obtain ⟨rfl, hsz, hP, hKA, hD0⟩ := hv
  have hx := B.exec
  have hb := B.bytes
  have hr := B.returns
  have hts := atoms_spec (ws := wsX11_findMay) B.pre
  have hown : s.vm.findClass RX11 = some m.cls := findClass_of_methodNamed B.named
  have hlocks := B.notSynchronized
  subst hsz
  have hK := hKA.1
  have hD := hD0.self (sz := s.heap.size)
  generalize hAe : va_A [(mm, .inr (11, [.ref mm_now, .ref mm_kept, .ref mm_isKept, .ref mm_refused, .int mm_lineFrom, .int mm_lineTo, .ref mm_stands, .ref mm_far, .ref mm_queue, .int mm_queued, .ref mm_meets, .ref mm_bytes, .int (nI bl), .int (nI ta), .int (nI tl), .int mm_token, .int mm_value, .ref mm_next, .int (nI tk)])), (mm_now, .inl (cy 1, 122, .inl mm_now_f)), (mm_stands, .inl (cy 2, 36, .inl mm_stands_f))] s.heap.size = A at hD ⊢
  have hA : ∀ q : Nat, s.heap.size ≤ q → A q := fun q h => by rw [← hAe]; exact Or.inr h
  have hS : va_S A s.heap s.heap [] := va_S.rf
  have hP : va_P D vwCl [(mm, .inr (11, [.ref mm_now, .ref mm_kept, .ref mm_isKept, .ref mm_refused, .int mm_lineFrom, .int mm_lineTo, .ref mm_stands, .ref mm_far, .ref mm_queue, .int mm_queued, .ref mm_meets, .ref mm_bytes, .int (nI bl), .int (nI ta), .int (nI tl), .int mm_token, .int mm_value, .ref mm_next, .int (nI tk)])), (mm_now, .inl (cy 1, 122, .inl mm_now_f)), (mm_stands, .inl (cy 2, 36, .inl mm_stands_f))] s.heap := hP
  have hl := lv_entry ([.ref mm, .int (nI pp), .int pz]) (n := 5) (Nat.le_of_ble_eq_true rfl)
  rw [lg_entry_eq]
  generalize (lg_sl ([.ref mm, .int (nI pp), .int pz]) ++ List.replicate (5 - (lg_sl ([.ref mm, .int (nI pp), .int pz])).length) Slot.unset).toArray = ls at hl ⊢
  have hl : lv_has ls 5 [(0, .ref mm), (1, .int (nI pp)), (2, .int pz)] := hl
  refine qW (fun QF hQF => ?_)
  have z0_ := hts (.fieldLink RX11 23 "HeardSeenModel" "stands" "[Z") (by decide +kernel)
  have zi11_ : ∀ w ∈ u_ws RX11 TX11 19, w ∈ wsX11_findMay := by decide +kernel
  obtain ⟨hW2, hW6, hH2, hH6, hSe, hS4, hS6, hP5⟩ := hF.rng
  refine lv_aload_n hx hb dX11_findMay_0 rfl (lv_at hl 0 rfl) ?_
  refine lv_iload_n hx hb dX11_findMay_1 rfl (lv_at hl 1 rfl) ?_
  refine lv_iconst (v := 1) hx hb dX11_findMay_2 (by decide) ?_
  refine rd_i (va_runV (As := [.int (nI pp), .int 1]) (rest := []) ⟨hx, hb, hml, hown, hts⟩ (n_X11_of l D cy mW mH mS mP mm mm_now mm_kept mm_isKept mm_refused mm_lineFrom mm_lineTo mm_stands mm_far mm_queue mm_queued mm_meets mm_bytes bl ta tl mm_token mm_value mm_next tk mm_now_f pp 1 _ (by first | assumption | omega) (by first | assumption | omega) (by first | assumption | omega)) (cwV 2 hts gX11_findMay_X11_of rfl rfl rfl (by decide +kernel) ⟨Nat.le_of_ble_eq_true rfl, Nat.le_of_ble_eq_true rfl⟩) (pV (ci := 11) (k := 0) hKA (hP.sub (ws' := [(mm, .inr (11, [.ref mm_now, .ref mm_kept, .ref mm_isKept, .ref mm_refused, .int mm_lineFrom, .int mm_lineTo, .ref mm_stands, .ref mm_far, .ref mm_queue, .int mm_queued, .ref mm_meets, .ref mm_bytes, .int (nI bl), .int (nI ta), .int (nI tl), .int mm_token, .int mm_value, .ref mm_next, .int (nI tk)])), (mm_now, .inl (cy 1, 122, .inl mm_now_f))]) [0, 1] rfl) (hD.sub (ws' := [(mm, .inr (11, [.ref mm_now, .ref mm_kept, .ref mm_isKept, .ref mm_refused, .int mm_lineFrom, .int mm_lineTo, .ref mm_stands, .ref mm_far, .ref mm_queue, .int mm_queued, .ref mm_meets, .ref mm_bytes, .int (nI bl), .int (nI ta), .int (nI tl), .int mm_token, .int mm_value, .ref mm_next, .int (nI tk)])), (mm_now, .inl (cy 1, 122, .inl mm_now_f))]) [0, 1] (by decide) rfl) rfl rfl) rfl rfl hl.1 rfl (lv_room (Nat.le_of_ble_eq_true rfl)) dX11_findMay_3 ⟨Nat.le_of_ble_eq_true rfl, Nat.le_of_ble_eq_true rfl⟩) hP hS hA (fun r1 H locs hwr1 hP hS => ?_)
  have hwr1 : r1 = mm_now_f (5 + 3 * pp + 1) := hwr1
  subst hwr1
  obtain ⟨jh, ejh, hjh⟩ := mV.get hF (5 + 3 * pp + 1) 35 (by omega) (by omega) (by unfold mHi; (repeat' split) <;> omega)
  refine W.eq (g2 := F0 m 6 ls [.int (nI jh)]) (congrArg (fun v9 : Int32 => F0 m 6 ls [.int v9]) ejh) ?_
  refine lv_istore_n (lv' := [(3, .int (nI jh)), (0, .ref mm), (1, .int (nI pp)), (2, .int pz)]) hx hb dX11_findMay_6 rfl hl (by decide) rfl (fun ls hl => ?_)
  refine lv_iconst (v := 0) hx hb dX11_findMay_7 (by decide) ?_
  refine lv_istore (lv' := [(4, .int 0), (3, .int (nI jh)), (0, .ref mm), (1, .int (nI pp)), (2, .int pz)]) hx hb dX11_findMay_8 hl (by decide) rfl (fun ls hl => ?_)
  have lp10 : ∀ (n10 : Nat) (v4_10 : Nat) (y_mm_stands_10 : Nat → Int32) (u_mm_4_10 : Int32) (u_mm_5_10 : Int32) (y_mm_now_10 : Nat → Int32) (hi_y_mm_now_10 : mV y_mm_now_10 mW mH mS mP) (hv4_10 : v4_10 < 2147483648), 2147483648 - v4_10 < n10 → ∀ (H : Heap) (locs : List Loc), va_P D vwCl [(mm, .inr (11, [.ref mm_now, .ref mm_kept, .ref mm_isKept, .ref mm_refused, .int u_mm_4_10, .int u_mm_5_10, .ref mm_stands, .ref mm_far, .ref mm_queue, .int mm_queued, .ref mm_meets, .ref mm_bytes, .int (nI bl), .int (nI ta), .int (nI tl), .int mm_token, .int mm_value, .ref mm_next, .int (nI tk)])), (mm_now, .inl (cy 1, 122, .inl y_mm_now_10)), (mm_stands, .inl (cy 2, 36, .inl y_mm_stands_10))] H → va_D A [(mm, .inr (11, [.ref mm_now, .ref mm_kept, .ref mm_isKept, .ref mm_refused, .int u_mm_4_10, .int u_mm_5_10, .ref mm_stands, .ref mm_far, .ref mm_queue, .int mm_queued, .ref mm_meets, .ref mm_bytes, .int (nI bl), .int (nI ta), .int (nI tl), .int mm_token, .int mm_value, .ref mm_next, .int (nI tk)])), (mm_now, .inl (cy 1, 122, .inl y_mm_now_10)), (mm_stands, .inl (cy 2, 36, .inl y_mm_stands_10))] → va_S A s.heap H locs → ∀ ls : Array Slot, lv_has ls 5 [(4, .int (nI v4_10)), (3, .int (nI jh)), (0, .ref mm), (1, .int (nI pp)), (2, .int pz)] → W p l e (headSpec wsX11_findMay ({ frames := 8, cells := 0, slots := 0, locals := 179 })).room s m [.ref mm, .int (nI pp), .int pz].toArray below meth c H locs 0 0 QF (F0 m 10 ls []) := by
    intro n10
    induction n10 with
    | zero => intro v4_10 y_mm_stands_10 u_mm_4_10 u_mm_5_10 y_mm_now_10 hi_y_mm_now_10 hv4_10 hm; exact absurd hm (Nat.not_lt_zero _)
    | succ n10 ih10 =>
      intro v4_10 y_mm_stands_10 u_mm_4_10 u_mm_5_10 y_mm_now_10 hi_y_mm_now_10 hv4_10 hm10 H locs hP hD hS ls hl
      refine lv_iload hx hb dX11_findMay_10 (lv_at hl 0 rfl) ?_
      refine lv_aload_n hx hb dX11_findMay_12 rfl (lv_at hl 2 rfl) ?_
      refine rd_i (va_runV (As := []) (rest := [.int (nI v4_10)]) ⟨hx, hb, hml, hown, hts⟩ (n_X11_squares l D cy mW mH mS mP mm mm_now mm_kept mm_isKept mm_refused u_mm_4_10 u_mm_5_10 mm_stands mm_far mm_queue mm_queued mm_meets mm_bytes bl ta tl mm_token mm_value mm_next tk y_mm_now_10 _ (by first | assumption | omega)) (cwV 0 hts gX11_findMay_X11_squares rfl rfl rfl (by decide +kernel) ⟨Nat.le_of_ble_eq_true rfl, Nat.le_of_ble_eq_true rfl⟩) (pV (ci := 11) (k := 0) hKA (hP.sub (ws' := [(mm, .inr (11, [.ref mm_now, .ref mm_kept, .ref mm_isKept, .ref mm_refused, .int u_mm_4_10, .int u_mm_5_10, .ref mm_stands, .ref mm_far, .ref mm_queue, .int mm_queued, .ref mm_meets, .ref mm_bytes, .int (nI bl), .int (nI ta), .int (nI tl), .int mm_token, .int mm_value, .ref mm_next, .int (nI tk)])), (mm_now, .inl (cy 1, 122, .inl y_mm_now_10))]) [0, 1] rfl) (hD.sub (ws' := [(mm, .inr (11, [.ref mm_now, .ref mm_kept, .ref mm_isKept, .ref mm_refused, .int u_mm_4_10, .int u_mm_5_10, .ref mm_stands, .ref mm_far, .ref mm_queue, .int mm_queued, .ref mm_meets, .ref mm_bytes, .int (nI bl), .int (nI ta), .int (nI tl), .int mm_token, .int mm_value, .ref mm_next, .int (nI tk)])), (mm_now, .inl (cy 1, 122, .inl y_mm_now_10))]) [0, 1] (by decide) rfl) rfl rfl) rfl rfl hl.1 rfl (lv_room (Nat.le_of_ble_eq_true rfl)) dX11_findMay_13 ⟨Nat.le_of_ble_eq_true rfl, Nat.le_of_ble_eq_true rfl⟩) hP hS hA (fun r2 H locs hwr2 hP hS => ?_)
      have hwr2 : r2 = nI mS := hwr2
      subst hwr2
      refine lv_icmp_ge (tgt := 77) hx hb dX11_findMay_16 (by decide) (fun c3 => ?_) (fun c3 => ?_)
      · skip
        refine lv_aload_n hx hb dX11_findMay_77 rfl (lv_at hl 2 rfl) ?_
        refine lv_iload_n hx hb dX11_findMay_78 rfl (lv_at hl 3 rfl) ?_
        refine lv_iload_n hx hb dX11_findMay_79 rfl (lv_at hl 1 rfl) ?_
        refine wr_v (wr := [(mm_stands, .inl (cy 2, 36, .inl y_mm_stands_10))]) (va_runV (As := [.int (nI pp), .int (nI jh)]) (rest := []) ⟨hx, hb, hml, hown, hts⟩ (n_X11_stand l D cy mW mH mS mP mm mm_now mm_kept mm_isKept mm_refused u_mm_4_10 u_mm_5_10 mm_stands mm_far mm_queue mm_queued mm_meets mm_bytes bl ta tl mm_token mm_value mm_next tk y_mm_now_10 pp jh _ (by first | assumption | omega) (by first | assumption | omega) (by first | assumption | omega)) (cwV 2 hts gX11_findMay_X11_stand rfl rfl rfl (by decide +kernel) ⟨Nat.le_of_ble_eq_true rfl, Nat.le_of_ble_eq_true rfl⟩) (pV (ci := 11) (k := 0) hKA (hP.sub (ws' := [(mm, .inr (11, [.ref mm_now, .ref mm_kept, .ref mm_isKept, .ref mm_refused, .int u_mm_4_10, .int u_mm_5_10, .ref mm_stands, .ref mm_far, .ref mm_queue, .int mm_queued, .ref mm_meets, .ref mm_bytes, .int (nI bl), .int (nI ta), .int (nI tl), .int mm_token, .int mm_value, .ref mm_next, .int (nI tk)])), (mm_now, .inl (cy 1, 122, .inl y_mm_now_10))]) [0, 1] rfl) (hD.sub (ws' := [(mm, .inr (11, [.ref mm_now, .ref mm_kept, .ref mm_isKept, .ref mm_refused, .int u_mm_4_10, .int u_mm_5_10, .ref mm_stands, .ref mm_far, .ref mm_queue, .int mm_queued, .ref mm_meets, .ref mm_bytes, .int (nI bl), .int (nI ta), .int (nI tl), .int mm_token, .int mm_value, .ref mm_next, .int (nI tk)])), (mm_now, .inl (cy 1, 122, .inl y_mm_now_10))]) [0, 1] (by decide) rfl) rfl rfl) rfl rfl hl.1 rfl (lv_room (Nat.le_of_ble_eq_true rfl)) dX11_findMay_80 ⟨Nat.le_of_ble_eq_true rfl, Nat.le_of_ble_eq_true rfl⟩) hP hD hS hA [0, 1] [2] rfl rfl (by decide +kernel) (by decide +kernel) (fun ur4 H locs hwr4 hP hD hS => ?_)
        obtain ⟨z5, rfl⟩ : ∃ z, z = ur4 := ⟨_, rfl⟩
        have hP : va_P D vwCl [(mm_stands, .inl (cy 2, 36, .inl y_mm_stands_10)), (mm, .inr (11, [.ref mm_now, .ref mm_kept, .ref mm_isKept, .ref mm_refused, .int u_mm_4_10, .int u_mm_5_10, .ref mm_stands, .ref mm_far, .ref mm_queue, .int mm_queued, .ref mm_meets, .ref mm_bytes, .int (nI bl), .int (nI ta), .int (nI tl), .int mm_token, .int mm_value, .ref mm_next, .int (nI tk)])), (mm_now, .inl (cy 1, 122, .inl z5))] H := hP
        have hD : va_D A [(mm_stands, .inl (cy 2, 36, .inl y_mm_stands_10)), (mm, .inr (11, [.ref mm_now, .ref mm_kept, .ref mm_isKept, .ref mm_refused, .int u_mm_4_10, .int u_mm_5_10, .ref mm_stands, .ref mm_far, .ref mm_queue, .int mm_queued, .ref mm_meets, .ref mm_bytes, .int (nI bl), .int (nI ta), .int (nI tl), .int mm_token, .int mm_value, .ref mm_next, .int (nI tk)])), (mm_now, .inl (cy 1, 122, .inl z5))] := hD
        have hwr4 : mV z5 mW mH mS mP := hwr4
        have hv6 := hwr4
        subst hQF
        have hP9 := hP.sub (ws' := [(mm, .inr (11, [.ref mm_now, .ref mm_kept, .ref mm_isKept, .ref mm_refused, .int u_mm_4_10, .int u_mm_5_10, .ref mm_stands, .ref mm_far, .ref mm_queue, .int mm_queued, .ref mm_meets, .ref mm_bytes, .int (nI bl), .int (nI ta), .int (nI tl), .int mm_token, .int mm_value, .ref mm_next, .int (nI tk)])), (mm_now, .inl (cy 1, 122, .inl z5)), (mm_stands, .inl (cy 2, 36, .inl y_mm_stands_10))]) [1, 2, 0] rfl
        have hD9 := hD.sub (ws' := [(mm, .inr (11, [.ref mm_now, .ref mm_kept, .ref mm_isKept, .ref mm_refused, .int u_mm_4_10, .int u_mm_5_10, .ref mm_stands, .ref mm_far, .ref mm_queue, .int mm_queued, .ref mm_meets, .ref mm_bytes, .int (nI bl), .int (nI ta), .int (nI tl), .int mm_token, .int mm_value, .ref mm_next, .int (nI tk)])), (mm_now, .inl (cy 1, 122, .inl z5)), (mm_stands, .inl (cy 2, 36, .inl y_mm_stands_10))]) [1, 2, 0] (by decide) rfl
        exact W.vret hx hb hr (fun t ht hW => ⟨⟨(u_mm_4_10, u_mm_5_10, z5, y_mm_stands_10), rfl, hv6, by rw [ht]; exact hP9, hD9⟩, hS.F ht⟩) hS.2.2 dX11_findMay_83
      · skip
        have hk16 := ltM (n := mS) (k := v4_10) (by omega) (by assumption) (by assumption)
        refine lv_aload_n hx hb dX11_findMay_19 rfl (lv_at hl 2 rfl) ?_
        refine va_get (D := D) (ci := 11) (v := .ref mm_stands) (C := RX11) (T := TX11) (N := 19) hx hb hts zi11_ hown hK hP 0 rfl rfl 6 (by decide) z0_ (fun _ h9 => h9) rfl dX11_findMay_20 ?_
        refine lv_iload hx hb dX11_findMay_23 (lv_at hl 0 rfl) ?_
        refine lv_aload_n hx hb dX11_findMay_25 rfl (lv_at hl 2 rfl) ?_
        refine lv_iload hx hb dX11_findMay_26 (lv_at hl 0 rfl) ?_
        refine lv_iload_n hx hb dX11_findMay_28 rfl (lv_at hl 3 rfl) ?_
        refine rd_i (va_runV (As := [.int (nI v4_10), .int (nI pp)]) (rest := [.int (nI v4_10), .ref mm_stands]) ⟨hx, hb, hml, hown, hts⟩ (n_X11_isFree l D cy mW mH mS mP mm mm_now mm_kept mm_isKept mm_refused u_mm_4_10 u_mm_5_10 mm_stands mm_far mm_queue mm_queued mm_meets mm_bytes bl ta tl mm_token mm_value mm_next tk y_mm_now_10 v4_10 (nI pp) _ (by first | assumption | omega) (by first | assumption | omega)) (cwV 2 hts gX11_findMay_X11_isFree rfl rfl rfl (by decide +kernel) ⟨Nat.le_of_ble_eq_true rfl, Nat.le_of_ble_eq_true rfl⟩) (pV (ci := 11) (k := 0) hKA (hP.sub (ws' := [(mm, .inr (11, [.ref mm_now, .ref mm_kept, .ref mm_isKept, .ref mm_refused, .int u_mm_4_10, .int u_mm_5_10, .ref mm_stands, .ref mm_far, .ref mm_queue, .int mm_queued, .ref mm_meets, .ref mm_bytes, .int (nI bl), .int (nI ta), .int (nI tl), .int mm_token, .int mm_value, .ref mm_next, .int (nI tk)])), (mm_now, .inl (cy 1, 122, .inl y_mm_now_10))]) [0, 1] rfl) (hD.sub (ws' := [(mm, .inr (11, [.ref mm_now, .ref mm_kept, .ref mm_isKept, .ref mm_refused, .int u_mm_4_10, .int u_mm_5_10, .ref mm_stands, .ref mm_far, .ref mm_queue, .int mm_queued, .ref mm_meets, .ref mm_bytes, .int (nI bl), .int (nI ta), .int (nI tl), .int mm_token, .int mm_value, .ref mm_next, .int (nI tk)])), (mm_now, .inl (cy 1, 122, .inl y_mm_now_10))]) [0, 1] (by decide) rfl) rfl rfl) rfl rfl hl.1 rfl (lv_room (Nat.le_of_ble_eq_true rfl)) dX11_findMay_29 ⟨Nat.le_of_ble_eq_true rfl, Nat.le_of_ble_eq_true rfl⟩) hP hS hA (fun r7 H locs hwr7 hP hS => ?_)
        have hwr7 : (r7 = 1 ∧ True) ∨ (r7 = 0 ∧ True) := hwr7
        refine my_zast hx hb hK hP hD hS 2 2 rfl rfl (by first | exact in_ge (N := 36) (by decide) (by omega) (by assumption) | exact vp_in_nI (by omega) (by omega)) (nI_clamp (by omega)) dX11_findMay_32 (fun H locs hP hD hS => ?_)
        have hP : va_P D vwCl [(mm, .inr (11, [.ref mm_now, .ref mm_kept, .ref mm_isKept, .ref mm_refused, .int u_mm_4_10, .int u_mm_5_10, .ref mm_stands, .ref mm_far, .ref mm_queue, .int mm_queued, .ref mm_meets, .ref mm_bytes, .int (nI bl), .int (nI ta), .int (nI tl), .int mm_token, .int mm_value, .ref mm_next, .int (nI tk)])), (mm_now, .inl (cy 1, 122, .inl y_mm_now_10)), (mm_stands, .inl (cy 2, 36, .inl (upd y_mm_stands_10 v4_10 (vp_nar .boolean r7))))] H := hP
        have hD : va_D A [(mm, .inr (11, [.ref mm_now, .ref mm_kept, .ref mm_isKept, .ref mm_refused, .int u_mm_4_10, .int u_mm_5_10, .ref mm_stands, .ref mm_far, .ref mm_queue, .int mm_queued, .ref mm_meets, .ref mm_bytes, .int (nI bl), .int (nI ta), .int (nI tl), .int mm_token, .int mm_value, .ref mm_next, .int (nI tk)])), (mm_now, .inl (cy 1, 122, .inl y_mm_now_10)), (mm_stands, .inl (cy 2, 36, .inl (upd y_mm_stands_10 v4_10 (vp_nar .boolean r7))))] := hD
        refine lv_aload_n hx hb dX11_findMay_33 rfl (lv_at hl 2 rfl) ?_
        refine va_get (D := D) (ci := 11) (v := .ref mm_stands) (C := RX11) (T := TX11) (N := 19) hx hb hts zi11_ hown hK hP 0 rfl rfl 6 (by decide) z0_ (fun _ h9 => h9) rfl dX11_findMay_34 ?_
        refine lv_iload hx hb dX11_findMay_37 (lv_at hl 0 rfl) ?_
        refine my_zald hx hb hK hP 2 2 rfl rfl (by first | exact in_ge (N := 36) (by decide) (by omega) (by assumption) | exact vp_in_nI (by omega) (by omega)) (nI_clamp (by omega)) dX11_findMay_39 ?_
        refine lv_if_eq (tgt := 71) hx hb dX11_findMay_40 (by decide) (fun c8 => ?_) (fun c8 => ?_)
        · skip
          refine lv_iinc (v := nI (v4_10 + 1)) (lv' := [(4, .int (nI (v4_10 + 1))), (3, .int (nI jh)), (0, .ref mm), (1, .int (nI pp)), (2, .int pz)]) hx hb dX11_findMay_71 hl (k := 0) rfl (nI_1 _) (by decide) rfl (fun ls hl => ?_)
          refine lv_goto (tgt := 10) hx hb dX11_findMay_74 (by decide) ?_
          exact ih10 (v4_10 + 1) (upd y_mm_stands_10 v4_10 (vp_nar .boolean r7)) u_mm_4_10 u_mm_5_10 y_mm_now_10 hi_y_mm_now_10 (by first | omega | exact nlt_max hv4_10 (by assumption)) (by first | omega | (have := nlt_max hv4_10 (by assumption); omega)) _ _ hP hD hS ls hl
        · skip
          refine lv_aload_n hx hb dX11_findMay_43 rfl (lv_at hl 2 rfl) ?_
          refine lv_iload_n hx hb dX11_findMay_44 rfl (lv_at hl 3 rfl) ?_
          refine lv_iload hx hb dX11_findMay_45 (lv_at hl 0 rfl) ?_
          refine wr_v (wr := [(mm_stands, .inl (cy 2, 36, .inl (upd y_mm_stands_10 v4_10 (vp_nar .boolean r7))))]) (va_runV (As := [.int (nI pp), .int (nI v4_10)]) (rest := []) ⟨hx, hb, hml, hown, hts⟩ (n_X11_stand l D cy mW mH mS mP mm mm_now mm_kept mm_isKept mm_refused u_mm_4_10 u_mm_5_10 mm_stands mm_far mm_queue mm_queued mm_meets mm_bytes bl ta tl mm_token mm_value mm_next tk y_mm_now_10 pp v4_10 _ (by first | assumption | omega) (by first | assumption | omega) (by first | assumption | omega)) (cwV 2 hts gX11_findMay_X11_stand rfl rfl rfl (by decide +kernel) ⟨Nat.le_of_ble_eq_true rfl, Nat.le_of_ble_eq_true rfl⟩) (pV (ci := 11) (k := 0) hKA (hP.sub (ws' := [(mm, .inr (11, [.ref mm_now, .ref mm_kept, .ref mm_isKept, .ref mm_refused, .int u_mm_4_10, .int u_mm_5_10, .ref mm_stands, .ref mm_far, .ref mm_queue, .int mm_queued, .ref mm_meets, .ref mm_bytes, .int (nI bl), .int (nI ta), .int (nI tl), .int mm_token, .int mm_value, .ref mm_next, .int (nI tk)])), (mm_now, .inl (cy 1, 122, .inl y_mm_now_10))]) [0, 1] rfl) (hD.sub (ws' := [(mm, .inr (11, [.ref mm_now, .ref mm_kept, .ref mm_isKept, .ref mm_refused, .int u_mm_4_10, .int u_mm_5_10, .ref mm_stands, .ref mm_far, .ref mm_queue, .int mm_queued, .ref mm_meets, .ref mm_bytes, .int (nI bl), .int (nI ta), .int (nI tl), .int mm_token, .int mm_value, .ref mm_next, .int (nI tk)])), (mm_now, .inl (cy 1, 122, .inl y_mm_now_10))]) [0, 1] (by decide) rfl) rfl rfl) rfl rfl hl.1 rfl (lv_room (Nat.le_of_ble_eq_true rfl)) dX11_findMay_47 ⟨Nat.le_of_ble_eq_true rfl, Nat.le_of_ble_eq_true rfl⟩) hP hD hS hA [0, 1] [2] rfl rfl (by decide +kernel) (by decide +kernel) (fun ur9 H locs hwr9 hP hD hS => ?_)
          obtain ⟨z10, rfl⟩ : ∃ z, z = ur9 := ⟨_, rfl⟩
          have hP : va_P D vwCl [(mm_stands, .inl (cy 2, 36, .inl (upd y_mm_stands_10 v4_10 (vp_nar .boolean r7)))), (mm, .inr (11, [.ref mm_now, .ref mm_kept, .ref mm_isKept, .ref mm_refused, .int u_mm_4_10, .int u_mm_5_10, .ref mm_stands, .ref mm_far, .ref mm_queue, .int mm_queued, .ref mm_meets, .ref mm_bytes, .int (nI bl), .int (nI ta), .int (nI tl), .int mm_token, .int mm_value, .ref mm_next, .int (nI tk)])), (mm_now, .inl (cy 1, 122, .inl z10))] H := hP
          have hD : va_D A [(mm_stands, .inl (cy 2, 36, .inl (upd y_mm_stands_10 v4_10 (vp_nar .boolean r7)))), (mm, .inr (11, [.ref mm_now, .ref mm_kept, .ref mm_isKept, .ref mm_refused, .int u_mm_4_10, .int u_mm_5_10, .ref mm_stands, .ref mm_far, .ref mm_queue, .int mm_queued, .ref mm_meets, .ref mm_bytes, .int (nI bl), .int (nI ta), .int (nI tl), .int mm_token, .int mm_value, .ref mm_next, .int (nI tk)])), (mm_now, .inl (cy 1, 122, .inl z10))] := hD
          have hwr9 : mV z10 mW mH mS mP := hwr9
          have hv11 := hwr9
          refine lv_aload_n hx hb dX11_findMay_50 rfl (lv_at hl 2 rfl) ?_
          refine va_get (D := D) (ci := 11) (v := .ref mm_stands) (C := RX11) (T := TX11) (N := 19) hx hb hts zi11_ hown hK hP 1 rfl rfl 6 (by decide) z0_ (fun _ h9 => h9) rfl dX11_findMay_51 ?_
          refine lv_iload hx hb dX11_findMay_54 (lv_at hl 0 rfl) ?_
          refine lv_aload_n hx hb dX11_findMay_56 rfl (lv_at hl 2 rfl) ?_
          refine lv_iload_n hx hb dX11_findMay_57 rfl (lv_at hl 4 rfl) ?_
          refine wr_i (wr := [(mm_stands, .inl (cy 2, 36, .inl (upd y_mm_stands_10 v4_10 (vp_nar .boolean r7))))]) (va_runV (As := [.int pz]) (rest := [.int (nI v4_10), .ref mm_stands]) ⟨hx, hb, hml, hown, hts⟩ (n_X11_judged l D cy mW mH mS mP mm mm_now mm_kept mm_isKept mm_refused u_mm_4_10 u_mm_5_10 mm_stands mm_far mm_queue mm_queued mm_meets mm_bytes bl ta tl mm_token mm_value mm_next tk z10 pz _ (by first | assumption | omega)) (cwV 1 hts gX11_findMay_X11_judged rfl rfl rfl (by decide +kernel) ⟨Nat.le_of_ble_eq_true rfl, Nat.le_of_ble_eq_true rfl⟩) (pV (ci := 11) (k := 0) hKA (hP.sub (ws' := [(mm, .inr (11, [.ref mm_now, .ref mm_kept, .ref mm_isKept, .ref mm_refused, .int u_mm_4_10, .int u_mm_5_10, .ref mm_stands, .ref mm_far, .ref mm_queue, .int mm_queued, .ref mm_meets, .ref mm_bytes, .int (nI bl), .int (nI ta), .int (nI tl), .int mm_token, .int mm_value, .ref mm_next, .int (nI tk)])), (mm_now, .inl (cy 1, 122, .inl z10))]) [1, 2] rfl) (hD.sub (ws' := [(mm, .inr (11, [.ref mm_now, .ref mm_kept, .ref mm_isKept, .ref mm_refused, .int u_mm_4_10, .int u_mm_5_10, .ref mm_stands, .ref mm_far, .ref mm_queue, .int mm_queued, .ref mm_meets, .ref mm_bytes, .int (nI bl), .int (nI ta), .int (nI tl), .int mm_token, .int mm_value, .ref mm_next, .int (nI tk)])), (mm_now, .inl (cy 1, 122, .inl z10))]) [1, 2] (by decide) rfl) rfl rfl) rfl rfl hl.1 rfl (lv_room (Nat.le_of_ble_eq_true rfl)) dX11_findMay_58 ⟨Nat.le_of_ble_eq_true rfl, Nat.le_of_ble_eq_true rfl⟩) hP hD hS hA [1, 2] [0] rfl rfl (by decide +kernel) (by decide +kernel) (fun r12 ur12 H locs hwr12 hP hD hS => ?_)
          obtain ⟨z13, z14⟩ := ur12
          have hP : va_P D vwCl [(mm_stands, .inl (cy 2, 36, .inl (upd y_mm_stands_10 v4_10 (vp_nar .boolean r7)))), (mm, .inr (11, [.ref mm_now, .ref mm_kept, .ref mm_isKept, .ref mm_refused, .int z13, .int z14, .ref mm_stands, .ref mm_far, .ref mm_queue, .int mm_queued, .ref mm_meets, .ref mm_bytes, .int (nI bl), .int (nI ta), .int (nI tl), .int mm_token, .int mm_value, .ref mm_next, .int (nI tk)])), (mm_now, .inl (cy 1, 122, .inl z10))] H := hP
          have hD : va_D A [(mm_stands, .inl (cy 2, 36, .inl (upd y_mm_stands_10 v4_10 (vp_nar .boolean r7)))), (mm, .inr (11, [.ref mm_now, .ref mm_kept, .ref mm_isKept, .ref mm_refused, .int z13, .int z14, .ref mm_stands, .ref mm_far, .ref mm_queue, .int mm_queued, .ref mm_meets, .ref mm_bytes, .int (nI bl), .int (nI ta), .int (nI tl), .int mm_token, .int mm_value, .ref mm_next, .int (nI tk)])), (mm_now, .inl (cy 1, 122, .inl z10))] := hD
          refine lv_iconst (v := (-1)) hx hb dX11_findMay_61 (by decide) ?_
          refine lv_icmp_ne (tgt := 69) hx hb dX11_findMay_62 (by decide) (fun c15 => ?_) (fun c15 => ?_)
          · skip
            refine lv_iconst (v := 0) hx hb dX11_findMay_69 (by decide) ?_
            refine my_zast hx hb hK hP hD hS 0 2 rfl rfl (by first | exact in_ge (N := 36) (by decide) (by omega) (by assumption) | exact vp_in_nI (by omega) (by omega)) (nI_clamp (by omega)) dX11_findMay_70 (fun H locs hP hD hS => ?_)
            have hP : va_P D vwCl [(mm_stands, .inl (cy 2, 36, .inl (upd (upd y_mm_stands_10 v4_10 (vp_nar .boolean r7)) v4_10 (vp_nar .boolean 0)))), (mm, .inr (11, [.ref mm_now, .ref mm_kept, .ref mm_isKept, .ref mm_refused, .int z13, .int z14, .ref mm_stands, .ref mm_far, .ref mm_queue, .int mm_queued, .ref mm_meets, .ref mm_bytes, .int (nI bl), .int (nI ta), .int (nI tl), .int mm_token, .int mm_value, .ref mm_next, .int (nI tk)])), (mm_now, .inl (cy 1, 122, .inl z10))] H := hP
            have hD : va_D A [(mm_stands, .inl (cy 2, 36, .inl (upd (upd y_mm_stands_10 v4_10 (vp_nar .boolean r7)) v4_10 (vp_nar .boolean 0)))), (mm, .inr (11, [.ref mm_now, .ref mm_kept, .ref mm_isKept, .ref mm_refused, .int z13, .int z14, .ref mm_stands, .ref mm_far, .ref mm_queue, .int mm_queued, .ref mm_meets, .ref mm_bytes, .int (nI bl), .int (nI ta), .int (nI tl), .int mm_token, .int mm_value, .ref mm_next, .int (nI tk)])), (mm_now, .inl (cy 1, 122, .inl z10))] := hD
            refine lv_iinc (v := nI (v4_10 + 1)) (lv' := [(4, .int (nI (v4_10 + 1))), (3, .int (nI jh)), (0, .ref mm), (1, .int (nI pp)), (2, .int pz)]) hx hb dX11_findMay_71 hl (k := 0) rfl (nI_1 _) (by decide) rfl (fun ls hl => ?_)
            refine lv_goto (tgt := 10) hx hb dX11_findMay_74 (by decide) ?_
            exact ih10 (v4_10 + 1) (upd (upd y_mm_stands_10 v4_10 (vp_nar .boolean r7)) v4_10 (vp_nar .boolean 0)) z13 z14 z10 hv11 (by first | omega | exact nlt_max hv4_10 (by assumption)) (by first | omega | (have := nlt_max hv4_10 (by assumption); omega)) _ _ (hP.sub (ws' := [(mm, .inr (11, [.ref mm_now, .ref mm_kept, .ref mm_isKept, .ref mm_refused, .int z13, .int z14, .ref mm_stands, .ref mm_far, .ref mm_queue, .int mm_queued, .ref mm_meets, .ref mm_bytes, .int (nI bl), .int (nI ta), .int (nI tl), .int mm_token, .int mm_value, .ref mm_next, .int (nI tk)])), (mm_now, .inl (cy 1, 122, .inl z10)), (mm_stands, .inl (cy 2, 36, .inl (upd (upd y_mm_stands_10 v4_10 (vp_nar .boolean r7)) v4_10 (vp_nar .boolean 0))))]) [1, 2, 0] rfl) (hD.sub (ws' := [(mm, .inr (11, [.ref mm_now, .ref mm_kept, .ref mm_isKept, .ref mm_refused, .int z13, .int z14, .ref mm_stands, .ref mm_far, .ref mm_queue, .int mm_queued, .ref mm_meets, .ref mm_bytes, .int (nI bl), .int (nI ta), .int (nI tl), .int mm_token, .int mm_value, .ref mm_next, .int (nI tk)])), (mm_now, .inl (cy 1, 122, .inl z10)), (mm_stands, .inl (cy 2, 36, .inl (upd (upd y_mm_stands_10 v4_10 (vp_nar .boolean r7)) v4_10 (vp_nar .boolean 0))))]) [1, 2, 0] (by decide) rfl) hS ls hl
          · skip
            refine lv_iconst (v := 1) hx hb dX11_findMay_65 (by decide) ?_
            refine lv_goto (tgt := 70) hx hb dX11_findMay_66 (by decide) ?_
            refine my_zast hx hb hK hP hD hS 0 2 rfl rfl (by first | exact in_ge (N := 36) (by decide) (by omega) (by assumption) | exact vp_in_nI (by omega) (by omega)) (nI_clamp (by omega)) dX11_findMay_70 (fun H locs hP hD hS => ?_)
            have hP : va_P D vwCl [(mm_stands, .inl (cy 2, 36, .inl (upd (upd y_mm_stands_10 v4_10 (vp_nar .boolean r7)) v4_10 (vp_nar .boolean 1)))), (mm, .inr (11, [.ref mm_now, .ref mm_kept, .ref mm_isKept, .ref mm_refused, .int z13, .int z14, .ref mm_stands, .ref mm_far, .ref mm_queue, .int mm_queued, .ref mm_meets, .ref mm_bytes, .int (nI bl), .int (nI ta), .int (nI tl), .int mm_token, .int mm_value, .ref mm_next, .int (nI tk)])), (mm_now, .inl (cy 1, 122, .inl z10))] H := hP
            have hD : va_D A [(mm_stands, .inl (cy 2, 36, .inl (upd (upd y_mm_stands_10 v4_10 (vp_nar .boolean r7)) v4_10 (vp_nar .boolean 1)))), (mm, .inr (11, [.ref mm_now, .ref mm_kept, .ref mm_isKept, .ref mm_refused, .int z13, .int z14, .ref mm_stands, .ref mm_far, .ref mm_queue, .int mm_queued, .ref mm_meets, .ref mm_bytes, .int (nI bl), .int (nI ta), .int (nI tl), .int mm_token, .int mm_value, .ref mm_next, .int (nI tk)])), (mm_now, .inl (cy 1, 122, .inl z10))] := hD
            refine lv_iinc (v := nI (v4_10 + 1)) (lv' := [(4, .int (nI (v4_10 + 1))), (3, .int (nI jh)), (0, .ref mm), (1, .int (nI pp)), (2, .int pz)]) hx hb dX11_findMay_71 hl (k := 0) rfl (nI_1 _) (by decide) rfl (fun ls hl => ?_)
            refine lv_goto (tgt := 10) hx hb dX11_findMay_74 (by decide) ?_
            exact ih10 (v4_10 + 1) (upd (upd y_mm_stands_10 v4_10 (vp_nar .boolean r7)) v4_10 (vp_nar .boolean 1)) z13 z14 z10 hv11 (by first | omega | exact nlt_max hv4_10 (by assumption)) (by first | omega | (have := nlt_max hv4_10 (by assumption); omega)) _ _ (hP.sub (ws' := [(mm, .inr (11, [.ref mm_now, .ref mm_kept, .ref mm_isKept, .ref mm_refused, .int z13, .int z14, .ref mm_stands, .ref mm_far, .ref mm_queue, .int mm_queued, .ref mm_meets, .ref mm_bytes, .int (nI bl), .int (nI ta), .int (nI tl), .int mm_token, .int mm_value, .ref mm_next, .int (nI tk)])), (mm_now, .inl (cy 1, 122, .inl z10)), (mm_stands, .inl (cy 2, 36, .inl (upd (upd y_mm_stands_10 v4_10 (vp_nar .boolean r7)) v4_10 (vp_nar .boolean 1))))]) [1, 2, 0] rfl) (hD.sub (ws' := [(mm, .inr (11, [.ref mm_now, .ref mm_kept, .ref mm_isKept, .ref mm_refused, .int z13, .int z14, .ref mm_stands, .ref mm_far, .ref mm_queue, .int mm_queued, .ref mm_meets, .ref mm_bytes, .int (nI bl), .int (nI ta), .int (nI tl), .int mm_token, .int mm_value, .ref mm_next, .int (nI tk)])), (mm_now, .inl (cy 1, 122, .inl z10)), (mm_stands, .inl (cy 2, 36, .inl (upd (upd y_mm_stands_10 v4_10 (vp_nar .boolean r7)) v4_10 (vp_nar .boolean 1))))]) [1, 2, 0] (by decide) rfl) hS ls hl
  exact lp10 (2147483648 - 0 + 1) 0 mm_stands_f mm_lineFrom mm_lineTo mm_now_f hF (by first | omega | exact nlt_max (by assumption) (by assumption)) (Nat.lt_succ_self _) _ _ hP hD hS ls hl

set_option maxHeartbeats 4000000 in
set_option maxRecDepth 100000 in
theorem n_X11_best (l : Launch) (D : va_G) (cy : Nat → ClassId) (mm : Nat) (mm_now : Nat) (mm_kept : Nat) (mm_isKept : Nat) (mm_refused : Nat) (mm_lineFrom : Int32) (mm_lineTo : Int32) (mm_stands : Nat) (mm_far : Nat) (mm_queue : Nat) (mm_queued : Int32) (mm_meets : Nat) (mm_bytes : Nat) (bl : Nat) (ta : Nat) (tl : Nat) (mm_token : Int32) (mm_value : Int32) (mm_next : Nat) (tk : Nat) (mm_now_f : Nat → Int32) (mm_refused_f : Nat → Int32) (px : Int32) (sz : Nat) (hN : mN mm_now_f) : Met l yX11_best wsX11_best ({ frames := 9, cells := 0, slots := 0, locals := 204 }) (va_Pc [.ref mm, .int px] (kPre D cy [(mm, .inr (11, [.ref mm_now, .ref mm_kept, .ref mm_isKept, .ref mm_refused, .int mm_lineFrom, .int mm_lineTo, .ref mm_stands, .ref mm_far, .ref mm_queue, .int mm_queued, .ref mm_meets, .ref mm_bytes, .int (nI bl), .int (nI ta), .int (nI tl), .int mm_token, .int mm_value, .ref mm_next, .int (nI tk)])), (mm_now, .inl (cy 1, 122, .inl mm_now_f)), (mm_refused, .inl (cy 1, 3, .inl mm_refused_f))] sz)) (va_Qi (fun (r : Int32) (u : Int32 × Int32 × (Nat → Int32) × (Nat → Int32)) => mN u.2.2.1) (fun (u : Int32 × Int32 × (Nat → Int32) × (Nat → Int32)) t => va_P D vwCl ([(mm, .inr (11, [.ref mm_now, .ref mm_kept, .ref mm_isKept, .ref mm_refused, .int u.1, .int u.2.1, .ref mm_stands, .ref mm_far, .ref mm_queue, .int mm_queued, .ref mm_meets, .ref mm_bytes, .int (nI bl), .int (nI ta), .int (nI tl), .int mm_token, .int mm_value, .ref mm_next, .int (nI tk)])), (mm_now, .inl (cy 1, 122, .inl u.2.2.1)), (mm_refused, .inl (cy 1, 3, .inl u.2.2.2))]) t.heap ∧ va_D (va_A [(mm, .inr (11, [.ref mm_now, .ref mm_kept, .ref mm_isKept, .ref mm_refused, .int mm_lineFrom, .int mm_lineTo, .ref mm_stands, .ref mm_far, .ref mm_queue, .int mm_queued, .ref mm_meets, .ref mm_bytes, .int (nI bl), .int (nI ta), .int (nI tl), .int mm_token, .int mm_value, .ref mm_next, .int (nI tk)])), (mm_now, .inl (cy 1, 122, .inl mm_now_f)), (mm_refused, .inl (cy 1, 3, .inl mm_refused_f))] sz) ([(mm, .inr (11, [.ref mm_now, .ref mm_kept, .ref mm_isKept, .ref mm_refused, .int u.1, .int u.2.1, .ref mm_stands, .ref mm_far, .ref mm_queue, .int mm_queued, .ref mm_meets, .ref mm_bytes, .int (nI bl), .int (nI ta), .int (nI tl), .int mm_token, .int mm_value, .ref mm_next, .int (nI tk)])), (mm_now, .inl (cy 1, 122, .inl u.2.2.1)), (mm_refused, .inl (cy 1, 3, .inl u.2.2.2))])) (va_A [(mm, .inr (11, [.ref mm_now, .ref mm_kept, .ref mm_isKept, .ref mm_refused, .int mm_lineFrom, .int mm_lineTo, .ref mm_stands, .ref mm_far, .ref mm_queue, .int mm_queued, .ref mm_meets, .ref mm_bytes, .int (nI bl), .int (nI ta), .int (nI tl), .int mm_token, .int mm_value, .ref mm_next, .int (nI tk)])), (mm_now, .inl (cy 1, 122, .inl mm_now_f)), (mm_refused, .inl (cy 1, 3, .inl mm_refused_f))] sz)) 0 0 (va_A [(mm, .inr (11, [.ref mm_now, .ref mm_kept, .ref mm_isKept, .ref mm_refused, .int mm_lineFrom, .int mm_lineTo, .ref mm_stands, .ref mm_far, .ref mm_queue, .int mm_queued, .ref mm_meets, .ref mm_bytes, .int (nI bl), .int (nI ta), .int (nI tl), .int mm_token, .int mm_value, .ref mm_next, .int (nI tk)])), (mm_now, .inl (cy 1, 122, .inl mm_now_f)), (mm_refused, .inl (cy 1, 3, .inl mm_refused_f))] sz) := by
  refine Met.ofW (cc := cX11_best) (maxL := 7) (ret := (some .int)) (by decide) rfl ?_
  intro p e s m args below meth c s₁ B hml hv
  obtain ⟨rfl, hsz, hP, hKA, hD0⟩ := hv
  have hx := B.exec
  have hb := B.bytes
  have hr := B.returns
  have hts := atoms_spec (ws := wsX11_best) B.pre
  have hown : s.vm.findClass RX11 = some m.cls := findClass_of_methodNamed B.named
  have hlocks := B.notSynchronized
  subst hsz
  have hK := hKA.1
  have hD := hD0.self (sz := s.heap.size)
  generalize hAe : va_A [(mm, .inr (11, [.ref mm_now, .ref mm_kept, .ref mm_isKept, .ref mm_refused, .int mm_lineFrom, .int mm_lineTo, .ref mm_stands, .ref mm_far, .ref mm_queue, .int mm_queued, .ref mm_meets, .ref mm_bytes, .int (nI bl), .int (nI ta), .int (nI tl), .int mm_token, .int mm_value, .ref mm_next, .int (nI tk)])), (mm_now, .inl (cy 1, 122, .inl mm_now_f)), (mm_refused, .inl (cy 1, 3, .inl mm_refused_f))] s.heap.size = A at hD ⊢
  have hA : ∀ q : Nat, s.heap.size ≤ q → A q := fun q h => by rw [← hAe]; exact Or.inr h
  have hS : va_S A s.heap s.heap [] := va_S.rf
  have hP : va_P D vwCl [(mm, .inr (11, [.ref mm_now, .ref mm_kept, .ref mm_isKept, .ref mm_refused, .int mm_lineFrom, .int mm_lineTo, .ref mm_stands, .ref mm_far, .ref mm_queue, .int mm_queued, .ref mm_meets, .ref mm_bytes, .int (nI bl), .int (nI ta), .int (nI tl), .int mm_token, .int mm_value, .ref mm_next, .int (nI tk)])), (mm_now, .inl (cy 1, 122, .inl mm_now_f)), (mm_refused, .inl (cy 1, 3, .inl mm_refused_f))] s.heap := hP
  have hl := lv_entry ([.ref mm, .int px]) (n := 7) (Nat.le_of_ble_eq_true rfl)
  rw [lg_entry_eq]
  generalize (lg_sl ([.ref mm, .int px]) ++ List.replicate (7 - (lg_sl ([.ref mm, .int px])).length) Slot.unset).toArray = ls at hl ⊢
  have hl : lv_has ls 7 [(0, .ref mm), (1, .int px)] := hl
  refine qW (fun QF hQF => ?_)
  have z0_ := hts (.fieldLink RX11 7 "HeardSeenModel" "now" "[I") (by decide +kernel)
  have zi11_ : ∀ w ∈ u_ws RX11 TX11 19, w ∈ wsX11_best := by decide +kernel
  obtain ⟨mW, mH, mS, mP, hF⟩ := hN
  obtain ⟨hW2, hW6, hH2, hH6, hSe, hS4, hS6, hP5⟩ := hF.rng
  refine lv_iload_n hx hb dX11_best_0 rfl (lv_at hl 1 rfl) ?_
  refine lv_i2l hx hb dX11_best_1 rfl ?_
  refine lv_lconst (v := 0) hx hb dX11_best_2 (by decide) ?_
  refine lv_lconst (v := 1) hx hb dX11_best_3 (by decide) ?_
  refine rd_i (va_runS (As := [.long px.toInt64, .long 0, .long 1]) (rest := []) ⟨hx, hb, hml, hown, hts⟩ (n_X11_in l D cy px.toInt64 (0) (1) _ ) (va_cwS 3 hts gX11_best_X11_in rfl rfl rfl (by decide +kernel) ⟨Nat.le_of_ble_eq_true rfl, Nat.le_of_ble_eq_true rfl⟩) (pS hKA pE (dE (A := A))) rfl rfl hl.1 rfl (lv_room (Nat.le_of_ble_eq_true rfl)) dX11_best_4 ⟨Nat.le_of_ble_eq_true rfl, Nat.le_of_ble_eq_true rfl⟩) hP hS hA (fun r1 H locs hwr1 hP hS => ?_)
  have hwr1 : (r1 = 1 ∧ ((0) ≤ px.toInt64 ∧ px.toInt64 ≤ (1))) ∨ (r1 = 0 ∧ (¬ ((0) ≤ px.toInt64 ∧ px.toInt64 ≤ (1)))) := hwr1
  refine lv_if_ne (tgt := 17) hx hb dX11_best_7 (by decide) (fun c2 => ?_) (fun c2 => ?_)
  · skip
    obtain ⟨hp3, hp4⟩ := z_b1 hwr1 c2
    obtain ⟨j5, gj5, hj5, ej5⟩ := z_rng (lo := 0) (hi := 1) (by decide) (by decide) hp3 hp4
    refine lv_aload_n hx hb dX11_best_17 rfl (lv_at hl 0 rfl) ?_
    refine wr_i (wr := [(mm_refused, .inl (cy 1, 3, .inl mm_refused_f))]) (va_runV (As := []) (rest := []) ⟨hx, hb, hml, hown, hts⟩ (n_X11_manySpeakers l D cy mW mH mS mP mm mm_now mm_kept mm_isKept mm_refused mm_lineFrom mm_lineTo mm_stands mm_far mm_queue mm_queued mm_meets mm_bytes bl ta tl mm_token mm_value mm_next tk mm_now_f _ (by first | assumption | omega)) (cwV 0 hts gX11_best_X11_manySpeakers rfl rfl rfl (by decide +kernel) ⟨Nat.le_of_ble_eq_true rfl, Nat.le_of_ble_eq_true rfl⟩) (pV (ci := 11) (k := 0) hKA (hP.sub (ws' := [(mm, .inr (11, [.ref mm_now, .ref mm_kept, .ref mm_isKept, .ref mm_refused, .int mm_lineFrom, .int mm_lineTo, .ref mm_stands, .ref mm_far, .ref mm_queue, .int mm_queued, .ref mm_meets, .ref mm_bytes, .int (nI bl), .int (nI ta), .int (nI tl), .int mm_token, .int mm_value, .ref mm_next, .int (nI tk)])), (mm_now, .inl (cy 1, 122, .inl mm_now_f))]) [0, 1] rfl) (hD.sub (ws' := [(mm, .inr (11, [.ref mm_now, .ref mm_kept, .ref mm_isKept, .ref mm_refused, .int mm_lineFrom, .int mm_lineTo, .ref mm_stands, .ref mm_far, .ref mm_queue, .int mm_queued, .ref mm_meets, .ref mm_bytes, .int (nI bl), .int (nI ta), .int (nI tl), .int mm_token, .int mm_value, .ref mm_next, .int (nI tk)])), (mm_now, .inl (cy 1, 122, .inl mm_now_f))]) [0, 1] (by decide) rfl) rfl rfl) rfl rfl hl.1 rfl (lv_room (Nat.le_of_ble_eq_true rfl)) dX11_best_18 ⟨Nat.le_of_ble_eq_true rfl, Nat.le_of_ble_eq_true rfl⟩) hP hD hS hA [0, 1] [2] rfl rfl (by decide +kernel) (by decide +kernel) (fun r6 ur6 H locs hwr6 hP hD hS => ?_)
    obtain ⟨z7, z8⟩ := ur6
    have hP : va_P D vwCl [(mm_refused, .inl (cy 1, 3, .inl mm_refused_f)), (mm, .inr (11, [.ref mm_now, .ref mm_kept, .ref mm_isKept, .ref mm_refused, .int z7, .int z8, .ref mm_stands, .ref mm_far, .ref mm_queue, .int mm_queued, .ref mm_meets, .ref mm_bytes, .int (nI bl), .int (nI ta), .int (nI tl), .int mm_token, .int mm_value, .ref mm_next, .int (nI tk)])), (mm_now, .inl (cy 1, 122, .inl mm_now_f))] H := hP
    have hD : va_D A [(mm_refused, .inl (cy 1, 3, .inl mm_refused_f)), (mm, .inr (11, [.ref mm_now, .ref mm_kept, .ref mm_isKept, .ref mm_refused, .int z7, .int z8, .ref mm_stands, .ref mm_far, .ref mm_queue, .int mm_queued, .ref mm_meets, .ref mm_bytes, .int (nI bl), .int (nI ta), .int (nI tl), .int mm_token, .int mm_value, .ref mm_next, .int (nI tk)])), (mm_now, .inl (cy 1, 122, .inl mm_now_f))] := hD
    refine lv_istore_n (lv' := [(2, .int r6), (0, .ref mm), (1, .int px)]) hx hb dX11_best_21 rfl hl (by decide) rfl (fun ls hl => ?_)
    refine lv_iconst (v := (-1)) hx hb dX11_best_22 (by decide) ?_
    refine lv_istore_n (lv' := [(3, .int (-1)), (2, .int r6), (0, .ref mm), (1, .int px)]) hx hb dX11_best_23 rfl hl (by decide) rfl (fun ls hl => ?_)
    refine lv_iload_n hx hb dX11_best_24 rfl (lv_at hl 3 rfl) ?_
    refine W.eq (g2 := F0 m 25 ls [.int (nI j5)]) (congrArg (fun v9 : Int32 => F0 m 25 ls [.int v9]) ej5) ?_
    refine lv_if_ne (tgt := 33) hx hb dX11_best_25 (by decide) (fun c9 => ?_) (fun c9 => ?_)
    · skip
      refine lv_bipush (v := 56) hx hb dX11_best_33 (by decide) ?_
      refine lv_istore (lv' := [(4, .int 56), (3, .int (-1)), (2, .int r6), (0, .ref mm), (1, .int px)]) hx hb dX11_best_35 hl (by decide) rfl (fun ls hl => ?_)
      refine lv_iconst (v := 0) hx hb dX11_best_37 (by decide) ?_
      refine lv_istore (lv' := [(5, .int 0), (4, .int 56), (3, .int (-1)), (2, .int r6), (0, .ref mm), (1, .int px)]) hx hb dX11_best_38 hl (by decide) rfl (fun ls hl => ?_)
      have lp40 : ∀ (n40 : Nat) (v5_40 : Nat) (v3_40 : Int32) (u_mm_4_40 : Int32) (u_mm_5_40 : Int32) (y_mm_now_40 : Nat → Int32) (v2_40 : Int32) (hi_y_mm_now_40 : mV y_mm_now_40 mW mH mS mP) (hv5_40 : v5_40 < 2147483648), 2147483648 - v5_40 < n40 → ∀ (H : Heap) (locs : List Loc), va_P D vwCl [(mm_refused, .inl (cy 1, 3, .inl mm_refused_f)), (mm, .inr (11, [.ref mm_now, .ref mm_kept, .ref mm_isKept, .ref mm_refused, .int u_mm_4_40, .int u_mm_5_40, .ref mm_stands, .ref mm_far, .ref mm_queue, .int mm_queued, .ref mm_meets, .ref mm_bytes, .int (nI bl), .int (nI ta), .int (nI tl), .int mm_token, .int mm_value, .ref mm_next, .int (nI tk)])), (mm_now, .inl (cy 1, 122, .inl y_mm_now_40))] H → va_D A [(mm_refused, .inl (cy 1, 3, .inl mm_refused_f)), (mm, .inr (11, [.ref mm_now, .ref mm_kept, .ref mm_isKept, .ref mm_refused, .int u_mm_4_40, .int u_mm_5_40, .ref mm_stands, .ref mm_far, .ref mm_queue, .int mm_queued, .ref mm_meets, .ref mm_bytes, .int (nI bl), .int (nI ta), .int (nI tl), .int mm_token, .int mm_value, .ref mm_next, .int (nI tk)])), (mm_now, .inl (cy 1, 122, .inl y_mm_now_40))] → va_S A s.heap H locs → ∀ ls : Array Slot, lv_has ls 7 [(5, .int (nI v5_40)), (4, .int 56), (3, .int v3_40), (2, .int v2_40), (0, .ref mm), (1, .int px)] → W p l e (headSpec wsX11_best ({ frames := 9, cells := 0, slots := 0, locals := 204 })).room s m [.ref mm, .int px].toArray below meth c H locs 0 0 QF (F0 m 40 ls []) := by
        intro n40
        induction n40 with
        | zero => intro v5_40 v3_40 u_mm_4_40 u_mm_5_40 y_mm_now_40 v2_40 hi_y_mm_now_40 hv5_40 hm; exact absurd hm (Nat.not_lt_zero _)
        | succ n40 ih40 =>
          intro v5_40 v3_40 u_mm_4_40 u_mm_5_40 y_mm_now_40 v2_40 hi_y_mm_now_40 hv5_40 hm40 H locs hP hD hS ls hl
          refine lv_iload hx hb dX11_best_40 (lv_at hl 0 rfl) ?_
          refine lv_aload_n hx hb dX11_best_42 rfl (lv_at hl 4 rfl) ?_
          refine rd_i (va_runV (As := []) (rest := [.int (nI v5_40)]) ⟨hx, hb, hml, hown, hts⟩ (n_X11_squares l D cy mW mH mS mP mm mm_now mm_kept mm_isKept mm_refused u_mm_4_40 u_mm_5_40 mm_stands mm_far mm_queue mm_queued mm_meets mm_bytes bl ta tl mm_token mm_value mm_next tk y_mm_now_40 _ (by first | assumption | omega)) (cwV 0 hts gX11_best_X11_squares rfl rfl rfl (by decide +kernel) ⟨Nat.le_of_ble_eq_true rfl, Nat.le_of_ble_eq_true rfl⟩) (pV (ci := 11) (k := 0) hKA (hP.sub (ws' := [(mm, .inr (11, [.ref mm_now, .ref mm_kept, .ref mm_isKept, .ref mm_refused, .int u_mm_4_40, .int u_mm_5_40, .ref mm_stands, .ref mm_far, .ref mm_queue, .int mm_queued, .ref mm_meets, .ref mm_bytes, .int (nI bl), .int (nI ta), .int (nI tl), .int mm_token, .int mm_value, .ref mm_next, .int (nI tk)])), (mm_now, .inl (cy 1, 122, .inl y_mm_now_40))]) [1, 2] rfl) (hD.sub (ws' := [(mm, .inr (11, [.ref mm_now, .ref mm_kept, .ref mm_isKept, .ref mm_refused, .int u_mm_4_40, .int u_mm_5_40, .ref mm_stands, .ref mm_far, .ref mm_queue, .int mm_queued, .ref mm_meets, .ref mm_bytes, .int (nI bl), .int (nI ta), .int (nI tl), .int mm_token, .int mm_value, .ref mm_next, .int (nI tk)])), (mm_now, .inl (cy 1, 122, .inl y_mm_now_40))]) [1, 2] (by decide) rfl) rfl rfl) rfl rfl hl.1 rfl (lv_room (Nat.le_of_ble_eq_true rfl)) dX11_best_43 ⟨Nat.le_of_ble_eq_true rfl, Nat.le_of_ble_eq_true rfl⟩) hP hS hA (fun r10 H locs hwr10 hP hS => ?_)
          have hwr10 : r10 = nI mS := hwr10
          subst hwr10
          refine lv_icmp_ge (tgt := 132) hx hb dX11_best_46 (by decide) (fun c11 => ?_) (fun c11 => ?_)
          · skip
            refine lv_iload_n hx hb dX11_best_132 rfl (lv_at hl 2 rfl) ?_
            subst hQF
            have hP9 := hP.sub (ws' := [(mm, .inr (11, [.ref mm_now, .ref mm_kept, .ref mm_isKept, .ref mm_refused, .int u_mm_4_40, .int u_mm_5_40, .ref mm_stands, .ref mm_far, .ref mm_queue, .int mm_queued, .ref mm_meets, .ref mm_bytes, .int (nI bl), .int (nI ta), .int (nI tl), .int mm_token, .int mm_value, .ref mm_next, .int (nI tk)])), (mm_now, .inl (cy 1, 122, .inl y_mm_now_40)), (mm_refused, .inl (cy 1, 3, .inl mm_refused_f))]) [1, 2, 0] rfl
            have hD9 := hD.sub (ws' := [(mm, .inr (11, [.ref mm_now, .ref mm_kept, .ref mm_isKept, .ref mm_refused, .int u_mm_4_40, .int u_mm_5_40, .ref mm_stands, .ref mm_far, .ref mm_queue, .int mm_queued, .ref mm_meets, .ref mm_bytes, .int (nI bl), .int (nI ta), .int (nI tl), .int mm_token, .int mm_value, .ref mm_next, .int (nI tk)])), (mm_now, .inl (cy 1, 122, .inl y_mm_now_40)), (mm_refused, .inl (cy 1, 3, .inl mm_refused_f))]) [1, 2, 0] (by decide) rfl
            exact W.iret (v := v3_40) hx hb hr (fun t ht hW => ⟨⟨v3_40, (u_mm_4_40, u_mm_5_40, y_mm_now_40, mm_refused_f), rfl, ⟨_, _, _, _, hi_y_mm_now_40⟩, by rw [ht]; exact hP9, hD9⟩, hS.F ht⟩) hS.2.2 dX11_best_133
          · skip
            have hk46 := ltM (n := mS) (k := v5_40) (by omega) (by assumption) (by assumption)
            refine lv_aload_n hx hb dX11_best_49 rfl (lv_at hl 4 rfl) ?_
            refine lv_iload hx hb dX11_best_50 (lv_at hl 0 rfl) ?_
            refine lv_iconst (v := (-1)) hx hb dX11_best_52 (by decide) ?_
            refine rd_i (va_runV (As := [.int (nI v5_40), .int (-1)]) (rest := []) ⟨hx, hb, hml, hown, hts⟩ (n_X11_isFree l D cy mW mH mS mP mm mm_now mm_kept mm_isKept mm_refused u_mm_4_40 u_mm_5_40 mm_stands mm_far mm_queue mm_queued mm_meets mm_bytes bl ta tl mm_token mm_value mm_next tk y_mm_now_40 v5_40 (-1) _ (by first | assumption | omega) (by first | assumption | omega)) (cwV 2 hts gX11_best_X11_isFree rfl rfl rfl (by decide +kernel) ⟨Nat.le_of_ble_eq_true rfl, Nat.le_of_ble_eq_true rfl⟩) (pV (ci := 11) (k := 0) hKA (hP.sub (ws' := [(mm, .inr (11, [.ref mm_now, .ref mm_kept, .ref mm_isKept, .ref mm_refused, .int u_mm_4_40, .int u_mm_5_40, .ref mm_stands, .ref mm_far, .ref mm_queue, .int mm_queued, .ref mm_meets, .ref mm_bytes, .int (nI bl), .int (nI ta), .int (nI tl), .int mm_token, .int mm_value, .ref mm_next, .int (nI tk)])), (mm_now, .inl (cy 1, 122, .inl y_mm_now_40))]) [1, 2] rfl) (hD.sub (ws' := [(mm, .inr (11, [.ref mm_now, .ref mm_kept, .ref mm_isKept, .ref mm_refused, .int u_mm_4_40, .int u_mm_5_40, .ref mm_stands, .ref mm_far, .ref mm_queue, .int mm_queued, .ref mm_meets, .ref mm_bytes, .int (nI bl), .int (nI ta), .int (nI tl), .int mm_token, .int mm_value, .ref mm_next, .int (nI tk)])), (mm_now, .inl (cy 1, 122, .inl y_mm_now_40))]) [1, 2] (by decide) rfl) rfl rfl) rfl rfl hl.1 rfl (lv_room (Nat.le_of_ble_eq_true rfl)) dX11_best_53 ⟨Nat.le_of_ble_eq_true rfl, Nat.le_of_ble_eq_true rfl⟩) hP hS hA (fun r12 H locs hwr12 hP hS => ?_)
            have hwr12 : (r12 = 1 ∧ True) ∨ (r12 = 0 ∧ True) := hwr12
            refine lv_if_eq (tgt := 126) hx hb dX11_best_56 (by decide) (fun c13 => ?_) (fun c13 => ?_)
            · skip
              refine lv_iinc (v := nI (v5_40 + 1)) (lv' := [(5, .int (nI (v5_40 + 1))), (4, .int 56), (3, .int v3_40), (2, .int v2_40), (0, .ref mm), (1, .int px)]) hx hb dX11_best_126 hl (k := 0) rfl (nI_1 _) (by decide) rfl (fun ls hl => ?_)
              refine lv_goto (tgt := 40) hx hb dX11_best_129 (by decide) ?_
              exact ih40 (v5_40 + 1) v3_40 u_mm_4_40 u_mm_5_40 y_mm_now_40 v2_40 hi_y_mm_now_40 (by first | omega | exact nlt_max hv5_40 (by assumption)) (by first | omega | (have := nlt_max hv5_40 (by assumption); omega)) _ _ hP hD hS ls hl
            · skip
              refine lv_aload_n hx hb dX11_best_59 rfl (lv_at hl 4 rfl) ?_
              refine va_get (D := D) (ci := 11) (v := .ref mm_now) (C := RX11) (T := TX11) (N := 19) hx hb hts zi11_ hown hK hP 1 rfl rfl 0 (by decide) z0_ (fun _ h9 => h9) rfl dX11_best_60 ?_
              refine lv_iload hx hb dX11_best_63 (lv_at hl 1 rfl) ?_
              refine lv_iload hx hb dX11_best_65 (lv_at hl 0 rfl) ?_
              refine lv_iadd hx hb dX11_best_67 ?_
              refine lv_topi (fun x14 ex14 => ?_)
              obtain rfl : x14 = nI (56 + v5_40) := by rw [ex14]; exact nI_add _ _
              refine my_iald hx hb hK hP 2 1 rfl rfl (by first | exact in_ge (N := 122) (by decide) (by omega) (by assumption) | exact vp_in_nI (by omega) (by omega)) (nI_clamp (by omega)) dX11_best_68 ?_
              refine lv_if_ne (tgt := 126) hx hb dX11_best_69 (by decide) (fun c15 => ?_) (fun c15 => ?_)
              · skip
                refine lv_iinc (v := nI (v5_40 + 1)) (lv' := [(5, .int (nI (v5_40 + 1))), (4, .int 56), (3, .int v3_40), (2, .int v2_40), (0, .ref mm), (1, .int px)]) hx hb dX11_best_126 hl (k := 0) rfl (nI_1 _) (by decide) rfl (fun ls hl => ?_)
                refine lv_goto (tgt := 40) hx hb dX11_best_129 (by decide) ?_
                exact ih40 (v5_40 + 1) v3_40 u_mm_4_40 u_mm_5_40 y_mm_now_40 v2_40 hi_y_mm_now_40 (by first | omega | exact nlt_max hv5_40 (by assumption)) (by first | omega | (have := nlt_max hv5_40 (by assumption); omega)) _ _ hP hD hS ls hl
              · skip
                refine lv_aload_n hx hb dX11_best_72 rfl (lv_at hl 4 rfl) ?_
                refine va_get (D := D) (ci := 11) (v := .ref mm_now) (C := RX11) (T := TX11) (N := 19) hx hb hts zi11_ hown hK hP 1 rfl rfl 0 (by decide) z0_ (fun _ h9 => h9) rfl dX11_best_73 ?_
                refine lv_iload hx hb dX11_best_76 (lv_at hl 1 rfl) ?_
                refine lv_iload hx hb dX11_best_78 (lv_at hl 0 rfl) ?_
                refine lv_iadd hx hb dX11_best_80 ?_
                refine lv_topi (fun x16 ex16 => ?_)
                obtain rfl : x16 = nI (56 + v5_40) := by rw [ex16]; exact nI_add _ _
                refine lv_iconst (v := 1) hx hb dX11_best_81 (by decide) ?_
                refine my_iast hx hb hK hP hD hS 2 1 rfl rfl (by first | exact in_ge (N := 122) (by decide) (by omega) (by assumption) | exact vp_in_nI (by omega) (by omega)) (nI_clamp (by omega)) dX11_best_82 (fun H locs hP hD hS => ?_)
                have hP : va_P D vwCl [(mm_refused, .inl (cy 1, 3, .inl mm_refused_f)), (mm, .inr (11, [.ref mm_now, .ref mm_kept, .ref mm_isKept, .ref mm_refused, .int u_mm_4_40, .int u_mm_5_40, .ref mm_stands, .ref mm_far, .ref mm_queue, .int mm_queued, .ref mm_meets, .ref mm_bytes, .int (nI bl), .int (nI ta), .int (nI tl), .int mm_token, .int mm_value, .ref mm_next, .int (nI tk)])), (mm_now, .inl (cy 1, 122, .inl (upd y_mm_now_40 (56 + v5_40) 1)))] H := hP
                have hD : va_D A [(mm_refused, .inl (cy 1, 3, .inl mm_refused_f)), (mm, .inr (11, [.ref mm_now, .ref mm_kept, .ref mm_isKept, .ref mm_refused, .int u_mm_4_40, .int u_mm_5_40, .ref mm_stands, .ref mm_far, .ref mm_queue, .int mm_queued, .ref mm_meets, .ref mm_bytes, .int (nI bl), .int (nI ta), .int (nI tl), .int mm_token, .int mm_value, .ref mm_next, .int (nI tk)])), (mm_now, .inl (cy 1, 122, .inl (upd y_mm_now_40 (56 + v5_40) 1)))] := hD
                obtain ⟨f17, ef17⟩ : ∃ y : Nat → Int32, y = upd y_mm_now_40 (56 + v5_40) 1 := ⟨_, rfl⟩
                rw [← ef17] at hP hD
                have hf17 : mV f17 mW mH mS mP := by rw [ef17]; exact mV.put hi_y_mm_now_40 (56 + v5_40) 1 rfl (by omega) (by unfold mHi; (repeat' split) <;> omega)
                have hP : va_P D vwCl [(mm_refused, .inl (cy 1, 3, .inl mm_refused_f)), (mm, .inr (11, [.ref mm_now, .ref mm_kept, .ref mm_isKept, .ref mm_refused, .int u_mm_4_40, .int u_mm_5_40, .ref mm_stands, .ref mm_far, .ref mm_queue, .int mm_queued, .ref mm_meets, .ref mm_bytes, .int (nI bl), .int (nI ta), .int (nI tl), .int mm_token, .int mm_value, .ref mm_next, .int (nI tk)])), (mm_now, .inl (cy 1, 122, .inl f17))] H := hP
                have hD : va_D A [(mm_refused, .inl (cy 1, 3, .inl mm_refused_f)), (mm, .inr (11, [.ref mm_now, .ref mm_kept, .ref mm_isKept, .ref mm_refused, .int u_mm_4_40, .int u_mm_5_40, .ref mm_stands, .ref mm_far, .ref mm_queue, .int mm_queued, .ref mm_meets, .ref mm_bytes, .int (nI bl), .int (nI ta), .int (nI tl), .int mm_token, .int mm_value, .ref mm_next, .int (nI tk)])), (mm_now, .inl (cy 1, 122, .inl f17))] := hD
                refine lv_aload_n hx hb dX11_best_83 rfl (lv_at hl 4 rfl) ?_
                refine wr_i (wr := [(mm_refused, .inl (cy 1, 3, .inl mm_refused_f))]) (va_runV (As := []) (rest := []) ⟨hx, hb, hml, hown, hts⟩ (n_X11_manySpeakers l D cy mW mH mS mP mm mm_now mm_kept mm_isKept mm_refused u_mm_4_40 u_mm_5_40 mm_stands mm_far mm_queue mm_queued mm_meets mm_bytes bl ta tl mm_token mm_value mm_next tk f17 _ (by first | assumption | omega)) (cwV 0 hts gX11_best_X11_manySpeakers rfl rfl rfl (by decide +kernel) ⟨Nat.le_of_ble_eq_true rfl, Nat.le_of_ble_eq_true rfl⟩) (pV (ci := 11) (k := 0) hKA (hP.sub (ws' := [(mm, .inr (11, [.ref mm_now, .ref mm_kept, .ref mm_isKept, .ref mm_refused, .int u_mm_4_40, .int u_mm_5_40, .ref mm_stands, .ref mm_far, .ref mm_queue, .int mm_queued, .ref mm_meets, .ref mm_bytes, .int (nI bl), .int (nI ta), .int (nI tl), .int mm_token, .int mm_value, .ref mm_next, .int (nI tk)])), (mm_now, .inl (cy 1, 122, .inl f17))]) [1, 2] rfl) (hD.sub (ws' := [(mm, .inr (11, [.ref mm_now, .ref mm_kept, .ref mm_isKept, .ref mm_refused, .int u_mm_4_40, .int u_mm_5_40, .ref mm_stands, .ref mm_far, .ref mm_queue, .int mm_queued, .ref mm_meets, .ref mm_bytes, .int (nI bl), .int (nI ta), .int (nI tl), .int mm_token, .int mm_value, .ref mm_next, .int (nI tk)])), (mm_now, .inl (cy 1, 122, .inl f17))]) [1, 2] (by decide) rfl) rfl rfl) rfl rfl hl.1 rfl (lv_room (Nat.le_of_ble_eq_true rfl)) dX11_best_84 ⟨Nat.le_of_ble_eq_true rfl, Nat.le_of_ble_eq_true rfl⟩) hP hD hS hA [1, 2] [0] rfl rfl (by decide +kernel) (by decide +kernel) (fun r18 ur18 H locs hwr18 hP hD hS => ?_)
                obtain ⟨z19, z20⟩ := ur18
                have hP : va_P D vwCl [(mm_refused, .inl (cy 1, 3, .inl mm_refused_f)), (mm, .inr (11, [.ref mm_now, .ref mm_kept, .ref mm_isKept, .ref mm_refused, .int z19, .int z20, .ref mm_stands, .ref mm_far, .ref mm_queue, .int mm_queued, .ref mm_meets, .ref mm_bytes, .int (nI bl), .int (nI ta), .int (nI tl), .int mm_token, .int mm_value, .ref mm_next, .int (nI tk)])), (mm_now, .inl (cy 1, 122, .inl f17))] H := hP
                have hD : va_D A [(mm_refused, .inl (cy 1, 3, .inl mm_refused_f)), (mm, .inr (11, [.ref mm_now, .ref mm_kept, .ref mm_isKept, .ref mm_refused, .int z19, .int z20, .ref mm_stands, .ref mm_far, .ref mm_queue, .int mm_queued, .ref mm_meets, .ref mm_bytes, .int (nI bl), .int (nI ta), .int (nI tl), .int mm_token, .int mm_value, .ref mm_next, .int (nI tk)])), (mm_now, .inl (cy 1, 122, .inl f17))] := hD
                refine lv_istore (lv' := [(6, .int r18), (5, .int (nI v5_40)), (4, .int 56), (3, .int v3_40), (2, .int v2_40), (0, .ref mm), (1, .int px)]) hx hb dX11_best_87 hl (by decide) rfl (fun ls hl => ?_)
                refine lv_aload_n hx hb dX11_best_89 rfl (lv_at hl 5 rfl) ?_
                refine va_get (D := D) (ci := 11) (v := .ref mm_now) (C := RX11) (T := TX11) (N := 19) hx hb hts zi11_ hown hK hP 1 rfl rfl 0 (by decide) z0_ (fun _ h9 => h9) rfl dX11_best_90 ?_
                refine lv_iload hx hb dX11_best_93 (lv_at hl 2 rfl) ?_
                refine lv_iload hx hb dX11_best_95 (lv_at hl 1 rfl) ?_
                refine lv_iadd hx hb dX11_best_97 ?_
                refine lv_topi (fun x21 ex21 => ?_)
                obtain rfl : x21 = nI (56 + v5_40) := by rw [ex21]; exact nI_add _ _
                refine lv_iconst (v := 0) hx hb dX11_best_98 (by decide) ?_
                refine my_iast hx hb hK hP hD hS 2 1 rfl rfl (by first | exact in_ge (N := 122) (by decide) (by omega) (by assumption) | exact vp_in_nI (by omega) (by omega)) (nI_clamp (by omega)) dX11_best_99 (fun H locs hP hD hS => ?_)
                have hP : va_P D vwCl [(mm_refused, .inl (cy 1, 3, .inl mm_refused_f)), (mm, .inr (11, [.ref mm_now, .ref mm_kept, .ref mm_isKept, .ref mm_refused, .int z19, .int z20, .ref mm_stands, .ref mm_far, .ref mm_queue, .int mm_queued, .ref mm_meets, .ref mm_bytes, .int (nI bl), .int (nI ta), .int (nI tl), .int mm_token, .int mm_value, .ref mm_next, .int (nI tk)])), (mm_now, .inl (cy 1, 122, .inl (upd f17 (56 + v5_40) 0)))] H := hP
                have hD : va_D A [(mm_refused, .inl (cy 1, 3, .inl mm_refused_f)), (mm, .inr (11, [.ref mm_now, .ref mm_kept, .ref mm_isKept, .ref mm_refused, .int z19, .int z20, .ref mm_stands, .ref mm_far, .ref mm_queue, .int mm_queued, .ref mm_meets, .ref mm_bytes, .int (nI bl), .int (nI ta), .int (nI tl), .int mm_token, .int mm_value, .ref mm_next, .int (nI tk)])), (mm_now, .inl (cy 1, 122, .inl (upd f17 (56 + v5_40) 0)))] := hD
                obtain ⟨f22, ef22⟩ : ∃ y : Nat → Int32, y = upd f17 (56 + v5_40) 0 := ⟨_, rfl⟩
                rw [← ef22] at hP hD
                have hf22 : mV f22 mW mH mS mP := by rw [ef22]; exact mV.put hf17 (56 + v5_40) 0 rfl (by omega) (by unfold mHi; (repeat' split) <;> omega)
                have hP : va_P D vwCl [(mm_refused, .inl (cy 1, 3, .inl mm_refused_f)), (mm, .inr (11, [.ref mm_now, .ref mm_kept, .ref mm_isKept, .ref mm_refused, .int z19, .int z20, .ref mm_stands, .ref mm_far, .ref mm_queue, .int mm_queued, .ref mm_meets, .ref mm_bytes, .int (nI bl), .int (nI ta), .int (nI tl), .int mm_token, .int mm_value, .ref mm_next, .int (nI tk)])), (mm_now, .inl (cy 1, 122, .inl f22))] H := hP
                have hD : va_D A [(mm_refused, .inl (cy 1, 3, .inl mm_refused_f)), (mm, .inr (11, [.ref mm_now, .ref mm_kept, .ref mm_isKept, .ref mm_refused, .int z19, .int z20, .ref mm_stands, .ref mm_far, .ref mm_queue, .int mm_queued, .ref mm_meets, .ref mm_bytes, .int (nI bl), .int (nI ta), .int (nI tl), .int mm_token, .int mm_value, .ref mm_next, .int (nI tk)])), (mm_now, .inl (cy 1, 122, .inl f22))] := hD
                refine lv_iload hx hb dX11_best_100 (lv_at hl 0 rfl) ?_
                refine lv_iload_n hx hb dX11_best_102 rfl (lv_at hl 4 rfl) ?_
                have j112 : ∀ (s1_112 : Int32) (H : Heap) (locs : List Loc), va_P D vwCl [(mm_refused, .inl (cy 1, 3, .inl mm_refused_f)), (mm, .inr (11, [.ref mm_now, .ref mm_kept, .ref mm_isKept, .ref mm_refused, .int z19, .int z20, .ref mm_stands, .ref mm_far, .ref mm_queue, .int mm_queued, .ref mm_meets, .ref mm_bytes, .int (nI bl), .int (nI ta), .int (nI tl), .int mm_token, .int mm_value, .ref mm_next, .int (nI tk)])), (mm_now, .inl (cy 1, 122, .inl f22))] H → va_D A [(mm_refused, .inl (cy 1, 3, .inl mm_refused_f)), (mm, .inr (11, [.ref mm_now, .ref mm_kept, .ref mm_isKept, .ref mm_refused, .int z19, .int z20, .ref mm_stands, .ref mm_far, .ref mm_queue, .int mm_queued, .ref mm_meets, .ref mm_bytes, .int (nI bl), .int (nI ta), .int (nI tl), .int mm_token, .int mm_value, .ref mm_next, .int (nI tk)])), (mm_now, .inl (cy 1, 122, .inl f22))] → va_S A s.heap H locs → ∀ ls : Array Slot, lv_has ls 7 [(6, .int r18), (5, .int (nI v5_40)), (4, .int 56), (3, .int v3_40), (2, .int v2_40), (0, .ref mm), (1, .int px)] → W p l e (headSpec wsX11_best ({ frames := 9, cells := 0, slots := 0, locals := 204 })).room s m [.ref mm, .int px].toArray below meth c H locs 0 0 QF (F0 m 112 ls [.int s1_112]) := by
                  intro s1_112 H locs hP hD hS ls hl
                  refine lv_istore_n (lv' := [(3, .int s1_112), (6, .int r18), (5, .int (nI v5_40)), (4, .int 56), (2, .int v2_40), (0, .ref mm), (1, .int px)]) hx hb dX11_best_112 rfl hl (by decide) rfl (fun ls hl => ?_)
                  refine lv_iload hx hb dX11_best_113 (lv_at hl 1 rfl) ?_
                  refine lv_iload_n hx hb dX11_best_115 rfl (lv_at hl 4 rfl) ?_
                  refine lv_icmp_le (tgt := 124) hx hb dX11_best_116 (by decide) (fun c23 => ?_) (fun c23 => ?_)
                  · skip
                    refine lv_iload_n hx hb dX11_best_124 rfl (lv_at hl 4 rfl) ?_
                    refine lv_istore_n (lv' := [(2, .int v2_40), (3, .int s1_112), (6, .int r18), (5, .int (nI v5_40)), (4, .int 56), (0, .ref mm), (1, .int px)]) hx hb dX11_best_125 rfl hl (by decide) rfl (fun ls hl => ?_)
                    refine lv_iinc (v := nI (v5_40 + 1)) (lv' := [(5, .int (nI (v5_40 + 1))), (2, .int v2_40), (3, .int s1_112), (6, .int r18), (4, .int 56), (0, .ref mm), (1, .int px)]) hx hb dX11_best_126 hl (k := 3) rfl (nI_1 _) (by decide) rfl (fun ls hl => ?_)
                    refine lv_goto (tgt := 40) hx hb dX11_best_129 (by decide) ?_
                    exact ih40 (v5_40 + 1) s1_112 z19 z20 f22 v2_40 hf22 (by first | omega | exact nlt_max hv5_40 (by assumption)) (by first | omega | (have := nlt_max hv5_40 (by assumption); omega)) _ _ hP hD hS ls (lv_sub hl [0, 4, 2, 1, 5, 6] rfl)
                  · skip
                    refine lv_iload hx hb dX11_best_119 (lv_at hl 1 rfl) ?_
                    refine lv_goto (tgt := 125) hx hb dX11_best_121 (by decide) ?_
                    refine lv_istore_n (lv' := [(2, .int r18), (3, .int s1_112), (6, .int r18), (5, .int (nI v5_40)), (4, .int 56), (0, .ref mm), (1, .int px)]) hx hb dX11_best_125 rfl hl (by decide) rfl (fun ls hl => ?_)
                    refine lv_iinc (v := nI (v5_40 + 1)) (lv' := [(5, .int (nI (v5_40 + 1))), (2, .int r18), (3, .int s1_112), (6, .int r18), (4, .int 56), (0, .ref mm), (1, .int px)]) hx hb dX11_best_126 hl (k := 3) rfl (nI_1 _) (by decide) rfl (fun ls hl => ?_)
                    refine lv_goto (tgt := 40) hx hb dX11_best_129 (by decide) ?_
                    exact ih40 (v5_40 + 1) s1_112 z19 z20 f22 r18 hf22 (by first | omega | exact nlt_max hv5_40 (by assumption)) (by first | omega | (have := nlt_max hv5_40 (by assumption); omega)) _ _ hP hD hS ls (lv_sub hl [0, 4, 2, 1, 5, 6] rfl)
                refine lv_icmp_le (tgt := 111) hx hb dX11_best_103 (by decide) (fun c24 => ?_) (fun c24 => ?_)
                · skip
                  refine lv_iload_n hx hb dX11_best_111 rfl (lv_at hl 3 rfl) ?_
                  exact j112 v3_40 _ _ hP hD hS ls hl
                · skip
                  refine lv_iload hx hb dX11_best_106 (lv_at hl 1 rfl) ?_
                  refine lv_goto (tgt := 112) hx hb dX11_best_108 (by decide) ?_
                  exact j112 (nI v5_40) _ _ hP hD hS ls hl
      exact lp40 (2147483648 - 0 + 1) 0 (-1) z7 z8 mm_now_f r6 hF (by first | omega | exact nlt_max (by assumption) (by assumption)) (Nat.lt_succ_self _) _ _ hP hD hS ls hl
    · skip
      refine lv_bipush (v := 20) hx hb dX11_best_28 (by decide) ?_
      refine lv_goto (tgt := 35) hx hb dX11_best_30 (by decide) ?_
      refine lv_istore (lv' := [(4, .int 20), (3, .int (-1)), (2, .int r6), (0, .ref mm), (1, .int px)]) hx hb dX11_best_35 hl (by decide) rfl (fun ls hl => ?_)
      refine lv_iconst (v := 0) hx hb dX11_best_37 (by decide) ?_
      refine lv_istore (lv' := [(5, .int 0), (4, .int 20), (3, .int (-1)), (2, .int r6), (0, .ref mm), (1, .int px)]) hx hb dX11_best_38 hl (by decide) rfl (fun ls hl => ?_)
      have lp40 : ∀ (n40 : Nat) (v5_40 : Nat) (v3_40 : Int32) (u_mm_4_40 : Int32) (u_mm_5_40 : Int32) (y_mm_now_40 : Nat → Int32) (v2_40 : Int32) (hi_y_mm_now_40 : mV y_mm_now_40 mW mH mS mP) (hv5_40 : v5_40 < 2147483648), 2147483648 - v5_40 < n40 → ∀ (H : Heap) (locs : List Loc), va_P D vwCl [(mm_refused, .inl (cy 1, 3, .inl mm_refused_f)), (mm, .inr (11, [.ref mm_now, .ref mm_kept, .ref mm_isKept, .ref mm_refused, .int u_mm_4_40, .int u_mm_5_40, .ref mm_stands, .ref mm_far, .ref mm_queue, .int mm_queued, .ref mm_meets, .ref mm_bytes, .int (nI bl), .int (nI ta), .int (nI tl), .int mm_token, .int mm_value, .ref mm_next, .int (nI tk)])), (mm_now, .inl (cy 1, 122, .inl y_mm_now_40))] H → va_D A [(mm_refused, .inl (cy 1, 3, .inl mm_refused_f)), (mm, .inr (11, [.ref mm_now, .ref mm_kept, .ref mm_isKept, .ref mm_refused, .int u_mm_4_40, .int u_mm_5_40, .ref mm_stands, .ref mm_far, .ref mm_queue, .int mm_queued, .ref mm_meets, .ref mm_bytes, .int (nI bl), .int (nI ta), .int (nI tl), .int mm_token, .int mm_value, .ref mm_next, .int (nI tk)])), (mm_now, .inl (cy 1, 122, .inl y_mm_now_40))] → va_S A s.heap H locs → ∀ ls : Array Slot, lv_has ls 7 [(5, .int (nI v5_40)), (4, .int 20), (3, .int v3_40), (2, .int v2_40), (0, .ref mm), (1, .int px)] → W p l e (headSpec wsX11_best ({ frames := 9, cells := 0, slots := 0, locals := 204 })).room s m [.ref mm, .int px].toArray below meth c H locs 0 0 QF (F0 m 40 ls []) := by
        intro n40
        induction n40 with
        | zero => intro v5_40 v3_40 u_mm_4_40 u_mm_5_40 y_mm_now_40 v2_40 hi_y_mm_now_40 hv5_40 hm; exact absurd hm (Nat.not_lt_zero _)
        | succ n40 ih40 =>
          intro v5_40 v3_40 u_mm_4_40 u_mm_5_40 y_mm_now_40 v2_40 hi_y_mm_now_40 hv5_40 hm40 H locs hP hD hS ls hl
          refine lv_iload hx hb dX11_best_40 (lv_at hl 0 rfl) ?_
          refine lv_aload_n hx hb dX11_best_42 rfl (lv_at hl 4 rfl) ?_
          refine rd_i (va_runV (As := []) (rest := [.int (nI v5_40)]) ⟨hx, hb, hml, hown, hts⟩ (n_X11_squares l D cy mW mH mS mP mm mm_now mm_kept mm_isKept mm_refused u_mm_4_40 u_mm_5_40 mm_stands mm_far mm_queue mm_queued mm_meets mm_bytes bl ta tl mm_token mm_value mm_next tk y_mm_now_40 _ (by first | assumption | omega)) (cwV 0 hts gX11_best_X11_squares rfl rfl rfl (by decide +kernel) ⟨Nat.le_of_ble_eq_true rfl, Nat.le_of_ble_eq_true rfl⟩) (pV (ci := 11) (k := 0) hKA (hP.sub (ws' := [(mm, .inr (11, [.ref mm_now, .ref mm_kept, .ref mm_isKept, .ref mm_refused, .int u_mm_4_40, .int u_mm_5_40, .ref mm_stands, .ref mm_far, .ref mm_queue, .int mm_queued, .ref mm_meets, .ref mm_bytes, .int (nI bl), .int (nI ta), .int (nI tl), .int mm_token, .int mm_value, .ref mm_next, .int (nI tk)])), (mm_now, .inl (cy 1, 122, .inl y_mm_now_40))]) [1, 2] rfl) (hD.sub (ws' := [(mm, .inr (11, [.ref mm_now, .ref mm_kept, .ref mm_isKept, .ref mm_refused, .int u_mm_4_40, .int u_mm_5_40, .ref mm_stands, .ref mm_far, .ref mm_queue, .int mm_queued, .ref mm_meets, .ref mm_bytes, .int (nI bl), .int (nI ta), .int (nI tl), .int mm_token, .int mm_value, .ref mm_next, .int (nI tk)])), (mm_now, .inl (cy 1, 122, .inl y_mm_now_40))]) [1, 2] (by decide) rfl) rfl rfl) rfl rfl hl.1 rfl (lv_room (Nat.le_of_ble_eq_true rfl)) dX11_best_43 ⟨Nat.le_of_ble_eq_true rfl, Nat.le_of_ble_eq_true rfl⟩) hP hS hA (fun r25 H locs hwr25 hP hS => ?_)
          have hwr25 : r25 = nI mS := hwr25
          subst hwr25
          refine lv_icmp_ge (tgt := 132) hx hb dX11_best_46 (by decide) (fun c26 => ?_) (fun c26 => ?_)
          · skip
            refine lv_iload_n hx hb dX11_best_132 rfl (lv_at hl 2 rfl) ?_
            subst hQF
            have hP9 := hP.sub (ws' := [(mm, .inr (11, [.ref mm_now, .ref mm_kept, .ref mm_isKept, .ref mm_refused, .int u_mm_4_40, .int u_mm_5_40, .ref mm_stands, .ref mm_far, .ref mm_queue, .int mm_queued, .ref mm_meets, .ref mm_bytes, .int (nI bl), .int (nI ta), .int (nI tl), .int mm_token, .int mm_value, .ref mm_next, .int (nI tk)])), (mm_now, .inl (cy 1, 122, .inl y_mm_now_40)), (mm_refused, .inl (cy 1, 3, .inl mm_refused_f))]) [1, 2, 0] rfl
            have hD9 := hD.sub (ws' := [(mm, .inr (11, [.ref mm_now, .ref mm_kept, .ref mm_isKept, .ref mm_refused, .int u_mm_4_40, .int u_mm_5_40, .ref mm_stands, .ref mm_far, .ref mm_queue, .int mm_queued, .ref mm_meets, .ref mm_bytes, .int (nI bl), .int (nI ta), .int (nI tl), .int mm_token, .int mm_value, .ref mm_next, .int (nI tk)])), (mm_now, .inl (cy 1, 122, .inl y_mm_now_40)), (mm_refused, .inl (cy 1, 3, .inl mm_refused_f))]) [1, 2, 0] (by decide) rfl
            exact W.iret (v := v3_40) hx hb hr (fun t ht hW => ⟨⟨v3_40, (u_mm_4_40, u_mm_5_40, y_mm_now_40, mm_refused_f), rfl, ⟨_, _, _, _, hi_y_mm_now_40⟩, by rw [ht]; exact hP9, hD9⟩, hS.F ht⟩) hS.2.2 dX11_best_133
          · skip
            have hk46 := ltM (n := mS) (k := v5_40) (by omega) (by assumption) (by assumption)
            refine lv_aload_n hx hb dX11_best_49 rfl (lv_at hl 4 rfl) ?_
            refine lv_iload hx hb dX11_best_50 (lv_at hl 0 rfl) ?_
            refine lv_iconst (v := (-1)) hx hb dX11_best_52 (by decide) ?_
            refine rd_i (va_runV (As := [.int (nI v5_40), .int (-1)]) (rest := []) ⟨hx, hb, hml, hown, hts⟩ (n_X11_isFree l D cy mW mH mS mP mm mm_now mm_kept mm_isKept mm_refused u_mm_4_40 u_mm_5_40 mm_stands mm_far mm_queue mm_queued mm_meets mm_bytes bl ta tl mm_token mm_value mm_next tk y_mm_now_40 v5_40 (-1) _ (by first | assumption | omega) (by first | assumption | omega)) (cwV 2 hts gX11_best_X11_isFree rfl rfl rfl (by decide +kernel) ⟨Nat.le_of_ble_eq_true rfl, Nat.le_of_ble_eq_true rfl⟩) (pV (ci := 11) (k := 0) hKA (hP.sub (ws' := [(mm, .inr (11, [.ref mm_now, .ref mm_kept, .ref mm_isKept, .ref mm_refused, .int u_mm_4_40, .int u_mm_5_40, .ref mm_stands, .ref mm_far, .ref mm_queue, .int mm_queued, .ref mm_meets, .ref mm_bytes, .int (nI bl), .int (nI ta), .int (nI tl), .int mm_token, .int mm_value, .ref mm_next, .int (nI tk)])), (mm_now, .inl (cy 1, 122, .inl y_mm_now_40))]) [1, 2] rfl) (hD.sub (ws' := [(mm, .inr (11, [.ref mm_now, .ref mm_kept, .ref mm_isKept, .ref mm_refused, .int u_mm_4_40, .int u_mm_5_40, .ref mm_stands, .ref mm_far, .ref mm_queue, .int mm_queued, .ref mm_meets, .ref mm_bytes, .int (nI bl), .int (nI ta), .int (nI tl), .int mm_token, .int mm_value, .ref mm_next, .int (nI tk)])), (mm_now, .inl (cy 1, 122, .inl y_mm_now_40))]) [1, 2] (by decide) rfl) rfl rfl) rfl rfl hl.1 rfl (lv_room (Nat.le_of_ble_eq_true rfl)) dX11_best_53 ⟨Nat.le_of_ble_eq_true rfl, Nat.le_of_ble_eq_true rfl⟩) hP hS hA (fun r27 H locs hwr27 hP hS => ?_)
            have hwr27 : (r27 = 1 ∧ True) ∨ (r27 = 0 ∧ True) := hwr27
            refine lv_if_eq (tgt := 126) hx hb dX11_best_56 (by decide) (fun c28 => ?_) (fun c28 => ?_)
            · skip
              refine lv_iinc (v := nI (v5_40 + 1)) (lv' := [(5, .int (nI (v5_40 + 1))), (4, .int 20), (3, .int v3_40), (2, .int v2_40), (0, .ref mm), (1, .int px)]) hx hb dX11_best_126 hl (k := 0) rfl (nI_1 _) (by decide) rfl (fun ls hl => ?_)
              refine lv_goto (tgt := 40) hx hb dX11_best_129 (by decide) ?_
              exact ih40 (v5_40 + 1) v3_40 u_mm_4_40 u_mm_5_40 y_mm_now_40 v2_40 hi_y_mm_now_40 (by first | omega | exact nlt_max hv5_40 (by assumption)) (by first | omega | (have := nlt_max hv5_40 (by assumption); omega)) _ _ hP hD hS ls hl
            · skip
              refine lv_aload_n hx hb dX11_best_59 rfl (lv_at hl 4 rfl) ?_
              refine va_get (D := D) (ci := 11) (v := .ref mm_now) (C := RX11) (T := TX11) (N := 19) hx hb hts zi11_ hown hK hP 1 rfl rfl 0 (by decide) z0_ (fun _ h9 => h9) rfl dX11_best_60 ?_
              refine lv_iload hx hb dX11_best_63 (lv_at hl 1 rfl) ?_
              refine lv_iload hx hb dX11_best_65 (lv_at hl 0 rfl) ?_
              refine lv_iadd hx hb dX11_best_67 ?_
              refine lv_topi (fun x29 ex29 => ?_)
              obtain rfl : x29 = nI (20 + v5_40) := by rw [ex29]; exact nI_add _ _
              refine my_iald hx hb hK hP 2 1 rfl rfl (by first | exact in_ge (N := 122) (by decide) (by omega) (by assumption) | exact vp_in_nI (by omega) (by omega)) (nI_clamp (by omega)) dX11_best_68 ?_
              refine lv_if_ne (tgt := 126) hx hb dX11_best_69 (by decide) (fun c30 => ?_) (fun c30 => ?_)
              · skip
                refine lv_iinc (v := nI (v5_40 + 1)) (lv' := [(5, .int (nI (v5_40 + 1))), (4, .int 20), (3, .int v3_40), (2, .int v2_40), (0, .ref mm), (1, .int px)]) hx hb dX11_best_126 hl (k := 0) rfl (nI_1 _) (by decide) rfl (fun ls hl => ?_)
                refine lv_goto (tgt := 40) hx hb dX11_best_129 (by decide) ?_
                exact ih40 (v5_40 + 1) v3_40 u_mm_4_40 u_mm_5_40 y_mm_now_40 v2_40 hi_y_mm_now_40 (by first | omega | exact nlt_max hv5_40 (by assumption)) (by first | omega | (have := nlt_max hv5_40 (by assumption); omega)) _ _ hP hD hS ls hl
              · skip
                refine lv_aload_n hx hb dX11_best_72 rfl (lv_at hl 4 rfl) ?_
                refine va_get (D := D) (ci := 11) (v := .ref mm_now) (C := RX11) (T := TX11) (N := 19) hx hb hts zi11_ hown hK hP 1 rfl rfl 0 (by decide) z0_ (fun _ h9 => h9) rfl dX11_best_73 ?_
                refine lv_iload hx hb dX11_best_76 (lv_at hl 1 rfl) ?_
                refine lv_iload hx hb dX11_best_78 (lv_at hl 0 rfl) ?_
                refine lv_iadd hx hb dX11_best_80 ?_
                refine lv_topi (fun x31 ex31 => ?_)
                obtain rfl : x31 = nI (20 + v5_40) := by rw [ex31]; exact nI_add _ _
                refine lv_iconst (v := 1) hx hb dX11_best_81 (by decide) ?_
                refine my_iast hx hb hK hP hD hS 2 1 rfl rfl (by first | exact in_ge (N := 122) (by decide) (by omega) (by assumption) | exact vp_in_nI (by omega) (by omega)) (nI_clamp (by omega)) dX11_best_82 (fun H locs hP hD hS => ?_)
                have hP : va_P D vwCl [(mm_refused, .inl (cy 1, 3, .inl mm_refused_f)), (mm, .inr (11, [.ref mm_now, .ref mm_kept, .ref mm_isKept, .ref mm_refused, .int u_mm_4_40, .int u_mm_5_40, .ref mm_stands, .ref mm_far, .ref mm_queue, .int mm_queued, .ref mm_meets, .ref mm_bytes, .int (nI bl), .int (nI ta), .int (nI tl), .int mm_token, .int mm_value, .ref mm_next, .int (nI tk)])), (mm_now, .inl (cy 1, 122, .inl (upd y_mm_now_40 (20 + v5_40) 1)))] H := hP
                have hD : va_D A [(mm_refused, .inl (cy 1, 3, .inl mm_refused_f)), (mm, .inr (11, [.ref mm_now, .ref mm_kept, .ref mm_isKept, .ref mm_refused, .int u_mm_4_40, .int u_mm_5_40, .ref mm_stands, .ref mm_far, .ref mm_queue, .int mm_queued, .ref mm_meets, .ref mm_bytes, .int (nI bl), .int (nI ta), .int (nI tl), .int mm_token, .int mm_value, .ref mm_next, .int (nI tk)])), (mm_now, .inl (cy 1, 122, .inl (upd y_mm_now_40 (20 + v5_40) 1)))] := hD
                obtain ⟨f32, ef32⟩ : ∃ y : Nat → Int32, y = upd y_mm_now_40 (20 + v5_40) 1 := ⟨_, rfl⟩
                rw [← ef32] at hP hD
                have hf32 : mV f32 mW mH mS mP := by rw [ef32]; exact mV.put hi_y_mm_now_40 (20 + v5_40) 1 rfl (by omega) (by unfold mHi; (repeat' split) <;> omega)
                have hP : va_P D vwCl [(mm_refused, .inl (cy 1, 3, .inl mm_refused_f)), (mm, .inr (11, [.ref mm_now, .ref mm_kept, .ref mm_isKept, .ref mm_refused, .int u_mm_4_40, .int u_mm_5_40, .ref mm_stands, .ref mm_far, .ref mm_queue, .int mm_queued, .ref mm_meets, .ref mm_bytes, .int (nI bl), .int (nI ta), .int (nI tl), .int mm_token, .int mm_value, .ref mm_next, .int (nI tk)])), (mm_now, .inl (cy 1, 122, .inl f32))] H := hP
                have hD : va_D A [(mm_refused, .inl (cy 1, 3, .inl mm_refused_f)), (mm, .inr (11, [.ref mm_now, .ref mm_kept, .ref mm_isKept, .ref mm_refused, .int u_mm_4_40, .int u_mm_5_40, .ref mm_stands, .ref mm_far, .ref mm_queue, .int mm_queued, .ref mm_meets, .ref mm_bytes, .int (nI bl), .int (nI ta), .int (nI tl), .int mm_token, .int mm_value, .ref mm_next, .int (nI tk)])), (mm_now, .inl (cy 1, 122, .inl f32))] := hD
                refine lv_aload_n hx hb dX11_best_83 rfl (lv_at hl 4 rfl) ?_
                refine wr_i (wr := [(mm_refused, .inl (cy 1, 3, .inl mm_refused_f))]) (va_runV (As := []) (rest := []) ⟨hx, hb, hml, hown, hts⟩ (n_X11_manySpeakers l D cy mW mH mS mP mm mm_now mm_kept mm_isKept mm_refused u_mm_4_40 u_mm_5_40 mm_stands mm_far mm_queue mm_queued mm_meets mm_bytes bl ta tl mm_token mm_value mm_next tk f32 _ (by first | assumption | omega)) (cwV 0 hts gX11_best_X11_manySpeakers rfl rfl rfl (by decide +kernel) ⟨Nat.le_of_ble_eq_true rfl, Nat.le_of_ble_eq_true rfl⟩) (pV (ci := 11) (k := 0) hKA (hP.sub (ws' := [(mm, .inr (11, [.ref mm_now, .ref mm_kept, .ref mm_isKept, .ref mm_refused, .int u_mm_4_40, .int u_mm_5_40, .ref mm_stands, .ref mm_far, .ref mm_queue, .int mm_queued, .ref mm_meets, .ref mm_bytes, .int (nI bl), .int (nI ta), .int (nI tl), .int mm_token, .int mm_value, .ref mm_next, .int (nI tk)])), (mm_now, .inl (cy 1, 122, .inl f32))]) [1, 2] rfl) (hD.sub (ws' := [(mm, .inr (11, [.ref mm_now, .ref mm_kept, .ref mm_isKept, .ref mm_refused, .int u_mm_4_40, .int u_mm_5_40, .ref mm_stands, .ref mm_far, .ref mm_queue, .int mm_queued, .ref mm_meets, .ref mm_bytes, .int (nI bl), .int (nI ta), .int (nI tl), .int mm_token, .int mm_value, .ref mm_next, .int (nI tk)])), (mm_now, .inl (cy 1, 122, .inl f32))]) [1, 2] (by decide) rfl) rfl rfl) rfl rfl hl.1 rfl (lv_room (Nat.le_of_ble_eq_true rfl)) dX11_best_84 ⟨Nat.le_of_ble_eq_true rfl, Nat.le_of_ble_eq_true rfl⟩) hP hD hS hA [1, 2] [0] rfl rfl (by decide +kernel) (by decide +kernel) (fun r33 ur33 H locs hwr33 hP hD hS => ?_)
                obtain ⟨z34, z35⟩ := ur33
                have hP : va_P D vwCl [(mm_refused, .inl (cy 1, 3, .inl mm_refused_f)), (mm, .inr (11, [.ref mm_now, .ref mm_kept, .ref mm_isKept, .ref mm_refused, .int z34, .int z35, .ref mm_stands, .ref mm_far, .ref mm_queue, .int mm_queued, .ref mm_meets, .ref mm_bytes, .int (nI bl), .int (nI ta), .int (nI tl), .int mm_token, .int mm_value, .ref mm_next, .int (nI tk)])), (mm_now, .inl (cy 1, 122, .inl f32))] H := hP
                have hD : va_D A [(mm_refused, .inl (cy 1, 3, .inl mm_refused_f)), (mm, .inr (11, [.ref mm_now, .ref mm_kept, .ref mm_isKept, .ref mm_refused, .int z34, .int z35, .ref mm_stands, .ref mm_far, .ref mm_queue, .int mm_queued, .ref mm_meets, .ref mm_bytes, .int (nI bl), .int (nI ta), .int (nI tl), .int mm_token, .int mm_value, .ref mm_next, .int (nI tk)])), (mm_now, .inl (cy 1, 122, .inl f32))] := hD
                refine lv_istore (lv' := [(6, .int r33), (5, .int (nI v5_40)), (4, .int 20), (3, .int v3_40), (2, .int v2_40), (0, .ref mm), (1, .int px)]) hx hb dX11_best_87 hl (by decide) rfl (fun ls hl => ?_)
                refine lv_aload_n hx hb dX11_best_89 rfl (lv_at hl 5 rfl) ?_
                refine va_get (D := D) (ci := 11) (v := .ref mm_now) (C := RX11) (T := TX11) (N := 19) hx hb hts zi11_ hown hK hP 1 rfl rfl 0 (by decide) z0_ (fun _ h9 => h9) rfl dX11_best_90 ?_
                refine lv_iload hx hb dX11_best_93 (lv_at hl 2 rfl) ?_
                refine lv_iload hx hb dX11_best_95 (lv_at hl 1 rfl) ?_
                refine lv_iadd hx hb dX11_best_97 ?_
                refine lv_topi (fun x36 ex36 => ?_)
                obtain rfl : x36 = nI (20 + v5_40) := by rw [ex36]; exact nI_add _ _
                refine lv_iconst (v := 0) hx hb dX11_best_98 (by decide) ?_
                refine my_iast hx hb hK hP hD hS 2 1 rfl rfl (by first | exact in_ge (N := 122) (by decide) (by omega) (by assumption) | exact vp_in_nI (by omega) (by omega)) (nI_clamp (by omega)) dX11_best_99 (fun H locs hP hD hS => ?_)
                have hP : va_P D vwCl [(mm_refused, .inl (cy 1, 3, .inl mm_refused_f)), (mm, .inr (11, [.ref mm_now, .ref mm_kept, .ref mm_isKept, .ref mm_refused, .int z34, .int z35, .ref mm_stands, .ref mm_far, .ref mm_queue, .int mm_queued, .ref mm_meets, .ref mm_bytes, .int (nI bl), .int (nI ta), .int (nI tl), .int mm_token, .int mm_value, .ref mm_next, .int (nI tk)])), (mm_now, .inl (cy 1, 122, .inl (upd f32 (20 + v5_40) 0)))] H := hP
                have hD : va_D A [(mm_refused, .inl (cy 1, 3, .inl mm_refused_f)), (mm, .inr (11, [.ref mm_now, .ref mm_kept, .ref mm_isKept, .ref mm_refused, .int z34, .int z35, .ref mm_stands, .ref mm_far, .ref mm_queue, .int mm_queued, .ref mm_meets, .ref mm_bytes, .int (nI bl), .int (nI ta), .int (nI tl), .int mm_token, .int mm_value, .ref mm_next, .int (nI tk)])), (mm_now, .inl (cy 1, 122, .inl (upd f32 (20 + v5_40) 0)))] := hD
                obtain ⟨f37, ef37⟩ : ∃ y : Nat → Int32, y = upd f32 (20 + v5_40) 0 := ⟨_, rfl⟩
                rw [← ef37] at hP hD
                have hf37 : mV f37 mW mH mS mP := by rw [ef37]; exact mV.put hf32 (20 + v5_40) 0 rfl (by omega) (by unfold mHi; (repeat' split) <;> omega)
                have hP : va_P D vwCl [(mm_refused, .inl (cy 1, 3, .inl mm_refused_f)), (mm, .inr (11, [.ref mm_now, .ref mm_kept, .ref mm_isKept, .ref mm_refused, .int z34, .int z35, .ref mm_stands, .ref mm_far, .ref mm_queue, .int mm_queued, .ref mm_meets, .ref mm_bytes, .int (nI bl), .int (nI ta), .int (nI tl), .int mm_token, .int mm_value, .ref mm_next, .int (nI tk)])), (mm_now, .inl (cy 1, 122, .inl f37))] H := hP
                have hD : va_D A [(mm_refused, .inl (cy 1, 3, .inl mm_refused_f)), (mm, .inr (11, [.ref mm_now, .ref mm_kept, .ref mm_isKept, .ref mm_refused, .int z34, .int z35, .ref mm_stands, .ref mm_far, .ref mm_queue, .int mm_queued, .ref mm_meets, .ref mm_bytes, .int (nI bl), .int (nI ta), .int (nI tl), .int mm_token, .int mm_value, .ref mm_next, .int (nI tk)])), (mm_now, .inl (cy 1, 122, .inl f37))] := hD
                refine lv_iload hx hb dX11_best_100 (lv_at hl 0 rfl) ?_
                refine lv_iload_n hx hb dX11_best_102 rfl (lv_at hl 4 rfl) ?_
                have j112 : ∀ (s1_112 : Int32) (H : Heap) (locs : List Loc), va_P D vwCl [(mm_refused, .inl (cy 1, 3, .inl mm_refused_f)), (mm, .inr (11, [.ref mm_now, .ref mm_kept, .ref mm_isKept, .ref mm_refused, .int z34, .int z35, .ref mm_stands, .ref mm_far, .ref mm_queue, .int mm_queued, .ref mm_meets, .ref mm_bytes, .int (nI bl), .int (nI ta), .int (nI tl), .int mm_token, .int mm_value, .ref mm_next, .int (nI tk)])), (mm_now, .inl (cy 1, 122, .inl f37))] H → va_D A [(mm_refused, .inl (cy 1, 3, .inl mm_refused_f)), (mm, .inr (11, [.ref mm_now, .ref mm_kept, .ref mm_isKept, .ref mm_refused, .int z34, .int z35, .ref mm_stands, .ref mm_far, .ref mm_queue, .int mm_queued, .ref mm_meets, .ref mm_bytes, .int (nI bl), .int (nI ta), .int (nI tl), .int mm_token, .int mm_value, .ref mm_next, .int (nI tk)])), (mm_now, .inl (cy 1, 122, .inl f37))] → va_S A s.heap H locs → ∀ ls : Array Slot, lv_has ls 7 [(6, .int r33), (5, .int (nI v5_40)), (4, .int 20), (3, .int v3_40), (2, .int v2_40), (0, .ref mm), (1, .int px)] → W p l e (headSpec wsX11_best ({ frames := 9, cells := 0, slots := 0, locals := 204 })).room s m [.ref mm, .int px].toArray below meth c H locs 0 0 QF (F0 m 112 ls [.int s1_112]) := by
                  intro s1_112 H locs hP hD hS ls hl
                  refine lv_istore_n (lv' := [(3, .int s1_112), (6, .int r33), (5, .int (nI v5_40)), (4, .int 20), (2, .int v2_40), (0, .ref mm), (1, .int px)]) hx hb dX11_best_112 rfl hl (by decide) rfl (fun ls hl => ?_)
                  refine lv_iload hx hb dX11_best_113 (lv_at hl 1 rfl) ?_
                  refine lv_iload_n hx hb dX11_best_115 rfl (lv_at hl 4 rfl) ?_
                  refine lv_icmp_le (tgt := 124) hx hb dX11_best_116 (by decide) (fun c38 => ?_) (fun c38 => ?_)
                  · skip
                    refine lv_iload_n hx hb dX11_best_124 rfl (lv_at hl 4 rfl) ?_
                    refine lv_istore_n (lv' := [(2, .int v2_40), (3, .int s1_112), (6, .int r33), (5, .int (nI v5_40)), (4, .int 20), (0, .ref mm), (1, .int px)]) hx hb dX11_best_125 rfl hl (by decide) rfl (fun ls hl => ?_)
                    refine lv_iinc (v := nI (v5_40 + 1)) (lv' := [(5, .int (nI (v5_40 + 1))), (2, .int v2_40), (3, .int s1_112), (6, .int r33), (4, .int 20), (0, .ref mm), (1, .int px)]) hx hb dX11_best_126 hl (k := 3) rfl (nI_1 _) (by decide) rfl (fun ls hl => ?_)
                    refine lv_goto (tgt := 40) hx hb dX11_best_129 (by decide) ?_
                    exact ih40 (v5_40 + 1) s1_112 z34 z35 f37 v2_40 hf37 (by first | omega | exact nlt_max hv5_40 (by assumption)) (by first | omega | (have := nlt_max hv5_40 (by assumption); omega)) _ _ hP hD hS ls (lv_sub hl [0, 4, 2, 1, 5, 6] rfl)
                  · skip
                    refine lv_iload hx hb dX11_best_119 (lv_at hl 1 rfl) ?_
                    refine lv_goto (tgt := 125) hx hb dX11_best_121 (by decide) ?_
                    refine lv_istore_n (lv' := [(2, .int r33), (3, .int s1_112), (6, .int r33), (5, .int (nI v5_40)), (4, .int 20), (0, .ref mm), (1, .int px)]) hx hb dX11_best_125 rfl hl (by decide) rfl (fun ls hl => ?_)
                    refine lv_iinc (v := nI (v5_40 + 1)) (lv' := [(5, .int (nI (v5_40 + 1))), (2, .int r33), (3, .int s1_112), (6, .int r33), (4, .int 20), (0, .ref mm), (1, .int px)]) hx hb dX11_best_126 hl (k := 3) rfl (nI_1 _) (by decide) rfl (fun ls hl => ?_)
                    refine lv_goto (tgt := 40) hx hb dX11_best_129 (by decide) ?_
                    exact ih40 (v5_40 + 1) s1_112 z34 z35 f37 r33 hf37 (by first | omega | exact nlt_max hv5_40 (by assumption)) (by first | omega | (have := nlt_max hv5_40 (by assumption); omega)) _ _ hP hD hS ls (lv_sub hl [0, 4, 2, 1, 5, 6] rfl)
                refine lv_icmp_le (tgt := 111) hx hb dX11_best_103 (by decide) (fun c39 => ?_) (fun c39 => ?_)
                · skip
                  refine lv_iload_n hx hb dX11_best_111 rfl (lv_at hl 3 rfl) ?_
                  exact j112 v3_40 _ _ hP hD hS ls hl
                · skip
                  refine lv_iload hx hb dX11_best_106 (lv_at hl 1 rfl) ?_
                  refine lv_goto (tgt := 112) hx hb dX11_best_108 (by decide) ?_
                  exact j112 (nI v5_40) _ _ hP hD hS ls hl
      exact lp40 (2147483648 - 0 + 1) 0 (-1) z7 z8 mm_now_f r6 hF (by first | omega | exact nlt_max (by assumption) (by assumption)) (Nat.lt_succ_self _) _ _ hP hD hS ls hl
  · skip
    have hq40 := z_b0 hwr1 c2
    refine lv_aload_n hx hb dX11_best_10 rfl (lv_at hl 0 rfl) ?_
    refine lv_bipush (v := (-2)) hx hb dX11_best_11 (by decide) ?_
    refine wr_i (wr := [(mm_now, .inl (cy 1, 122, .inl mm_now_f))]) (va_runV (As := [.int (-2)]) (rest := []) ⟨hx, hb, hml, hown, hts⟩ (n_X11_bad l D cy mm mm_now mm_kept mm_isKept mm_refused mm_lineFrom mm_lineTo mm_stands mm_far mm_queue mm_queued mm_meets mm_bytes bl ta tl mm_token mm_value mm_next tk mm_refused_f (-2) _ ) (cwV 1 hts gX11_best_X11_bad rfl rfl rfl (by decide +kernel) ⟨Nat.le_of_ble_eq_true rfl, Nat.le_of_ble_eq_true rfl⟩) (pV (ci := 11) (k := 0) hKA (hP.sub (ws' := [(mm, .inr (11, [.ref mm_now, .ref mm_kept, .ref mm_isKept, .ref mm_refused, .int mm_lineFrom, .int mm_lineTo, .ref mm_stands, .ref mm_far, .ref mm_queue, .int mm_queued, .ref mm_meets, .ref mm_bytes, .int (nI bl), .int (nI ta), .int (nI tl), .int mm_token, .int mm_value, .ref mm_next, .int (nI tk)])), (mm_refused, .inl (cy 1, 3, .inl mm_refused_f))]) [0, 2] rfl) (hD.sub (ws' := [(mm, .inr (11, [.ref mm_now, .ref mm_kept, .ref mm_isKept, .ref mm_refused, .int mm_lineFrom, .int mm_lineTo, .ref mm_stands, .ref mm_far, .ref mm_queue, .int mm_queued, .ref mm_meets, .ref mm_bytes, .int (nI bl), .int (nI ta), .int (nI tl), .int mm_token, .int mm_value, .ref mm_next, .int (nI tk)])), (mm_refused, .inl (cy 1, 3, .inl mm_refused_f))]) [0, 2] (by decide) rfl) rfl rfl) rfl rfl hl.1 rfl (lv_room (Nat.le_of_ble_eq_true rfl)) dX11_best_13 ⟨Nat.le_of_ble_eq_true rfl, Nat.le_of_ble_eq_true rfl⟩) hP hD hS hA [0, 2] [1] rfl rfl (by decide +kernel) (by decide +kernel) (fun r41 ur41 H locs hwr41 hP hD hS => ?_)
    obtain ⟨z42, rfl⟩ : ∃ z, z = ur41 := ⟨_, rfl⟩
    have hP : va_P D vwCl [(mm_now, .inl (cy 1, 122, .inl mm_now_f)), (mm, .inr (11, [.ref mm_now, .ref mm_kept, .ref mm_isKept, .ref mm_refused, .int mm_lineFrom, .int mm_lineTo, .ref mm_stands, .ref mm_far, .ref mm_queue, .int mm_queued, .ref mm_meets, .ref mm_bytes, .int (nI bl), .int (nI ta), .int (nI tl), .int mm_token, .int mm_value, .ref mm_next, .int (nI tk)])), (mm_refused, .inl (cy 1, 3, .inl z42))] H := hP
    have hD : va_D A [(mm_now, .inl (cy 1, 122, .inl mm_now_f)), (mm, .inr (11, [.ref mm_now, .ref mm_kept, .ref mm_isKept, .ref mm_refused, .int mm_lineFrom, .int mm_lineTo, .ref mm_stands, .ref mm_far, .ref mm_queue, .int mm_queued, .ref mm_meets, .ref mm_bytes, .int (nI bl), .int (nI ta), .int (nI tl), .int mm_token, .int mm_value, .ref mm_next, .int (nI tk)])), (mm_refused, .inl (cy 1, 3, .inl z42))] := hD
    have hwr41 : r41 = (-2) := hwr41
    subst hwr41
    subst hQF
    have hP9 := hP.sub (ws' := [(mm, .inr (11, [.ref mm_now, .ref mm_kept, .ref mm_isKept, .ref mm_refused, .int mm_lineFrom, .int mm_lineTo, .ref mm_stands, .ref mm_far, .ref mm_queue, .int mm_queued, .ref mm_meets, .ref mm_bytes, .int (nI bl), .int (nI ta), .int (nI tl), .int mm_token, .int mm_value, .ref mm_next, .int (nI tk)])), (mm_now, .inl (cy 1, 122, .inl mm_now_f)), (mm_refused, .inl (cy 1, 3, .inl z42))]) [1, 0, 2] rfl
    have hD9 := hD.sub (ws' := [(mm, .inr (11, [.ref mm_now, .ref mm_kept, .ref mm_isKept, .ref mm_refused, .int mm_lineFrom, .int mm_lineTo, .ref mm_stands, .ref mm_far, .ref mm_queue, .int mm_queued, .ref mm_meets, .ref mm_bytes, .int (nI bl), .int (nI ta), .int (nI tl), .int mm_token, .int mm_value, .ref mm_next, .int (nI tk)])), (mm_now, .inl (cy 1, 122, .inl mm_now_f)), (mm_refused, .inl (cy 1, 3, .inl z42))]) [1, 0, 2] (by decide) rfl
    exact W.iret (v := (-2)) hx hb hr (fun t ht hW => ⟨⟨(-2), (mm_lineFrom, mm_lineTo, mm_now_f, z42), rfl, ⟨_, _, _, _, hF⟩, by rw [ht]; exact hP9, hD9⟩, hS.F ht⟩) hS.2.2 dX11_best_16

set_option maxHeartbeats 4000000 in
set_option maxRecDepth 100000 in
theorem n_X11_worth (l : Launch) (D : va_G) (cy : Nat → ClassId) (mm : Nat) (mm_now : Nat) (mm_kept : Nat) (mm_isKept : Nat) (mm_refused : Nat) (mm_lineFrom : Int32) (mm_lineTo : Int32) (mm_stands : Nat) (mm_far : Nat) (mm_queue : Nat) (mm_queued : Int32) (mm_meets : Nat) (mm_bytes : Nat) (bl : Nat) (ta : Nat) (tl : Nat) (mm_token : Int32) (mm_value : Int32) (mm_next : Nat) (tk : Nat) (mm_now_f : Nat → Int32) (mm_refused_f : Nat → Int32) (px : Int32) (py : Int32) (sz : Nat) (hN : mN mm_now_f) : Met l yX11_worth wsX11_worth ({ frames := 9, cells := 0, slots := 0, locals := 204 }) (va_Pc [.ref mm, .int px, .int py] (kPre D cy [(mm, .inr (11, [.ref mm_now, .ref mm_kept, .ref mm_isKept, .ref mm_refused, .int mm_lineFrom, .int mm_lineTo, .ref mm_stands, .ref mm_far, .ref mm_queue, .int mm_queued, .ref mm_meets, .ref mm_bytes, .int (nI bl), .int (nI ta), .int (nI tl), .int mm_token, .int mm_value, .ref mm_next, .int (nI tk)])), (mm_now, .inl (cy 1, 122, .inl mm_now_f)), (mm_refused, .inl (cy 1, 3, .inl mm_refused_f))] sz)) (va_Qi (fun (r : Int32) (u : Int32 × Int32 × (Nat → Int32) × (Nat → Int32)) => mN u.2.2.1) (fun (u : Int32 × Int32 × (Nat → Int32) × (Nat → Int32)) t => va_P D vwCl ([(mm, .inr (11, [.ref mm_now, .ref mm_kept, .ref mm_isKept, .ref mm_refused, .int u.1, .int u.2.1, .ref mm_stands, .ref mm_far, .ref mm_queue, .int mm_queued, .ref mm_meets, .ref mm_bytes, .int (nI bl), .int (nI ta), .int (nI tl), .int mm_token, .int mm_value, .ref mm_next, .int (nI tk)])), (mm_now, .inl (cy 1, 122, .inl u.2.2.1)), (mm_refused, .inl (cy 1, 3, .inl u.2.2.2))]) t.heap ∧ va_D (va_A [(mm, .inr (11, [.ref mm_now, .ref mm_kept, .ref mm_isKept, .ref mm_refused, .int mm_lineFrom, .int mm_lineTo, .ref mm_stands, .ref mm_far, .ref mm_queue, .int mm_queued, .ref mm_meets, .ref mm_bytes, .int (nI bl), .int (nI ta), .int (nI tl), .int mm_token, .int mm_value, .ref mm_next, .int (nI tk)])), (mm_now, .inl (cy 1, 122, .inl mm_now_f)), (mm_refused, .inl (cy 1, 3, .inl mm_refused_f))] sz) ([(mm, .inr (11, [.ref mm_now, .ref mm_kept, .ref mm_isKept, .ref mm_refused, .int u.1, .int u.2.1, .ref mm_stands, .ref mm_far, .ref mm_queue, .int mm_queued, .ref mm_meets, .ref mm_bytes, .int (nI bl), .int (nI ta), .int (nI tl), .int mm_token, .int mm_value, .ref mm_next, .int (nI tk)])), (mm_now, .inl (cy 1, 122, .inl u.2.2.1)), (mm_refused, .inl (cy 1, 3, .inl u.2.2.2))])) (va_A [(mm, .inr (11, [.ref mm_now, .ref mm_kept, .ref mm_isKept, .ref mm_refused, .int mm_lineFrom, .int mm_lineTo, .ref mm_stands, .ref mm_far, .ref mm_queue, .int mm_queued, .ref mm_meets, .ref mm_bytes, .int (nI bl), .int (nI ta), .int (nI tl), .int mm_token, .int mm_value, .ref mm_next, .int (nI tk)])), (mm_now, .inl (cy 1, 122, .inl mm_now_f)), (mm_refused, .inl (cy 1, 3, .inl mm_refused_f))] sz)) 0 0 (va_A [(mm, .inr (11, [.ref mm_now, .ref mm_kept, .ref mm_isKept, .ref mm_refused, .int mm_lineFrom, .int mm_lineTo, .ref mm_stands, .ref mm_far, .ref mm_queue, .int mm_queued, .ref mm_meets, .ref mm_bytes, .int (nI bl), .int (nI ta), .int (nI tl), .int mm_token, .int mm_value, .ref mm_next, .int (nI tk)])), (mm_now, .inl (cy 1, 122, .inl mm_now_f)), (mm_refused, .inl (cy 1, 3, .inl mm_refused_f))] sz) := by
  refine Met.ofW (cc := cX11_worth) (maxL := 6) (ret := (some .int)) (by decide) rfl ?_
  intro p e s m args below meth c s₁ B hml hv
  obtain ⟨rfl, hsz, hP, hKA, hD0⟩ := hv
  have hx := B.exec
  have hb := B.bytes
  have hr := B.returns
  have hts := atoms_spec (ws := wsX11_worth) B.pre
  have hown : s.vm.findClass RX11 = some m.cls := findClass_of_methodNamed B.named
  have hlocks := B.notSynchronized
  subst hsz
  have hK := hKA.1
  have hD := hD0.self (sz := s.heap.size)
  generalize hAe : va_A [(mm, .inr (11, [.ref mm_now, .ref mm_kept, .ref mm_isKept, .ref mm_refused, .int mm_lineFrom, .int mm_lineTo, .ref mm_stands, .ref mm_far, .ref mm_queue, .int mm_queued, .ref mm_meets, .ref mm_bytes, .int (nI bl), .int (nI ta), .int (nI tl), .int mm_token, .int mm_value, .ref mm_next, .int (nI tk)])), (mm_now, .inl (cy 1, 122, .inl mm_now_f)), (mm_refused, .inl (cy 1, 3, .inl mm_refused_f))] s.heap.size = A at hD ⊢
  have hA : ∀ q : Nat, s.heap.size ≤ q → A q := fun q h => by rw [← hAe]; exact Or.inr h
  have hS : va_S A s.heap s.heap [] := va_S.rf
  have hP : va_P D vwCl [(mm, .inr (11, [.ref mm_now, .ref mm_kept, .ref mm_isKept, .ref mm_refused, .int mm_lineFrom, .int mm_lineTo, .ref mm_stands, .ref mm_far, .ref mm_queue, .int mm_queued, .ref mm_meets, .ref mm_bytes, .int (nI bl), .int (nI ta), .int (nI tl), .int mm_token, .int mm_value, .ref mm_next, .int (nI tk)])), (mm_now, .inl (cy 1, 122, .inl mm_now_f)), (mm_refused, .inl (cy 1, 3, .inl mm_refused_f))] s.heap := hP
  have hl := lv_entry ([.ref mm, .int px, .int py]) (n := 6) (Nat.le_of_ble_eq_true rfl)
  rw [lg_entry_eq]
  generalize (lg_sl ([.ref mm, .int px, .int py]) ++ List.replicate (6 - (lg_sl ([.ref mm, .int px, .int py])).length) Slot.unset).toArray = ls at hl ⊢
  have hl : lv_has ls 6 [(0, .ref mm), (1, .int px), (2, .int py)] := hl
  refine qW (fun QF hQF => ?_)
  have z0_ := hts (.constantLong RX11 79 5) (by decide +kernel)
  have z1_ := hts (.fieldLink RX11 7 "HeardSeenModel" "now" "[I") (by decide +kernel)
  have zi11_ : ∀ w ∈ u_ws RX11 TX11 19, w ∈ wsX11_worth := by decide +kernel
  obtain ⟨mW, mH, mS, mP, hF⟩ := hN
  obtain ⟨hW2, hW6, hH2, hH6, hSe, hS4, hS6, hP5⟩ := hF.rng
  refine lv_aload_n hx hb dX11_worth_0 rfl (lv_at hl 0 rfl) ?_
  refine lv_iload_n hx hb dX11_worth_1 rfl (lv_at hl 1 rfl) ?_
  refine rd_i (va_runV (As := [.int px]) (rest := []) ⟨hx, hb, hml, hown, hts⟩ (n_X11_isOne l D cy mW mH mS mP mm mm_now mm_kept mm_isKept mm_refused mm_lineFrom mm_lineTo mm_stands mm_far mm_queue mm_queued mm_meets mm_bytes bl ta tl mm_token mm_value mm_next tk mm_now_f px _ (by first | assumption | omega)) (cwV 1 hts gX11_worth_X11_isOne rfl rfl rfl (by decide +kernel) ⟨Nat.le_of_ble_eq_true rfl, Nat.le_of_ble_eq_true rfl⟩) (pV (ci := 11) (k := 0) hKA (hP.sub (ws' := [(mm, .inr (11, [.ref mm_now, .ref mm_kept, .ref mm_isKept, .ref mm_refused, .int mm_lineFrom, .int mm_lineTo, .ref mm_stands, .ref mm_far, .ref mm_queue, .int mm_queued, .ref mm_meets, .ref mm_bytes, .int (nI bl), .int (nI ta), .int (nI tl), .int mm_token, .int mm_value, .ref mm_next, .int (nI tk)])), (mm_now, .inl (cy 1, 122, .inl mm_now_f))]) [0, 1] rfl) (hD.sub (ws' := [(mm, .inr (11, [.ref mm_now, .ref mm_kept, .ref mm_isKept, .ref mm_refused, .int mm_lineFrom, .int mm_lineTo, .ref mm_stands, .ref mm_far, .ref mm_queue, .int mm_queued, .ref mm_meets, .ref mm_bytes, .int (nI bl), .int (nI ta), .int (nI tl), .int mm_token, .int mm_value, .ref mm_next, .int (nI tk)])), (mm_now, .inl (cy 1, 122, .inl mm_now_f))]) [0, 1] (by decide) rfl) rfl rfl) rfl rfl hl.1 rfl (lv_room (Nat.le_of_ble_eq_true rfl)) dX11_worth_2 ⟨Nat.le_of_ble_eq_true rfl, Nat.le_of_ble_eq_true rfl⟩) hP hS hA (fun r1 H locs hwr1 hP hS => ?_)
  have hwr1 : (r1 = 1 ∧ (∃ j : Nat, j < mP ∧ px = nI j)) ∨ (r1 = 0 ∧ True) := hwr1
  refine lv_if_eq (tgt := 20) hx hb dX11_worth_5 (by decide) (fun c2 => ?_) (fun c2 => ?_)
  · skip
    refine lv_aload_n hx hb dX11_worth_20 rfl (lv_at hl 0 rfl) ?_
    refine lv_bipush (v := (-10)) hx hb dX11_worth_21 (by decide) ?_
    refine wr_i (wr := [(mm_now, .inl (cy 1, 122, .inl mm_now_f))]) (va_runV (As := [.int (-10)]) (rest := []) ⟨hx, hb, hml, hown, hts⟩ (n_X11_bad l D cy mm mm_now mm_kept mm_isKept mm_refused mm_lineFrom mm_lineTo mm_stands mm_far mm_queue mm_queued mm_meets mm_bytes bl ta tl mm_token mm_value mm_next tk mm_refused_f (-10) _ ) (cwV 1 hts gX11_worth_X11_bad rfl rfl rfl (by decide +kernel) ⟨Nat.le_of_ble_eq_true rfl, Nat.le_of_ble_eq_true rfl⟩) (pV (ci := 11) (k := 0) hKA (hP.sub (ws' := [(mm, .inr (11, [.ref mm_now, .ref mm_kept, .ref mm_isKept, .ref mm_refused, .int mm_lineFrom, .int mm_lineTo, .ref mm_stands, .ref mm_far, .ref mm_queue, .int mm_queued, .ref mm_meets, .ref mm_bytes, .int (nI bl), .int (nI ta), .int (nI tl), .int mm_token, .int mm_value, .ref mm_next, .int (nI tk)])), (mm_refused, .inl (cy 1, 3, .inl mm_refused_f))]) [0, 2] rfl) (hD.sub (ws' := [(mm, .inr (11, [.ref mm_now, .ref mm_kept, .ref mm_isKept, .ref mm_refused, .int mm_lineFrom, .int mm_lineTo, .ref mm_stands, .ref mm_far, .ref mm_queue, .int mm_queued, .ref mm_meets, .ref mm_bytes, .int (nI bl), .int (nI ta), .int (nI tl), .int mm_token, .int mm_value, .ref mm_next, .int (nI tk)])), (mm_refused, .inl (cy 1, 3, .inl mm_refused_f))]) [0, 2] (by decide) rfl) rfl rfl) rfl rfl hl.1 rfl (lv_room (Nat.le_of_ble_eq_true rfl)) dX11_worth_23 ⟨Nat.le_of_ble_eq_true rfl, Nat.le_of_ble_eq_true rfl⟩) hP hD hS hA [0, 2] [1] rfl rfl (by decide +kernel) (by decide +kernel) (fun r3 ur3 H locs hwr3 hP hD hS => ?_)
    obtain ⟨z4, rfl⟩ : ∃ z, z = ur3 := ⟨_, rfl⟩
    have hP : va_P D vwCl [(mm_now, .inl (cy 1, 122, .inl mm_now_f)), (mm, .inr (11, [.ref mm_now, .ref mm_kept, .ref mm_isKept, .ref mm_refused, .int mm_lineFrom, .int mm_lineTo, .ref mm_stands, .ref mm_far, .ref mm_queue, .int mm_queued, .ref mm_meets, .ref mm_bytes, .int (nI bl), .int (nI ta), .int (nI tl), .int mm_token, .int mm_value, .ref mm_next, .int (nI tk)])), (mm_refused, .inl (cy 1, 3, .inl z4))] H := hP
    have hD : va_D A [(mm_now, .inl (cy 1, 122, .inl mm_now_f)), (mm, .inr (11, [.ref mm_now, .ref mm_kept, .ref mm_isKept, .ref mm_refused, .int mm_lineFrom, .int mm_lineTo, .ref mm_stands, .ref mm_far, .ref mm_queue, .int mm_queued, .ref mm_meets, .ref mm_bytes, .int (nI bl), .int (nI ta), .int (nI tl), .int mm_token, .int mm_value, .ref mm_next, .int (nI tk)])), (mm_refused, .inl (cy 1, 3, .inl z4))] := hD
    have hwr3 : r3 = (-10) := hwr3
    subst hwr3
    subst hQF
    have hP9 := hP.sub (ws' := [(mm, .inr (11, [.ref mm_now, .ref mm_kept, .ref mm_isKept, .ref mm_refused, .int mm_lineFrom, .int mm_lineTo, .ref mm_stands, .ref mm_far, .ref mm_queue, .int mm_queued, .ref mm_meets, .ref mm_bytes, .int (nI bl), .int (nI ta), .int (nI tl), .int mm_token, .int mm_value, .ref mm_next, .int (nI tk)])), (mm_now, .inl (cy 1, 122, .inl mm_now_f)), (mm_refused, .inl (cy 1, 3, .inl z4))]) [1, 0, 2] rfl
    have hD9 := hD.sub (ws' := [(mm, .inr (11, [.ref mm_now, .ref mm_kept, .ref mm_isKept, .ref mm_refused, .int mm_lineFrom, .int mm_lineTo, .ref mm_stands, .ref mm_far, .ref mm_queue, .int mm_queued, .ref mm_meets, .ref mm_bytes, .int (nI bl), .int (nI ta), .int (nI tl), .int mm_token, .int mm_value, .ref mm_next, .int (nI tk)])), (mm_now, .inl (cy 1, 122, .inl mm_now_f)), (mm_refused, .inl (cy 1, 3, .inl z4))]) [1, 0, 2] (by decide) rfl
    exact W.iret (v := (-10)) hx hb hr (fun t ht hW => ⟨⟨(-10), (mm_lineFrom, mm_lineTo, mm_now_f, z4), rfl, ⟨_, _, _, _, hF⟩, by rw [ht]; exact hP9, hD9⟩, hS.F ht⟩) hS.2.2 dX11_worth_26
  · skip
    have hp5 := z_b1 hwr1 c2
    obtain ⟨j6, hj6, ej6⟩ := hp5
    refine lv_iload_n hx hb dX11_worth_8 rfl (lv_at hl 2 rfl) ?_
    refine lv_i2l hx hb dX11_worth_9 rfl ?_
    refine lv_lconst (v := 0) hx hb dX11_worth_10 (by decide) ?_
    refine lv_ldc2 hx hb hown z0_ dX11_worth_11 ?_
    refine rd_i (va_runS (As := [.long py.toInt64, .long 0, .long 5]) (rest := []) ⟨hx, hb, hml, hown, hts⟩ (n_X11_in l D cy py.toInt64 (0) (5) _ ) (va_cwS 3 hts gX11_worth_X11_in rfl rfl rfl (by decide +kernel) ⟨Nat.le_of_ble_eq_true rfl, Nat.le_of_ble_eq_true rfl⟩) (pS hKA pE (dE (A := A))) rfl rfl hl.1 rfl (lv_room (Nat.le_of_ble_eq_true rfl)) dX11_worth_14 ⟨Nat.le_of_ble_eq_true rfl, Nat.le_of_ble_eq_true rfl⟩) hP hS hA (fun r7 H locs hwr7 hP hS => ?_)
    have hwr7 : (r7 = 1 ∧ ((0) ≤ py.toInt64 ∧ py.toInt64 ≤ (5))) ∨ (r7 = 0 ∧ (¬ ((0) ≤ py.toInt64 ∧ py.toInt64 ≤ (5)))) := hwr7
    refine lv_if_ne (tgt := 27) hx hb dX11_worth_17 (by decide) (fun c8 => ?_) (fun c8 => ?_)
    · skip
      obtain ⟨hp9, hp10⟩ := z_b1 hwr7 c8
      obtain ⟨j11, gj11, hj11, ej11⟩ := z_rng (lo := 0) (hi := 5) (by decide) (by decide) hp9 hp10
      refine lv_aload_n hx hb dX11_worth_27 rfl (lv_at hl 0 rfl) ?_
      refine wr_i (wr := [(mm_refused, .inl (cy 1, 3, .inl mm_refused_f))]) (va_runV (As := []) (rest := []) ⟨hx, hb, hml, hown, hts⟩ (n_X11_manySpeakers l D cy mW mH mS mP mm mm_now mm_kept mm_isKept mm_refused mm_lineFrom mm_lineTo mm_stands mm_far mm_queue mm_queued mm_meets mm_bytes bl ta tl mm_token mm_value mm_next tk mm_now_f _ (by first | assumption | omega)) (cwV 0 hts gX11_worth_X11_manySpeakers rfl rfl rfl (by decide +kernel) ⟨Nat.le_of_ble_eq_true rfl, Nat.le_of_ble_eq_true rfl⟩) (pV (ci := 11) (k := 0) hKA (hP.sub (ws' := [(mm, .inr (11, [.ref mm_now, .ref mm_kept, .ref mm_isKept, .ref mm_refused, .int mm_lineFrom, .int mm_lineTo, .ref mm_stands, .ref mm_far, .ref mm_queue, .int mm_queued, .ref mm_meets, .ref mm_bytes, .int (nI bl), .int (nI ta), .int (nI tl), .int mm_token, .int mm_value, .ref mm_next, .int (nI tk)])), (mm_now, .inl (cy 1, 122, .inl mm_now_f))]) [0, 1] rfl) (hD.sub (ws' := [(mm, .inr (11, [.ref mm_now, .ref mm_kept, .ref mm_isKept, .ref mm_refused, .int mm_lineFrom, .int mm_lineTo, .ref mm_stands, .ref mm_far, .ref mm_queue, .int mm_queued, .ref mm_meets, .ref mm_bytes, .int (nI bl), .int (nI ta), .int (nI tl), .int mm_token, .int mm_value, .ref mm_next, .int (nI tk)])), (mm_now, .inl (cy 1, 122, .inl mm_now_f))]) [0, 1] (by decide) rfl) rfl rfl) rfl rfl hl.1 rfl (lv_room (Nat.le_of_ble_eq_true rfl)) dX11_worth_28 ⟨Nat.le_of_ble_eq_true rfl, Nat.le_of_ble_eq_true rfl⟩) hP hD hS hA [0, 1] [2] rfl rfl (by decide +kernel) (by decide +kernel) (fun r12 ur12 H locs hwr12 hP hD hS => ?_)
      obtain ⟨z13, z14⟩ := ur12
      have hP : va_P D vwCl [(mm_refused, .inl (cy 1, 3, .inl mm_refused_f)), (mm, .inr (11, [.ref mm_now, .ref mm_kept, .ref mm_isKept, .ref mm_refused, .int z13, .int z14, .ref mm_stands, .ref mm_far, .ref mm_queue, .int mm_queued, .ref mm_meets, .ref mm_bytes, .int (nI bl), .int (nI ta), .int (nI tl), .int mm_token, .int mm_value, .ref mm_next, .int (nI tk)])), (mm_now, .inl (cy 1, 122, .inl mm_now_f))] H := hP
      have hD : va_D A [(mm_refused, .inl (cy 1, 3, .inl mm_refused_f)), (mm, .inr (11, [.ref mm_now, .ref mm_kept, .ref mm_isKept, .ref mm_refused, .int z13, .int z14, .ref mm_stands, .ref mm_far, .ref mm_queue, .int mm_queued, .ref mm_meets, .ref mm_bytes, .int (nI bl), .int (nI ta), .int (nI tl), .int mm_token, .int mm_value, .ref mm_next, .int (nI tk)])), (mm_now, .inl (cy 1, 122, .inl mm_now_f))] := hD
      refine lv_istore_n (lv' := [(3, .int r12), (0, .ref mm), (1, .int px), (2, .int py)]) hx hb dX11_worth_31 rfl hl (by decide) rfl (fun ls hl => ?_)
      refine lv_aload_n hx hb dX11_worth_32 rfl (lv_at hl 1 rfl) ?_
      refine lv_iload_n hx hb dX11_worth_33 rfl (lv_at hl 2 rfl) ?_
      refine W.eq (g2 := F0 m 34 ls [.int (nI j6), .ref mm]) (congrArg (fun v9 : Int32 => F0 m 34 ls [.int v9, .ref mm]) ej6) ?_
      refine lv_iconst (v := 0) hx hb dX11_worth_34 (by decide) ?_
      refine rd_i (va_runV (As := [.int (nI j6), .int 0]) (rest := []) ⟨hx, hb, hml, hown, hts⟩ (n_X11_of l D cy mW mH mS mP mm mm_now mm_kept mm_isKept mm_refused z13 z14 mm_stands mm_far mm_queue mm_queued mm_meets mm_bytes bl ta tl mm_token mm_value mm_next tk mm_now_f j6 0 _ (by first | assumption | omega) (by first | assumption | omega) (by first | assumption | omega)) (cwV 2 hts gX11_worth_X11_of rfl rfl rfl (by decide +kernel) ⟨Nat.le_of_ble_eq_true rfl, Nat.le_of_ble_eq_true rfl⟩) (pV (ci := 11) (k := 0) hKA (hP.sub (ws' := [(mm, .inr (11, [.ref mm_now, .ref mm_kept, .ref mm_isKept, .ref mm_refused, .int z13, .int z14, .ref mm_stands, .ref mm_far, .ref mm_queue, .int mm_queued, .ref mm_meets, .ref mm_bytes, .int (nI bl), .int (nI ta), .int (nI tl), .int mm_token, .int mm_value, .ref mm_next, .int (nI tk)])), (mm_now, .inl (cy 1, 122, .inl mm_now_f))]) [1, 2] rfl) (hD.sub (ws' := [(mm, .inr (11, [.ref mm_now, .ref mm_kept, .ref mm_isKept, .ref mm_refused, .int z13, .int z14, .ref mm_stands, .ref mm_far, .ref mm_queue, .int mm_queued, .ref mm_meets, .ref mm_bytes, .int (nI bl), .int (nI ta), .int (nI tl), .int mm_token, .int mm_value, .ref mm_next, .int (nI tk)])), (mm_now, .inl (cy 1, 122, .inl mm_now_f))]) [1, 2] (by decide) rfl) rfl rfl) rfl rfl hl.1 rfl (lv_room (Nat.le_of_ble_eq_true rfl)) dX11_worth_35 ⟨Nat.le_of_ble_eq_true rfl, Nat.le_of_ble_eq_true rfl⟩) hP hS hA (fun r15 H locs hwr15 hP hS => ?_)
      have hwr15 : r15 = mm_now_f (5 + 3 * j6 + 0) := hwr15
      subst hwr15
      obtain ⟨jh, ejh, hjh⟩ := mV.get hF (5 + 3 * j6 + 0) 9 (by omega) (by omega) (by unfold mHi; (repeat' split) <;> omega)
      refine W.eq (g2 := F0 m 38 ls [.int (nI jh)]) (congrArg (fun v9 : Int32 => F0 m 38 ls [.int v9]) ejh) ?_
      refine lv_istore (lv' := [(4, .int (nI jh)), (3, .int r12), (0, .ref mm), (1, .int px), (2, .int py)]) hx hb dX11_worth_38 hl (by decide) rfl (fun ls hl => ?_)
      refine lv_aload_n hx hb dX11_worth_40 rfl (lv_at hl 2 rfl) ?_
      refine va_get (D := D) (ci := 11) (v := .ref mm_now) (C := RX11) (T := TX11) (N := 19) hx hb hts zi11_ hown hK hP 1 rfl rfl 0 (by decide) z1_ (fun _ h9 => h9) rfl dX11_worth_41 ?_
      refine lv_iconst (v := 5) hx hb dX11_worth_44 (by decide) ?_
      refine lv_iconst (v := 3) hx hb dX11_worth_45 (by decide) ?_
      refine lv_iload_n hx hb dX11_worth_46 rfl (lv_at hl 3 rfl) ?_
      refine W.eq (g2 := F0 m 47 ls [.int (nI j6), .int 3, .int 5, .ref mm_now]) (congrArg (fun v9 : Int32 => F0 m 47 ls [.int v9, .int 3, .int 5, .ref mm_now]) ej6) ?_
      refine lv_imul hx hb dX11_worth_47 ?_
      refine lv_topi (fun x16 ex16 => ?_)
      obtain rfl : x16 = nI (3 * j6) := by rw [ex16]; exact pk_mul _ _
      refine lv_iadd hx hb dX11_worth_48 ?_
      refine lv_topi (fun x17 ex17 => ?_)
      obtain rfl : x17 = nI (5 + (3 * j6)) := by rw [ex17]; exact nI_add _ _
      refine lv_iconst (v := 0) hx hb dX11_worth_49 (by decide) ?_
      refine lv_iadd hx hb dX11_worth_50 ?_
      refine lv_topi (fun x18 ex18 => ?_)
      obtain rfl : x18 = nI ((5 + (3 * j6)) + 0) := by rw [ex18]; exact nI_add _ _
      refine lv_iload_n hx hb dX11_worth_51 rfl (lv_at hl 4 rfl) ?_
      refine W.eq (g2 := F0 m 52 ls [.int (nI j11), .int (nI ((5 + (3 * j6)) + 0)), .ref mm_now]) (congrArg (fun v9 : Int32 => F0 m 52 ls [.int v9, .int (nI ((5 + (3 * j6)) + 0)), .ref mm_now]) ej11) ?_
      refine my_iast hx hb hK hP hD hS 2 1 rfl rfl (by first | exact in_ge (N := 122) (by decide) (by omega) (by assumption) | exact vp_in_nI (by omega) (by omega)) (nI_clamp (by omega)) dX11_worth_52 (fun H locs hP hD hS => ?_)
      have hP : va_P D vwCl [(mm_refused, .inl (cy 1, 3, .inl mm_refused_f)), (mm, .inr (11, [.ref mm_now, .ref mm_kept, .ref mm_isKept, .ref mm_refused, .int z13, .int z14, .ref mm_stands, .ref mm_far, .ref mm_queue, .int mm_queued, .ref mm_meets, .ref mm_bytes, .int (nI bl), .int (nI ta), .int (nI tl), .int mm_token, .int mm_value, .ref mm_next, .int (nI tk)])), (mm_now, .inl (cy 1, 122, .inl (upd mm_now_f ((5 + (3 * j6)) + 0) (nI j11))))] H := hP
      have hD : va_D A [(mm_refused, .inl (cy 1, 3, .inl mm_refused_f)), (mm, .inr (11, [.ref mm_now, .ref mm_kept, .ref mm_isKept, .ref mm_refused, .int z13, .int z14, .ref mm_stands, .ref mm_far, .ref mm_queue, .int mm_queued, .ref mm_meets, .ref mm_bytes, .int (nI bl), .int (nI ta), .int (nI tl), .int mm_token, .int mm_value, .ref mm_next, .int (nI tk)])), (mm_now, .inl (cy 1, 122, .inl (upd mm_now_f ((5 + (3 * j6)) + 0) (nI j11))))] := hD
      obtain ⟨f19, ef19⟩ : ∃ y : Nat → Int32, y = upd mm_now_f ((5 + (3 * j6)) + 0) (nI j11) := ⟨_, rfl⟩
      rw [← ef19] at hP hD
      have hf19 : mV f19 mW mH mS mP := by rw [ef19]; exact mV.put hF ((5 + (3 * j6)) + 0) j11 rfl (by omega) (by unfold mHi; (repeat' split) <;> omega)
      have hP : va_P D vwCl [(mm_refused, .inl (cy 1, 3, .inl mm_refused_f)), (mm, .inr (11, [.ref mm_now, .ref mm_kept, .ref mm_isKept, .ref mm_refused, .int z13, .int z14, .ref mm_stands, .ref mm_far, .ref mm_queue, .int mm_queued, .ref mm_meets, .ref mm_bytes, .int (nI bl), .int (nI ta), .int (nI tl), .int mm_token, .int mm_value, .ref mm_next, .int (nI tk)])), (mm_now, .inl (cy 1, 122, .inl f19))] H := hP
      have hD : va_D A [(mm_refused, .inl (cy 1, 3, .inl mm_refused_f)), (mm, .inr (11, [.ref mm_now, .ref mm_kept, .ref mm_isKept, .ref mm_refused, .int z13, .int z14, .ref mm_stands, .ref mm_far, .ref mm_queue, .int mm_queued, .ref mm_meets, .ref mm_bytes, .int (nI bl), .int (nI ta), .int (nI tl), .int mm_token, .int mm_value, .ref mm_next, .int (nI tk)])), (mm_now, .inl (cy 1, 122, .inl f19))] := hD
      refine lv_aload_n hx hb dX11_worth_53 rfl (lv_at hl 2 rfl) ?_
      refine wr_i (wr := [(mm_refused, .inl (cy 1, 3, .inl mm_refused_f))]) (va_runV (As := []) (rest := []) ⟨hx, hb, hml, hown, hts⟩ (n_X11_manySpeakers l D cy mW mH mS mP mm mm_now mm_kept mm_isKept mm_refused z13 z14 mm_stands mm_far mm_queue mm_queued mm_meets mm_bytes bl ta tl mm_token mm_value mm_next tk f19 _ (by first | assumption | omega)) (cwV 0 hts gX11_worth_X11_manySpeakers rfl rfl rfl (by decide +kernel) ⟨Nat.le_of_ble_eq_true rfl, Nat.le_of_ble_eq_true rfl⟩) (pV (ci := 11) (k := 0) hKA (hP.sub (ws' := [(mm, .inr (11, [.ref mm_now, .ref mm_kept, .ref mm_isKept, .ref mm_refused, .int z13, .int z14, .ref mm_stands, .ref mm_far, .ref mm_queue, .int mm_queued, .ref mm_meets, .ref mm_bytes, .int (nI bl), .int (nI ta), .int (nI tl), .int mm_token, .int mm_value, .ref mm_next, .int (nI tk)])), (mm_now, .inl (cy 1, 122, .inl f19))]) [1, 2] rfl) (hD.sub (ws' := [(mm, .inr (11, [.ref mm_now, .ref mm_kept, .ref mm_isKept, .ref mm_refused, .int z13, .int z14, .ref mm_stands, .ref mm_far, .ref mm_queue, .int mm_queued, .ref mm_meets, .ref mm_bytes, .int (nI bl), .int (nI ta), .int (nI tl), .int mm_token, .int mm_value, .ref mm_next, .int (nI tk)])), (mm_now, .inl (cy 1, 122, .inl f19))]) [1, 2] (by decide) rfl) rfl rfl) rfl rfl hl.1 rfl (lv_room (Nat.le_of_ble_eq_true rfl)) dX11_worth_54 ⟨Nat.le_of_ble_eq_true rfl, Nat.le_of_ble_eq_true rfl⟩) hP hD hS hA [1, 2] [0] rfl rfl (by decide +kernel) (by decide +kernel) (fun r20 ur20 H locs hwr20 hP hD hS => ?_)
      obtain ⟨z21, z22⟩ := ur20
      have hP : va_P D vwCl [(mm_refused, .inl (cy 1, 3, .inl mm_refused_f)), (mm, .inr (11, [.ref mm_now, .ref mm_kept, .ref mm_isKept, .ref mm_refused, .int z21, .int z22, .ref mm_stands, .ref mm_far, .ref mm_queue, .int mm_queued, .ref mm_meets, .ref mm_bytes, .int (nI bl), .int (nI ta), .int (nI tl), .int mm_token, .int mm_value, .ref mm_next, .int (nI tk)])), (mm_now, .inl (cy 1, 122, .inl f19))] H := hP
      have hD : va_D A [(mm_refused, .inl (cy 1, 3, .inl mm_refused_f)), (mm, .inr (11, [.ref mm_now, .ref mm_kept, .ref mm_isKept, .ref mm_refused, .int z21, .int z22, .ref mm_stands, .ref mm_far, .ref mm_queue, .int mm_queued, .ref mm_meets, .ref mm_bytes, .int (nI bl), .int (nI ta), .int (nI tl), .int mm_token, .int mm_value, .ref mm_next, .int (nI tk)])), (mm_now, .inl (cy 1, 122, .inl f19))] := hD
      refine lv_istore (lv' := [(5, .int r20), (4, .int (nI jh)), (3, .int r12), (0, .ref mm), (1, .int px), (2, .int py)]) hx hb dX11_worth_57 hl (by decide) rfl (fun ls hl => ?_)
      refine lv_aload_n hx hb dX11_worth_59 rfl (lv_at hl 3 rfl) ?_
      refine va_get (D := D) (ci := 11) (v := .ref mm_now) (C := RX11) (T := TX11) (N := 19) hx hb hts zi11_ hown hK hP 1 rfl rfl 0 (by decide) z1_ (fun _ h9 => h9) rfl dX11_worth_60 ?_
      refine lv_iconst (v := 5) hx hb dX11_worth_63 (by decide) ?_
      refine lv_iconst (v := 3) hx hb dX11_worth_64 (by decide) ?_
      refine lv_iload_n hx hb dX11_worth_65 rfl (lv_at hl 4 rfl) ?_
      refine W.eq (g2 := F0 m 66 ls [.int (nI j6), .int 3, .int 5, .ref mm_now]) (congrArg (fun v9 : Int32 => F0 m 66 ls [.int v9, .int 3, .int 5, .ref mm_now]) ej6) ?_
      refine lv_imul hx hb dX11_worth_66 ?_
      refine lv_topi (fun x23 ex23 => ?_)
      obtain rfl : x23 = nI (3 * j6) := by rw [ex23]; exact pk_mul _ _
      refine lv_iadd hx hb dX11_worth_67 ?_
      refine lv_topi (fun x24 ex24 => ?_)
      obtain rfl : x24 = nI (5 + (3 * j6)) := by rw [ex24]; exact nI_add _ _
      refine lv_iconst (v := 0) hx hb dX11_worth_68 (by decide) ?_
      refine lv_iadd hx hb dX11_worth_69 ?_
      refine lv_topi (fun x25 ex25 => ?_)
      obtain rfl : x25 = nI ((5 + (3 * j6)) + 0) := by rw [ex25]; exact nI_add _ _
      refine lv_iload hx hb dX11_worth_70 (lv_at hl 1 rfl) ?_
      refine my_iast hx hb hK hP hD hS 2 1 rfl rfl (by first | exact in_ge (N := 122) (by decide) (by omega) (by assumption) | exact vp_in_nI (by omega) (by omega)) (nI_clamp (by omega)) dX11_worth_72 (fun H locs hP hD hS => ?_)
      have hP : va_P D vwCl [(mm_refused, .inl (cy 1, 3, .inl mm_refused_f)), (mm, .inr (11, [.ref mm_now, .ref mm_kept, .ref mm_isKept, .ref mm_refused, .int z21, .int z22, .ref mm_stands, .ref mm_far, .ref mm_queue, .int mm_queued, .ref mm_meets, .ref mm_bytes, .int (nI bl), .int (nI ta), .int (nI tl), .int mm_token, .int mm_value, .ref mm_next, .int (nI tk)])), (mm_now, .inl (cy 1, 122, .inl (upd f19 ((5 + (3 * j6)) + 0) (nI jh))))] H := hP
      have hD : va_D A [(mm_refused, .inl (cy 1, 3, .inl mm_refused_f)), (mm, .inr (11, [.ref mm_now, .ref mm_kept, .ref mm_isKept, .ref mm_refused, .int z21, .int z22, .ref mm_stands, .ref mm_far, .ref mm_queue, .int mm_queued, .ref mm_meets, .ref mm_bytes, .int (nI bl), .int (nI ta), .int (nI tl), .int mm_token, .int mm_value, .ref mm_next, .int (nI tk)])), (mm_now, .inl (cy 1, 122, .inl (upd f19 ((5 + (3 * j6)) + 0) (nI jh))))] := hD
      obtain ⟨f26, ef26⟩ : ∃ y : Nat → Int32, y = upd f19 ((5 + (3 * j6)) + 0) (nI jh) := ⟨_, rfl⟩
      rw [← ef26] at hP hD
      have hf26 : mV f26 mW mH mS mP := by rw [ef26]; exact mV.put hf19 ((5 + (3 * j6)) + 0) jh rfl (by omega) (by unfold mHi; (repeat' split) <;> omega)
      have hP : va_P D vwCl [(mm_refused, .inl (cy 1, 3, .inl mm_refused_f)), (mm, .inr (11, [.ref mm_now, .ref mm_kept, .ref mm_isKept, .ref mm_refused, .int z21, .int z22, .ref mm_stands, .ref mm_far, .ref mm_queue, .int mm_queued, .ref mm_meets, .ref mm_bytes, .int (nI bl), .int (nI ta), .int (nI tl), .int mm_token, .int mm_value, .ref mm_next, .int (nI tk)])), (mm_now, .inl (cy 1, 122, .inl f26))] H := hP
      have hD : va_D A [(mm_refused, .inl (cy 1, 3, .inl mm_refused_f)), (mm, .inr (11, [.ref mm_now, .ref mm_kept, .ref mm_isKept, .ref mm_refused, .int z21, .int z22, .ref mm_stands, .ref mm_far, .ref mm_queue, .int mm_queued, .ref mm_meets, .ref mm_bytes, .int (nI bl), .int (nI ta), .int (nI tl), .int mm_token, .int mm_value, .ref mm_next, .int (nI tk)])), (mm_now, .inl (cy 1, 122, .inl f26))] := hD
      refine lv_iload hx hb dX11_worth_73 (lv_at hl 0 rfl) ?_
      refine lv_iload_n hx hb dX11_worth_75 rfl (lv_at hl 2 rfl) ?_
      refine lv_isub hx hb dX11_worth_76 ?_
      refine lv_topi (fun x27 ex27 => ?_)
      subst hQF
      have hP9 := hP.sub (ws' := [(mm, .inr (11, [.ref mm_now, .ref mm_kept, .ref mm_isKept, .ref mm_refused, .int z21, .int z22, .ref mm_stands, .ref mm_far, .ref mm_queue, .int mm_queued, .ref mm_meets, .ref mm_bytes, .int (nI bl), .int (nI ta), .int (nI tl), .int mm_token, .int mm_value, .ref mm_next, .int (nI tk)])), (mm_now, .inl (cy 1, 122, .inl f26)), (mm_refused, .inl (cy 1, 3, .inl mm_refused_f))]) [1, 2, 0] rfl
      have hD9 := hD.sub (ws' := [(mm, .inr (11, [.ref mm_now, .ref mm_kept, .ref mm_isKept, .ref mm_refused, .int z21, .int z22, .ref mm_stands, .ref mm_far, .ref mm_queue, .int mm_queued, .ref mm_meets, .ref mm_bytes, .int (nI bl), .int (nI ta), .int (nI tl), .int mm_token, .int mm_value, .ref mm_next, .int (nI tk)])), (mm_now, .inl (cy 1, 122, .inl f26)), (mm_refused, .inl (cy 1, 3, .inl mm_refused_f))]) [1, 2, 0] (by decide) rfl
      exact W.iret (v := x27) hx hb hr (fun t ht hW => ⟨⟨x27, (z21, z22, f26, mm_refused_f), rfl, ⟨_, _, _, _, hf26⟩, by rw [ht]; exact hP9, hD9⟩, hS.F ht⟩) hS.2.2 dX11_worth_77
    · skip
      have hq28 := z_b0 hwr7 c8
      refine lv_aload_n hx hb dX11_worth_20 rfl (lv_at hl 0 rfl) ?_
      refine lv_bipush (v := (-10)) hx hb dX11_worth_21 (by decide) ?_
      refine wr_i (wr := [(mm_now, .inl (cy 1, 122, .inl mm_now_f))]) (va_runV (As := [.int (-10)]) (rest := []) ⟨hx, hb, hml, hown, hts⟩ (n_X11_bad l D cy mm mm_now mm_kept mm_isKept mm_refused mm_lineFrom mm_lineTo mm_stands mm_far mm_queue mm_queued mm_meets mm_bytes bl ta tl mm_token mm_value mm_next tk mm_refused_f (-10) _ ) (cwV 1 hts gX11_worth_X11_bad rfl rfl rfl (by decide +kernel) ⟨Nat.le_of_ble_eq_true rfl, Nat.le_of_ble_eq_true rfl⟩) (pV (ci := 11) (k := 0) hKA (hP.sub (ws' := [(mm, .inr (11, [.ref mm_now, .ref mm_kept, .ref mm_isKept, .ref mm_refused, .int mm_lineFrom, .int mm_lineTo, .ref mm_stands, .ref mm_far, .ref mm_queue, .int mm_queued, .ref mm_meets, .ref mm_bytes, .int (nI bl), .int (nI ta), .int (nI tl), .int mm_token, .int mm_value, .ref mm_next, .int (nI tk)])), (mm_refused, .inl (cy 1, 3, .inl mm_refused_f))]) [0, 2] rfl) (hD.sub (ws' := [(mm, .inr (11, [.ref mm_now, .ref mm_kept, .ref mm_isKept, .ref mm_refused, .int mm_lineFrom, .int mm_lineTo, .ref mm_stands, .ref mm_far, .ref mm_queue, .int mm_queued, .ref mm_meets, .ref mm_bytes, .int (nI bl), .int (nI ta), .int (nI tl), .int mm_token, .int mm_value, .ref mm_next, .int (nI tk)])), (mm_refused, .inl (cy 1, 3, .inl mm_refused_f))]) [0, 2] (by decide) rfl) rfl rfl) rfl rfl hl.1 rfl (lv_room (Nat.le_of_ble_eq_true rfl)) dX11_worth_23 ⟨Nat.le_of_ble_eq_true rfl, Nat.le_of_ble_eq_true rfl⟩) hP hD hS hA [0, 2] [1] rfl rfl (by decide +kernel) (by decide +kernel) (fun r29 ur29 H locs hwr29 hP hD hS => ?_)
      obtain ⟨z30, rfl⟩ : ∃ z, z = ur29 := ⟨_, rfl⟩
      have hP : va_P D vwCl [(mm_now, .inl (cy 1, 122, .inl mm_now_f)), (mm, .inr (11, [.ref mm_now, .ref mm_kept, .ref mm_isKept, .ref mm_refused, .int mm_lineFrom, .int mm_lineTo, .ref mm_stands, .ref mm_far, .ref mm_queue, .int mm_queued, .ref mm_meets, .ref mm_bytes, .int (nI bl), .int (nI ta), .int (nI tl), .int mm_token, .int mm_value, .ref mm_next, .int (nI tk)])), (mm_refused, .inl (cy 1, 3, .inl z30))] H := hP
      have hD : va_D A [(mm_now, .inl (cy 1, 122, .inl mm_now_f)), (mm, .inr (11, [.ref mm_now, .ref mm_kept, .ref mm_isKept, .ref mm_refused, .int mm_lineFrom, .int mm_lineTo, .ref mm_stands, .ref mm_far, .ref mm_queue, .int mm_queued, .ref mm_meets, .ref mm_bytes, .int (nI bl), .int (nI ta), .int (nI tl), .int mm_token, .int mm_value, .ref mm_next, .int (nI tk)])), (mm_refused, .inl (cy 1, 3, .inl z30))] := hD
      have hwr29 : r29 = (-10) := hwr29
      subst hwr29
      subst hQF
      have hP9 := hP.sub (ws' := [(mm, .inr (11, [.ref mm_now, .ref mm_kept, .ref mm_isKept, .ref mm_refused, .int mm_lineFrom, .int mm_lineTo, .ref mm_stands, .ref mm_far, .ref mm_queue, .int mm_queued, .ref mm_meets, .ref mm_bytes, .int (nI bl), .int (nI ta), .int (nI tl), .int mm_token, .int mm_value, .ref mm_next, .int (nI tk)])), (mm_now, .inl (cy 1, 122, .inl mm_now_f)), (mm_refused, .inl (cy 1, 3, .inl z30))]) [1, 0, 2] rfl
      have hD9 := hD.sub (ws' := [(mm, .inr (11, [.ref mm_now, .ref mm_kept, .ref mm_isKept, .ref mm_refused, .int mm_lineFrom, .int mm_lineTo, .ref mm_stands, .ref mm_far, .ref mm_queue, .int mm_queued, .ref mm_meets, .ref mm_bytes, .int (nI bl), .int (nI ta), .int (nI tl), .int mm_token, .int mm_value, .ref mm_next, .int (nI tk)])), (mm_now, .inl (cy 1, 122, .inl mm_now_f)), (mm_refused, .inl (cy 1, 3, .inl z30))]) [1, 0, 2] (by decide) rfl
      exact W.iret (v := (-10)) hx hb hr (fun t ht hW => ⟨⟨(-10), (mm_lineFrom, mm_lineTo, mm_now_f, z30), rfl, ⟨_, _, _, _, hF⟩, by rw [ht]; exact hP9, hD9⟩, hS.F ht⟩) hS.2.2 dX11_worth_26

set_option maxHeartbeats 4000000 in
set_option maxRecDepth 100000 in
theorem n_X11_spots (l : Launch) (D : va_G) (cy : Nat → ClassId) (mm : Nat) (mm_now : Nat) (mm_kept : Nat) (mm_isKept : Nat) (mm_refused : Nat) (mm_lineFrom : Int32) (mm_lineTo : Int32) (mm_stands : Nat) (mm_far : Nat) (mm_queue : Nat) (mm_queued : Int32) (mm_meets : Nat) (mm_bytes : Nat) (bl : Nat) (ta : Nat) (tl : Nat) (mm_token : Int32) (mm_value : Int32) (mm_next : Nat) (tk : Nat) (mm_now_f : Nat → Int32) (mm_refused_f : Nat → Int32) (px : Int32) (py : Int32) (sz : Nat) (hN : mN mm_now_f) : Met l yX11_spots wsX11_spots ({ frames := 7, cells := 0, slots := 0, locals := 160 }) (va_Pc [.ref mm, .int px, .int py] (kPre D cy [(mm, .inr (11, [.ref mm_now, .ref mm_kept, .ref mm_isKept, .ref mm_refused, .int mm_lineFrom, .int mm_lineTo, .ref mm_stands, .ref mm_far, .ref mm_queue, .int mm_queued, .ref mm_meets, .ref mm_bytes, .int (nI bl), .int (nI ta), .int (nI tl), .int mm_token, .int mm_value, .ref mm_next, .int (nI tk)])), (mm_now, .inl (cy 1, 122, .inl mm_now_f)), (mm_refused, .inl (cy 1, 3, .inl mm_refused_f))] sz)) (va_Qi (fun (r : Int32) (u : Int32 × Int32 × (Nat → Int32) × (Nat → Int32)) => mN u.2.2.1) (fun (u : Int32 × Int32 × (Nat → Int32) × (Nat → Int32)) t => va_P D vwCl ([(mm, .inr (11, [.ref mm_now, .ref mm_kept, .ref mm_isKept, .ref mm_refused, .int u.1, .int u.2.1, .ref mm_stands, .ref mm_far, .ref mm_queue, .int mm_queued, .ref mm_meets, .ref mm_bytes, .int (nI bl), .int (nI ta), .int (nI tl), .int mm_token, .int mm_value, .ref mm_next, .int (nI tk)])), (mm_now, .inl (cy 1, 122, .inl u.2.2.1)), (mm_refused, .inl (cy 1, 3, .inl u.2.2.2))]) t.heap ∧ va_D (va_A [(mm, .inr (11, [.ref mm_now, .ref mm_kept, .ref mm_isKept, .ref mm_refused, .int mm_lineFrom, .int mm_lineTo, .ref mm_stands, .ref mm_far, .ref mm_queue, .int mm_queued, .ref mm_meets, .ref mm_bytes, .int (nI bl), .int (nI ta), .int (nI tl), .int mm_token, .int mm_value, .ref mm_next, .int (nI tk)])), (mm_now, .inl (cy 1, 122, .inl mm_now_f)), (mm_refused, .inl (cy 1, 3, .inl mm_refused_f))] sz) ([(mm, .inr (11, [.ref mm_now, .ref mm_kept, .ref mm_isKept, .ref mm_refused, .int u.1, .int u.2.1, .ref mm_stands, .ref mm_far, .ref mm_queue, .int mm_queued, .ref mm_meets, .ref mm_bytes, .int (nI bl), .int (nI ta), .int (nI tl), .int mm_token, .int mm_value, .ref mm_next, .int (nI tk)])), (mm_now, .inl (cy 1, 122, .inl u.2.2.1)), (mm_refused, .inl (cy 1, 3, .inl u.2.2.2))])) (va_A [(mm, .inr (11, [.ref mm_now, .ref mm_kept, .ref mm_isKept, .ref mm_refused, .int mm_lineFrom, .int mm_lineTo, .ref mm_stands, .ref mm_far, .ref mm_queue, .int mm_queued, .ref mm_meets, .ref mm_bytes, .int (nI bl), .int (nI ta), .int (nI tl), .int mm_token, .int mm_value, .ref mm_next, .int (nI tk)])), (mm_now, .inl (cy 1, 122, .inl mm_now_f)), (mm_refused, .inl (cy 1, 3, .inl mm_refused_f))] sz)) 0 0 (va_A [(mm, .inr (11, [.ref mm_now, .ref mm_kept, .ref mm_isKept, .ref mm_refused, .int mm_lineFrom, .int mm_lineTo, .ref mm_stands, .ref mm_far, .ref mm_queue, .int mm_queued, .ref mm_meets, .ref mm_bytes, .int (nI bl), .int (nI ta), .int (nI tl), .int mm_token, .int mm_value, .ref mm_next, .int (nI tk)])), (mm_now, .inl (cy 1, 122, .inl mm_now_f)), (mm_refused, .inl (cy 1, 3, .inl mm_refused_f))] sz) := by
  refine Met.ofW (cc := cX11_spots) (maxL := 7) (ret := (some .int)) (by decide) rfl ?_
  intro p e s m args below meth c s₁ B hml hv
  obtain ⟨rfl, hsz, hP, hKA, hD0⟩ := hv
  have hx := B.exec
  have hb := B.bytes
  have hr := B.returns
  have hts := atoms_spec (ws := wsX11_spots) B.pre
  have hown : s.vm.findClass RX11 = some m.cls := findClass_of_methodNamed B.named
  have hlocks := B.notSynchronized
  subst hsz
  have hK := hKA.1
  have hD := hD0.self (sz := s.heap.size)
  generalize hAe : va_A [(mm, .inr (11, [.ref mm_now, .ref mm_kept, .ref mm_isKept, .ref mm_refused, .int mm_lineFrom, .int mm_lineTo, .ref mm_stands, .ref mm_far, .ref mm_queue, .int mm_queued, .ref mm_meets, .ref mm_bytes, .int (nI bl), .int (nI ta), .int (nI tl), .int mm_token, .int mm_value, .ref mm_next, .int (nI tk)])), (mm_now, .inl (cy 1, 122, .inl mm_now_f)), (mm_refused, .inl (cy 1, 3, .inl mm_refused_f))] s.heap.size = A at hD ⊢
  have hA : ∀ q : Nat, s.heap.size ≤ q → A q := fun q h => by rw [← hAe]; exact Or.inr h
  have hS : va_S A s.heap s.heap [] := va_S.rf
  have hP : va_P D vwCl [(mm, .inr (11, [.ref mm_now, .ref mm_kept, .ref mm_isKept, .ref mm_refused, .int mm_lineFrom, .int mm_lineTo, .ref mm_stands, .ref mm_far, .ref mm_queue, .int mm_queued, .ref mm_meets, .ref mm_bytes, .int (nI bl), .int (nI ta), .int (nI tl), .int mm_token, .int mm_value, .ref mm_next, .int (nI tk)])), (mm_now, .inl (cy 1, 122, .inl mm_now_f)), (mm_refused, .inl (cy 1, 3, .inl mm_refused_f))] s.heap := hP
  have hl := lv_entry ([.ref mm, .int px, .int py]) (n := 7) (Nat.le_of_ble_eq_true rfl)
  rw [lg_entry_eq]
  generalize (lg_sl ([.ref mm, .int px, .int py]) ++ List.replicate (7 - (lg_sl ([.ref mm, .int px, .int py])).length) Slot.unset).toArray = ls at hl ⊢
  have hl : lv_has ls 7 [(0, .ref mm), (1, .int px), (2, .int py)] := hl
  refine qW (fun QF hQF => ?_)
  obtain ⟨mW, mH, mS, mP, hF⟩ := hN
  obtain ⟨hW2, hW6, hH2, hH6, hSe, hS4, hS6, hP5⟩ := hF.rng
  refine lv_aload_n hx hb dX11_spots_0 rfl (lv_at hl 0 rfl) ?_
  refine lv_iload_n hx hb dX11_spots_1 rfl (lv_at hl 1 rfl) ?_
  refine rd_i (va_runV (As := [.int px]) (rest := []) ⟨hx, hb, hml, hown, hts⟩ (n_X11_isOne l D cy mW mH mS mP mm mm_now mm_kept mm_isKept mm_refused mm_lineFrom mm_lineTo mm_stands mm_far mm_queue mm_queued mm_meets mm_bytes bl ta tl mm_token mm_value mm_next tk mm_now_f px _ (by first | assumption | omega)) (cwV 1 hts gX11_spots_X11_isOne rfl rfl rfl (by decide +kernel) ⟨Nat.le_of_ble_eq_true rfl, Nat.le_of_ble_eq_true rfl⟩) (pV (ci := 11) (k := 0) hKA (hP.sub (ws' := [(mm, .inr (11, [.ref mm_now, .ref mm_kept, .ref mm_isKept, .ref mm_refused, .int mm_lineFrom, .int mm_lineTo, .ref mm_stands, .ref mm_far, .ref mm_queue, .int mm_queued, .ref mm_meets, .ref mm_bytes, .int (nI bl), .int (nI ta), .int (nI tl), .int mm_token, .int mm_value, .ref mm_next, .int (nI tk)])), (mm_now, .inl (cy 1, 122, .inl mm_now_f))]) [0, 1] rfl) (hD.sub (ws' := [(mm, .inr (11, [.ref mm_now, .ref mm_kept, .ref mm_isKept, .ref mm_refused, .int mm_lineFrom, .int mm_lineTo, .ref mm_stands, .ref mm_far, .ref mm_queue, .int mm_queued, .ref mm_meets, .ref mm_bytes, .int (nI bl), .int (nI ta), .int (nI tl), .int mm_token, .int mm_value, .ref mm_next, .int (nI tk)])), (mm_now, .inl (cy 1, 122, .inl mm_now_f))]) [0, 1] (by decide) rfl) rfl rfl) rfl rfl hl.1 rfl (lv_room (Nat.le_of_ble_eq_true rfl)) dX11_spots_2 ⟨Nat.le_of_ble_eq_true rfl, Nat.le_of_ble_eq_true rfl⟩) hP hS hA (fun r1 H locs hwr1 hP hS => ?_)
  have hwr1 : (r1 = 1 ∧ (∃ j : Nat, j < mP ∧ px = nI j)) ∨ (r1 = 0 ∧ True) := hwr1
  refine lv_if_eq (tgt := 13) hx hb dX11_spots_5 (by decide) (fun c2 => ?_) (fun c2 => ?_)
  · skip
    refine lv_aload_n hx hb dX11_spots_13 rfl (lv_at hl 0 rfl) ?_
    refine lv_bipush (v := (-10)) hx hb dX11_spots_14 (by decide) ?_
    refine wr_i (wr := [(mm_now, .inl (cy 1, 122, .inl mm_now_f))]) (va_runV (As := [.int (-10)]) (rest := []) ⟨hx, hb, hml, hown, hts⟩ (n_X11_bad l D cy mm mm_now mm_kept mm_isKept mm_refused mm_lineFrom mm_lineTo mm_stands mm_far mm_queue mm_queued mm_meets mm_bytes bl ta tl mm_token mm_value mm_next tk mm_refused_f (-10) _ ) (cwV 1 hts gX11_spots_X11_bad rfl rfl rfl (by decide +kernel) ⟨Nat.le_of_ble_eq_true rfl, Nat.le_of_ble_eq_true rfl⟩) (pV (ci := 11) (k := 0) hKA (hP.sub (ws' := [(mm, .inr (11, [.ref mm_now, .ref mm_kept, .ref mm_isKept, .ref mm_refused, .int mm_lineFrom, .int mm_lineTo, .ref mm_stands, .ref mm_far, .ref mm_queue, .int mm_queued, .ref mm_meets, .ref mm_bytes, .int (nI bl), .int (nI ta), .int (nI tl), .int mm_token, .int mm_value, .ref mm_next, .int (nI tk)])), (mm_refused, .inl (cy 1, 3, .inl mm_refused_f))]) [0, 2] rfl) (hD.sub (ws' := [(mm, .inr (11, [.ref mm_now, .ref mm_kept, .ref mm_isKept, .ref mm_refused, .int mm_lineFrom, .int mm_lineTo, .ref mm_stands, .ref mm_far, .ref mm_queue, .int mm_queued, .ref mm_meets, .ref mm_bytes, .int (nI bl), .int (nI ta), .int (nI tl), .int mm_token, .int mm_value, .ref mm_next, .int (nI tk)])), (mm_refused, .inl (cy 1, 3, .inl mm_refused_f))]) [0, 2] (by decide) rfl) rfl rfl) rfl rfl hl.1 rfl (lv_room (Nat.le_of_ble_eq_true rfl)) dX11_spots_16 ⟨Nat.le_of_ble_eq_true rfl, Nat.le_of_ble_eq_true rfl⟩) hP hD hS hA [0, 2] [1] rfl rfl (by decide +kernel) (by decide +kernel) (fun r3 ur3 H locs hwr3 hP hD hS => ?_)
    obtain ⟨z4, rfl⟩ : ∃ z, z = ur3 := ⟨_, rfl⟩
    have hP : va_P D vwCl [(mm_now, .inl (cy 1, 122, .inl mm_now_f)), (mm, .inr (11, [.ref mm_now, .ref mm_kept, .ref mm_isKept, .ref mm_refused, .int mm_lineFrom, .int mm_lineTo, .ref mm_stands, .ref mm_far, .ref mm_queue, .int mm_queued, .ref mm_meets, .ref mm_bytes, .int (nI bl), .int (nI ta), .int (nI tl), .int mm_token, .int mm_value, .ref mm_next, .int (nI tk)])), (mm_refused, .inl (cy 1, 3, .inl z4))] H := hP
    have hD : va_D A [(mm_now, .inl (cy 1, 122, .inl mm_now_f)), (mm, .inr (11, [.ref mm_now, .ref mm_kept, .ref mm_isKept, .ref mm_refused, .int mm_lineFrom, .int mm_lineTo, .ref mm_stands, .ref mm_far, .ref mm_queue, .int mm_queued, .ref mm_meets, .ref mm_bytes, .int (nI bl), .int (nI ta), .int (nI tl), .int mm_token, .int mm_value, .ref mm_next, .int (nI tk)])), (mm_refused, .inl (cy 1, 3, .inl z4))] := hD
    have hwr3 : r3 = (-10) := hwr3
    subst hwr3
    subst hQF
    have hP9 := hP.sub (ws' := [(mm, .inr (11, [.ref mm_now, .ref mm_kept, .ref mm_isKept, .ref mm_refused, .int mm_lineFrom, .int mm_lineTo, .ref mm_stands, .ref mm_far, .ref mm_queue, .int mm_queued, .ref mm_meets, .ref mm_bytes, .int (nI bl), .int (nI ta), .int (nI tl), .int mm_token, .int mm_value, .ref mm_next, .int (nI tk)])), (mm_now, .inl (cy 1, 122, .inl mm_now_f)), (mm_refused, .inl (cy 1, 3, .inl z4))]) [1, 0, 2] rfl
    have hD9 := hD.sub (ws' := [(mm, .inr (11, [.ref mm_now, .ref mm_kept, .ref mm_isKept, .ref mm_refused, .int mm_lineFrom, .int mm_lineTo, .ref mm_stands, .ref mm_far, .ref mm_queue, .int mm_queued, .ref mm_meets, .ref mm_bytes, .int (nI bl), .int (nI ta), .int (nI tl), .int mm_token, .int mm_value, .ref mm_next, .int (nI tk)])), (mm_now, .inl (cy 1, 122, .inl mm_now_f)), (mm_refused, .inl (cy 1, 3, .inl z4))]) [1, 0, 2] (by decide) rfl
    exact W.iret (v := (-10)) hx hb hr (fun t ht hW => ⟨⟨(-10), (mm_lineFrom, mm_lineTo, mm_now_f, z4), rfl, ⟨_, _, _, _, hF⟩, by rw [ht]; exact hP9, hD9⟩, hS.F ht⟩) hS.2.2 dX11_spots_19
  · skip
    have hp5 := z_b1 hwr1 c2
    obtain ⟨j6, hj6, ej6⟩ := hp5
    refine lv_iload_n hx hb dX11_spots_8 rfl (lv_at hl 2 rfl) ?_
    refine lv_iconst (v := (-1)) hx hb dX11_spots_9 (by decide) ?_
    refine lv_icmp_ge (tgt := 20) hx hb dX11_spots_10 (by decide) (fun c7 => ?_) (fun c7 => ?_)
    · skip
      refine lv_aload_n hx hb dX11_spots_20 rfl (lv_at hl 0 rfl) ?_
      refine lv_iload_n hx hb dX11_spots_21 rfl (lv_at hl 1 rfl) ?_
      refine W.eq (g2 := F0 m 22 ls [.int (nI j6), .ref mm]) (congrArg (fun v9 : Int32 => F0 m 22 ls [.int v9, .ref mm]) ej6) ?_
      refine lv_iconst (v := 1) hx hb dX11_spots_22 (by decide) ?_
      refine rd_i (va_runV (As := [.int (nI j6), .int 1]) (rest := []) ⟨hx, hb, hml, hown, hts⟩ (n_X11_of l D cy mW mH mS mP mm mm_now mm_kept mm_isKept mm_refused mm_lineFrom mm_lineTo mm_stands mm_far mm_queue mm_queued mm_meets mm_bytes bl ta tl mm_token mm_value mm_next tk mm_now_f j6 1 _ (by first | assumption | omega) (by first | assumption | omega) (by first | assumption | omega)) (cwV 2 hts gX11_spots_X11_of rfl rfl rfl (by decide +kernel) ⟨Nat.le_of_ble_eq_true rfl, Nat.le_of_ble_eq_true rfl⟩) (pV (ci := 11) (k := 0) hKA (hP.sub (ws' := [(mm, .inr (11, [.ref mm_now, .ref mm_kept, .ref mm_isKept, .ref mm_refused, .int mm_lineFrom, .int mm_lineTo, .ref mm_stands, .ref mm_far, .ref mm_queue, .int mm_queued, .ref mm_meets, .ref mm_bytes, .int (nI bl), .int (nI ta), .int (nI tl), .int mm_token, .int mm_value, .ref mm_next, .int (nI tk)])), (mm_now, .inl (cy 1, 122, .inl mm_now_f))]) [0, 1] rfl) (hD.sub (ws' := [(mm, .inr (11, [.ref mm_now, .ref mm_kept, .ref mm_isKept, .ref mm_refused, .int mm_lineFrom, .int mm_lineTo, .ref mm_stands, .ref mm_far, .ref mm_queue, .int mm_queued, .ref mm_meets, .ref mm_bytes, .int (nI bl), .int (nI ta), .int (nI tl), .int mm_token, .int mm_value, .ref mm_next, .int (nI tk)])), (mm_now, .inl (cy 1, 122, .inl mm_now_f))]) [0, 1] (by decide) rfl) rfl rfl) rfl rfl hl.1 rfl (lv_room (Nat.le_of_ble_eq_true rfl)) dX11_spots_23 ⟨Nat.le_of_ble_eq_true rfl, Nat.le_of_ble_eq_true rfl⟩) hP hS hA (fun r8 H locs hwr8 hP hS => ?_)
      have hwr8 : r8 = mm_now_f (5 + 3 * j6 + 1) := hwr8
      subst hwr8
      obtain ⟨jh, ejh, hjh⟩ := mV.get hF (5 + 3 * j6 + 1) 35 (by omega) (by omega) (by unfold mHi; (repeat' split) <;> omega)
      refine W.eq (g2 := F0 m 26 ls [.int (nI jh)]) (congrArg (fun v9 : Int32 => F0 m 26 ls [.int v9]) ejh) ?_
      refine lv_istore_n (lv' := [(3, .int (nI jh)), (0, .ref mm), (1, .int px), (2, .int py)]) hx hb dX11_spots_26 rfl hl (by decide) rfl (fun ls hl => ?_)
      refine lv_iconst (v := 0) hx hb dX11_spots_27 (by decide) ?_
      refine lv_istore (lv' := [(4, .int 0), (3, .int (nI jh)), (0, .ref mm), (1, .int px), (2, .int py)]) hx hb dX11_spots_28 hl (by decide) rfl (fun ls hl => ?_)
      refine lv_bipush (v := (-5)) hx hb dX11_spots_30 (by decide) ?_
      refine lv_istore (lv' := [(5, .int (-5)), (4, .int 0), (3, .int (nI jh)), (0, .ref mm), (1, .int px), (2, .int py)]) hx hb dX11_spots_32 hl (by decide) rfl (fun ls hl => ?_)
      refine lv_iconst (v := 0) hx hb dX11_spots_34 (by decide) ?_
      refine lv_istore (lv' := [(6, .int 0), (5, .int (-5)), (4, .int 0), (3, .int (nI jh)), (0, .ref mm), (1, .int px), (2, .int py)]) hx hb dX11_spots_35 hl (by decide) rfl (fun ls hl => ?_)
      have lp37 : ∀ (n37 : Nat) (v6_37 : Nat) (u_mm_4_37 : Int32) (u_mm_5_37 : Int32) (y_mm_now_37 : Nat → Int32) (v4_37 : Int32) (v5_37 : Int32) (hi_y_mm_now_37 : mV y_mm_now_37 mW mH mS mP) (hv6_37 : v6_37 < 2147483648), 2147483648 - v6_37 < n37 → ∀ (H : Heap) (locs : List Loc), va_P D vwCl [(mm, .inr (11, [.ref mm_now, .ref mm_kept, .ref mm_isKept, .ref mm_refused, .int u_mm_4_37, .int u_mm_5_37, .ref mm_stands, .ref mm_far, .ref mm_queue, .int mm_queued, .ref mm_meets, .ref mm_bytes, .int (nI bl), .int (nI ta), .int (nI tl), .int mm_token, .int mm_value, .ref mm_next, .int (nI tk)])), (mm_now, .inl (cy 1, 122, .inl y_mm_now_37)), (mm_refused, .inl (cy 1, 3, .inl mm_refused_f))] H → va_D A [(mm, .inr (11, [.ref mm_now, .ref mm_kept, .ref mm_isKept, .ref mm_refused, .int u_mm_4_37, .int u_mm_5_37, .ref mm_stands, .ref mm_far, .ref mm_queue, .int mm_queued, .ref mm_meets, .ref mm_bytes, .int (nI bl), .int (nI ta), .int (nI tl), .int mm_token, .int mm_value, .ref mm_next, .int (nI tk)])), (mm_now, .inl (cy 1, 122, .inl y_mm_now_37)), (mm_refused, .inl (cy 1, 3, .inl mm_refused_f))] → va_S A s.heap H locs → ∀ ls : Array Slot, lv_has ls 7 [(6, .int (nI v6_37)), (5, .int v5_37), (4, .int v4_37), (3, .int (nI jh)), (0, .ref mm), (1, .int px), (2, .int py)] → W p l e (headSpec wsX11_spots ({ frames := 7, cells := 0, slots := 0, locals := 160 })).room s m [.ref mm, .int px, .int py].toArray below meth c H locs 0 0 QF (F0 m 37 ls []) := by
        intro n37
        induction n37 with
        | zero => intro v6_37 u_mm_4_37 u_mm_5_37 y_mm_now_37 v4_37 v5_37 hi_y_mm_now_37 hv6_37 hm; exact absurd hm (Nat.not_lt_zero _)
        | succ n37 ih37 =>
          intro v6_37 u_mm_4_37 u_mm_5_37 y_mm_now_37 v4_37 v5_37 hi_y_mm_now_37 hv6_37 hm37 H locs hP hD hS ls hl
          refine lv_iload hx hb dX11_spots_37 (lv_at hl 0 rfl) ?_
          refine lv_aload_n hx hb dX11_spots_39 rfl (lv_at hl 4 rfl) ?_
          refine rd_i (va_runV (As := []) (rest := [.int (nI v6_37)]) ⟨hx, hb, hml, hown, hts⟩ (n_X11_squares l D cy mW mH mS mP mm mm_now mm_kept mm_isKept mm_refused u_mm_4_37 u_mm_5_37 mm_stands mm_far mm_queue mm_queued mm_meets mm_bytes bl ta tl mm_token mm_value mm_next tk y_mm_now_37 _ (by first | assumption | omega)) (cwV 0 hts gX11_spots_X11_squares rfl rfl rfl (by decide +kernel) ⟨Nat.le_of_ble_eq_true rfl, Nat.le_of_ble_eq_true rfl⟩) (pV (ci := 11) (k := 0) hKA (hP.sub (ws' := [(mm, .inr (11, [.ref mm_now, .ref mm_kept, .ref mm_isKept, .ref mm_refused, .int u_mm_4_37, .int u_mm_5_37, .ref mm_stands, .ref mm_far, .ref mm_queue, .int mm_queued, .ref mm_meets, .ref mm_bytes, .int (nI bl), .int (nI ta), .int (nI tl), .int mm_token, .int mm_value, .ref mm_next, .int (nI tk)])), (mm_now, .inl (cy 1, 122, .inl y_mm_now_37))]) [0, 1] rfl) (hD.sub (ws' := [(mm, .inr (11, [.ref mm_now, .ref mm_kept, .ref mm_isKept, .ref mm_refused, .int u_mm_4_37, .int u_mm_5_37, .ref mm_stands, .ref mm_far, .ref mm_queue, .int mm_queued, .ref mm_meets, .ref mm_bytes, .int (nI bl), .int (nI ta), .int (nI tl), .int mm_token, .int mm_value, .ref mm_next, .int (nI tk)])), (mm_now, .inl (cy 1, 122, .inl y_mm_now_37))]) [0, 1] (by decide) rfl) rfl rfl) rfl rfl hl.1 rfl (lv_room (Nat.le_of_ble_eq_true rfl)) dX11_spots_40 ⟨Nat.le_of_ble_eq_true rfl, Nat.le_of_ble_eq_true rfl⟩) hP hS hA (fun r9 H locs hwr9 hP hS => ?_)
          have hwr9 : r9 = nI mS := hwr9
          subst hwr9
          refine lv_icmp_ge (tgt := 95) hx hb dX11_spots_43 (by decide) (fun c10 => ?_) (fun c10 => ?_)
          · skip
            refine lv_aload_n hx hb dX11_spots_95 rfl (lv_at hl 4 rfl) ?_
            refine lv_iload_n hx hb dX11_spots_96 rfl (lv_at hl 5 rfl) ?_
            refine W.eq (g2 := F0 m 97 ls [.int (nI j6), .ref mm]) (congrArg (fun v9 : Int32 => F0 m 97 ls [.int v9, .ref mm]) ej6) ?_
            refine lv_iload_n hx hb dX11_spots_97 rfl (lv_at hl 3 rfl) ?_
            refine wr_v (wr := [(mm_refused, .inl (cy 1, 3, .inl mm_refused_f))]) (va_runV (As := [.int (nI j6), .int (nI jh)]) (rest := []) ⟨hx, hb, hml, hown, hts⟩ (n_X11_stand l D cy mW mH mS mP mm mm_now mm_kept mm_isKept mm_refused u_mm_4_37 u_mm_5_37 mm_stands mm_far mm_queue mm_queued mm_meets mm_bytes bl ta tl mm_token mm_value mm_next tk y_mm_now_37 j6 jh _ (by first | assumption | omega) (by first | assumption | omega) (by first | assumption | omega)) (cwV 2 hts gX11_spots_X11_stand rfl rfl rfl (by decide +kernel) ⟨Nat.le_of_ble_eq_true rfl, Nat.le_of_ble_eq_true rfl⟩) (pV (ci := 11) (k := 0) hKA (hP.sub (ws' := [(mm, .inr (11, [.ref mm_now, .ref mm_kept, .ref mm_isKept, .ref mm_refused, .int u_mm_4_37, .int u_mm_5_37, .ref mm_stands, .ref mm_far, .ref mm_queue, .int mm_queued, .ref mm_meets, .ref mm_bytes, .int (nI bl), .int (nI ta), .int (nI tl), .int mm_token, .int mm_value, .ref mm_next, .int (nI tk)])), (mm_now, .inl (cy 1, 122, .inl y_mm_now_37))]) [0, 1] rfl) (hD.sub (ws' := [(mm, .inr (11, [.ref mm_now, .ref mm_kept, .ref mm_isKept, .ref mm_refused, .int u_mm_4_37, .int u_mm_5_37, .ref mm_stands, .ref mm_far, .ref mm_queue, .int mm_queued, .ref mm_meets, .ref mm_bytes, .int (nI bl), .int (nI ta), .int (nI tl), .int mm_token, .int mm_value, .ref mm_next, .int (nI tk)])), (mm_now, .inl (cy 1, 122, .inl y_mm_now_37))]) [0, 1] (by decide) rfl) rfl rfl) rfl rfl hl.1 rfl (lv_room (Nat.le_of_ble_eq_true rfl)) dX11_spots_98 ⟨Nat.le_of_ble_eq_true rfl, Nat.le_of_ble_eq_true rfl⟩) hP hD hS hA [0, 1] [2] rfl rfl (by decide +kernel) (by decide +kernel) (fun ur11 H locs hwr11 hP hD hS => ?_)
            obtain ⟨z12, rfl⟩ : ∃ z, z = ur11 := ⟨_, rfl⟩
            have hP : va_P D vwCl [(mm_refused, .inl (cy 1, 3, .inl mm_refused_f)), (mm, .inr (11, [.ref mm_now, .ref mm_kept, .ref mm_isKept, .ref mm_refused, .int u_mm_4_37, .int u_mm_5_37, .ref mm_stands, .ref mm_far, .ref mm_queue, .int mm_queued, .ref mm_meets, .ref mm_bytes, .int (nI bl), .int (nI ta), .int (nI tl), .int mm_token, .int mm_value, .ref mm_next, .int (nI tk)])), (mm_now, .inl (cy 1, 122, .inl z12))] H := hP
            have hD : va_D A [(mm_refused, .inl (cy 1, 3, .inl mm_refused_f)), (mm, .inr (11, [.ref mm_now, .ref mm_kept, .ref mm_isKept, .ref mm_refused, .int u_mm_4_37, .int u_mm_5_37, .ref mm_stands, .ref mm_far, .ref mm_queue, .int mm_queued, .ref mm_meets, .ref mm_bytes, .int (nI bl), .int (nI ta), .int (nI tl), .int mm_token, .int mm_value, .ref mm_next, .int (nI tk)])), (mm_now, .inl (cy 1, 122, .inl z12))] := hD
            have hwr11 : mV z12 mW mH mS mP := hwr11
            have hv13 := hwr11
            refine lv_iload_n hx hb dX11_spots_101 rfl (lv_at hl 6 rfl) ?_
            refine lv_iconst (v := (-1)) hx hb dX11_spots_102 (by decide) ?_
            refine lv_icmp_ne (tgt := 111) hx hb dX11_spots_103 (by decide) (fun c14 => ?_) (fun c14 => ?_)
            · skip
              refine lv_iload hx hb dX11_spots_111 (lv_at hl 1 rfl) ?_
              subst hQF
              have hP9 := hP.sub (ws' := [(mm, .inr (11, [.ref mm_now, .ref mm_kept, .ref mm_isKept, .ref mm_refused, .int u_mm_4_37, .int u_mm_5_37, .ref mm_stands, .ref mm_far, .ref mm_queue, .int mm_queued, .ref mm_meets, .ref mm_bytes, .int (nI bl), .int (nI ta), .int (nI tl), .int mm_token, .int mm_value, .ref mm_next, .int (nI tk)])), (mm_now, .inl (cy 1, 122, .inl z12)), (mm_refused, .inl (cy 1, 3, .inl mm_refused_f))]) [1, 2, 0] rfl
              have hD9 := hD.sub (ws' := [(mm, .inr (11, [.ref mm_now, .ref mm_kept, .ref mm_isKept, .ref mm_refused, .int u_mm_4_37, .int u_mm_5_37, .ref mm_stands, .ref mm_far, .ref mm_queue, .int mm_queued, .ref mm_meets, .ref mm_bytes, .int (nI bl), .int (nI ta), .int (nI tl), .int mm_token, .int mm_value, .ref mm_next, .int (nI tk)])), (mm_now, .inl (cy 1, 122, .inl z12)), (mm_refused, .inl (cy 1, 3, .inl mm_refused_f))]) [1, 2, 0] (by decide) rfl
              exact W.iret (v := v5_37) hx hb hr (fun t ht hW => ⟨⟨v5_37, (u_mm_4_37, u_mm_5_37, z12, mm_refused_f), rfl, ⟨_, _, _, _, hv13⟩, by rw [ht]; exact hP9, hD9⟩, hS.F ht⟩) hS.2.2 dX11_spots_113
            · skip
              refine lv_iload hx hb dX11_spots_106 (lv_at hl 2 rfl) ?_
              refine lv_goto (tgt := 113) hx hb dX11_spots_108 (by decide) ?_
              subst hQF
              have hP9 := hP.sub (ws' := [(mm, .inr (11, [.ref mm_now, .ref mm_kept, .ref mm_isKept, .ref mm_refused, .int u_mm_4_37, .int u_mm_5_37, .ref mm_stands, .ref mm_far, .ref mm_queue, .int mm_queued, .ref mm_meets, .ref mm_bytes, .int (nI bl), .int (nI ta), .int (nI tl), .int mm_token, .int mm_value, .ref mm_next, .int (nI tk)])), (mm_now, .inl (cy 1, 122, .inl z12)), (mm_refused, .inl (cy 1, 3, .inl mm_refused_f))]) [1, 2, 0] rfl
              have hD9 := hD.sub (ws' := [(mm, .inr (11, [.ref mm_now, .ref mm_kept, .ref mm_isKept, .ref mm_refused, .int u_mm_4_37, .int u_mm_5_37, .ref mm_stands, .ref mm_far, .ref mm_queue, .int mm_queued, .ref mm_meets, .ref mm_bytes, .int (nI bl), .int (nI ta), .int (nI tl), .int mm_token, .int mm_value, .ref mm_next, .int (nI tk)])), (mm_now, .inl (cy 1, 122, .inl z12)), (mm_refused, .inl (cy 1, 3, .inl mm_refused_f))]) [1, 2, 0] (by decide) rfl
              exact W.iret (v := v4_37) hx hb hr (fun t ht hW => ⟨⟨v4_37, (u_mm_4_37, u_mm_5_37, z12, mm_refused_f), rfl, ⟨_, _, _, _, hv13⟩, by rw [ht]; exact hP9, hD9⟩, hS.F ht⟩) hS.2.2 dX11_spots_113
          · skip
            have hk43 := ltM (n := mS) (k := v6_37) (by omega) (by assumption) (by assumption)
            refine lv_aload_n hx hb dX11_spots_46 rfl (lv_at hl 4 rfl) ?_
            refine lv_iload hx hb dX11_spots_47 (lv_at hl 0 rfl) ?_
            refine lv_iload_n hx hb dX11_spots_49 rfl (lv_at hl 5 rfl) ?_
            refine W.eq (g2 := F0 m 50 ls [.int (nI j6), .int (nI v6_37), .ref mm]) (congrArg (fun v9 : Int32 => F0 m 50 ls [.int v9, .int (nI v6_37), .ref mm]) ej6) ?_
            refine rd_i (va_runV (As := [.int (nI v6_37), .int (nI j6)]) (rest := []) ⟨hx, hb, hml, hown, hts⟩ (n_X11_isFree l D cy mW mH mS mP mm mm_now mm_kept mm_isKept mm_refused u_mm_4_37 u_mm_5_37 mm_stands mm_far mm_queue mm_queued mm_meets mm_bytes bl ta tl mm_token mm_value mm_next tk y_mm_now_37 v6_37 (nI j6) _ (by first | assumption | omega) (by first | assumption | omega)) (cwV 2 hts gX11_spots_X11_isFree rfl rfl rfl (by decide +kernel) ⟨Nat.le_of_ble_eq_true rfl, Nat.le_of_ble_eq_true rfl⟩) (pV (ci := 11) (k := 0) hKA (hP.sub (ws' := [(mm, .inr (11, [.ref mm_now, .ref mm_kept, .ref mm_isKept, .ref mm_refused, .int u_mm_4_37, .int u_mm_5_37, .ref mm_stands, .ref mm_far, .ref mm_queue, .int mm_queued, .ref mm_meets, .ref mm_bytes, .int (nI bl), .int (nI ta), .int (nI tl), .int mm_token, .int mm_value, .ref mm_next, .int (nI tk)])), (mm_now, .inl (cy 1, 122, .inl y_mm_now_37))]) [0, 1] rfl) (hD.sub (ws' := [(mm, .inr (11, [.ref mm_now, .ref mm_kept, .ref mm_isKept, .ref mm_refused, .int u_mm_4_37, .int u_mm_5_37, .ref mm_stands, .ref mm_far, .ref mm_queue, .int mm_queued, .ref mm_meets, .ref mm_bytes, .int (nI bl), .int (nI ta), .int (nI tl), .int mm_token, .int mm_value, .ref mm_next, .int (nI tk)])), (mm_now, .inl (cy 1, 122, .inl y_mm_now_37))]) [0, 1] (by decide) rfl) rfl rfl) rfl rfl hl.1 rfl (lv_room (Nat.le_of_ble_eq_true rfl)) dX11_spots_50 ⟨Nat.le_of_ble_eq_true rfl, Nat.le_of_ble_eq_true rfl⟩) hP hS hA (fun r15 H locs hwr15 hP hS => ?_)
            have hwr15 : (r15 = 1 ∧ True) ∨ (r15 = 0 ∧ True) := hwr15
            refine lv_if_eq (tgt := 89) hx hb dX11_spots_53 (by decide) (fun c16 => ?_) (fun c16 => ?_)
            · skip
              refine lv_iinc (v := nI (v6_37 + 1)) (lv' := [(6, .int (nI (v6_37 + 1))), (5, .int v5_37), (4, .int v4_37), (3, .int (nI jh)), (0, .ref mm), (1, .int px), (2, .int py)]) hx hb dX11_spots_89 hl (k := 0) rfl (nI_1 _) (by decide) rfl (fun ls hl => ?_)
              refine lv_goto (tgt := 37) hx hb dX11_spots_92 (by decide) ?_
              exact ih37 (v6_37 + 1) u_mm_4_37 u_mm_5_37 y_mm_now_37 v4_37 v5_37 hi_y_mm_now_37 (by first | omega | exact nlt_max hv6_37 (by assumption)) (by first | omega | (have := nlt_max hv6_37 (by assumption); omega)) _ _ hP hD hS ls hl
            · skip
              refine lv_aload_n hx hb dX11_spots_56 rfl (lv_at hl 4 rfl) ?_
              refine lv_iload_n hx hb dX11_spots_57 rfl (lv_at hl 5 rfl) ?_
              refine W.eq (g2 := F0 m 58 ls [.int (nI j6), .ref mm]) (congrArg (fun v9 : Int32 => F0 m 58 ls [.int v9, .ref mm]) ej6) ?_
              refine lv_iload hx hb dX11_spots_58 (lv_at hl 0 rfl) ?_
              refine wr_v (wr := [(mm_refused, .inl (cy 1, 3, .inl mm_refused_f))]) (va_runV (As := [.int (nI j6), .int (nI v6_37)]) (rest := []) ⟨hx, hb, hml, hown, hts⟩ (n_X11_stand l D cy mW mH mS mP mm mm_now mm_kept mm_isKept mm_refused u_mm_4_37 u_mm_5_37 mm_stands mm_far mm_queue mm_queued mm_meets mm_bytes bl ta tl mm_token mm_value mm_next tk y_mm_now_37 j6 v6_37 _ (by first | assumption | omega) (by first | assumption | omega) (by first | assumption | omega)) (cwV 2 hts gX11_spots_X11_stand rfl rfl rfl (by decide +kernel) ⟨Nat.le_of_ble_eq_true rfl, Nat.le_of_ble_eq_true rfl⟩) (pV (ci := 11) (k := 0) hKA (hP.sub (ws' := [(mm, .inr (11, [.ref mm_now, .ref mm_kept, .ref mm_isKept, .ref mm_refused, .int u_mm_4_37, .int u_mm_5_37, .ref mm_stands, .ref mm_far, .ref mm_queue, .int mm_queued, .ref mm_meets, .ref mm_bytes, .int (nI bl), .int (nI ta), .int (nI tl), .int mm_token, .int mm_value, .ref mm_next, .int (nI tk)])), (mm_now, .inl (cy 1, 122, .inl y_mm_now_37))]) [0, 1] rfl) (hD.sub (ws' := [(mm, .inr (11, [.ref mm_now, .ref mm_kept, .ref mm_isKept, .ref mm_refused, .int u_mm_4_37, .int u_mm_5_37, .ref mm_stands, .ref mm_far, .ref mm_queue, .int mm_queued, .ref mm_meets, .ref mm_bytes, .int (nI bl), .int (nI ta), .int (nI tl), .int mm_token, .int mm_value, .ref mm_next, .int (nI tk)])), (mm_now, .inl (cy 1, 122, .inl y_mm_now_37))]) [0, 1] (by decide) rfl) rfl rfl) rfl rfl hl.1 rfl (lv_room (Nat.le_of_ble_eq_true rfl)) dX11_spots_60 ⟨Nat.le_of_ble_eq_true rfl, Nat.le_of_ble_eq_true rfl⟩) hP hD hS hA [0, 1] [2] rfl rfl (by decide +kernel) (by decide +kernel) (fun ur17 H locs hwr17 hP hD hS => ?_)
              obtain ⟨z18, rfl⟩ : ∃ z, z = ur17 := ⟨_, rfl⟩
              have hP : va_P D vwCl [(mm_refused, .inl (cy 1, 3, .inl mm_refused_f)), (mm, .inr (11, [.ref mm_now, .ref mm_kept, .ref mm_isKept, .ref mm_refused, .int u_mm_4_37, .int u_mm_5_37, .ref mm_stands, .ref mm_far, .ref mm_queue, .int mm_queued, .ref mm_meets, .ref mm_bytes, .int (nI bl), .int (nI ta), .int (nI tl), .int mm_token, .int mm_value, .ref mm_next, .int (nI tk)])), (mm_now, .inl (cy 1, 122, .inl z18))] H := hP
              have hD : va_D A [(mm_refused, .inl (cy 1, 3, .inl mm_refused_f)), (mm, .inr (11, [.ref mm_now, .ref mm_kept, .ref mm_isKept, .ref mm_refused, .int u_mm_4_37, .int u_mm_5_37, .ref mm_stands, .ref mm_far, .ref mm_queue, .int mm_queued, .ref mm_meets, .ref mm_bytes, .int (nI bl), .int (nI ta), .int (nI tl), .int mm_token, .int mm_value, .ref mm_next, .int (nI tk)])), (mm_now, .inl (cy 1, 122, .inl z18))] := hD
              have hwr17 : mV z18 mW mH mS mP := hwr17
              have hv19 := hwr17
              refine lv_aload_n hx hb dX11_spots_63 rfl (lv_at hl 4 rfl) ?_
              refine lv_iload_n hx hb dX11_spots_64 rfl (lv_at hl 5 rfl) ?_
              refine W.eq (g2 := F0 m 65 ls [.int (nI j6), .ref mm]) (congrArg (fun v9 : Int32 => F0 m 65 ls [.int v9, .ref mm]) ej6) ?_
              refine wr_i (wr := [(mm_refused, .inl (cy 1, 3, .inl mm_refused_f))]) (va_runV (As := [.int (nI j6)]) (rest := []) ⟨hx, hb, hml, hown, hts⟩ (n_X11_isReported l D cy mW mH mS mP mm mm_now mm_kept mm_isKept mm_refused u_mm_4_37 u_mm_5_37 mm_stands mm_far mm_queue mm_queued mm_meets mm_bytes bl ta tl mm_token mm_value mm_next tk z18 j6 _ (by first | assumption | omega) (by first | assumption | omega)) (cwV 1 hts gX11_spots_X11_isReported rfl rfl rfl (by decide +kernel) ⟨Nat.le_of_ble_eq_true rfl, Nat.le_of_ble_eq_true rfl⟩) (pV (ci := 11) (k := 0) hKA (hP.sub (ws' := [(mm, .inr (11, [.ref mm_now, .ref mm_kept, .ref mm_isKept, .ref mm_refused, .int u_mm_4_37, .int u_mm_5_37, .ref mm_stands, .ref mm_far, .ref mm_queue, .int mm_queued, .ref mm_meets, .ref mm_bytes, .int (nI bl), .int (nI ta), .int (nI tl), .int mm_token, .int mm_value, .ref mm_next, .int (nI tk)])), (mm_now, .inl (cy 1, 122, .inl z18))]) [1, 2] rfl) (hD.sub (ws' := [(mm, .inr (11, [.ref mm_now, .ref mm_kept, .ref mm_isKept, .ref mm_refused, .int u_mm_4_37, .int u_mm_5_37, .ref mm_stands, .ref mm_far, .ref mm_queue, .int mm_queued, .ref mm_meets, .ref mm_bytes, .int (nI bl), .int (nI ta), .int (nI tl), .int mm_token, .int mm_value, .ref mm_next, .int (nI tk)])), (mm_now, .inl (cy 1, 122, .inl z18))]) [1, 2] (by decide) rfl) rfl rfl) rfl rfl hl.1 rfl (lv_room (Nat.le_of_ble_eq_true rfl)) dX11_spots_65 ⟨Nat.le_of_ble_eq_true rfl, Nat.le_of_ble_eq_true rfl⟩) hP hD hS hA [1, 2] [0] rfl rfl (by decide +kernel) (by decide +kernel) (fun r20 ur20 H locs hwr20 hP hD hS => ?_)
              obtain ⟨z21, z22⟩ := ur20
              have hP : va_P D vwCl [(mm_refused, .inl (cy 1, 3, .inl mm_refused_f)), (mm, .inr (11, [.ref mm_now, .ref mm_kept, .ref mm_isKept, .ref mm_refused, .int z21, .int z22, .ref mm_stands, .ref mm_far, .ref mm_queue, .int mm_queued, .ref mm_meets, .ref mm_bytes, .int (nI bl), .int (nI ta), .int (nI tl), .int mm_token, .int mm_value, .ref mm_next, .int (nI tk)])), (mm_now, .inl (cy 1, 122, .inl z18))] H := hP
              have hD : va_D A [(mm_refused, .inl (cy 1, 3, .inl mm_refused_f)), (mm, .inr (11, [.ref mm_now, .ref mm_kept, .ref mm_isKept, .ref mm_refused, .int z21, .int z22, .ref mm_stands, .ref mm_far, .ref mm_queue, .int mm_queued, .ref mm_meets, .ref mm_bytes, .int (nI bl), .int (nI ta), .int (nI tl), .int mm_token, .int mm_value, .ref mm_next, .int (nI tk)])), (mm_now, .inl (cy 1, 122, .inl z18))] := hD
              have hwr20 : (r20 = 1 ∧ True) ∨ (r20 = 0 ∧ True) := hwr20
              refine lv_if_eq (tgt := 89) hx hb dX11_spots_68 (by decide) (fun c23 => ?_) (fun c23 => ?_)
              · skip
                refine lv_iinc (v := nI (v6_37 + 1)) (lv' := [(6, .int (nI (v6_37 + 1))), (5, .int v5_37), (4, .int v4_37), (3, .int (nI jh)), (0, .ref mm), (1, .int px), (2, .int py)]) hx hb dX11_spots_89 hl (k := 0) rfl (nI_1 _) (by decide) rfl (fun ls hl => ?_)
                refine lv_goto (tgt := 37) hx hb dX11_spots_92 (by decide) ?_
                exact ih37 (v6_37 + 1) z21 z22 z18 v4_37 v5_37 hv19 (by first | omega | exact nlt_max hv6_37 (by assumption)) (by first | omega | (have := nlt_max hv6_37 (by assumption); omega)) _ _ (hP.sub (ws' := [(mm, .inr (11, [.ref mm_now, .ref mm_kept, .ref mm_isKept, .ref mm_refused, .int z21, .int z22, .ref mm_stands, .ref mm_far, .ref mm_queue, .int mm_queued, .ref mm_meets, .ref mm_bytes, .int (nI bl), .int (nI ta), .int (nI tl), .int mm_token, .int mm_value, .ref mm_next, .int (nI tk)])), (mm_now, .inl (cy 1, 122, .inl z18)), (mm_refused, .inl (cy 1, 3, .inl mm_refused_f))]) [1, 2, 0] rfl) (hD.sub (ws' := [(mm, .inr (11, [.ref mm_now, .ref mm_kept, .ref mm_isKept, .ref mm_refused, .int z21, .int z22, .ref mm_stands, .ref mm_far, .ref mm_queue, .int mm_queued, .ref mm_meets, .ref mm_bytes, .int (nI bl), .int (nI ta), .int (nI tl), .int mm_token, .int mm_value, .ref mm_next, .int (nI tk)])), (mm_now, .inl (cy 1, 122, .inl z18)), (mm_refused, .inl (cy 1, 3, .inl mm_refused_f))]) [1, 2, 0] (by decide) rfl) hS ls hl
              · skip
                refine lv_iload hx hb dX11_spots_71 (lv_at hl 2 rfl) ?_
                refine lv_iload_n hx hb dX11_spots_73 rfl (lv_at hl 6 rfl) ?_
                refine lv_icmp_ne (tgt := 82) hx hb dX11_spots_74 (by decide) (fun c24 => ?_) (fun c24 => ?_)
                · skip
                  refine lv_iload hx hb dX11_spots_82 (lv_at hl 1 rfl) ?_
                  refine lv_istore (lv' := [(5, .int v5_37), (6, .int (nI v6_37)), (4, .int v4_37), (3, .int (nI jh)), (0, .ref mm), (1, .int px), (2, .int py)]) hx hb dX11_spots_84 hl (by decide) rfl (fun ls hl => ?_)
                  obtain ⟨x25, ex25⟩ : ∃ y : Int32, y = v4_37 + 1 := ⟨_, rfl⟩
                  refine lv_iinc (v := x25) (lv' := [(4, .int x25), (5, .int v5_37), (6, .int (nI v6_37)), (3, .int (nI jh)), (0, .ref mm), (1, .int px), (2, .int py)]) hx hb dX11_spots_86 hl (k := 2) rfl (by rw [ex25]; rfl) (by decide) rfl (fun ls hl => ?_)
                  refine lv_iinc (v := nI (v6_37 + 1)) (lv' := [(6, .int (nI (v6_37 + 1))), (4, .int x25), (5, .int v5_37), (3, .int (nI jh)), (0, .ref mm), (1, .int px), (2, .int py)]) hx hb dX11_spots_89 hl (k := 2) rfl (nI_1 _) (by decide) rfl (fun ls hl => ?_)
                  refine lv_goto (tgt := 37) hx hb dX11_spots_92 (by decide) ?_
                  exact ih37 (v6_37 + 1) z21 z22 z18 x25 v5_37 hv19 (by first | omega | exact nlt_max hv6_37 (by assumption)) (by first | omega | (have := nlt_max hv6_37 (by assumption); omega)) _ _ (hP.sub (ws' := [(mm, .inr (11, [.ref mm_now, .ref mm_kept, .ref mm_isKept, .ref mm_refused, .int z21, .int z22, .ref mm_stands, .ref mm_far, .ref mm_queue, .int mm_queued, .ref mm_meets, .ref mm_bytes, .int (nI bl), .int (nI ta), .int (nI tl), .int mm_token, .int mm_value, .ref mm_next, .int (nI tk)])), (mm_now, .inl (cy 1, 122, .inl z18)), (mm_refused, .inl (cy 1, 3, .inl mm_refused_f))]) [1, 2, 0] rfl) (hD.sub (ws' := [(mm, .inr (11, [.ref mm_now, .ref mm_kept, .ref mm_isKept, .ref mm_refused, .int z21, .int z22, .ref mm_stands, .ref mm_far, .ref mm_queue, .int mm_queued, .ref mm_meets, .ref mm_bytes, .int (nI bl), .int (nI ta), .int (nI tl), .int mm_token, .int mm_value, .ref mm_next, .int (nI tk)])), (mm_now, .inl (cy 1, 122, .inl z18)), (mm_refused, .inl (cy 1, 3, .inl mm_refused_f))]) [1, 2, 0] (by decide) rfl) hS ls (lv_sub hl [0, 2, 1, 3, 4, 5, 6] rfl)
                · skip
                  refine lv_iload hx hb dX11_spots_77 (lv_at hl 0 rfl) ?_
                  refine lv_goto (tgt := 84) hx hb dX11_spots_79 (by decide) ?_
                  refine lv_istore (lv' := [(5, .int (nI v6_37)), (6, .int (nI v6_37)), (4, .int v4_37), (3, .int (nI jh)), (0, .ref mm), (1, .int px), (2, .int py)]) hx hb dX11_spots_84 hl (by decide) rfl (fun ls hl => ?_)
                  obtain ⟨x26, ex26⟩ : ∃ y : Int32, y = v4_37 + 1 := ⟨_, rfl⟩
                  refine lv_iinc (v := x26) (lv' := [(4, .int x26), (5, .int (nI v6_37)), (6, .int (nI v6_37)), (3, .int (nI jh)), (0, .ref mm), (1, .int px), (2, .int py)]) hx hb dX11_spots_86 hl (k := 2) rfl (by rw [ex26]; rfl) (by decide) rfl (fun ls hl => ?_)
                  refine lv_iinc (v := nI (v6_37 + 1)) (lv' := [(6, .int (nI (v6_37 + 1))), (4, .int x26), (5, .int (nI v6_37)), (3, .int (nI jh)), (0, .ref mm), (1, .int px), (2, .int py)]) hx hb dX11_spots_89 hl (k := 2) rfl (nI_1 _) (by decide) rfl (fun ls hl => ?_)
                  refine lv_goto (tgt := 37) hx hb dX11_spots_92 (by decide) ?_
                  exact ih37 (v6_37 + 1) z21 z22 z18 x26 (nI v6_37) hv19 (by first | omega | exact nlt_max hv6_37 (by assumption)) (by first | omega | (have := nlt_max hv6_37 (by assumption); omega)) _ _ (hP.sub (ws' := [(mm, .inr (11, [.ref mm_now, .ref mm_kept, .ref mm_isKept, .ref mm_refused, .int z21, .int z22, .ref mm_stands, .ref mm_far, .ref mm_queue, .int mm_queued, .ref mm_meets, .ref mm_bytes, .int (nI bl), .int (nI ta), .int (nI tl), .int mm_token, .int mm_value, .ref mm_next, .int (nI tk)])), (mm_now, .inl (cy 1, 122, .inl z18)), (mm_refused, .inl (cy 1, 3, .inl mm_refused_f))]) [1, 2, 0] rfl) (hD.sub (ws' := [(mm, .inr (11, [.ref mm_now, .ref mm_kept, .ref mm_isKept, .ref mm_refused, .int z21, .int z22, .ref mm_stands, .ref mm_far, .ref mm_queue, .int mm_queued, .ref mm_meets, .ref mm_bytes, .int (nI bl), .int (nI ta), .int (nI tl), .int mm_token, .int mm_value, .ref mm_next, .int (nI tk)])), (mm_now, .inl (cy 1, 122, .inl z18)), (mm_refused, .inl (cy 1, 3, .inl mm_refused_f))]) [1, 2, 0] (by decide) rfl) hS ls (lv_sub hl [0, 2, 1, 3, 4, 5, 6] rfl)
      exact lp37 (2147483648 - 0 + 1) 0 mm_lineFrom mm_lineTo mm_now_f 0 (-5) hF (by first | omega | exact nlt_max (by assumption) (by assumption)) (Nat.lt_succ_self _) _ _ hP hD hS ls hl
    · skip
      refine lv_aload_n hx hb dX11_spots_13 rfl (lv_at hl 0 rfl) ?_
      refine lv_bipush (v := (-10)) hx hb dX11_spots_14 (by decide) ?_
      refine wr_i (wr := [(mm_now, .inl (cy 1, 122, .inl mm_now_f))]) (va_runV (As := [.int (-10)]) (rest := []) ⟨hx, hb, hml, hown, hts⟩ (n_X11_bad l D cy mm mm_now mm_kept mm_isKept mm_refused mm_lineFrom mm_lineTo mm_stands mm_far mm_queue mm_queued mm_meets mm_bytes bl ta tl mm_token mm_value mm_next tk mm_refused_f (-10) _ ) (cwV 1 hts gX11_spots_X11_bad rfl rfl rfl (by decide +kernel) ⟨Nat.le_of_ble_eq_true rfl, Nat.le_of_ble_eq_true rfl⟩) (pV (ci := 11) (k := 0) hKA (hP.sub (ws' := [(mm, .inr (11, [.ref mm_now, .ref mm_kept, .ref mm_isKept, .ref mm_refused, .int mm_lineFrom, .int mm_lineTo, .ref mm_stands, .ref mm_far, .ref mm_queue, .int mm_queued, .ref mm_meets, .ref mm_bytes, .int (nI bl), .int (nI ta), .int (nI tl), .int mm_token, .int mm_value, .ref mm_next, .int (nI tk)])), (mm_refused, .inl (cy 1, 3, .inl mm_refused_f))]) [0, 2] rfl) (hD.sub (ws' := [(mm, .inr (11, [.ref mm_now, .ref mm_kept, .ref mm_isKept, .ref mm_refused, .int mm_lineFrom, .int mm_lineTo, .ref mm_stands, .ref mm_far, .ref mm_queue, .int mm_queued, .ref mm_meets, .ref mm_bytes, .int (nI bl), .int (nI ta), .int (nI tl), .int mm_token, .int mm_value, .ref mm_next, .int (nI tk)])), (mm_refused, .inl (cy 1, 3, .inl mm_refused_f))]) [0, 2] (by decide) rfl) rfl rfl) rfl rfl hl.1 rfl (lv_room (Nat.le_of_ble_eq_true rfl)) dX11_spots_16 ⟨Nat.le_of_ble_eq_true rfl, Nat.le_of_ble_eq_true rfl⟩) hP hD hS hA [0, 2] [1] rfl rfl (by decide +kernel) (by decide +kernel) (fun r27 ur27 H locs hwr27 hP hD hS => ?_)
      obtain ⟨z28, rfl⟩ : ∃ z, z = ur27 := ⟨_, rfl⟩
      have hP : va_P D vwCl [(mm_now, .inl (cy 1, 122, .inl mm_now_f)), (mm, .inr (11, [.ref mm_now, .ref mm_kept, .ref mm_isKept, .ref mm_refused, .int mm_lineFrom, .int mm_lineTo, .ref mm_stands, .ref mm_far, .ref mm_queue, .int mm_queued, .ref mm_meets, .ref mm_bytes, .int (nI bl), .int (nI ta), .int (nI tl), .int mm_token, .int mm_value, .ref mm_next, .int (nI tk)])), (mm_refused, .inl (cy 1, 3, .inl z28))] H := hP
      have hD : va_D A [(mm_now, .inl (cy 1, 122, .inl mm_now_f)), (mm, .inr (11, [.ref mm_now, .ref mm_kept, .ref mm_isKept, .ref mm_refused, .int mm_lineFrom, .int mm_lineTo, .ref mm_stands, .ref mm_far, .ref mm_queue, .int mm_queued, .ref mm_meets, .ref mm_bytes, .int (nI bl), .int (nI ta), .int (nI tl), .int mm_token, .int mm_value, .ref mm_next, .int (nI tk)])), (mm_refused, .inl (cy 1, 3, .inl z28))] := hD
      have hwr27 : r27 = (-10) := hwr27
      subst hwr27
      subst hQF
      have hP9 := hP.sub (ws' := [(mm, .inr (11, [.ref mm_now, .ref mm_kept, .ref mm_isKept, .ref mm_refused, .int mm_lineFrom, .int mm_lineTo, .ref mm_stands, .ref mm_far, .ref mm_queue, .int mm_queued, .ref mm_meets, .ref mm_bytes, .int (nI bl), .int (nI ta), .int (nI tl), .int mm_token, .int mm_value, .ref mm_next, .int (nI tk)])), (mm_now, .inl (cy 1, 122, .inl mm_now_f)), (mm_refused, .inl (cy 1, 3, .inl z28))]) [1, 0, 2] rfl
      have hD9 := hD.sub (ws' := [(mm, .inr (11, [.ref mm_now, .ref mm_kept, .ref mm_isKept, .ref mm_refused, .int mm_lineFrom, .int mm_lineTo, .ref mm_stands, .ref mm_far, .ref mm_queue, .int mm_queued, .ref mm_meets, .ref mm_bytes, .int (nI bl), .int (nI ta), .int (nI tl), .int mm_token, .int mm_value, .ref mm_next, .int (nI tk)])), (mm_now, .inl (cy 1, 122, .inl mm_now_f)), (mm_refused, .inl (cy 1, 3, .inl z28))]) [1, 0, 2] (by decide) rfl
      exact W.iret (v := (-10)) hx hb hr (fun t ht hW => ⟨⟨(-10), (mm_lineFrom, mm_lineTo, mm_now_f, z28), rfl, ⟨_, _, _, _, hF⟩, by rw [ht]; exact hP9, hD9⟩, hS.F ht⟩) hS.2.2 dX11_spots_19

set_option maxHeartbeats 4000000 in
set_option maxRecDepth 100000 in
theorem n_X11_speakers (l : Launch) (D : va_G) (cy : Nat → ClassId) (mm : Nat) (mm_now : Nat) (mm_kept : Nat) (mm_isKept : Nat) (mm_refused : Nat) (mm_lineFrom : Int32) (mm_lineTo : Int32) (mm_stands : Nat) (mm_far : Nat) (mm_queue : Nat) (mm_queued : Int32) (mm_meets : Nat) (mm_bytes : Nat) (bl : Nat) (ta : Nat) (tl : Nat) (mm_token : Int32) (mm_value : Int32) (mm_next : Nat) (tk : Nat) (mm_now_f : Nat → Int32) (sz : Nat) (hN : mN mm_now_f) : Met l yX11_speakers wsX11_speakers ({ frames := 9, cells := 0, slots := 0, locals := 204 }) (va_Pc [.ref mm] (kPre D cy [(mm, .inr (11, [.ref mm_now, .ref mm_kept, .ref mm_isKept, .ref mm_refused, .int mm_lineFrom, .int mm_lineTo, .ref mm_stands, .ref mm_far, .ref mm_queue, .int mm_queued, .ref mm_meets, .ref mm_bytes, .int (nI bl), .int (nI ta), .int (nI tl), .int mm_token, .int mm_value, .ref mm_next, .int (nI tk)])), (mm_now, .inl (cy 1, 122, .inl mm_now_f))] sz)) (va_Qi (fun (r : Int32) (u : Int32 × Int32) => True) (fun (u : Int32 × Int32) t => va_P D vwCl ([(mm, .inr (11, [.ref mm_now, .ref mm_kept, .ref mm_isKept, .ref mm_refused, .int u.1, .int u.2, .ref mm_stands, .ref mm_far, .ref mm_queue, .int mm_queued, .ref mm_meets, .ref mm_bytes, .int (nI bl), .int (nI ta), .int (nI tl), .int mm_token, .int mm_value, .ref mm_next, .int (nI tk)])), (mm_now, .inl (cy 1, 122, .inl mm_now_f))]) t.heap ∧ va_D (va_A [(mm, .inr (11, [.ref mm_now, .ref mm_kept, .ref mm_isKept, .ref mm_refused, .int mm_lineFrom, .int mm_lineTo, .ref mm_stands, .ref mm_far, .ref mm_queue, .int mm_queued, .ref mm_meets, .ref mm_bytes, .int (nI bl), .int (nI ta), .int (nI tl), .int mm_token, .int mm_value, .ref mm_next, .int (nI tk)])), (mm_now, .inl (cy 1, 122, .inl mm_now_f))] sz) ([(mm, .inr (11, [.ref mm_now, .ref mm_kept, .ref mm_isKept, .ref mm_refused, .int u.1, .int u.2, .ref mm_stands, .ref mm_far, .ref mm_queue, .int mm_queued, .ref mm_meets, .ref mm_bytes, .int (nI bl), .int (nI ta), .int (nI tl), .int mm_token, .int mm_value, .ref mm_next, .int (nI tk)])), (mm_now, .inl (cy 1, 122, .inl mm_now_f))])) (va_A [(mm, .inr (11, [.ref mm_now, .ref mm_kept, .ref mm_isKept, .ref mm_refused, .int mm_lineFrom, .int mm_lineTo, .ref mm_stands, .ref mm_far, .ref mm_queue, .int mm_queued, .ref mm_meets, .ref mm_bytes, .int (nI bl), .int (nI ta), .int (nI tl), .int mm_token, .int mm_value, .ref mm_next, .int (nI tk)])), (mm_now, .inl (cy 1, 122, .inl mm_now_f))] sz)) 0 0 (va_A [(mm, .inr (11, [.ref mm_now, .ref mm_kept, .ref mm_isKept, .ref mm_refused, .int mm_lineFrom, .int mm_lineTo, .ref mm_stands, .ref mm_far, .ref mm_queue, .int mm_queued, .ref mm_meets, .ref mm_bytes, .int (nI bl), .int (nI ta), .int (nI tl), .int mm_token, .int mm_value, .ref mm_next, .int (nI tk)])), (mm_now, .inl (cy 1, 122, .inl mm_now_f))] sz) := by
  refine Met.ofW (cc := cX11_speakers) (maxL := 1) (ret := (some .int)) (by decide) rfl ?_
  intro p e s m args below meth c s₁ B hml hv
  obtain ⟨rfl, hsz, hP, hKA, hD0⟩ := hv
  have hx := B.exec
  have hb := B.bytes
  have hr := B.returns
  have hts := atoms_spec (ws := wsX11_speakers) B.pre
  have hown : s.vm.findClass RX11 = some m.cls := findClass_of_methodNamed B.named
  have hlocks := B.notSynchronized
  subst hsz
  have hK := hKA.1
  have hD := hD0.self (sz := s.heap.size)
  generalize hAe : va_A [(mm, .inr (11, [.ref mm_now, .ref mm_kept, .ref mm_isKept, .ref mm_refused, .int mm_lineFrom, .int mm_lineTo, .ref mm_stands, .ref mm_far, .ref mm_queue, .int mm_queued, .ref mm_meets, .ref mm_bytes, .int (nI bl), .int (nI ta), .int (nI tl), .int mm_token, .int mm_value, .ref mm_next, .int (nI tk)])), (mm_now, .inl (cy 1, 122, .inl mm_now_f))] s.heap.size = A at hD ⊢
  have hA : ∀ q : Nat, s.heap.size ≤ q → A q := fun q h => by rw [← hAe]; exact Or.inr h
  have hS : va_S A s.heap s.heap [] := va_S.rf
  have hP : va_P D vwCl [(mm, .inr (11, [.ref mm_now, .ref mm_kept, .ref mm_isKept, .ref mm_refused, .int mm_lineFrom, .int mm_lineTo, .ref mm_stands, .ref mm_far, .ref mm_queue, .int mm_queued, .ref mm_meets, .ref mm_bytes, .int (nI bl), .int (nI ta), .int (nI tl), .int mm_token, .int mm_value, .ref mm_next, .int (nI tk)])), (mm_now, .inl (cy 1, 122, .inl mm_now_f))] s.heap := hP
  have hl := lv_entry ([.ref mm]) (n := 1) (Nat.le_of_ble_eq_true rfl)
  rw [lg_entry_eq]
  generalize (lg_sl ([.ref mm]) ++ List.replicate (1 - (lg_sl ([.ref mm])).length) Slot.unset).toArray = ls at hl ⊢
  have hl : lv_has ls 1 [(0, .ref mm)] := hl
  refine qW (fun QF hQF => ?_)
  obtain ⟨mW, mH, mS, mP, hF⟩ := hN
  obtain ⟨hW2, hW6, hH2, hH6, hSe, hS4, hS6, hP5⟩ := hF.rng
  refine lv_aload_n hx hb dX11_speakers_0 rfl (lv_at hl 0 rfl) ?_
  refine wr_i (wr := []) (va_runV (As := []) (rest := []) ⟨hx, hb, hml, hown, hts⟩ (n_X11_manySpeakers l D cy mW mH mS mP mm mm_now mm_kept mm_isKept mm_refused mm_lineFrom mm_lineTo mm_stands mm_far mm_queue mm_queued mm_meets mm_bytes bl ta tl mm_token mm_value mm_next tk mm_now_f _ (by first | assumption | omega)) (cwV 0 hts gX11_speakers_X11_manySpeakers rfl rfl rfl (by decide +kernel) ⟨Nat.le_of_ble_eq_true rfl, Nat.le_of_ble_eq_true rfl⟩) (pV (ci := 11) (k := 0) hKA (hP.sub (ws' := [(mm, .inr (11, [.ref mm_now, .ref mm_kept, .ref mm_isKept, .ref mm_refused, .int mm_lineFrom, .int mm_lineTo, .ref mm_stands, .ref mm_far, .ref mm_queue, .int mm_queued, .ref mm_meets, .ref mm_bytes, .int (nI bl), .int (nI ta), .int (nI tl), .int mm_token, .int mm_value, .ref mm_next, .int (nI tk)])), (mm_now, .inl (cy 1, 122, .inl mm_now_f))]) [0, 1] rfl) (hD.sub (ws' := [(mm, .inr (11, [.ref mm_now, .ref mm_kept, .ref mm_isKept, .ref mm_refused, .int mm_lineFrom, .int mm_lineTo, .ref mm_stands, .ref mm_far, .ref mm_queue, .int mm_queued, .ref mm_meets, .ref mm_bytes, .int (nI bl), .int (nI ta), .int (nI tl), .int mm_token, .int mm_value, .ref mm_next, .int (nI tk)])), (mm_now, .inl (cy 1, 122, .inl mm_now_f))]) [0, 1] (by decide) rfl) rfl rfl) rfl rfl hl.1 rfl (lv_room (Nat.le_of_ble_eq_true rfl)) dX11_speakers_1 ⟨Nat.le_of_ble_eq_true rfl, Nat.le_of_ble_eq_true rfl⟩) hP hD hS hA [0, 1] [] rfl rfl (by decide +kernel) (by decide +kernel) (fun r1 ur1 H locs hwr1 hP hD hS => ?_)
  obtain ⟨z2, z3⟩ := ur1
  have hP : va_P D vwCl [(mm, .inr (11, [.ref mm_now, .ref mm_kept, .ref mm_isKept, .ref mm_refused, .int z2, .int z3, .ref mm_stands, .ref mm_far, .ref mm_queue, .int mm_queued, .ref mm_meets, .ref mm_bytes, .int (nI bl), .int (nI ta), .int (nI tl), .int mm_token, .int mm_value, .ref mm_next, .int (nI tk)])), (mm_now, .inl (cy 1, 122, .inl mm_now_f))] H := hP
  have hD : va_D A [(mm, .inr (11, [.ref mm_now, .ref mm_kept, .ref mm_isKept, .ref mm_refused, .int z2, .int z3, .ref mm_stands, .ref mm_far, .ref mm_queue, .int mm_queued, .ref mm_meets, .ref mm_bytes, .int (nI bl), .int (nI ta), .int (nI tl), .int mm_token, .int mm_value, .ref mm_next, .int (nI tk)])), (mm_now, .inl (cy 1, 122, .inl mm_now_f))] := hD
  subst hQF
  have hP9 := hP
  have hD9 := hD
  exact W.iret (v := r1) hx hb hr (fun t ht hW => ⟨⟨r1, (z2, z3), rfl, trivial, by rw [ht]; exact hP9, hD9⟩, hS.F ht⟩) hS.2.2 dX11_speakers_4

set_option maxHeartbeats 4000000 in
set_option maxRecDepth 100000 in
theorem n_X11_status (l : Launch) (D : va_G) (cy : Nat → ClassId) (mm : Nat) (mm_now : Nat) (mm_kept : Nat) (mm_isKept : Nat) (mm_refused : Nat) (mm_lineFrom : Int32) (mm_lineTo : Int32) (mm_stands : Nat) (mm_far : Nat) (mm_queue : Nat) (mm_queued : Int32) (mm_meets : Nat) (mm_bytes : Nat) (bl : Nat) (ta : Nat) (tl : Nat) (mm_token : Int32) (mm_value : Int32) (mm_next : Nat) (tk : Nat) (mm_refused_f : Nat → Int32) (px : Int32) (sz : Nat)  : Met l yX11_status wsX11_status ({ frames := 1, cells := 0, slots := 0, locals := 25 }) (va_Pc [.ref mm, .int px] (kPre D cy [(mm, .inr (11, [.ref mm_now, .ref mm_kept, .ref mm_isKept, .ref mm_refused, .int mm_lineFrom, .int mm_lineTo, .ref mm_stands, .ref mm_far, .ref mm_queue, .int mm_queued, .ref mm_meets, .ref mm_bytes, .int (nI bl), .int (nI ta), .int (nI tl), .int mm_token, .int mm_value, .ref mm_next, .int (nI tk)])), (mm_refused, .inl (cy 1, 3, .inl mm_refused_f))] sz)) (va_Qi (fun (r : Int32) (u : (Nat → Int32)) => True) (fun (u : (Nat → Int32)) t => va_P D vwCl ([(mm, .inr (11, [.ref mm_now, .ref mm_kept, .ref mm_isKept, .ref mm_refused, .int mm_lineFrom, .int mm_lineTo, .ref mm_stands, .ref mm_far, .ref mm_queue, .int mm_queued, .ref mm_meets, .ref mm_bytes, .int (nI bl), .int (nI ta), .int (nI tl), .int mm_token, .int mm_value, .ref mm_next, .int (nI tk)])), (mm_refused, .inl (cy 1, 3, .inl u))]) t.heap ∧ va_D (va_A [(mm, .inr (11, [.ref mm_now, .ref mm_kept, .ref mm_isKept, .ref mm_refused, .int mm_lineFrom, .int mm_lineTo, .ref mm_stands, .ref mm_far, .ref mm_queue, .int mm_queued, .ref mm_meets, .ref mm_bytes, .int (nI bl), .int (nI ta), .int (nI tl), .int mm_token, .int mm_value, .ref mm_next, .int (nI tk)])), (mm_refused, .inl (cy 1, 3, .inl mm_refused_f))] sz) ([(mm, .inr (11, [.ref mm_now, .ref mm_kept, .ref mm_isKept, .ref mm_refused, .int mm_lineFrom, .int mm_lineTo, .ref mm_stands, .ref mm_far, .ref mm_queue, .int mm_queued, .ref mm_meets, .ref mm_bytes, .int (nI bl), .int (nI ta), .int (nI tl), .int mm_token, .int mm_value, .ref mm_next, .int (nI tk)])), (mm_refused, .inl (cy 1, 3, .inl u))])) (va_A [(mm, .inr (11, [.ref mm_now, .ref mm_kept, .ref mm_isKept, .ref mm_refused, .int mm_lineFrom, .int mm_lineTo, .ref mm_stands, .ref mm_far, .ref mm_queue, .int mm_queued, .ref mm_meets, .ref mm_bytes, .int (nI bl), .int (nI ta), .int (nI tl), .int mm_token, .int mm_value, .ref mm_next, .int (nI tk)])), (mm_refused, .inl (cy 1, 3, .inl mm_refused_f))] sz)) 0 0 (va_A [(mm, .inr (11, [.ref mm_now, .ref mm_kept, .ref mm_isKept, .ref mm_refused, .int mm_lineFrom, .int mm_lineTo, .ref mm_stands, .ref mm_far, .ref mm_queue, .int mm_queued, .ref mm_meets, .ref mm_bytes, .int (nI bl), .int (nI ta), .int (nI tl), .int mm_token, .int mm_value, .ref mm_next, .int (nI tk)])), (mm_refused, .inl (cy 1, 3, .inl mm_refused_f))] sz) := by
  refine Met.ofW (cc := cX11_status) (maxL := 2) (ret := (some .int)) (by decide) rfl ?_
  intro p e s m args below meth c s₁ B hml hv
  obtain ⟨rfl, hsz, hP, hKA, hD0⟩ := hv
  have hx := B.exec
  have hb := B.bytes
  have hr := B.returns
  have hts := atoms_spec (ws := wsX11_status) B.pre
  have hown : s.vm.findClass RX11 = some m.cls := findClass_of_methodNamed B.named
  have hlocks := B.notSynchronized
  subst hsz
  have hK := hKA.1
  have hD := hD0.self (sz := s.heap.size)
  generalize hAe : va_A [(mm, .inr (11, [.ref mm_now, .ref mm_kept, .ref mm_isKept, .ref mm_refused, .int mm_lineFrom, .int mm_lineTo, .ref mm_stands, .ref mm_far, .ref mm_queue, .int mm_queued, .ref mm_meets, .ref mm_bytes, .int (nI bl), .int (nI ta), .int (nI tl), .int mm_token, .int mm_value, .ref mm_next, .int (nI tk)])), (mm_refused, .inl (cy 1, 3, .inl mm_refused_f))] s.heap.size = A at hD ⊢
  have hA : ∀ q : Nat, s.heap.size ≤ q → A q := fun q h => by rw [← hAe]; exact Or.inr h
  have hS : va_S A s.heap s.heap [] := va_S.rf
  have hP : va_P D vwCl [(mm, .inr (11, [.ref mm_now, .ref mm_kept, .ref mm_isKept, .ref mm_refused, .int mm_lineFrom, .int mm_lineTo, .ref mm_stands, .ref mm_far, .ref mm_queue, .int mm_queued, .ref mm_meets, .ref mm_bytes, .int (nI bl), .int (nI ta), .int (nI tl), .int mm_token, .int mm_value, .ref mm_next, .int (nI tk)])), (mm_refused, .inl (cy 1, 3, .inl mm_refused_f))] s.heap := hP
  have hl := lv_entry ([.ref mm, .int px]) (n := 2) (Nat.le_of_ble_eq_true rfl)
  rw [lg_entry_eq]
  generalize (lg_sl ([.ref mm, .int px]) ++ List.replicate (2 - (lg_sl ([.ref mm, .int px])).length) Slot.unset).toArray = ls at hl ⊢
  have hl : lv_has ls 2 [(0, .ref mm), (1, .int px)] := hl
  refine qW (fun QF hQF => ?_)
  have z0_ := hts (.constantLong RX11 56 2) (by decide +kernel)
  have z1_ := hts (.fieldLink RX11 20 "HeardSeenModel" "refused" "[I") (by decide +kernel)
  have zi11_ : ∀ w ∈ u_ws RX11 TX11 19, w ∈ wsX11_status := by decide +kernel
  refine lv_iload_n hx hb dX11_status_0 rfl (lv_at hl 1 rfl) ?_
  refine lv_i2l hx hb dX11_status_1 rfl ?_
  refine lv_lconst (v := 0) hx hb dX11_status_2 (by decide) ?_
  refine lv_ldc2 hx hb hown z0_ dX11_status_3 ?_
  refine rd_i (va_runS (As := [.long px.toInt64, .long 0, .long 2]) (rest := []) ⟨hx, hb, hml, hown, hts⟩ (n_X11_in l D cy px.toInt64 (0) (2) _ ) (va_cwS 3 hts gX11_status_X11_in rfl rfl rfl (by decide +kernel) ⟨Nat.le_of_ble_eq_true rfl, Nat.le_of_ble_eq_true rfl⟩) (pS hKA pE (dE (A := A))) rfl rfl hl.1 rfl (lv_room (Nat.le_of_ble_eq_true rfl)) dX11_status_6 ⟨Nat.le_of_ble_eq_true rfl, Nat.le_of_ble_eq_true rfl⟩) hP hS hA (fun r1 H locs hwr1 hP hS => ?_)
  have hwr1 : (r1 = 1 ∧ ((0) ≤ px.toInt64 ∧ px.toInt64 ≤ (2))) ∨ (r1 = 0 ∧ (¬ ((0) ≤ px.toInt64 ∧ px.toInt64 ≤ (2)))) := hwr1
  refine lv_if_eq (tgt := 21) hx hb dX11_status_9 (by decide) (fun c2 => ?_) (fun c2 => ?_)
  · skip
    have hq3 := z_b0 hwr1 c2
    refine lv_aload_n hx hb dX11_status_21 rfl (lv_at hl 0 rfl) ?_
    refine lv_iconst (v := (-1)) hx hb dX11_status_22 (by decide) ?_
    refine wr_i (wr := []) (va_runV (As := [.int (-1)]) (rest := []) ⟨hx, hb, hml, hown, hts⟩ (n_X11_bad l D cy mm mm_now mm_kept mm_isKept mm_refused mm_lineFrom mm_lineTo mm_stands mm_far mm_queue mm_queued mm_meets mm_bytes bl ta tl mm_token mm_value mm_next tk mm_refused_f (-1) _ ) (cwV 1 hts gX11_status_X11_bad rfl rfl rfl (by decide +kernel) ⟨Nat.le_of_ble_eq_true rfl, Nat.le_of_ble_eq_true rfl⟩) (pV (ci := 11) (k := 0) hKA (hP.sub (ws' := [(mm, .inr (11, [.ref mm_now, .ref mm_kept, .ref mm_isKept, .ref mm_refused, .int mm_lineFrom, .int mm_lineTo, .ref mm_stands, .ref mm_far, .ref mm_queue, .int mm_queued, .ref mm_meets, .ref mm_bytes, .int (nI bl), .int (nI ta), .int (nI tl), .int mm_token, .int mm_value, .ref mm_next, .int (nI tk)])), (mm_refused, .inl (cy 1, 3, .inl mm_refused_f))]) [0, 1] rfl) (hD.sub (ws' := [(mm, .inr (11, [.ref mm_now, .ref mm_kept, .ref mm_isKept, .ref mm_refused, .int mm_lineFrom, .int mm_lineTo, .ref mm_stands, .ref mm_far, .ref mm_queue, .int mm_queued, .ref mm_meets, .ref mm_bytes, .int (nI bl), .int (nI ta), .int (nI tl), .int mm_token, .int mm_value, .ref mm_next, .int (nI tk)])), (mm_refused, .inl (cy 1, 3, .inl mm_refused_f))]) [0, 1] (by decide) rfl) rfl rfl) rfl rfl hl.1 rfl (lv_room (Nat.le_of_ble_eq_true rfl)) dX11_status_23 ⟨Nat.le_of_ble_eq_true rfl, Nat.le_of_ble_eq_true rfl⟩) hP hD hS hA [0, 1] [] rfl rfl (by decide +kernel) (by decide +kernel) (fun r4 ur4 H locs hwr4 hP hD hS => ?_)
    obtain ⟨z5, rfl⟩ : ∃ z, z = ur4 := ⟨_, rfl⟩
    have hP : va_P D vwCl [(mm, .inr (11, [.ref mm_now, .ref mm_kept, .ref mm_isKept, .ref mm_refused, .int mm_lineFrom, .int mm_lineTo, .ref mm_stands, .ref mm_far, .ref mm_queue, .int mm_queued, .ref mm_meets, .ref mm_bytes, .int (nI bl), .int (nI ta), .int (nI tl), .int mm_token, .int mm_value, .ref mm_next, .int (nI tk)])), (mm_refused, .inl (cy 1, 3, .inl z5))] H := hP
    have hD : va_D A [(mm, .inr (11, [.ref mm_now, .ref mm_kept, .ref mm_isKept, .ref mm_refused, .int mm_lineFrom, .int mm_lineTo, .ref mm_stands, .ref mm_far, .ref mm_queue, .int mm_queued, .ref mm_meets, .ref mm_bytes, .int (nI bl), .int (nI ta), .int (nI tl), .int mm_token, .int mm_value, .ref mm_next, .int (nI tk)])), (mm_refused, .inl (cy 1, 3, .inl z5))] := hD
    have hwr4 : r4 = (-1) := hwr4
    subst hwr4
    subst hQF
    have hP9 := hP
    have hD9 := hD
    exact W.iret (v := (-1)) hx hb hr (fun t ht hW => ⟨⟨(-1), z5, rfl, trivial, by rw [ht]; exact hP9, hD9⟩, hS.F ht⟩) hS.2.2 dX11_status_26
  · skip
    obtain ⟨hp6, hp7⟩ := z_b1 hwr1 c2
    obtain ⟨j8, gj8, hj8, ej8⟩ := z_rng (lo := 0) (hi := 2) (by decide) (by decide) hp6 hp7
    refine lv_aload_n hx hb dX11_status_12 rfl (lv_at hl 0 rfl) ?_
    refine va_get (D := D) (ci := 11) (v := .ref mm_refused) (C := RX11) (T := TX11) (N := 19) hx hb hts zi11_ hown hK hP 0 rfl rfl 3 (by decide) z1_ (fun _ h9 => h9) rfl dX11_status_13 ?_
    refine lv_iload_n hx hb dX11_status_16 rfl (lv_at hl 1 rfl) ?_
    refine W.eq (g2 := F0 m 17 ls [.int (nI j8), .ref mm_refused]) (congrArg (fun v9 : Int32 => F0 m 17 ls [.int v9, .ref mm_refused]) ej8) ?_
    refine my_iald hx hb hK hP 1 1 rfl rfl (by first | exact in_ge (N := 3) (by decide) (by omega) (by assumption) | exact vp_in_nI (by omega) (by omega)) (nI_clamp (by omega)) dX11_status_17 ?_
    refine lv_goto (tgt := 26) hx hb dX11_status_18 (by decide) ?_
    refine lv_topi (fun x9 ex9 => ?_)
    subst hQF
    have hP9 := hP
    have hD9 := hD
    exact W.iret (v := x9) hx hb hr (fun t ht hW => ⟨⟨x9, mm_refused_f, rfl, trivial, by rw [ht]; exact hP9, hD9⟩, hS.F ht⟩) hS.2.2 dX11_status_26

set_option maxHeartbeats 4000000 in
set_option maxRecDepth 100000 in
theorem n_X11_count (l : Launch) (D : va_G) (cy : Nat → ClassId) (mm : Nat) (mm_now : Nat) (mm_kept : Nat) (mm_isKept : Nat) (mm_refused : Nat) (mm_lineFrom : Int32) (mm_lineTo : Int32) (mm_stands : Nat) (mm_far : Nat) (mm_queue : Nat) (mm_queued : Int32) (mm_meets : Nat) (mm_bytes : Nat) (bl : Nat) (ta : Nat) (tl : Nat) (mm_token : Int32) (mm_value : Int32) (mm_next : Nat) (tk : Nat) (mm_refused_f : Nat → Int32) (mm_now_f : Nat → Int32) (px : Int32) (sz : Nat) (hN : mN mm_now_f) : Met l yX11_count wsX11_count ({ frames := 3, cells := 0, slots := 0, locals := 64 }) (va_Pc [.ref mm, .int px] (kPre D cy [(mm, .inr (11, [.ref mm_now, .ref mm_kept, .ref mm_isKept, .ref mm_refused, .int mm_lineFrom, .int mm_lineTo, .ref mm_stands, .ref mm_far, .ref mm_queue, .int mm_queued, .ref mm_meets, .ref mm_bytes, .int (nI bl), .int (nI ta), .int (nI tl), .int mm_token, .int mm_value, .ref mm_next, .int (nI tk)])), (mm_refused, .inl (cy 1, 3, .inl mm_refused_f)), (mm_now, .inl (cy 1, 122, .inl mm_now_f))] sz)) (va_Qi (fun (r : Int32) (u : (Nat → Int32)) => True) (fun (u : (Nat → Int32)) t => va_P D vwCl ([(mm, .inr (11, [.ref mm_now, .ref mm_kept, .ref mm_isKept, .ref mm_refused, .int mm_lineFrom, .int mm_lineTo, .ref mm_stands, .ref mm_far, .ref mm_queue, .int mm_queued, .ref mm_meets, .ref mm_bytes, .int (nI bl), .int (nI ta), .int (nI tl), .int mm_token, .int mm_value, .ref mm_next, .int (nI tk)])), (mm_refused, .inl (cy 1, 3, .inl u)), (mm_now, .inl (cy 1, 122, .inl mm_now_f))]) t.heap ∧ va_D (va_A [(mm, .inr (11, [.ref mm_now, .ref mm_kept, .ref mm_isKept, .ref mm_refused, .int mm_lineFrom, .int mm_lineTo, .ref mm_stands, .ref mm_far, .ref mm_queue, .int mm_queued, .ref mm_meets, .ref mm_bytes, .int (nI bl), .int (nI ta), .int (nI tl), .int mm_token, .int mm_value, .ref mm_next, .int (nI tk)])), (mm_refused, .inl (cy 1, 3, .inl mm_refused_f)), (mm_now, .inl (cy 1, 122, .inl mm_now_f))] sz) ([(mm, .inr (11, [.ref mm_now, .ref mm_kept, .ref mm_isKept, .ref mm_refused, .int mm_lineFrom, .int mm_lineTo, .ref mm_stands, .ref mm_far, .ref mm_queue, .int mm_queued, .ref mm_meets, .ref mm_bytes, .int (nI bl), .int (nI ta), .int (nI tl), .int mm_token, .int mm_value, .ref mm_next, .int (nI tk)])), (mm_refused, .inl (cy 1, 3, .inl u)), (mm_now, .inl (cy 1, 122, .inl mm_now_f))])) (va_A [(mm, .inr (11, [.ref mm_now, .ref mm_kept, .ref mm_isKept, .ref mm_refused, .int mm_lineFrom, .int mm_lineTo, .ref mm_stands, .ref mm_far, .ref mm_queue, .int mm_queued, .ref mm_meets, .ref mm_bytes, .int (nI bl), .int (nI ta), .int (nI tl), .int mm_token, .int mm_value, .ref mm_next, .int (nI tk)])), (mm_refused, .inl (cy 1, 3, .inl mm_refused_f)), (mm_now, .inl (cy 1, 122, .inl mm_now_f))] sz)) 0 0 (va_A [(mm, .inr (11, [.ref mm_now, .ref mm_kept, .ref mm_isKept, .ref mm_refused, .int mm_lineFrom, .int mm_lineTo, .ref mm_stands, .ref mm_far, .ref mm_queue, .int mm_queued, .ref mm_meets, .ref mm_bytes, .int (nI bl), .int (nI ta), .int (nI tl), .int mm_token, .int mm_value, .ref mm_next, .int (nI tk)])), (mm_refused, .inl (cy 1, 3, .inl mm_refused_f)), (mm_now, .inl (cy 1, 122, .inl mm_now_f))] sz) := by
  refine Met.ofW (cc := cX11_count) (maxL := 2) (ret := (some .int)) (by decide) rfl ?_
  intro p e s m args below meth c s₁ B hml hv
  obtain ⟨rfl, hsz, hP, hKA, hD0⟩ := hv
  have hx := B.exec
  have hb := B.bytes
  have hr := B.returns
  have hts := atoms_spec (ws := wsX11_count) B.pre
  have hown : s.vm.findClass RX11 = some m.cls := findClass_of_methodNamed B.named
  have hlocks := B.notSynchronized
  subst hsz
  have hK := hKA.1
  have hD := hD0.self (sz := s.heap.size)
  generalize hAe : va_A [(mm, .inr (11, [.ref mm_now, .ref mm_kept, .ref mm_isKept, .ref mm_refused, .int mm_lineFrom, .int mm_lineTo, .ref mm_stands, .ref mm_far, .ref mm_queue, .int mm_queued, .ref mm_meets, .ref mm_bytes, .int (nI bl), .int (nI ta), .int (nI tl), .int mm_token, .int mm_value, .ref mm_next, .int (nI tk)])), (mm_refused, .inl (cy 1, 3, .inl mm_refused_f)), (mm_now, .inl (cy 1, 122, .inl mm_now_f))] s.heap.size = A at hD ⊢
  have hA : ∀ q : Nat, s.heap.size ≤ q → A q := fun q h => by rw [← hAe]; exact Or.inr h
  have hS : va_S A s.heap s.heap [] := va_S.rf
  have hP : va_P D vwCl [(mm, .inr (11, [.ref mm_now, .ref mm_kept, .ref mm_isKept, .ref mm_refused, .int mm_lineFrom, .int mm_lineTo, .ref mm_stands, .ref mm_far, .ref mm_queue, .int mm_queued, .ref mm_meets, .ref mm_bytes, .int (nI bl), .int (nI ta), .int (nI tl), .int mm_token, .int mm_value, .ref mm_next, .int (nI tk)])), (mm_refused, .inl (cy 1, 3, .inl mm_refused_f)), (mm_now, .inl (cy 1, 122, .inl mm_now_f))] s.heap := hP
  have hl := lv_entry ([.ref mm, .int px]) (n := 2) (Nat.le_of_ble_eq_true rfl)
  rw [lg_entry_eq]
  generalize (lg_sl ([.ref mm, .int px]) ++ List.replicate (2 - (lg_sl ([.ref mm, .int px])).length) Slot.unset).toArray = ls at hl ⊢
  have hl : lv_has ls 2 [(0, .ref mm), (1, .int px)] := hl
  refine qW (fun QF hQF => ?_)
  have z0_ := hts (.constantLong RX11 58 6) (by decide +kernel)
  obtain ⟨mW, mH, mS, mP, hF⟩ := hN
  obtain ⟨hW2, hW6, hH2, hH6, hSe, hS4, hS6, hP5⟩ := hF.rng
  refine lv_iload_n hx hb dX11_count_0 rfl (lv_at hl 1 rfl) ?_
  refine lv_i2l hx hb dX11_count_1 rfl ?_
  refine lv_lconst (v := 0) hx hb dX11_count_2 (by decide) ?_
  refine lv_ldc2 hx hb hown z0_ dX11_count_3 ?_
  refine rd_i (va_runS (As := [.long px.toInt64, .long 0, .long 6]) (rest := []) ⟨hx, hb, hml, hown, hts⟩ (n_X11_in l D cy px.toInt64 (0) (6) _ ) (va_cwS 3 hts gX11_count_X11_in rfl rfl rfl (by decide +kernel) ⟨Nat.le_of_ble_eq_true rfl, Nat.le_of_ble_eq_true rfl⟩) (pS hKA pE (dE (A := A))) rfl rfl hl.1 rfl (lv_room (Nat.le_of_ble_eq_true rfl)) dX11_count_6 ⟨Nat.le_of_ble_eq_true rfl, Nat.le_of_ble_eq_true rfl⟩) hP hS hA (fun r1 H locs hwr1 hP hS => ?_)
  have hwr1 : (r1 = 1 ∧ ((0) ≤ px.toInt64 ∧ px.toInt64 ≤ (6))) ∨ (r1 = 0 ∧ (¬ ((0) ≤ px.toInt64 ∧ px.toInt64 ≤ (6)))) := hwr1
  refine lv_if_eq (tgt := 20) hx hb dX11_count_9 (by decide) (fun c2 => ?_) (fun c2 => ?_)
  · skip
    have hq3 := z_b0 hwr1 c2
    refine lv_aload_n hx hb dX11_count_20 rfl (lv_at hl 0 rfl) ?_
    refine lv_bipush (v := (-2)) hx hb dX11_count_21 (by decide) ?_
    refine wr_i (wr := [(mm_now, .inl (cy 1, 122, .inl mm_now_f))]) (va_runV (As := [.int (-2)]) (rest := []) ⟨hx, hb, hml, hown, hts⟩ (n_X11_bad l D cy mm mm_now mm_kept mm_isKept mm_refused mm_lineFrom mm_lineTo mm_stands mm_far mm_queue mm_queued mm_meets mm_bytes bl ta tl mm_token mm_value mm_next tk mm_refused_f (-2) _ ) (cwV 1 hts gX11_count_X11_bad rfl rfl rfl (by decide +kernel) ⟨Nat.le_of_ble_eq_true rfl, Nat.le_of_ble_eq_true rfl⟩) (pV (ci := 11) (k := 0) hKA (hP.sub (ws' := [(mm, .inr (11, [.ref mm_now, .ref mm_kept, .ref mm_isKept, .ref mm_refused, .int mm_lineFrom, .int mm_lineTo, .ref mm_stands, .ref mm_far, .ref mm_queue, .int mm_queued, .ref mm_meets, .ref mm_bytes, .int (nI bl), .int (nI ta), .int (nI tl), .int mm_token, .int mm_value, .ref mm_next, .int (nI tk)])), (mm_refused, .inl (cy 1, 3, .inl mm_refused_f))]) [0, 1] rfl) (hD.sub (ws' := [(mm, .inr (11, [.ref mm_now, .ref mm_kept, .ref mm_isKept, .ref mm_refused, .int mm_lineFrom, .int mm_lineTo, .ref mm_stands, .ref mm_far, .ref mm_queue, .int mm_queued, .ref mm_meets, .ref mm_bytes, .int (nI bl), .int (nI ta), .int (nI tl), .int mm_token, .int mm_value, .ref mm_next, .int (nI tk)])), (mm_refused, .inl (cy 1, 3, .inl mm_refused_f))]) [0, 1] (by decide) rfl) rfl rfl) rfl rfl hl.1 rfl (lv_room (Nat.le_of_ble_eq_true rfl)) dX11_count_23 ⟨Nat.le_of_ble_eq_true rfl, Nat.le_of_ble_eq_true rfl⟩) hP hD hS hA [0, 1] [2] rfl rfl (by decide +kernel) (by decide +kernel) (fun r4 ur4 H locs hwr4 hP hD hS => ?_)
    obtain ⟨z5, rfl⟩ : ∃ z, z = ur4 := ⟨_, rfl⟩
    have hP : va_P D vwCl [(mm_now, .inl (cy 1, 122, .inl mm_now_f)), (mm, .inr (11, [.ref mm_now, .ref mm_kept, .ref mm_isKept, .ref mm_refused, .int mm_lineFrom, .int mm_lineTo, .ref mm_stands, .ref mm_far, .ref mm_queue, .int mm_queued, .ref mm_meets, .ref mm_bytes, .int (nI bl), .int (nI ta), .int (nI tl), .int mm_token, .int mm_value, .ref mm_next, .int (nI tk)])), (mm_refused, .inl (cy 1, 3, .inl z5))] H := hP
    have hD : va_D A [(mm_now, .inl (cy 1, 122, .inl mm_now_f)), (mm, .inr (11, [.ref mm_now, .ref mm_kept, .ref mm_isKept, .ref mm_refused, .int mm_lineFrom, .int mm_lineTo, .ref mm_stands, .ref mm_far, .ref mm_queue, .int mm_queued, .ref mm_meets, .ref mm_bytes, .int (nI bl), .int (nI ta), .int (nI tl), .int mm_token, .int mm_value, .ref mm_next, .int (nI tk)])), (mm_refused, .inl (cy 1, 3, .inl z5))] := hD
    have hwr4 : r4 = (-2) := hwr4
    subst hwr4
    subst hQF
    have hP9 := hP.sub (ws' := [(mm, .inr (11, [.ref mm_now, .ref mm_kept, .ref mm_isKept, .ref mm_refused, .int mm_lineFrom, .int mm_lineTo, .ref mm_stands, .ref mm_far, .ref mm_queue, .int mm_queued, .ref mm_meets, .ref mm_bytes, .int (nI bl), .int (nI ta), .int (nI tl), .int mm_token, .int mm_value, .ref mm_next, .int (nI tk)])), (mm_refused, .inl (cy 1, 3, .inl z5)), (mm_now, .inl (cy 1, 122, .inl mm_now_f))]) [1, 2, 0] rfl
    have hD9 := hD.sub (ws' := [(mm, .inr (11, [.ref mm_now, .ref mm_kept, .ref mm_isKept, .ref mm_refused, .int mm_lineFrom, .int mm_lineTo, .ref mm_stands, .ref mm_far, .ref mm_queue, .int mm_queued, .ref mm_meets, .ref mm_bytes, .int (nI bl), .int (nI ta), .int (nI tl), .int mm_token, .int mm_value, .ref mm_next, .int (nI tk)])), (mm_refused, .inl (cy 1, 3, .inl z5)), (mm_now, .inl (cy 1, 122, .inl mm_now_f))]) [1, 2, 0] (by decide) rfl
    exact W.iret (v := (-2)) hx hb hr (fun t ht hW => ⟨⟨(-2), z5, rfl, trivial, by rw [ht]; exact hP9, hD9⟩, hS.F ht⟩) hS.2.2 dX11_count_26
  · skip
    obtain ⟨hp6, hp7⟩ := z_b1 hwr1 c2
    obtain ⟨j8, gj8, hj8, ej8⟩ := z_rng (lo := 0) (hi := 6) (by decide) (by decide) hp6 hp7
    refine lv_aload_n hx hb dX11_count_12 rfl (lv_at hl 0 rfl) ?_
    refine lv_iload_n hx hb dX11_count_13 rfl (lv_at hl 1 rfl) ?_
    refine W.eq (g2 := F0 m 14 ls [.int (nI j8), .ref mm]) (congrArg (fun v9 : Int32 => F0 m 14 ls [.int v9, .ref mm]) ej8) ?_
    refine rd_i (va_runV (As := [.int (nI j8)]) (rest := []) ⟨hx, hb, hml, hown, hts⟩ (n_X11_counted l D cy mW mH mS mP mm mm_now mm_kept mm_isKept mm_refused mm_lineFrom mm_lineTo mm_stands mm_far mm_queue mm_queued mm_meets mm_bytes bl ta tl mm_token mm_value mm_next tk mm_now_f (nI j8) _ (by first | assumption | omega)) (cwV 1 hts gX11_count_X11_counted rfl rfl rfl (by decide +kernel) ⟨Nat.le_of_ble_eq_true rfl, Nat.le_of_ble_eq_true rfl⟩) (pV (ci := 11) (k := 0) hKA (hP.sub (ws' := [(mm, .inr (11, [.ref mm_now, .ref mm_kept, .ref mm_isKept, .ref mm_refused, .int mm_lineFrom, .int mm_lineTo, .ref mm_stands, .ref mm_far, .ref mm_queue, .int mm_queued, .ref mm_meets, .ref mm_bytes, .int (nI bl), .int (nI ta), .int (nI tl), .int mm_token, .int mm_value, .ref mm_next, .int (nI tk)])), (mm_now, .inl (cy 1, 122, .inl mm_now_f))]) [0, 2] rfl) (hD.sub (ws' := [(mm, .inr (11, [.ref mm_now, .ref mm_kept, .ref mm_isKept, .ref mm_refused, .int mm_lineFrom, .int mm_lineTo, .ref mm_stands, .ref mm_far, .ref mm_queue, .int mm_queued, .ref mm_meets, .ref mm_bytes, .int (nI bl), .int (nI ta), .int (nI tl), .int mm_token, .int mm_value, .ref mm_next, .int (nI tk)])), (mm_now, .inl (cy 1, 122, .inl mm_now_f))]) [0, 2] (by decide) rfl) rfl rfl) rfl rfl hl.1 rfl (lv_room (Nat.le_of_ble_eq_true rfl)) dX11_count_14 ⟨Nat.le_of_ble_eq_true rfl, Nat.le_of_ble_eq_true rfl⟩) hP hS hA (fun r9 H locs hwr9 hP hS => ?_)
    refine lv_goto (tgt := 26) hx hb dX11_count_17 (by decide) ?_
    subst hQF
    have hP9 := hP
    have hD9 := hD
    exact W.iret (v := r9) hx hb hr (fun t ht hW => ⟨⟨r9, mm_refused_f, rfl, trivial, by rw [ht]; exact hP9, hD9⟩, hS.F ht⟩) hS.2.2 dX11_count_26

set_option maxHeartbeats 4000000 in
set_option maxRecDepth 100000 in
theorem n_X11_digest (l : Launch) (D : va_G) (cy : Nat → ClassId) (mm : Nat) (mm_now : Nat) (mm_kept : Nat) (mm_isKept : Nat) (mm_refused : Nat) (mm_lineFrom : Int32) (mm_lineTo : Int32) (mm_stands : Nat) (mm_far : Nat) (mm_queue : Nat) (mm_queued : Int32) (mm_meets : Nat) (mm_bytes : Nat) (bl : Nat) (ta : Nat) (tl : Nat) (mm_token : Int32) (mm_value : Int32) (mm_next : Nat) (tk : Nat) (mm_now_f : Nat → Int32) (sz : Nat) (hN : mN mm_now_f) : Met l yX11_digest wsX11_digest ({ frames := 3, cells := 0, slots := 0, locals := 64 }) (va_Pc [.ref mm] (kPre D cy [(mm, .inr (11, [.ref mm_now, .ref mm_kept, .ref mm_isKept, .ref mm_refused, .int mm_lineFrom, .int mm_lineTo, .ref mm_stands, .ref mm_far, .ref mm_queue, .int mm_queued, .ref mm_meets, .ref mm_bytes, .int (nI bl), .int (nI ta), .int (nI tl), .int mm_token, .int mm_value, .ref mm_next, .int (nI tk)])), (mm_now, .inl (cy 1, 122, .inl mm_now_f))] sz)) (va_Ql (fun (r : Int64) (u : Unit) => True) (fun _ _ => True) (fun q : Nat => sz ≤ q)) 0 0 (fun q : Nat => sz ≤ q) := by
  refine Met.ofW (cc := cX11_digest) (maxL := 4) (ret := (some .long)) (by decide) rfl ?_
  intro p e s m args below meth c s₁ B hml hv
  obtain ⟨rfl, hsz, hP, hKA, hD0⟩ := hv
  have hx := B.exec
  have hb := B.bytes
  have hr := B.returns
  have hts := atoms_spec (ws := wsX11_digest) B.pre
  have hown : s.vm.findClass RX11 = some m.cls := findClass_of_methodNamed B.named
  have hlocks := B.notSynchronized
  subst hsz
  have hK := hKA.1
  have hD := hD0
  generalize hAe : (fun q : Nat => s.heap.size ≤ q) = A
  have hA : ∀ q : Nat, s.heap.size ≤ q → A q := fun q h => by rw [← hAe]; exact h
  have hS : va_S A s.heap s.heap [] := va_S.rf
  have hP : va_P D vwCl [(mm, .inr (11, [.ref mm_now, .ref mm_kept, .ref mm_isKept, .ref mm_refused, .int mm_lineFrom, .int mm_lineTo, .ref mm_stands, .ref mm_far, .ref mm_queue, .int mm_queued, .ref mm_meets, .ref mm_bytes, .int (nI bl), .int (nI ta), .int (nI tl), .int mm_token, .int mm_value, .ref mm_next, .int (nI tk)])), (mm_now, .inl (cy 1, 122, .inl mm_now_f))] s.heap := hP
  have hl := lv_entry ([.ref mm]) (n := 4) (Nat.le_of_ble_eq_true rfl)
  rw [lg_entry_eq]
  generalize (lg_sl ([.ref mm]) ++ List.replicate (4 - (lg_sl ([.ref mm])).length) Slot.unset).toArray = ls at hl ⊢
  have hl : lv_has ls 4 [(0, .ref mm)] := hl
  refine qW (fun QF hQF => ?_)
  have z0_ := hts (.constantLong RX11 279 743) (by decide +kernel)
  have z1_ := hts (.constantLong RX11 277 31) (by decide +kernel)
  have z2_ := hts (.fieldLink RX11 7 "HeardSeenModel" "now" "[I") (by decide +kernel)
  have zi11_ : ∀ w ∈ u_ws RX11 TX11 19, w ∈ wsX11_digest := by decide +kernel
  obtain ⟨mW, mH, mS, mP, hF⟩ := hN
  obtain ⟨hW2, hW6, hH2, hH6, hSe, hS4, hS6, hP5⟩ := hF.rng
  refine lv_ldc2 hx hb hown z0_ dX11_digest_0 ?_
  refine lv_lstore_n (lv' := [(1, .long 743), (0, .ref mm)]) hx hb dX11_digest_3 rfl hl (by decide) rfl (fun ls hl => ?_)
  refine lv_iconst (v := 0) hx hb dX11_digest_4 (by decide) ?_
  refine lv_istore_n (lv' := [(3, .int 0), (1, .long 743), (0, .ref mm)]) hx hb dX11_digest_5 rfl hl (by decide) rfl (fun ls hl => ?_)
  have lp6 : ∀ (n6 : Nat) (v3_6 : Nat) (v1_6 : Int64) (hv3_6 : v3_6 < 2147483648), 2147483648 - v3_6 < n6 → ∀ (H : Heap) (locs : List Loc), va_P D vwCl [(mm, .inr (11, [.ref mm_now, .ref mm_kept, .ref mm_isKept, .ref mm_refused, .int mm_lineFrom, .int mm_lineTo, .ref mm_stands, .ref mm_far, .ref mm_queue, .int mm_queued, .ref mm_meets, .ref mm_bytes, .int (nI bl), .int (nI ta), .int (nI tl), .int mm_token, .int mm_value, .ref mm_next, .int (nI tk)])), (mm_now, .inl (cy 1, 122, .inl mm_now_f))] H → va_D (fun _ => True) [(mm, .inr (11, [.ref mm_now, .ref mm_kept, .ref mm_isKept, .ref mm_refused, .int mm_lineFrom, .int mm_lineTo, .ref mm_stands, .ref mm_far, .ref mm_queue, .int mm_queued, .ref mm_meets, .ref mm_bytes, .int (nI bl), .int (nI ta), .int (nI tl), .int mm_token, .int mm_value, .ref mm_next, .int (nI tk)])), (mm_now, .inl (cy 1, 122, .inl mm_now_f))] → va_S A s.heap H locs → ∀ ls : Array Slot, lv_has ls 4 [(3, .int (nI v3_6)), (1, .long v1_6), (0, .ref mm)] → W p l e (headSpec wsX11_digest ({ frames := 3, cells := 0, slots := 0, locals := 64 })).room s m [.ref mm].toArray below meth c H locs 0 0 QF (F0 m 6 ls []) := by
    intro n6
    induction n6 with
    | zero => intro v3_6 v1_6 hv3_6 hm; exact absurd hm (Nat.not_lt_zero _)
    | succ n6 ih6 =>
      intro v3_6 v1_6 hv3_6 hm6 H locs hP hD hS ls hl
      refine lv_iload_n hx hb dX11_digest_6 rfl (lv_at hl 0 rfl) ?_
      refine lv_bipush (v := 7) hx hb dX11_digest_7 (by decide) ?_
      refine lv_icmp_ge (tgt := 31) hx hb dX11_digest_9 (by decide) (fun c1 => ?_) (fun c1 => ?_)
      · skip
        refine lv_ldc2 hx hb hown z1_ dX11_digest_31 ?_
        refine lv_ldc2 hx hb hown z1_ dX11_digest_34 ?_
        refine lv_ldc2 hx hb hown z1_ dX11_digest_37 ?_
        refine lv_lload_n hx hb dX11_digest_40 rfl (lv_at hl 1 rfl) ?_
        refine lv_lmul hx hb dX11_digest_41 ?_
        refine lv_aload_n hx hb dX11_digest_42 rfl (lv_at hl 2 rfl) ?_
        refine va_get (D := D) (ci := 11) (v := .ref mm_now) (C := RX11) (T := TX11) (N := 19) hx hb hts zi11_ hown hK hP 0 rfl rfl 0 (by decide) z2_ (fun _ h9 => h9) rfl dX11_digest_43 ?_
        refine lv_iconst (v := 0) hx hb dX11_digest_46 (by decide) ?_
        refine my_iald hx hb hK hP 1 1 rfl rfl (by rw [vp_in_iff]; decide +kernel) (k := 0) (by decide +kernel) dX11_digest_47 ?_
        refine lv_i2l hx hb dX11_digest_48 rfl ?_
        refine lv_ladd hx hb dX11_digest_49 ?_
        refine lv_lmul hx hb dX11_digest_50 ?_
        refine lv_aload_n hx hb dX11_digest_51 rfl (lv_at hl 2 rfl) ?_
        refine va_get (D := D) (ci := 11) (v := .ref mm_now) (C := RX11) (T := TX11) (N := 19) hx hb hts zi11_ hown hK hP 0 rfl rfl 0 (by decide) z2_ (fun _ h9 => h9) rfl dX11_digest_52 ?_
        refine lv_iconst (v := 2) hx hb dX11_digest_55 (by decide) ?_
        refine my_iald hx hb hK hP 1 1 rfl rfl (by rw [vp_in_iff]; decide +kernel) (k := 2) (by decide +kernel) dX11_digest_56 ?_
        refine lv_i2l hx hb dX11_digest_57 rfl ?_
        refine lv_ladd hx hb dX11_digest_58 ?_
        refine lv_lmul hx hb dX11_digest_59 ?_
        refine lv_aload_n hx hb dX11_digest_60 rfl (lv_at hl 2 rfl) ?_
        refine va_get (D := D) (ci := 11) (v := .ref mm_now) (C := RX11) (T := TX11) (N := 19) hx hb hts zi11_ hown hK hP 0 rfl rfl 0 (by decide) z2_ (fun _ h9 => h9) rfl dX11_digest_61 ?_
        refine lv_iconst (v := 3) hx hb dX11_digest_64 (by decide) ?_
        refine my_iald hx hb hK hP 1 1 rfl rfl (by rw [vp_in_iff]; decide +kernel) (k := 3) (by decide +kernel) dX11_digest_65 ?_
        refine lv_i2l hx hb dX11_digest_66 rfl ?_
        refine lv_ladd hx hb dX11_digest_67 ?_
        refine lv_topl (fun x2 ex2 => ?_)
        refine lv_lstore_n (lv' := [(1, .long x2), (3, .int (nI v3_6)), (0, .ref mm)]) hx hb dX11_digest_68 rfl hl (by decide) rfl (fun ls hl => ?_)
        refine lv_aload_n hx hb dX11_digest_69 rfl (lv_at hl 2 rfl) ?_
        refine lv_lload_n hx hb dX11_digest_70 rfl (lv_at hl 0 rfl) ?_
        refine lv_iconst (v := 5) hx hb dX11_digest_71 (by decide) ?_
        refine lv_iconst (v := 3) hx hb dX11_digest_72 (by decide) ?_
        refine lv_aload_n hx hb dX11_digest_73 rfl (lv_at hl 2 rfl) ?_
        refine rd_i (va_runV (As := []) (rest := [.int 3, .int 5, .long x2, .ref mm]) ⟨hx, hb, hml, hown, hts⟩ (n_X11_people l D cy mW mH mS mP mm mm_now mm_kept mm_isKept mm_refused mm_lineFrom mm_lineTo mm_stands mm_far mm_queue mm_queued mm_meets mm_bytes bl ta tl mm_token mm_value mm_next tk mm_now_f _ (by first | assumption | omega)) (cwV 0 hts gX11_digest_X11_people rfl rfl rfl (by decide +kernel) ⟨Nat.le_of_ble_eq_true rfl, Nat.le_of_ble_eq_true rfl⟩) (pV (ci := 11) (k := 0) hKA (hP.sub (ws' := [(mm, .inr (11, [.ref mm_now, .ref mm_kept, .ref mm_isKept, .ref mm_refused, .int mm_lineFrom, .int mm_lineTo, .ref mm_stands, .ref mm_far, .ref mm_queue, .int mm_queued, .ref mm_meets, .ref mm_bytes, .int (nI bl), .int (nI ta), .int (nI tl), .int mm_token, .int mm_value, .ref mm_next, .int (nI tk)])), (mm_now, .inl (cy 1, 122, .inl mm_now_f))]) [0, 1] rfl) (hD.sub (ws' := [(mm, .inr (11, [.ref mm_now, .ref mm_kept, .ref mm_isKept, .ref mm_refused, .int mm_lineFrom, .int mm_lineTo, .ref mm_stands, .ref mm_far, .ref mm_queue, .int mm_queued, .ref mm_meets, .ref mm_bytes, .int (nI bl), .int (nI ta), .int (nI tl), .int mm_token, .int mm_value, .ref mm_next, .int (nI tk)])), (mm_now, .inl (cy 1, 122, .inl mm_now_f))]) [0, 1] (by decide) rfl) rfl rfl) rfl rfl hl.1 rfl (lv_room (Nat.le_of_ble_eq_true rfl)) dX11_digest_74 ⟨Nat.le_of_ble_eq_true rfl, Nat.le_of_ble_eq_true rfl⟩) hP hS hA (fun r3 H locs hwr3 hP hS => ?_)
        have hwr3 : r3 = nI mP := hwr3
        subst hwr3
        refine lv_imul hx hb dX11_digest_77 ?_
        refine lv_topi (fun x4 ex4 => ?_)
        obtain rfl : x4 = nI (3 * mP) := by rw [ex4]; exact pk_mul _ _
        refine rd_l (va_runV (As := [.long x2, .int 5, .int (nI (3 * mP))]) (rest := []) ⟨hx, hb, hml, hown, hts⟩ (n_X11_sums l D cy mW mH mS mP mm mm_now mm_kept mm_isKept mm_refused mm_lineFrom mm_lineTo mm_stands mm_far mm_queue mm_queued mm_meets mm_bytes bl ta tl mm_token mm_value mm_next tk mm_now_f x2 5 (3 * mP) _ (by first | assumption | omega) (by first | assumption | omega)) (cwV 3 hts gX11_digest_X11_sums rfl rfl rfl (by decide +kernel) ⟨Nat.le_of_ble_eq_true rfl, Nat.le_of_ble_eq_true rfl⟩) (pV (ci := 11) (k := 0) hKA (hP.sub (ws' := [(mm, .inr (11, [.ref mm_now, .ref mm_kept, .ref mm_isKept, .ref mm_refused, .int mm_lineFrom, .int mm_lineTo, .ref mm_stands, .ref mm_far, .ref mm_queue, .int mm_queued, .ref mm_meets, .ref mm_bytes, .int (nI bl), .int (nI ta), .int (nI tl), .int mm_token, .int mm_value, .ref mm_next, .int (nI tk)])), (mm_now, .inl (cy 1, 122, .inl mm_now_f))]) [0, 1] rfl) (hD.sub (ws' := [(mm, .inr (11, [.ref mm_now, .ref mm_kept, .ref mm_isKept, .ref mm_refused, .int mm_lineFrom, .int mm_lineTo, .ref mm_stands, .ref mm_far, .ref mm_queue, .int mm_queued, .ref mm_meets, .ref mm_bytes, .int (nI bl), .int (nI ta), .int (nI tl), .int mm_token, .int mm_value, .ref mm_next, .int (nI tk)])), (mm_now, .inl (cy 1, 122, .inl mm_now_f))]) [0, 1] (by decide) rfl) rfl rfl) rfl rfl hl.1 rfl (lv_room (Nat.le_of_ble_eq_true rfl)) dX11_digest_78 ⟨Nat.le_of_ble_eq_true rfl, Nat.le_of_ble_eq_true rfl⟩) hP hS hA (fun r5 H locs hwr5 hP hS => ?_)
        refine lv_lstore_n (lv' := [(1, .long r5), (3, .int (nI v3_6)), (0, .ref mm)]) hx hb dX11_digest_81 rfl hl (by decide) rfl (fun ls hl => ?_)
        refine lv_iconst (v := 0) hx hb dX11_digest_82 (by decide) ?_
        refine lv_istore_n (lv' := [(3, .int 0), (1, .long r5), (0, .ref mm)]) hx hb dX11_digest_83 rfl hl (by decide) rfl (fun ls hl => ?_)
        have lp84 : ∀ (n84 : Nat) (v3_84 : Nat) (v1_84 : Int64) (hv3_84 : v3_84 < 2147483648), 2147483648 - v3_84 < n84 → ∀ (H : Heap) (locs : List Loc), va_P D vwCl [(mm, .inr (11, [.ref mm_now, .ref mm_kept, .ref mm_isKept, .ref mm_refused, .int mm_lineFrom, .int mm_lineTo, .ref mm_stands, .ref mm_far, .ref mm_queue, .int mm_queued, .ref mm_meets, .ref mm_bytes, .int (nI bl), .int (nI ta), .int (nI tl), .int mm_token, .int mm_value, .ref mm_next, .int (nI tk)])), (mm_now, .inl (cy 1, 122, .inl mm_now_f))] H → va_D (fun _ => True) [(mm, .inr (11, [.ref mm_now, .ref mm_kept, .ref mm_isKept, .ref mm_refused, .int mm_lineFrom, .int mm_lineTo, .ref mm_stands, .ref mm_far, .ref mm_queue, .int mm_queued, .ref mm_meets, .ref mm_bytes, .int (nI bl), .int (nI ta), .int (nI tl), .int mm_token, .int mm_value, .ref mm_next, .int (nI tk)])), (mm_now, .inl (cy 1, 122, .inl mm_now_f))] → va_S A s.heap H locs → ∀ ls : Array Slot, lv_has ls 4 [(3, .int (nI v3_84)), (1, .long v1_84), (0, .ref mm)] → W p l e (headSpec wsX11_digest ({ frames := 3, cells := 0, slots := 0, locals := 64 })).room s m [.ref mm].toArray below meth c H locs 0 0 QF (F0 m 84 ls []) := by
          intro n84
          induction n84 with
          | zero => intro v3_84 v1_84 hv3_84 hm; exact absurd hm (Nat.not_lt_zero _)
          | succ n84 ih84 =>
            intro v3_84 v1_84 hv3_84 hm84 H locs hP hD hS ls hl
            refine lv_iload_n hx hb dX11_digest_84 rfl (lv_at hl 0 rfl) ?_
            refine lv_aload_n hx hb dX11_digest_85 rfl (lv_at hl 2 rfl) ?_
            refine rd_i (va_runV (As := []) (rest := [.int (nI v3_84)]) ⟨hx, hb, hml, hown, hts⟩ (n_X11_squares l D cy mW mH mS mP mm mm_now mm_kept mm_isKept mm_refused mm_lineFrom mm_lineTo mm_stands mm_far mm_queue mm_queued mm_meets mm_bytes bl ta tl mm_token mm_value mm_next tk mm_now_f _ (by first | assumption | omega)) (cwV 0 hts gX11_digest_X11_squares rfl rfl rfl (by decide +kernel) ⟨Nat.le_of_ble_eq_true rfl, Nat.le_of_ble_eq_true rfl⟩) (pV (ci := 11) (k := 0) hKA (hP.sub (ws' := [(mm, .inr (11, [.ref mm_now, .ref mm_kept, .ref mm_isKept, .ref mm_refused, .int mm_lineFrom, .int mm_lineTo, .ref mm_stands, .ref mm_far, .ref mm_queue, .int mm_queued, .ref mm_meets, .ref mm_bytes, .int (nI bl), .int (nI ta), .int (nI tl), .int mm_token, .int mm_value, .ref mm_next, .int (nI tk)])), (mm_now, .inl (cy 1, 122, .inl mm_now_f))]) [0, 1] rfl) (hD.sub (ws' := [(mm, .inr (11, [.ref mm_now, .ref mm_kept, .ref mm_isKept, .ref mm_refused, .int mm_lineFrom, .int mm_lineTo, .ref mm_stands, .ref mm_far, .ref mm_queue, .int mm_queued, .ref mm_meets, .ref mm_bytes, .int (nI bl), .int (nI ta), .int (nI tl), .int mm_token, .int mm_value, .ref mm_next, .int (nI tk)])), (mm_now, .inl (cy 1, 122, .inl mm_now_f))]) [0, 1] (by decide) rfl) rfl rfl) rfl rfl hl.1 rfl (lv_room (Nat.le_of_ble_eq_true rfl)) dX11_digest_86 ⟨Nat.le_of_ble_eq_true rfl, Nat.le_of_ble_eq_true rfl⟩) hP hS hA (fun r6 H locs hwr6 hP hS => ?_)
            have hwr6 : r6 = nI mS := hwr6
            subst hwr6
            refine lv_icmp_ge (tgt := 130) hx hb dX11_digest_89 (by decide) (fun c7 => ?_) (fun c7 => ?_)
            · skip
              refine lv_aload_n hx hb dX11_digest_130 rfl (lv_at hl 2 rfl) ?_
              refine lv_lload_n hx hb dX11_digest_131 rfl (lv_at hl 1 rfl) ?_
              refine lv_bipush (v := 93) hx hb dX11_digest_132 (by decide) ?_
              refine lv_iconst (v := 2) hx hb dX11_digest_134 (by decide) ?_
              refine lv_aload_n hx hb dX11_digest_135 rfl (lv_at hl 2 rfl) ?_
              refine va_get (D := D) (ci := 11) (v := .ref mm_now) (C := RX11) (T := TX11) (N := 19) hx hb hts zi11_ hown hK hP 0 rfl rfl 0 (by decide) z2_ (fun _ h9 => h9) rfl dX11_digest_136 ?_
              refine lv_bipush (v := 92) hx hb dX11_digest_139 (by decide) ?_
              refine my_iald hx hb hK hP 1 1 rfl rfl (by rw [vp_in_iff]; decide +kernel) (k := 92) (by decide +kernel) dX11_digest_141 ?_
              obtain ⟨jt2, ejt2, hjt2⟩ := mV.get hF (92) 6 (by omega) (by omega) (by unfold mHi; (repeat' split) <;> omega)
              refine W.eq (g2 := F0 m 142 ls [.int (nI jt2), .int 2, .int 93, .long v1_84, .ref mm]) (congrArg (fun v9 : Int32 => F0 m 142 ls [.int v9, .int 2, .int 93, .long v1_84, .ref mm]) ejt2) ?_
              refine lv_imul hx hb dX11_digest_142 ?_
              refine lv_topi (fun x8 ex8 => ?_)
              obtain rfl : x8 = nI (2 * jt2) := by rw [ex8]; exact pk_mul _ _
              refine rd_l (va_runV (As := [.long v1_84, .int 93, .int (nI (2 * jt2))]) (rest := []) ⟨hx, hb, hml, hown, hts⟩ (n_X11_sums l D cy mW mH mS mP mm mm_now mm_kept mm_isKept mm_refused mm_lineFrom mm_lineTo mm_stands mm_far mm_queue mm_queued mm_meets mm_bytes bl ta tl mm_token mm_value mm_next tk mm_now_f v1_84 93 (2 * jt2) _ (by first | assumption | omega) (by first | assumption | omega)) (cwV 3 hts gX11_digest_X11_sums rfl rfl rfl (by decide +kernel) ⟨Nat.le_of_ble_eq_true rfl, Nat.le_of_ble_eq_true rfl⟩) (pV (ci := 11) (k := 0) hKA (hP.sub (ws' := [(mm, .inr (11, [.ref mm_now, .ref mm_kept, .ref mm_isKept, .ref mm_refused, .int mm_lineFrom, .int mm_lineTo, .ref mm_stands, .ref mm_far, .ref mm_queue, .int mm_queued, .ref mm_meets, .ref mm_bytes, .int (nI bl), .int (nI ta), .int (nI tl), .int mm_token, .int mm_value, .ref mm_next, .int (nI tk)])), (mm_now, .inl (cy 1, 122, .inl mm_now_f))]) [0, 1] rfl) (hD.sub (ws' := [(mm, .inr (11, [.ref mm_now, .ref mm_kept, .ref mm_isKept, .ref mm_refused, .int mm_lineFrom, .int mm_lineTo, .ref mm_stands, .ref mm_far, .ref mm_queue, .int mm_queued, .ref mm_meets, .ref mm_bytes, .int (nI bl), .int (nI ta), .int (nI tl), .int mm_token, .int mm_value, .ref mm_next, .int (nI tk)])), (mm_now, .inl (cy 1, 122, .inl mm_now_f))]) [0, 1] (by decide) rfl) rfl rfl) rfl rfl hl.1 rfl (lv_room (Nat.le_of_ble_eq_true rfl)) dX11_digest_143 ⟨Nat.le_of_ble_eq_true rfl, Nat.le_of_ble_eq_true rfl⟩) hP hS hA (fun r9 H locs hwr9 hP hS => ?_)
              refine lv_lstore_n (lv' := [(1, .long r9), (3, .int (nI v3_84)), (0, .ref mm)]) hx hb dX11_digest_146 rfl hl (by decide) rfl (fun ls hl => ?_)
              refine lv_aload_n hx hb dX11_digest_147 rfl (lv_at hl 2 rfl) ?_
              refine lv_lload_n hx hb dX11_digest_148 rfl (lv_at hl 0 rfl) ?_
              refine lv_bipush (v := 106) hx hb dX11_digest_149 (by decide) ?_
              refine lv_iconst (v := 2) hx hb dX11_digest_151 (by decide) ?_
              refine lv_aload_n hx hb dX11_digest_152 rfl (lv_at hl 2 rfl) ?_
              refine va_get (D := D) (ci := 11) (v := .ref mm_now) (C := RX11) (T := TX11) (N := 19) hx hb hts zi11_ hown hK hP 0 rfl rfl 0 (by decide) z2_ (fun _ h9 => h9) rfl dX11_digest_153 ?_
              refine lv_bipush (v := 105) hx hb dX11_digest_156 (by decide) ?_
              refine my_iald hx hb hK hP 1 1 rfl rfl (by rw [vp_in_iff]; decide +kernel) (k := 105) (by decide +kernel) dX11_digest_158 ?_
              obtain ⟨jr2, ejr2, hjr2⟩ := mV.get hF (105) 8 (by omega) (by omega) (by unfold mHi; (repeat' split) <;> omega)
              refine W.eq (g2 := F0 m 159 ls [.int (nI jr2), .int 2, .int 106, .long r9, .ref mm]) (congrArg (fun v9 : Int32 => F0 m 159 ls [.int v9, .int 2, .int 106, .long r9, .ref mm]) ejr2) ?_
              refine lv_imul hx hb dX11_digest_159 ?_
              refine lv_topi (fun x10 ex10 => ?_)
              obtain rfl : x10 = nI (2 * jr2) := by rw [ex10]; exact pk_mul _ _
              refine rd_l (va_runV (As := [.long r9, .int 106, .int (nI (2 * jr2))]) (rest := []) ⟨hx, hb, hml, hown, hts⟩ (n_X11_sums l D cy mW mH mS mP mm mm_now mm_kept mm_isKept mm_refused mm_lineFrom mm_lineTo mm_stands mm_far mm_queue mm_queued mm_meets mm_bytes bl ta tl mm_token mm_value mm_next tk mm_now_f r9 106 (2 * jr2) _ (by first | assumption | omega) (by first | assumption | omega)) (cwV 3 hts gX11_digest_X11_sums rfl rfl rfl (by decide +kernel) ⟨Nat.le_of_ble_eq_true rfl, Nat.le_of_ble_eq_true rfl⟩) (pV (ci := 11) (k := 0) hKA (hP.sub (ws' := [(mm, .inr (11, [.ref mm_now, .ref mm_kept, .ref mm_isKept, .ref mm_refused, .int mm_lineFrom, .int mm_lineTo, .ref mm_stands, .ref mm_far, .ref mm_queue, .int mm_queued, .ref mm_meets, .ref mm_bytes, .int (nI bl), .int (nI ta), .int (nI tl), .int mm_token, .int mm_value, .ref mm_next, .int (nI tk)])), (mm_now, .inl (cy 1, 122, .inl mm_now_f))]) [0, 1] rfl) (hD.sub (ws' := [(mm, .inr (11, [.ref mm_now, .ref mm_kept, .ref mm_isKept, .ref mm_refused, .int mm_lineFrom, .int mm_lineTo, .ref mm_stands, .ref mm_far, .ref mm_queue, .int mm_queued, .ref mm_meets, .ref mm_bytes, .int (nI bl), .int (nI ta), .int (nI tl), .int mm_token, .int mm_value, .ref mm_next, .int (nI tk)])), (mm_now, .inl (cy 1, 122, .inl mm_now_f))]) [0, 1] (by decide) rfl) rfl rfl) rfl rfl hl.1 rfl (lv_room (Nat.le_of_ble_eq_true rfl)) dX11_digest_160 ⟨Nat.le_of_ble_eq_true rfl, Nat.le_of_ble_eq_true rfl⟩) hP hS hA (fun r11 H locs hwr11 hP hS => ?_)
              subst hQF
              exact W.lret (v := r11) hx hb hr (fun t ht hW => ⟨⟨r11, (), rfl, trivial, trivial⟩, hS.F ht⟩) hS.2.2 dX11_digest_163
            · skip
              have hk89 := ltM (n := mS) (k := v3_84) (by omega) (by assumption) (by assumption)
              refine lv_ldc2 hx hb hown z1_ dX11_digest_92 ?_
              refine lv_ldc2 hx hb hown z1_ dX11_digest_95 ?_
              refine lv_lload_n hx hb dX11_digest_98 rfl (lv_at hl 1 rfl) ?_
              refine lv_lmul hx hb dX11_digest_99 ?_
              refine lv_aload_n hx hb dX11_digest_100 rfl (lv_at hl 2 rfl) ?_
              refine va_get (D := D) (ci := 11) (v := .ref mm_now) (C := RX11) (T := TX11) (N := 19) hx hb hts zi11_ hown hK hP 0 rfl rfl 0 (by decide) z2_ (fun _ h9 => h9) rfl dX11_digest_101 ?_
              refine lv_bipush (v := 20) hx hb dX11_digest_104 (by decide) ?_
              refine lv_iload_n hx hb dX11_digest_106 rfl (lv_at hl 0 rfl) ?_
              refine lv_iadd hx hb dX11_digest_107 ?_
              refine lv_topi (fun x12 ex12 => ?_)
              obtain rfl : x12 = nI (20 + v3_84) := by rw [ex12]; exact nI_add _ _
              refine my_iald hx hb hK hP 1 1 rfl rfl (by first | exact in_ge (N := 122) (by decide) (by omega) (by assumption) | exact vp_in_nI (by omega) (by omega)) (nI_clamp (by omega)) dX11_digest_108 ?_
              refine lv_i2l hx hb dX11_digest_109 rfl ?_
              refine lv_ladd hx hb dX11_digest_110 ?_
              refine lv_lmul hx hb dX11_digest_111 ?_
              refine lv_aload_n hx hb dX11_digest_112 rfl (lv_at hl 2 rfl) ?_
              refine va_get (D := D) (ci := 11) (v := .ref mm_now) (C := RX11) (T := TX11) (N := 19) hx hb hts zi11_ hown hK hP 0 rfl rfl 0 (by decide) z2_ (fun _ h9 => h9) rfl dX11_digest_113 ?_
              refine lv_bipush (v := 56) hx hb dX11_digest_116 (by decide) ?_
              refine lv_iload_n hx hb dX11_digest_118 rfl (lv_at hl 0 rfl) ?_
              refine lv_iadd hx hb dX11_digest_119 ?_
              refine lv_topi (fun x13 ex13 => ?_)
              obtain rfl : x13 = nI (56 + v3_84) := by rw [ex13]; exact nI_add _ _
              refine my_iald hx hb hK hP 1 1 rfl rfl (by first | exact in_ge (N := 122) (by decide) (by omega) (by assumption) | exact vp_in_nI (by omega) (by omega)) (nI_clamp (by omega)) dX11_digest_120 ?_
              refine lv_i2l hx hb dX11_digest_121 rfl ?_
              refine lv_ladd hx hb dX11_digest_122 ?_
              refine lv_topl (fun x14 ex14 => ?_)
              refine lv_lstore_n (lv' := [(1, .long x14), (3, .int (nI v3_84)), (0, .ref mm)]) hx hb dX11_digest_123 rfl hl (by decide) rfl (fun ls hl => ?_)
              refine lv_iinc (v := nI (v3_84 + 1)) (lv' := [(3, .int (nI (v3_84 + 1))), (1, .long x14), (0, .ref mm)]) hx hb dX11_digest_124 hl (k := 1) rfl (nI_1 _) (by decide) rfl (fun ls hl => ?_)
              refine lv_goto (tgt := 84) hx hb dX11_digest_127 (by decide) ?_
              exact ih84 (v3_84 + 1) x14 (by first | omega | exact nlt_max hv3_84 (by assumption)) (by first | omega | (have := nlt_max hv3_84 (by assumption); omega)) _ _ hP hD hS ls hl
        exact lp84 (2147483648 - 0 + 1) 0 r5 (by first | omega | exact nlt_max (by assumption) (by assumption)) (Nat.lt_succ_self _) _ _ hP hD hS ls hl
      · skip
        refine lv_ldc2 hx hb hown z1_ dX11_digest_12 ?_
        refine lv_lload_n hx hb dX11_digest_15 rfl (lv_at hl 1 rfl) ?_
        refine lv_lmul hx hb dX11_digest_16 ?_
        refine lv_aload_n hx hb dX11_digest_17 rfl (lv_at hl 2 rfl) ?_
        refine lv_iload_n hx hb dX11_digest_18 rfl (lv_at hl 0 rfl) ?_
        refine rd_i (va_runV (As := [.int (nI v3_6)]) (rest := [.long (31 * v1_6)]) ⟨hx, hb, hml, hown, hts⟩ (n_X11_counted l D cy mW mH mS mP mm mm_now mm_kept mm_isKept mm_refused mm_lineFrom mm_lineTo mm_stands mm_far mm_queue mm_queued mm_meets mm_bytes bl ta tl mm_token mm_value mm_next tk mm_now_f (nI v3_6) _ (by first | assumption | omega)) (cwV 1 hts gX11_digest_X11_counted rfl rfl rfl (by decide +kernel) ⟨Nat.le_of_ble_eq_true rfl, Nat.le_of_ble_eq_true rfl⟩) (pV (ci := 11) (k := 0) hKA (hP.sub (ws' := [(mm, .inr (11, [.ref mm_now, .ref mm_kept, .ref mm_isKept, .ref mm_refused, .int mm_lineFrom, .int mm_lineTo, .ref mm_stands, .ref mm_far, .ref mm_queue, .int mm_queued, .ref mm_meets, .ref mm_bytes, .int (nI bl), .int (nI ta), .int (nI tl), .int mm_token, .int mm_value, .ref mm_next, .int (nI tk)])), (mm_now, .inl (cy 1, 122, .inl mm_now_f))]) [0, 1] rfl) (hD.sub (ws' := [(mm, .inr (11, [.ref mm_now, .ref mm_kept, .ref mm_isKept, .ref mm_refused, .int mm_lineFrom, .int mm_lineTo, .ref mm_stands, .ref mm_far, .ref mm_queue, .int mm_queued, .ref mm_meets, .ref mm_bytes, .int (nI bl), .int (nI ta), .int (nI tl), .int mm_token, .int mm_value, .ref mm_next, .int (nI tk)])), (mm_now, .inl (cy 1, 122, .inl mm_now_f))]) [0, 1] (by decide) rfl) rfl rfl) rfl rfl hl.1 rfl (lv_room (Nat.le_of_ble_eq_true rfl)) dX11_digest_19 ⟨Nat.le_of_ble_eq_true rfl, Nat.le_of_ble_eq_true rfl⟩) hP hS hA (fun r15 H locs hwr15 hP hS => ?_)
        refine lv_i2l hx hb dX11_digest_22 rfl ?_
        refine lv_ladd hx hb dX11_digest_23 ?_
        refine lv_topl (fun x16 ex16 => ?_)
        refine lv_lstore_n (lv' := [(1, .long x16), (3, .int (nI v3_6)), (0, .ref mm)]) hx hb dX11_digest_24 rfl hl (by decide) rfl (fun ls hl => ?_)
        refine lv_iinc (v := nI (v3_6 + 1)) (lv' := [(3, .int (nI (v3_6 + 1))), (1, .long x16), (0, .ref mm)]) hx hb dX11_digest_25 hl (k := 1) rfl (nI_1 _) (by decide) rfl (fun ls hl => ?_)
        refine lv_goto (tgt := 6) hx hb dX11_digest_28 (by decide) ?_
        exact ih6 (v3_6 + 1) x16 (by first | omega | exact nlt_max hv3_6 (by assumption)) (by first | omega | (have := nlt_max hv3_6 (by assumption); omega)) _ _ hP hD hS ls hl
  exact lp6 (2147483648 - 0 + 1) 0 743 (by first | omega | exact nlt_max (by assumption) (by assumption)) (Nat.lt_succ_self _) _ _ hP hD hS ls hl
