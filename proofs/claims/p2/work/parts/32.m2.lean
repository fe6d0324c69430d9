theorem dX11_sees_0 : decode cX11_sees 0 = .ok (.aload_n 0, 1) := by decide +kernel
theorem dX11_sees_1 : decode cX11_sees 1 = .ok (.iload_n 1, 1) := by decide +kernel
theorem dX11_sees_2 : decode cX11_sees 2 = .ok (.iconst 0, 1) := by decide +kernel
set_option maxRecDepth 20000 in
theorem ggX11_sees_X11_of : GoodIn wsX11_sees wsX11_of := goodIn_r _ [5, 6, 42, 43, 44, 45, 46, 47, 48, 49, 50, 51, 52, 53, 54, 55, 56, 57, 58, 59, 60] (by decide +kernel) (by decide +kernel)
set_option maxRecDepth 20000 in
theorem gX11_sees_X11_of : GoodIn wsX11_sees (wsV RX11 97 RX11 yX11_of wsX11_of) := goodIn_app (goodIn_of _ (by decide +kernel)) ggX11_sees_X11_of
theorem dX11_sees_3 : decode cX11_sees 3 = .ok (.invokevirtual 97, 3) := by decide +kernel
theorem dX11_sees_6 : decode cX11_sees 6 = .ok (.iconst 5, 1) := by decide +kernel
theorem dX11_sees_7 : decode cX11_sees 7 = .ok (.if_icmp .ne 5, 3) := by decide +kernel
theorem dX11_sees_12 : decode cX11_sees 12 = .ok (.aload_n 0, 1) := by decide +kernel
theorem dX11_sees_13 : decode cX11_sees 13 = .ok (.iload_n 2, 1) := by decide +kernel
theorem dX11_sees_14 : decode cX11_sees 14 = .ok (.iconst 0, 1) := by decide +kernel
theorem dX11_sees_15 : decode cX11_sees 15 = .ok (.invokevirtual 97, 3) := by decide +kernel
theorem dX11_sees_18 : decode cX11_sees 18 = .ok (.iconst 3, 1) := by decide +kernel
theorem dX11_sees_50 : decode cX11_sees 50 = .ok (.istore_n 3, 1) := by decide +kernel
theorem dX11_sees_51 : decode cX11_sees 51 = .ok (.aload_n 0, 1) := by decide +kernel
theorem dX11_sees_52 : decode cX11_sees 52 = .ok (.iload_n 1, 1) := by decide +kernel
theorem dX11_sees_53 : decode cX11_sees 53 = .ok (.iconst 0, 1) := by decide +kernel
theorem dX11_sees_54 : decode cX11_sees 54 = .ok (.invokevirtual 97, 3) := by decide +kernel
theorem dX11_sees_57 : decode cX11_sees 57 = .ok (.iconst 2, 1) := by decide +kernel
theorem dX11_sees_58 : decode cX11_sees 58 = .ok (.if_icmp .eq 40, 3) := by decide +kernel
theorem dX11_sees_98 : decode cX11_sees 98 = .ok (.iconst 0, 1) := by decide +kernel
theorem dX11_sees_99 : decode cX11_sees 99 = .ok (.ireturn, 1) := by decide +kernel
theorem dX11_sees_61 : decode cX11_sees 61 = .ok (.aload_n 0, 1) := by decide +kernel
theorem dX11_sees_62 : decode cX11_sees 62 = .ok (.iload_n 2, 1) := by decide +kernel
theorem dX11_sees_63 : decode cX11_sees 63 = .ok (.iconst 0, 1) := by decide +kernel
theorem dX11_sees_64 : decode cX11_sees 64 = .ok (.invokevirtual 97, 3) := by decide +kernel
theorem dX11_sees_67 : decode cX11_sees 67 = .ok (.iconst 5, 1) := by decide +kernel
theorem dX11_sees_68 : decode cX11_sees 68 = .ok (.if_icmp .eq 30, 3) := by decide +kernel
theorem dX11_sees_71 : decode cX11_sees 71 = .ok (.iload_n 3, 1) := by decide +kernel
theorem dX11_sees_72 : decode cX11_sees 72 = .ok (.ifCond .ne 26, 3) := by decide +kernel
theorem dX11_sees_75 : decode cX11_sees 75 = .ok (.aload_n 0, 1) := by decide +kernel
theorem dX11_sees_76 : decode cX11_sees 76 = .ok (.aload_n 0, 1) := by decide +kernel
theorem dX11_sees_77 : decode cX11_sees 77 = .ok (.iload_n 1, 1) := by decide +kernel
theorem dX11_sees_78 : decode cX11_sees 78 = .ok (.iconst 1, 1) := by decide +kernel
theorem dX11_sees_79 : decode cX11_sees 79 = .ok (.invokevirtual 97, 3) := by decide +kernel
theorem dX11_sees_82 : decode cX11_sees 82 = .ok (.aload_n 0, 1) := by decide +kernel
theorem dX11_sees_83 : decode cX11_sees 83 = .ok (.iload_n 2, 1) := by decide +kernel
theorem dX11_sees_84 : decode cX11_sees 84 = .ok (.iconst 1, 1) := by decide +kernel
theorem dX11_sees_85 : decode cX11_sees 85 = .ok (.invokevirtual 97, 3) := by decide +kernel
set_option maxRecDepth 20000 in
theorem ggX11_sees_X11_isClear : GoodIn wsX11_sees wsX11_isClear := goodIn_r _ [18, 6, 19, 20, 21, 4, 22, 23, 24, 25, 26, 27, 28, 29, 30, 31, 32, 33, 34, 11, 12, 13, 14, 7, 8, 9, 10, 35, 36, 37, 38, 39, 40, 41, 42, 43, 44, 45, 46, 47, 48, 49, 50, 51, 52, 53, 54, 55, 56, 57, 58, 59, 60] (by decide +kernel) (by decide +kernel)
set_option maxRecDepth 20000 in
theorem gX11_sees_X11_isClear : GoodIn wsX11_sees (wsV RX11 136 RX11 yX11_isClear wsX11_isClear) := goodIn_app (goodIn_of _ (by decide +kernel)) ggX11_sees_X11_isClear
theorem dX11_sees_88 : decode cX11_sees 88 = .ok (.invokevirtual 136, 3) := by decide +kernel
theorem dX11_sees_91 : decode cX11_sees 91 = .ok (.ifCond .eq 7, 3) := by decide +kernel
theorem dX11_sees_94 : decode cX11_sees 94 = .ok (.iconst 1, 1) := by decide +kernel
theorem dX11_sees_95 : decode cX11_sees 95 = .ok (.goto 4, 3) := by decide +kernel
theorem dX11_sees_19 : decode cX11_sees 19 = .ok (.if_icmp .ne 30, 3) := by decide +kernel
theorem dX11_sees_49 : decode cX11_sees 49 = .ok (.iconst 0, 1) := by decide +kernel
theorem dX11_sees_22 : decode cX11_sees 22 = .ok (.aload_n 0, 1) := by decide +kernel
theorem dX11_sees_23 : decode cX11_sees 23 = .ok (.aload_n 0, 1) := by decide +kernel
theorem dX11_sees_24 : decode cX11_sees 24 = .ok (.iload_n 1, 1) := by decide +kernel
theorem dX11_sees_25 : decode cX11_sees 25 = .ok (.iconst 1, 1) := by decide +kernel
theorem dX11_sees_26 : decode cX11_sees 26 = .ok (.invokevirtual 97, 3) := by decide +kernel
set_option maxRecDepth 20000 in
theorem ggX11_sees_X11_yOf : GoodIn wsX11_sees wsX11_yOf := goodIn_r _ [10, 11, 12, 13, 4, 14, 6, 42, 43, 44, 45, 46, 47, 48, 49, 50, 51, 52, 53, 54, 55, 56, 57, 58, 59, 60] (by decide +kernel) (by decide +kernel)
set_option maxRecDepth 20000 in
theorem gX11_sees_X11_yOf : GoodIn wsX11_sees (wsV RX11 116 RX11 yX11_yOf wsX11_yOf) := goodIn_app (goodIn_of _ (by decide +kernel)) ggX11_sees_X11_yOf
theorem dX11_sees_29 : decode cX11_sees 29 = .ok (.invokevirtual 116, 3) := by decide +kernel
theorem dX11_sees_32 : decode cX11_sees 32 = .ok (.aload_n 0, 1) := by decide +kernel
theorem dX11_sees_33 : decode cX11_sees 33 = .ok (.aload_n 0, 1) := by decide +kernel
theorem dX11_sees_34 : decode cX11_sees 34 = .ok (.iload_n 2, 1) := by decide +kernel
theorem dX11_sees_35 : decode cX11_sees 35 = .ok (.iconst 1, 1) := by decide +kernel
theorem dX11_sees_36 : decode cX11_sees 36 = .ok (.invokevirtual 97, 3) := by decide +kernel
theorem dX11_sees_39 : decode cX11_sees 39 = .ok (.invokevirtual 116, 3) := by decide +kernel
theorem dX11_sees_42 : decode cX11_sees 42 = .ok (.if_icmp .ne 7, 3) := by decide +kernel
theorem dX11_sees_45 : decode cX11_sees 45 = .ok (.iconst 1, 1) := by decide +kernel
theorem dX11_sees_46 : decode cX11_sees 46 = .ok (.goto 4, 3) := by decide +kernel
theorem dX11_sees_10 : decode cX11_sees 10 = .ok (.iconst 1, 1) := by decide +kernel
theorem dX11_sees_11 : decode cX11_sees 11 = .ok (.ireturn, 1) := by decide +kernel
theorem dX11_isDrowned_0 : decode cX11_isDrowned 0 = .ok (.iconst 0, 1) := by decide +kernel
theorem dX11_isDrowned_1 : decode cX11_isDrowned 1 = .ok (.istore_n 2, 1) := by decide +kernel
theorem dX11_isDrowned_2 : decode cX11_isDrowned 2 = .ok (.iconst 0, 1) := by decide +kernel
theorem dX11_isDrowned_3 : decode cX11_isDrowned 3 = .ok (.istore_n 3, 1) := by decide +kernel
theorem dX11_isDrowned_4 : decode cX11_isDrowned 4 = .ok (.iload_n 3, 1) := by decide +kernel
theorem dX11_isDrowned_5 : decode cX11_isDrowned 5 = .ok (.aload_n 0, 1) := by decide +kernel
set_option maxRecDepth 20000 in
theorem ggX11_isDrowned_X11_squares : GoodIn wsX11_isDrowned wsX11_squares := goodIn_r _ [6, 1, 26, 27, 28, 29, 30, 31, 32, 33, 34, 35, 36, 37, 38, 39, 40, 41, 42, 43, 44] (by decide +kernel) (by decide +kernel)
set_option maxRecDepth 20000 in
theorem gX11_isDrowned_X11_squares : GoodIn wsX11_isDrowned (wsV RX11 45 RX11 yX11_squares wsX11_squares) := goodIn_app (goodIn_of _ (by decide +kernel)) ggX11_isDrowned_X11_squares
theorem dX11_isDrowned_6 : decode cX11_isDrowned 6 = .ok (.invokevirtual 45, 3) := by decide +kernel
theorem dX11_isDrowned_9 : decode cX11_isDrowned 9 = .ok (.if_icmp .ge 47, 3) := by decide +kernel
theorem dX11_isDrowned_56 : decode cX11_isDrowned 56 = .ok (.iload_n 2, 1) := by decide +kernel
theorem dX11_isDrowned_57 : decode cX11_isDrowned 57 = .ok (.ireturn, 1) := by decide +kernel
theorem dX11_isDrowned_12 : decode cX11_isDrowned 12 = .ok (.iload_n 2, 1) := by decide +kernel
theorem dX11_isDrowned_13 : decode cX11_isDrowned 13 = .ok (.ifCond .ne 31, 3) := by decide +kernel
theorem dX11_isDrowned_44 : decode cX11_isDrowned 44 = .ok (.iconst 1, 1) := by decide +kernel
theorem dX11_isDrowned_45 : decode cX11_isDrowned 45 = .ok (.goto 4, 3) := by decide +kernel
theorem dX11_isDrowned_49 : decode cX11_isDrowned 49 = .ok (.istore_n 2, 1) := by decide +kernel
theorem dX11_isDrowned_50 : decode cX11_isDrowned 50 = .ok (.iinc 3 1, 3) := by decide +kernel
theorem dX11_isDrowned_53 : decode cX11_isDrowned 53 = .ok (.goto (-49), 3) := by decide +kernel
theorem dX11_isDrowned_16 : decode cX11_isDrowned 16 = .ok (.aload_n 0, 1) := by decide +kernel
theorem dX11_isDrowned_17 : decode cX11_isDrowned 17 = .ok (.getfield 7, 3) := by decide +kernel
theorem dX11_isDrowned_20 : decode cX11_isDrowned 20 = .ok (.bipush 56, 2) := by decide +kernel
theorem dX11_isDrowned_22 : decode cX11_isDrowned 22 = .ok (.iload_n 3, 1) := by decide +kernel
theorem dX11_isDrowned_23 : decode cX11_isDrowned 23 = .ok (.iadd, 1) := by decide +kernel
theorem dX11_isDrowned_24 : decode cX11_isDrowned 24 = .ok (.iaload, 1) := by decide +kernel
theorem dX11_isDrowned_25 : decode cX11_isDrowned 25 = .ok (.iconst 1, 1) := by decide +kernel
theorem dX11_isDrowned_26 : decode cX11_isDrowned 26 = .ok (.if_icmp .ne 22, 3) := by decide +kernel
theorem dX11_isDrowned_48 : decode cX11_isDrowned 48 = .ok (.iconst 0, 1) := by decide +kernel
theorem dX11_isDrowned_29 : decode cX11_isDrowned 29 = .ok (.aload_n 0, 1) := by decide +kernel
theorem dX11_isDrowned_30 : decode cX11_isDrowned 30 = .ok (.iload_n 1, 1) := by decide +kernel
theorem dX11_isDrowned_31 : decode cX11_isDrowned 31 = .ok (.iload_n 3, 1) := by decide +kernel
set_option maxRecDepth 20000 in
theorem ggX11_isDrowned_X11_yards : GoodIn wsX11_isDrowned wsX11_yards := goodIn_r _ [10, 11, 12, 13, 5, 14, 15, 16, 17, 18, 1, 19, 20, 21, 22, 23, 24, 25, 26, 27, 28, 29, 30, 31, 32, 33, 34, 35, 36, 37, 38, 39, 40, 41, 42, 43, 44] (by decide +kernel) (by decide +kernel)
set_option maxRecDepth 20000 in
theorem gX11_isDrowned_X11_yards : GoodIn wsX11_isDrowned (wsV RX11 139 RX11 yX11_yards wsX11_yards) := goodIn_app (goodIn_of _ (by decide +kernel)) ggX11_isDrowned_X11_yards
theorem dX11_isDrowned_32 : decode cX11_isDrowned 32 = .ok (.invokevirtual 139, 3) := by decide +kernel
theorem dX11_isDrowned_35 : decode cX11_isDrowned 35 = .ok (.aload_n 0, 1) := by decide +kernel
theorem dX11_isDrowned_36 : decode cX11_isDrowned 36 = .ok (.getfield 7, 3) := by decide +kernel
theorem dX11_isDrowned_39 : decode cX11_isDrowned 39 = .ok (.iconst 2, 1) := by decide +kernel
theorem dX11_isDrowned_40 : decode cX11_isDrowned 40 = .ok (.iaload, 1) := by decide +kernel
theorem dX11_isDrowned_41 : decode cX11_isDrowned 41 = .ok (.if_icmp .gt 7, 3) := by decide +kernel
theorem dX11_reaches_0 : decode cX11_reaches 0 = .ok (.aload_n 0, 1) := by decide +kernel
theorem dX11_reaches_1 : decode cX11_reaches 1 = .ok (.iload_n 2, 1) := by decide +kernel
theorem dX11_reaches_2 : decode cX11_reaches 2 = .ok (.iconst 1, 1) := by decide +kernel
set_option maxRecDepth 20000 in
theorem ggX11_reaches_X11_of : GoodIn wsX11_reaches wsX11_of := goodIn_r _ [6, 1, 34, 35, 36, 37, 38, 39, 40, 41, 42, 43, 44, 45, 46, 47, 48, 49, 50, 51, 52] (by decide +kernel) (by decide +kernel)
set_option maxRecDepth 20000 in
theorem gX11_reaches_X11_of : GoodIn wsX11_reaches (wsV RX11 97 RX11 yX11_of wsX11_of) := goodIn_app (goodIn_of _ (by decide +kernel)) ggX11_reaches_X11_of
theorem dX11_reaches_3 : decode cX11_reaches 3 = .ok (.invokevirtual 97, 3) := by decide +kernel
theorem dX11_reaches_6 : decode cX11_reaches 6 = .ok (.istore_n 3, 1) := by decide +kernel
theorem dX11_reaches_7 : decode cX11_reaches 7 = .ok (.aload_n 0, 1) := by decide +kernel
theorem dX11_reaches_8 : decode cX11_reaches 8 = .ok (.iload_n 1, 1) := by decide +kernel
theorem dX11_reaches_9 : decode cX11_reaches 9 = .ok (.iconst 1, 1) := by decide +kernel
theorem dX11_reaches_10 : decode cX11_reaches 10 = .ok (.invokevirtual 97, 3) := by decide +kernel
theorem dX11_reaches_13 : decode cX11_reaches 13 = .ok (.istore 4, 2) := by decide +kernel
theorem dX11_reaches_15 : decode cX11_reaches 15 = .ok (.aload_n 0, 1) := by decide +kernel
theorem dX11_reaches_16 : decode cX11_reaches 16 = .ok (.iload_n 3, 1) := by decide +kernel
set_option maxRecDepth 20000 in
theorem ggX11_reaches_X11_isDrowned : GoodIn wsX11_reaches wsX11_isDrowned := goodIn_r _ [10, 1, 11, 12, 13, 5, 14, 15, 16, 17, 18, 19, 20, 21, 22, 23, 24, 25, 26, 27, 28, 29, 30, 31, 32, 33, 34, 35, 36, 37, 38, 39, 40, 41, 42, 43, 44, 45, 46, 47, 48, 49, 50, 51, 52] (by decide +kernel) (by decide +kernel)
set_option maxRecDepth 20000 in
theorem gX11_reaches_X11_isDrowned : GoodIn wsX11_reaches (wsV RX11 142 RX11 yX11_isDrowned wsX11_isDrowned) := goodIn_app (goodIn_of _ (by decide +kernel)) ggX11_reaches_X11_isDrowned
theorem dX11_reaches_17 : decode cX11_reaches 17 = .ok (.invokevirtual 142, 3) := by decide +kernel
theorem dX11_reaches_20 : decode cX11_reaches 20 = .ok (.ifCond .ne 12, 3) := by decide +kernel
theorem dX11_reaches_32 : decode cX11_reaches 32 = .ok (.aload_n 0, 1) := by decide +kernel
theorem dX11_reaches_33 : decode cX11_reaches 33 = .ok (.iload_n 3, 1) := by decide +kernel
theorem dX11_reaches_34 : decode cX11_reaches 34 = .ok (.iload 4, 2) := by decide +kernel
set_option maxRecDepth 20000 in
theorem ggX11_reaches_X11_yards : GoodIn wsX11_reaches wsX11_yards := goodIn_r _ [18, 19, 20, 21, 5, 22, 23, 24, 25, 26, 1, 27, 28, 29, 30, 31, 32, 33, 34, 35, 36, 37, 38, 39, 40, 41, 42, 43, 44, 45, 46, 47, 48, 49, 50, 51, 52] (by decide +kernel) (by decide +kernel)
set_option maxRecDepth 20000 in
theorem gX11_reaches_X11_yards : GoodIn wsX11_reaches (wsV RX11 139 RX11 yX11_yards wsX11_yards) := goodIn_app (goodIn_of _ (by decide +kernel)) ggX11_reaches_X11_yards
theorem dX11_reaches_36 : decode cX11_reaches 36 = .ok (.invokevirtual 139, 3) := by decide +kernel
theorem dX11_reaches_39 : decode cX11_reaches 39 = .ok (.iconst 1, 1) := by decide +kernel
theorem dX11_reaches_40 : decode cX11_reaches 40 = .ok (.if_icmp .gt 16, 3) := by decide +kernel
theorem dX11_reaches_56 : decode cX11_reaches 56 = .ok (.iconst 0, 1) := by decide +kernel
theorem dX11_reaches_57 : decode cX11_reaches 57 = .ok (.ireturn, 1) := by decide +kernel
theorem dX11_reaches_43 : decode cX11_reaches 43 = .ok (.aload_n 0, 1) := by decide +kernel
theorem dX11_reaches_44 : decode cX11_reaches 44 = .ok (.iload_n 2, 1) := by decide +kernel
theorem dX11_reaches_45 : decode cX11_reaches 45 = .ok (.iconst 2, 1) := by decide +kernel
theorem dX11_reaches_46 : decode cX11_reaches 46 = .ok (.invokevirtual 97, 3) := by decide +kernel
theorem dX11_reaches_49 : decode cX11_reaches 49 = .ok (.ifCond .le 7, 3) := by decide +kernel
theorem dX11_reaches_52 : decode cX11_reaches 52 = .ok (.iconst 1, 1) := by decide +kernel
theorem dX11_reaches_53 : decode cX11_reaches 53 = .ok (.goto 4, 3) := by decide +kernel
theorem dX11_reaches_23 : decode cX11_reaches 23 = .ok (.aload_n 0, 1) := by decide +kernel
theorem dX11_reaches_24 : decode cX11_reaches 24 = .ok (.iload 4, 2) := by decide +kernel
theorem dX11_reaches_26 : decode cX11_reaches 26 = .ok (.invokevirtual 142, 3) := by decide +kernel
theorem dX11_reaches_29 : decode cX11_reaches 29 = .ok (.ifCond .eq 29, 3) := by decide +kernel
theorem dX11_reaches_58 : decode cX11_reaches 58 = .ok (.aload_n 0, 1) := by decide +kernel
theorem dX11_reaches_59 : decode cX11_reaches 59 = .ok (.iload 4, 2) := by decide +kernel
set_option maxRecDepth 20000 in
theorem ggX11_reaches_X11_xOf : GoodIn wsX11_reaches wsX11_xOf := goodIn_r _ [22, 23, 24, 25, 5, 26, 1, 34, 35, 36, 37, 38, 39, 40, 41, 42, 43, 44, 45, 46, 47, 48, 49, 50, 51, 52] (by decide +kernel) (by decide +kernel)
set_option maxRecDepth 20000 in
theorem gX11_reaches_X11_xOf : GoodIn wsX11_reaches (wsV RX11 110 RX11 yX11_xOf wsX11_xOf) := goodIn_app (goodIn_of _ (by decide +kernel)) ggX11_reaches_X11_xOf
theorem dX11_reaches_61 : decode cX11_reaches 61 = .ok (.invokevirtual 110, 3) := by decide +kernel
theorem dX11_reaches_64 : decode cX11_reaches 64 = .ok (.aload_n 0, 1) := by decide +kernel
theorem dX11_reaches_65 : decode cX11_reaches 65 = .ok (.iload_n 3, 1) := by decide +kernel
theorem dX11_reaches_66 : decode cX11_reaches 66 = .ok (.invokevirtual 110, 3) := by decide +kernel
theorem dX11_reaches_69 : decode cX11_reaches 69 = .ok (.isub, 1) := by decide +kernel
theorem dX11_reaches_70 : decode cX11_reaches 70 = .ok (.istore 5, 2) := by decide +kernel
theorem dX11_reaches_72 : decode cX11_reaches 72 = .ok (.aload_n 0, 1) := by decide +kernel
theorem dX11_reaches_73 : decode cX11_reaches 73 = .ok (.iload_n 3, 1) := by decide +kernel
theorem dX11_reaches_74 : decode cX11_reaches 74 = .ok (.iload 4, 2) := by decide +kernel
theorem dX11_reaches_76 : decode cX11_reaches 76 = .ok (.invokevirtual 139, 3) := by decide +kernel
theorem dX11_reaches_79 : decode cX11_reaches 79 = .ok (.aload_n 0, 1) := by decide +kernel
theorem dX11_reaches_80 : decode cX11_reaches 80 = .ok (.iload_n 2, 1) := by decide +kernel
theorem dX11_reaches_81 : decode cX11_reaches 81 = .ok (.iconst 2, 1) := by decide +kernel
theorem dX11_reaches_82 : decode cX11_reaches 82 = .ok (.invokevirtual 97, 3) := by decide +kernel
theorem dX11_reaches_85 : decode cX11_reaches 85 = .ok (.iload 5, 2) := by decide +kernel
theorem dX11_reaches_115 : decode cX11_reaches 115 = .ok (.iadd, 1) := by decide +kernel
theorem dX11_reaches_116 : decode cX11_reaches 116 = .ok (.if_icmp .gt 7, 3) := by decide +kernel
theorem dX11_reaches_123 : decode cX11_reaches 123 = .ok (.iconst 0, 1) := by decide +kernel
theorem dX11_reaches_124 : decode cX11_reaches 124 = .ok (.ireturn, 1) := by decide +kernel
theorem dX11_reaches_119 : decode cX11_reaches 119 = .ok (.iconst 1, 1) := by decide +kernel
theorem dX11_reaches_120 : decode cX11_reaches 120 = .ok (.goto 4, 3) := by decide +kernel
theorem dX11_reaches_87 : decode cX11_reaches 87 = .ok (.ifCond .le 12, 3) := by decide +kernel
theorem dX11_reaches_99 : decode cX11_reaches 99 = .ok (.iload 5, 2) := by decide +kernel
theorem dX11_reaches_101 : decode cX11_reaches 101 = .ok (.ifCond .ge 13, 3) := by decide +kernel
theorem dX11_reaches_114 : decode cX11_reaches 114 = .ok (.iconst 0, 1) := by decide +kernel
theorem dX11_reaches_104 : decode cX11_reaches 104 = .ok (.aload_n 0, 1) := by decide +kernel
theorem dX11_reaches_105 : decode cX11_reaches 105 = .ok (.getfield 7, 3) := by decide +kernel
theorem dX11_reaches_108 : decode cX11_reaches 108 = .ok (.iconst 3, 1) := by decide +kernel
theorem dX11_reaches_109 : decode cX11_reaches 109 = .ok (.iaload, 1) := by decide +kernel
theorem dX11_reaches_110 : decode cX11_reaches 110 = .ok (.ineg, 1) := by decide +kernel
theorem dX11_reaches_111 : decode cX11_reaches 111 = .ok (.goto 4, 3) := by decide +kernel
theorem dX11_reaches_90 : decode cX11_reaches 90 = .ok (.aload_n 0, 1) := by decide +kernel
theorem dX11_reaches_91 : decode cX11_reaches 91 = .ok (.getfield 7, 3) := by decide +kernel
theorem dX11_reaches_94 : decode cX11_reaches 94 = .ok (.iconst 3, 1) := by decide +kernel
theorem dX11_reaches_95 : decode cX11_reaches 95 = .ok (.iaload, 1) := by decide +kernel
theorem dX11_reaches_96 : decode cX11_reaches 96 = .ok (.goto 19, 3) := by decide +kernel
theorem dX11_hears_0 : decode cX11_hears 0 = .ok (.aload_n 0, 1) := by decide +kernel
theorem dX11_hears_1 : decode cX11_hears 1 = .ok (.iload_n 1, 1) := by decide +kernel
theorem dX11_hears_2 : decode cX11_hears 2 = .ok (.iconst 0, 1) := by decide +kernel
set_option maxRecDepth 20000 in
theorem ggX11_hears_X11_of : GoodIn wsX11_hears wsX11_of := goodIn_r _ [5, 6, 38, 39, 40, 41, 42, 43, 44, 45, 46, 47, 48, 49, 50, 51, 52, 53, 54, 55, 56] (by decide +kernel) (by decide +kernel)
set_option maxRecDepth 20000 in
theorem gX11_hears_X11_of : GoodIn wsX11_hears (wsV RX11 97 RX11 yX11_of wsX11_of) := goodIn_app (goodIn_of _ (by decide +kernel)) ggX11_hears_X11_of
theorem dX11_hears_3 : decode cX11_hears 3 = .ok (.invokevirtual 97, 3) := by decide +kernel
theorem dX11_hears_6 : decode cX11_hears 6 = .ok (.istore_n 3, 1) := by decide +kernel
theorem dX11_hears_7 : decode cX11_hears 7 = .ok (.iload_n 3, 1) := by decide +kernel
theorem dX11_hears_8 : decode cX11_hears 8 = .ok (.iconst 5, 1) := by decide +kernel
theorem dX11_hears_9 : decode cX11_hears 9 = .ok (.if_icmp .ne 5, 3) := by decide +kernel
theorem dX11_hears_14 : decode cX11_hears 14 = .ok (.aload_n 0, 1) := by decide +kernel
theorem dX11_hears_15 : decode cX11_hears 15 = .ok (.iload_n 2, 1) := by decide +kernel
theorem dX11_hears_16 : decode cX11_hears 16 = .ok (.iconst 0, 1) := by decide +kernel
theorem dX11_hears_17 : decode cX11_hears 17 = .ok (.invokevirtual 97, 3) := by decide +kernel
theorem dX11_hears_20 : decode cX11_hears 20 = .ok (.iconst 5, 1) := by decide +kernel
theorem dX11_hears_21 : decode cX11_hears 21 = .ok (.if_icmp .eq 33, 3) := by decide +kernel
theorem dX11_hears_54 : decode cX11_hears 54 = .ok (.iconst 0, 1) := by decide +kernel
theorem dX11_hears_55 : decode cX11_hears 55 = .ok (.ireturn, 1) := by decide +kernel
theorem dX11_hears_24 : decode cX11_hears 24 = .ok (.iload_n 3, 1) := by decide +kernel
theorem dX11_hears_25 : decode cX11_hears 25 = .ok (.iconst 1, 1) := by decide +kernel
theorem dX11_hears_26 : decode cX11_hears 26 = .ok (.if_icmp .eq 28, 3) := by decide +kernel
theorem dX11_hears_29 : decode cX11_hears 29 = .ok (.iload_n 3, 1) := by decide +kernel
theorem dX11_hears_30 : decode cX11_hears 30 = .ok (.iconst 4, 1) := by decide +kernel
theorem dX11_hears_31 : decode cX11_hears 31 = .ok (.if_icmp .ne 25, 3) := by decide +kernel
theorem dX11_hears_56 : decode cX11_hears 56 = .ok (.aload_n 0, 1) := by decide +kernel
theorem dX11_hears_57 : decode cX11_hears 57 = .ok (.iload_n 1, 1) := by decide +kernel
theorem dX11_hears_58 : decode cX11_hears 58 = .ok (.iload_n 2, 1) := by decide +kernel
set_option maxRecDepth 20000 in
theorem ggX11_hears_X11_reaches : GoodIn wsX11_hears wsX11_reaches := goodIn_r _ [29, 6, 1, 2, 3, 4, 5, 30, 31, 32, 33, 34, 35, 36, 37, 7, 8, 9, 10, 11, 12, 13, 14, 15, 16, 17, 18, 19, 20, 21, 22, 23, 24, 25, 38, 39, 40, 41, 42, 43, 44, 45, 46, 47, 48, 49, 50, 51, 52, 53, 54, 55, 56] (by decide +kernel) (by decide +kernel)
set_option maxRecDepth 20000 in
theorem gX11_hears_X11_reaches : GoodIn wsX11_hears (wsV RX11 145 RX11 yX11_reaches wsX11_reaches) := goodIn_app (goodIn_of _ (by decide +kernel)) ggX11_hears_X11_reaches
theorem dX11_hears_59 : decode cX11_hears 59 = .ok (.invokevirtual 145, 3) := by decide +kernel
theorem dX11_hears_62 : decode cX11_hears 62 = .ok (.ireturn, 1) := by decide +kernel
theorem dX11_hears_34 : decode cX11_hears 34 = .ok (.aload_n 0, 1) := by decide +kernel
theorem dX11_hears_35 : decode cX11_hears 35 = .ok (.aload_n 0, 1) := by decide +kernel
theorem dX11_hears_36 : decode cX11_hears 36 = .ok (.iload_n 1, 1) := by decide +kernel
theorem dX11_hears_37 : decode cX11_hears 37 = .ok (.iconst 1, 1) := by decide +kernel
theorem dX11_hears_38 : decode cX11_hears 38 = .ok (.invokevirtual 97, 3) := by decide +kernel
theorem dX11_hears_41 : decode cX11_hears 41 = .ok (.aload_n 0, 1) := by decide +kernel
theorem dX11_hears_42 : decode cX11_hears 42 = .ok (.iload_n 2, 1) := by decide +kernel
theorem dX11_hears_43 : decode cX11_hears 43 = .ok (.iconst 1, 1) := by decide +kernel
theorem dX11_hears_44 : decode cX11_hears 44 = .ok (.invokevirtual 97, 3) := by decide +kernel
set_option maxRecDepth 20000 in
theorem ggX11_hears_X11_yards : GoodIn wsX11_hears wsX11_yards := goodIn_r _ [10, 11, 12, 13, 4, 14, 15, 16, 17, 18, 6, 19, 20, 21, 22, 23, 24, 25, 38, 39, 40, 41, 42, 43, 44, 45, 46, 47, 48, 49, 50, 51, 52, 53, 54, 55, 56] (by decide +kernel) (by decide +kernel)
set_option maxRecDepth 20000 in
theorem gX11_hears_X11_yards : GoodIn wsX11_hears (wsV RX11 139 RX11 yX11_yards wsX11_yards) := goodIn_app (goodIn_of _ (by decide +kernel)) ggX11_hears_X11_yards
theorem dX11_hears_47 : decode cX11_hears 47 = .ok (.invokevirtual 139, 3) := by decide +kernel
theorem dX11_hears_50 : decode cX11_hears 50 = .ok (.iconst 1, 1) := by decide +kernel
theorem dX11_hears_51 : decode cX11_hears 51 = .ok (.if_icmp .eq 5, 3) := by decide +kernel
theorem dX11_hears_12 : decode cX11_hears 12 = .ok (.iconst 1, 1) := by decide +kernel
theorem dX11_hears_13 : decode cX11_hears 13 = .ok (.ireturn, 1) := by decide +kernel
theorem dX11_breaks_0 : decode cX11_breaks 0 = .ok (.iload_n 1, 1) := by decide +kernel
theorem dX11_breaks_1 : decode cX11_breaks 1 = .ok (.iload_n 2, 1) := by decide +kernel
theorem dX11_breaks_2 : decode cX11_breaks 2 = .ok (.if_icmp .eq 35, 3) := by decide +kernel
theorem dX11_breaks_37 : decode cX11_breaks 37 = .ok (.iconst 0, 1) := by decide +kernel
theorem dX11_breaks_38 : decode cX11_breaks 38 = .ok (.ireturn, 1) := by decide +kernel
theorem dX11_breaks_5 : decode cX11_breaks 5 = .ok (.aload_n 0, 1) := by decide +kernel
theorem dX11_breaks_6 : decode cX11_breaks 6 = .ok (.iload_n 1, 1) := by decide +kernel
theorem dX11_breaks_7 : decode cX11_breaks 7 = .ok (.iconst 0, 1) := by decide +kernel
set_option maxRecDepth 20000 in
theorem ggX11_breaks_X11_of : GoodIn wsX11_breaks wsX11_of := goodIn_r _ [5, 6, 62, 63, 64, 65, 66, 67, 68, 69, 70, 71, 72, 73, 74, 75, 76, 77, 78, 79, 80] (by decide +kernel) (by decide +kernel)
set_option maxRecDepth 20000 in
theorem gX11_breaks_X11_of : GoodIn wsX11_breaks (wsV RX11 97 RX11 yX11_of wsX11_of) := goodIn_app (goodIn_of _ (by decide +kernel)) ggX11_breaks_X11_of
theorem dX11_breaks_8 : decode cX11_breaks 8 = .ok (.invokevirtual 97, 3) := by decide +kernel
theorem dX11_breaks_11 : decode cX11_breaks 11 = .ok (.iconst 5, 1) := by decide +kernel
theorem dX11_breaks_12 : decode cX11_breaks 12 = .ok (.if_icmp .eq 25, 3) := by decide +kernel
theorem dX11_breaks_15 : decode cX11_breaks 15 = .ok (.aload_n 0, 1) := by decide +kernel
theorem dX11_breaks_16 : decode cX11_breaks 16 = .ok (.iload_n 1, 1) := by decide +kernel
theorem dX11_breaks_17 : decode cX11_breaks 17 = .ok (.iload_n 2, 1) := by decide +kernel
set_option maxRecDepth 20000 in
theorem ggX11_breaks_X11_sees : GoodIn wsX11_breaks wsX11_sees := goodIn_r _ [10, 1, 2, 3, 4, 5, 6, 11, 12, 13, 14, 15, 16, 17, 18, 19, 20, 21, 22, 23, 24, 25, 26, 27, 28, 29, 30, 31, 32, 33, 34, 35, 36, 37, 38, 39, 40, 41, 42, 43, 44, 45, 62, 63, 64, 65, 66, 67, 68, 69, 70, 71, 72, 73, 74, 75, 76, 77, 78, 79, 80] (by decide +kernel) (by decide +kernel)
set_option maxRecDepth 20000 in
theorem gX11_breaks_X11_sees : GoodIn wsX11_breaks (wsV RX11 148 RX11 yX11_sees wsX11_sees) := goodIn_app (goodIn_of _ (by decide +kernel)) ggX11_breaks_X11_sees
theorem dX11_breaks_18 : decode cX11_breaks 18 = .ok (.invokevirtual 148, 3) := by decide +kernel
theorem dX11_breaks_21 : decode cX11_breaks 21 = .ok (.ifCond .eq 16, 3) := by decide +kernel
theorem dX11_breaks_24 : decode cX11_breaks 24 = .ok (.aload_n 0, 1) := by decide +kernel
theorem dX11_breaks_25 : decode cX11_breaks 25 = .ok (.iload_n 1, 1) := by decide +kernel
theorem dX11_breaks_26 : decode cX11_breaks 26 = .ok (.iload_n 2, 1) := by decide +kernel
set_option maxRecDepth 20000 in
theorem ggX11_breaks_X11_hears : GoodIn wsX11_breaks wsX11_hears := goodIn_r _ [49, 1, 2, 3, 4, 5, 6, 50, 51, 52, 53, 35, 36, 37, 38, 15, 16, 17, 18, 39, 40, 41, 11, 12, 13, 14, 54, 55, 56, 57, 58, 59, 60, 61, 23, 24, 25, 26, 62, 63, 64, 65, 66, 67, 68, 69, 70, 71, 72, 73, 74, 75, 76, 77, 78, 79, 80] (by decide +kernel) (by decide +kernel)
set_option maxRecDepth 20000 in
theorem gX11_breaks_X11_hears : GoodIn wsX11_breaks (wsV RX11 151 RX11 yX11_hears wsX11_hears) := goodIn_app (goodIn_of _ (by decide +kernel)) ggX11_breaks_X11_hears
theorem dX11_breaks_27 : decode cX11_breaks 27 = .ok (.invokevirtual 151, 3) := by decide +kernel
theorem dX11_breaks_30 : decode cX11_breaks 30 = .ok (.ifCond .eq 7, 3) := by decide +kernel
theorem dX11_breaks_33 : decode cX11_breaks 33 = .ok (.iconst 1, 1) := by decide +kernel
theorem dX11_breaks_34 : decode cX11_breaks 34 = .ok (.goto 4, 3) := by decide +kernel
set_option maxHeartbeats 4000000 in
set_option maxRecDepth 100000 in
theorem n_X11_sees (l : Launch) (D : va_G) (cy : Nat → ClassId) (mW : Nat) (mH : Nat) (mS : Nat) (mP : Nat) (mm : Nat) (mm_now : Nat) (mm_kept : Nat) (mm_isKept : Nat) (mm_refused : Nat) (mm_lineFrom : Int32) (mm_lineTo : Int32) (mm_stands : Nat) (mm_far : Nat) (mm_queue : Nat) (mm_queued : Int32) (mm_meets : Nat) (mm_bytes : Nat) (bl : Nat) (ta : Nat) (tl : Nat) (mm_token : Int32) (mm_value : Int32) (mm_next : Nat) (tk : Nat) (mm_now_f : Nat → Int32) (pa : Nat) (pb : Nat) (sz : Nat) (hF : mV mm_now_f mW mH mS mP) (hpa : pa < 5) (hpb : pb < 5) : Met l yX11_sees wsX11_sees ({ frames := 4, cells := 0, slots := 0, locals := 95 }) (va_Pc [.ref mm, .int (nI pa), .int (nI pb)] (kPre D cy [(mm, .inr (11, [.ref mm_now, .ref mm_kept, .ref mm_isKept, .ref mm_refused, .int mm_lineFrom, .int mm_lineTo, .ref mm_stands, .ref mm_far, .ref mm_queue, .int mm_queued, .ref mm_meets, .ref mm_bytes, .int (nI bl), .int (nI ta), .int (nI tl), .int mm_token, .int mm_value, .ref mm_next, .int (nI tk)])), (mm_now, .inl (cy 1, 122, .inl mm_now_f))] sz)) (va_Qi (fun (r : Int32) (u : Int32 × Int32) => (r = 1 ∧ True) ∨ (r = 0 ∧ True)) (fun (u : Int32 × Int32) t => va_P D vwCl ([(mm, .inr (11, [.ref mm_now, .ref mm_kept, .ref mm_isKept, .ref mm_refused, .int u.1, .int u.2, .ref mm_stands, .ref mm_far, .ref mm_queue, .int mm_queued, .ref mm_meets, .ref mm_bytes, .int (nI bl), .int (nI ta), .int (nI tl), .int mm_token, .int mm_value, .ref mm_next, .int (nI tk)])), (mm_now, .inl (cy 1, 122, .inl mm_now_f))]) t.heap ∧ va_D (va_A [(mm, .inr (11, [.ref mm_now, .ref mm_kept, .ref mm_isKept, .ref mm_refused, .int mm_lineFrom, .int mm_lineTo, .ref mm_stands, .ref mm_far, .ref mm_queue, .int mm_queued, .ref mm_meets, .ref mm_bytes, .int (nI bl), .int (nI ta), .int (nI tl), .int mm_token, .int mm_value, .ref mm_next, .int (nI tk)])), (mm_now, .inl (cy 1, 122, .inl mm_now_f))] sz) ([(mm, .inr (11, [.ref mm_now, .ref mm_kept, .ref mm_isKept, .ref mm_refused, .int u.1, .int u.2, .ref mm_stands, .ref mm_far, .ref mm_queue, .int mm_queued, .ref mm_meets, .ref mm_bytes, .int (nI bl), .int (nI ta), .int (nI tl), .int mm_token, .int mm_value, .ref mm_next, .int (nI tk)])), (mm_now, .inl (cy 1, 122, .inl mm_now_f))])) (va_A [(mm, .inr (11, [.ref mm_now, .ref mm_kept, .ref mm_isKept, .ref mm_refused, .int mm_lineFrom, .int mm_lineTo, .ref mm_stands, .ref mm_far, .ref mm_queue, .int mm_queued, .ref mm_meets, .ref mm_bytes, .int (nI bl), .int (nI ta), .int (nI tl), .int mm_token, .int mm_value, .ref mm_next, .int (nI tk)])), (mm_now, .inl (cy 1, 122, .inl mm_now_f))] sz)) 0 0 (va_A [(mm, .inr (11, [.ref mm_now, .ref mm_kept, .ref mm_isKept, .ref mm_refused, .int mm_lineFrom, .int mm_lineTo, .ref mm_stands, .ref mm_far, .ref mm_queue, .int mm_queued, .ref mm_meets, .ref mm_bytes, .int (nI bl), .int (nI ta), .int (nI tl), .int mm_token, .int mm_value, .ref mm_next, .int (nI tk)])), (mm_now, .inl (cy 1, 122, .inl mm_now_f))] sz) := by
  refine Met.ofW (cc := cX11_sees) (maxL := 4) (ret := (some .boolean)) (by decide) rfl ?_
  intro p e s m args below meth c s₁ B hml hv
  obtain ⟨rfl, hsz, hP, hKA, hD0⟩ := hv
  have hx := B.exec
  have hb := B.bytes
  have hr := B.returns
  have hts := atoms_spec (ws := wsX11_sees) B.pre
  have hown : s.vm.findClass RX11 = some m.cls := findClass_of_methodNamed B.named
  have hlocks := B.notSynchronized
  subst hsz
  have hK := hKA.1
  have hD := hD0.self (sz := s.heap.size)
  generalize hAe : va_A [(mm, .inr (11, [.ref mm_now, .ref mm_kept, .ref mm_isKept, .ref mm_refused, .int mm_lineFrom, .int mm_lineTo, .ref mm_stands, .ref mm_far, .ref mm_queue, .int mm_queued, .ref mm_meets, .ref mm_bytes, .int (nI bl), .int (nI ta), .int (nI tl), .int mm_token, .int mm_value, .ref mm_next, .int (nI tk)])), (mm_now, .inl (cy 1, 122, .inl mm_now_f))] s.heap.size = A at hD ⊢
  have hA : ∀ q : Nat, s.heap.size ≤ q → A q := fun q h => by rw [← hAe]; exact Or.inr h
  have hS : va_S A s.heap s.heap [] := va_S.rf
  have hP : va_P D vwCl [(mm, .inr (11, [.ref mm_now, .ref mm_kept, .ref mm_isKept, .ref mm_refused, .int mm_lineFrom, .int mm_lineTo, .ref mm_stands, .ref mm_far, .ref mm_queue, .int mm_queued, .ref mm_meets, .ref mm_bytes, .int (nI bl), .int (nI ta), .int (nI tl), .int mm_token, .int mm_value, .ref mm_next, .int (nI tk)])), (mm_now, .inl (cy 1, 122, .inl mm_now_f))] s.heap := hP
  have hl := lv_entry ([.ref mm, .int (nI pa), .int (nI pb)]) (n := 4) (Nat.le_of_ble_eq_true rfl)
  rw [lg_entry_eq]
  generalize (lg_sl ([.ref mm, .int (nI pa), .int (nI pb)]) ++ List.replicate (4 - (lg_sl ([.ref mm, .int (nI pa), .int (nI pb)])).length) Slot.unset).toArray = ls at hl ⊢
  have hl : lv_has ls 4 [(0, .ref mm), (1, .int (nI pa)), (2, .int (nI pb))] := hl
  refine qW (fun QF hQF => ?_)
  obtain ⟨hW2, hW6, hH2, hH6, hSe, hS4, hS6, hP5⟩ := hF.rng
  refine lv_aload_n hx hb dX11_sees_0 rfl (lv_at hl 0 rfl) ?_
  refine lv_iload_n hx hb dX11_sees_1 rfl (lv_at hl 1 rfl) ?_
  refine lv_iconst (v := 0) hx hb dX11_sees_2 (by decide) ?_
  refine rd_i (va_runV (As := [.int (nI pa), .int 0]) (rest := []) ⟨hx, hb, hml, hown, hts⟩ (n_X11_of l D cy mW mH mS mP mm mm_now mm_kept mm_isKept mm_refused mm_lineFrom mm_lineTo mm_stands mm_far mm_queue mm_queued mm_meets mm_bytes bl ta tl mm_token mm_value mm_next tk mm_now_f pa 0 _ (by first | assumption | omega) (by first | assumption | omega) (by first | assumption | omega)) (cwV 2 hts gX11_sees_X11_of rfl rfl rfl (by decide +kernel) ⟨Nat.le_of_ble_eq_true rfl, Nat.le_of_ble_eq_true rfl⟩) (pV (ci := 11) (k := 0) hKA (hP.sub (ws' := [(mm, .inr (11, [.ref mm_now, .ref mm_kept, .ref mm_isKept, .ref mm_refused, .int mm_lineFrom, .int mm_lineTo, .ref mm_stands, .ref mm_far, .ref mm_queue, .int mm_queued, .ref mm_meets, .ref mm_bytes, .int (nI bl), .int (nI ta), .int (nI tl), .int mm_token, .int mm_value, .ref mm_next, .int (nI tk)])), (mm_now, .inl (cy 1, 122, .inl mm_now_f))]) [0, 1] rfl) (hD.sub (ws' := [(mm, .inr (11, [.ref mm_now, .ref mm_kept, .ref mm_isKept, .ref mm_refused, .int mm_lineFrom, .int mm_lineTo, .ref mm_stands, .ref mm_far, .ref mm_queue, .int mm_queued, .ref mm_meets, .ref mm_bytes, .int (nI bl), .int (nI ta), .int (nI tl), .int mm_token, .int mm_value, .ref mm_next, .int (nI tk)])), (mm_now, .inl (cy 1, 122, .inl mm_now_f))]) [0, 1] (by decide) rfl) rfl rfl) rfl rfl hl.1 rfl (lv_room (Nat.le_of_ble_eq_true rfl)) dX11_sees_3 ⟨Nat.le_of_ble_eq_true rfl, Nat.le_of_ble_eq_true rfl⟩) hP hS hA (fun r1 H locs hwr1 hP hS => ?_)
  have hwr1 : r1 = mm_now_f (5 + 3 * pa + 0) := hwr1
  subst hwr1
  refine lv_iconst (v := 5) hx hb dX11_sees_6 (by decide) ?_
  refine lv_icmp_ne (tgt := 12) hx hb dX11_sees_7 (by decide) (fun c2 => ?_) (fun c2 => ?_)
  · skip
    refine lv_aload_n hx hb dX11_sees_12 rfl (lv_at hl 0 rfl) ?_
    refine lv_iload_n hx hb dX11_sees_13 rfl (lv_at hl 2 rfl) ?_
    refine lv_iconst (v := 0) hx hb dX11_sees_14 (by decide) ?_
    refine rd_i (va_runV (As := [.int (nI pb), .int 0]) (rest := []) ⟨hx, hb, hml, hown, hts⟩ (n_X11_of l D cy mW mH mS mP mm mm_now mm_kept mm_isKept mm_refused mm_lineFrom mm_lineTo mm_stands mm_far mm_queue mm_queued mm_meets mm_bytes bl ta tl mm_token mm_value mm_next tk mm_now_f pb 0 _ (by first | assumption | omega) (by first | assumption | omega) (by first | assumption | omega)) (cwV 2 hts gX11_sees_X11_of rfl rfl rfl (by decide +kernel) ⟨Nat.le_of_ble_eq_true rfl, Nat.le_of_ble_eq_true rfl⟩) (pV (ci := 11) (k := 0) hKA (hP.sub (ws' := [(mm, .inr (11, [.ref mm_now, .ref mm_kept, .ref mm_isKept, .ref mm_refused, .int mm_lineFrom, .int mm_lineTo, .ref mm_stands, .ref mm_far, .ref mm_queue, .int mm_queued, .ref mm_meets, .ref mm_bytes, .int (nI bl), .int (nI ta), .int (nI tl), .int mm_token, .int mm_value, .ref mm_next, .int (nI tk)])), (mm_now, .inl (cy 1, 122, .inl mm_now_f))]) [0, 1] rfl) (hD.sub (ws' := [(mm, .inr (11, [.ref mm_now, .ref mm_kept, .ref mm_isKept, .ref mm_refused, .int mm_lineFrom, .int mm_lineTo, .ref mm_stands, .ref mm_far, .ref mm_queue, .int mm_queued, .ref mm_meets, .ref mm_bytes, .int (nI bl), .int (nI ta), .int (nI tl), .int mm_token, .int mm_value, .ref mm_next, .int (nI tk)])), (mm_now, .inl (cy 1, 122, .inl mm_now_f))]) [0, 1] (by decide) rfl) rfl rfl) rfl rfl hl.1 rfl (lv_room (Nat.le_of_ble_eq_true rfl)) dX11_sees_15 ⟨Nat.le_of_ble_eq_true rfl, Nat.le_of_ble_eq_true rfl⟩) hP hS hA (fun r3 H locs hwr3 hP hS => ?_)
    have hwr3 : r3 = mm_now_f (5 + 3 * pb + 0) := hwr3
    subst hwr3
    refine lv_iconst (v := 3) hx hb dX11_sees_18 (by decide) ?_
    have j50 : ∀ (s1_50 : Int32) (bs1_50 : s1_50 = 1 ∨ s1_50 = 0) (H : Heap) (locs : List Loc), va_P D vwCl [(mm, .inr (11, [.ref mm_now, .ref mm_kept, .ref mm_isKept, .ref mm_refused, .int mm_lineFrom, .int mm_lineTo, .ref mm_stands, .ref mm_far, .ref mm_queue, .int mm_queued, .ref mm_meets, .ref mm_bytes, .int (nI bl), .int (nI ta), .int (nI tl), .int mm_token, .int mm_value, .ref mm_next, .int (nI tk)])), (mm_now, .inl (cy 1, 122, .inl mm_now_f))] H → va_D A [(mm, .inr (11, [.ref mm_now, .ref mm_kept, .ref mm_isKept, .ref mm_refused, .int mm_lineFrom, .int mm_lineTo, .ref mm_stands, .ref mm_far, .ref mm_queue, .int mm_queued, .ref mm_meets, .ref mm_bytes, .int (nI bl), .int (nI ta), .int (nI tl), .int mm_token, .int mm_value, .ref mm_next, .int (nI tk)])), (mm_now, .inl (cy 1, 122, .inl mm_now_f))] → va_S A s.heap H locs → ∀ ls : Array Slot, lv_has ls 4 [(0, .ref mm), (1, .int (nI pa)), (2, .int (nI pb))] → W p l e (headSpec wsX11_sees ({ frames := 4, cells := 0, slots := 0, locals := 95 })).room s m [.ref mm, .int (nI pa), .int (nI pb)].toArray below meth c H locs 0 0 QF (F0 m 50 ls [.int s1_50]) := by
      intro s1_50 bs1_50 H locs hP hD hS ls hl
      refine lv_istore_n (lv' := [(3, .int s1_50), (0, .ref mm), (1, .int (nI pa)), (2, .int (nI pb))]) hx hb dX11_sees_50 rfl hl (by decide) rfl (fun ls hl => ?_)
      refine lv_aload_n hx hb dX11_sees_51 rfl (lv_at hl 1 rfl) ?_
      refine lv_iload_n hx hb dX11_sees_52 rfl (lv_at hl 2 rfl) ?_
      refine lv_iconst (v := 0) hx hb dX11_sees_53 (by decide) ?_
      refine rd_i (va_runV (As := [.int (nI pa), .int 0]) (rest := []) ⟨hx, hb, hml, hown, hts⟩ (n_X11_of l D cy mW mH mS mP mm mm_now mm_kept mm_isKept mm_refused mm_lineFrom mm_lineTo mm_stands mm_far mm_queue mm_queued mm_meets mm_bytes bl ta tl mm_token mm_value mm_next tk mm_now_f pa 0 _ (by first | assumption | omega) (by first | assumption | omega) (by first | assumption | omega)) (cwV 2 hts gX11_sees_X11_of rfl rfl rfl (by decide +kernel) ⟨Nat.le_of_ble_eq_true rfl, Nat.le_of_ble_eq_true rfl⟩) (pV (ci := 11) (k := 0) hKA (hP.sub (ws' := [(mm, .inr (11, [.ref mm_now, .ref mm_kept, .ref mm_isKept, .ref mm_refused, .int mm_lineFrom, .int mm_lineTo, .ref mm_stands, .ref mm_far, .ref mm_queue, .int mm_queued, .ref mm_meets, .ref mm_bytes, .int (nI bl), .int (nI ta), .int (nI tl), .int mm_token, .int mm_value, .ref mm_next, .int (nI tk)])), (mm_now, .inl (cy 1, 122, .inl mm_now_f))]) [0, 1] rfl) (hD.sub (ws' := [(mm, .inr (11, [.ref mm_now, .ref mm_kept, .ref mm_isKept, .ref mm_refused, .int mm_lineFrom, .int mm_lineTo, .ref mm_stands, .ref mm_far, .ref mm_queue, .int mm_queued, .ref mm_meets, .ref mm_bytes, .int (nI bl), .int (nI ta), .int (nI tl), .int mm_token, .int mm_value, .ref mm_next, .int (nI tk)])), (mm_now, .inl (cy 1, 122, .inl mm_now_f))]) [0, 1] (by decide) rfl) rfl rfl) rfl rfl hl.1 rfl (lv_room (Nat.le_of_ble_eq_true rfl)) dX11_sees_54 ⟨Nat.le_of_ble_eq_true rfl, Nat.le_of_ble_eq_true rfl⟩) hP hS hA (fun r4 H locs hwr4 hP hS => ?_)
      have hwr4 : r4 = mm_now_f (5 + 3 * pa + 0) := hwr4
      subst hwr4
      refine lv_iconst (v := 2) hx hb dX11_sees_57 (by decide) ?_
      refine lv_icmp_eq (tgt := 98) hx hb dX11_sees_58 (by decide) (fun c5 => ?_) (fun c5 => ?_)
      · skip
        refine lv_iconst (v := 0) hx hb dX11_sees_98 (by decide) ?_
        subst hQF
        have hP9 := hP
        have hD9 := hD
        exact W.zret (v := 0) hx hb hr rfl (fun t ht hW => ⟨⟨0, (mm_lineFrom, mm_lineTo), rfl, (Or.inr ⟨rfl, trivial⟩), by rw [ht]; exact hP9, hD9⟩, hS.F ht⟩) hS.2.2 dX11_sees_99
      · skip
        refine lv_aload_n hx hb dX11_sees_61 rfl (lv_at hl 1 rfl) ?_
        refine lv_iload_n hx hb dX11_sees_62 rfl (lv_at hl 3 rfl) ?_
        refine lv_iconst (v := 0) hx hb dX11_sees_63 (by decide) ?_
        refine rd_i (va_runV (As := [.int (nI pb), .int 0]) (rest := []) ⟨hx, hb, hml, hown, hts⟩ (n_X11_of l D cy mW mH mS mP mm mm_now mm_kept mm_isKept mm_refused mm_lineFrom mm_lineTo mm_stands mm_far mm_queue mm_queued mm_meets mm_bytes bl ta tl mm_token mm_value mm_next tk mm_now_f pb 0 _ (by first | assumption | omega) (by first | assumption | omega) (by first | assumption | omega)) (cwV 2 hts gX11_sees_X11_of rfl rfl rfl (by decide +kernel) ⟨Nat.le_of_ble_eq_true rfl, Nat.le_of_ble_eq_true rfl⟩) (pV (ci := 11) (k := 0) hKA (hP.sub (ws' := [(mm, .inr (11, [.ref mm_now, .ref mm_kept, .ref mm_isKept, .ref mm_refused, .int mm_lineFrom, .int mm_lineTo, .ref mm_stands, .ref mm_far, .ref mm_queue, .int mm_queued, .ref mm_meets, .ref mm_bytes, .int (nI bl), .int (nI ta), .int (nI tl), .int mm_token, .int mm_value, .ref mm_next, .int (nI tk)])), (mm_now, .inl (cy 1, 122, .inl mm_now_f))]) [0, 1] rfl) (hD.sub (ws' := [(mm, .inr (11, [.ref mm_now, .ref mm_kept, .ref mm_isKept, .ref mm_refused, .int mm_lineFrom, .int mm_lineTo, .ref mm_stands, .ref mm_far, .ref mm_queue, .int mm_queued, .ref mm_meets, .ref mm_bytes, .int (nI bl), .int (nI ta), .int (nI tl), .int mm_token, .int mm_value, .ref mm_next, .int (nI tk)])), (mm_now, .inl (cy 1, 122, .inl mm_now_f))]) [0, 1] (by decide) rfl) rfl rfl) rfl rfl hl.1 rfl (lv_room (Nat.le_of_ble_eq_true rfl)) dX11_sees_64 ⟨Nat.le_of_ble_eq_true rfl, Nat.le_of_ble_eq_true rfl⟩) hP hS hA (fun r6 H locs hwr6 hP hS => ?_)
        have hwr6 : r6 = mm_now_f (5 + 3 * pb + 0) := hwr6
        subst hwr6
        refine lv_iconst (v := 5) hx hb dX11_sees_67 (by decide) ?_
        refine lv_icmp_eq (tgt := 98) hx hb dX11_sees_68 (by decide) (fun c7 => ?_) (fun c7 => ?_)
        · skip
          refine lv_iconst (v := 0) hx hb dX11_sees_98 (by decide) ?_
          subst hQF
          have hP9 := hP
          have hD9 := hD
          exact W.zret (v := 0) hx hb hr rfl (fun t ht hW => ⟨⟨0, (mm_lineFrom, mm_lineTo), rfl, (Or.inr ⟨rfl, trivial⟩), by rw [ht]; exact hP9, hD9⟩, hS.F ht⟩) hS.2.2 dX11_sees_99
        · skip
          refine lv_iload_n hx hb dX11_sees_71 rfl (lv_at hl 0 rfl) ?_
          refine lv_if_ne (tgt := 98) hx hb dX11_sees_72 (by decide) (fun c8 => ?_) (fun c8 => ?_)
          · skip
            refine lv_iconst (v := 0) hx hb dX11_sees_98 (by decide) ?_
            subst hQF
            have hP9 := hP
            have hD9 := hD
            exact W.zret (v := 0) hx hb hr rfl (fun t ht hW => ⟨⟨0, (mm_lineFrom, mm_lineTo), rfl, (Or.inr ⟨rfl, trivial⟩), by rw [ht]; exact hP9, hD9⟩, hS.F ht⟩) hS.2.2 dX11_sees_99
          · skip
            refine lv_aload_n hx hb dX11_sees_75 rfl (lv_at hl 1 rfl) ?_
            refine lv_aload_n hx hb dX11_sees_76 rfl (lv_at hl 1 rfl) ?_
            refine lv_iload_n hx hb dX11_sees_77 rfl (lv_at hl 2 rfl) ?_
            refine lv_iconst (v := 1) hx hb dX11_sees_78 (by decide) ?_
            refine rd_i (va_runV (As := [.int (nI pa), .int 1]) (rest := [.ref mm]) ⟨hx, hb, hml, hown, hts⟩ (n_X11_of l D cy mW mH mS mP mm mm_now mm_kept mm_isKept mm_refused mm_lineFrom mm_lineTo mm_stands mm_far mm_queue mm_queued mm_meets mm_bytes bl ta tl mm_token mm_value mm_next tk mm_now_f pa 1 _ (by first | assumption | omega) (by first | assumption | omega) (by first | assumption | omega)) (cwV 2 hts gX11_sees_X11_of rfl rfl rfl (by decide +kernel) ⟨Nat.le_of_ble_eq_true rfl, Nat.le_of_ble_eq_true rfl⟩) (pV (ci := 11) (k := 0) hKA (hP.sub (ws' := [(mm, .inr (11, [.ref mm_now, .ref mm_kept, .ref mm_isKept, .ref mm_refused, .int mm_lineFrom, .int mm_lineTo, .ref mm_stands, .ref mm_far, .ref mm_queue, .int mm_queued, .ref mm_meets, .ref mm_bytes, .int (nI bl), .int (nI ta), .int (nI tl), .int mm_token, .int mm_value, .ref mm_next, .int (nI tk)])), (mm_now, .inl (cy 1, 122, .inl mm_now_f))]) [0, 1] rfl) (hD.sub (ws' := [(mm, .inr (11, [.ref mm_now, .ref mm_kept, .ref mm_isKept, .ref mm_refused, .int mm_lineFrom, .int mm_lineTo, .ref mm_stands, .ref mm_far, .ref mm_queue, .int mm_queued, .ref mm_meets, .ref mm_bytes, .int (nI bl), .int (nI ta), .int (nI tl), .int mm_token, .int mm_value, .ref mm_next, .int (nI tk)])), (mm_now, .inl (cy 1, 122, .inl mm_now_f))]) [0, 1] (by decide) rfl) rfl rfl) rfl rfl hl.1 rfl (lv_room (Nat.le_of_ble_eq_true rfl)) dX11_sees_79 ⟨Nat.le_of_ble_eq_true rfl, Nat.le_of_ble_eq_true rfl⟩) hP hS hA (fun r9 H locs hwr9 hP hS => ?_)
            have hwr9 : r9 = mm_now_f (5 + 3 * pa + 1) := hwr9
            subst hwr9
            refine lv_aload_n hx hb dX11_sees_82 rfl (lv_at hl 1 rfl) ?_
            refine lv_iload_n hx hb dX11_sees_83 rfl (lv_at hl 3 rfl) ?_
            refine lv_iconst (v := 1) hx hb dX11_sees_84 (by decide) ?_
            refine rd_i (va_runV (As := [.int (nI pb), .int 1]) (rest := [.int (mm_now_f (5 + 3 * pa + 1)), .ref mm]) ⟨hx, hb, hml, hown, hts⟩ (n_X11_of l D cy mW mH mS mP mm mm_now mm_kept mm_isKept mm_refused mm_lineFrom mm_lineTo mm_stands mm_far mm_queue mm_queued mm_meets mm_bytes bl ta tl mm_token mm_value mm_next tk mm_now_f pb 1 _ (by first | assumption | omega) (by first | assumption | omega) (by first | assumption | omega)) (cwV 2 hts gX11_sees_X11_of rfl rfl rfl (by decide +kernel) ⟨Nat.le_of_ble_eq_true rfl, Nat.le_of_ble_eq_true rfl⟩) (pV (ci := 11) (k := 0) hKA (hP.sub (ws' := [(mm, .inr (11, [.ref mm_now, .ref mm_kept, .ref mm_isKept, .ref mm_refused, .int mm_lineFrom, .int mm_lineTo, .ref mm_stands, .ref mm_far, .ref mm_queue, .int mm_queued, .ref mm_meets, .ref mm_bytes, .int (nI bl), .int (nI ta), .int (nI tl), .int mm_token, .int mm_value, .ref mm_next, .int (nI tk)])), (mm_now, .inl (cy 1, 122, .inl mm_now_f))]) [0, 1] rfl) (hD.sub (ws' := [(mm, .inr (11, [.ref mm_now, .ref mm_kept, .ref mm_isKept, .ref mm_refused, .int mm_lineFrom, .int mm_lineTo, .ref mm_stands, .ref mm_far, .ref mm_queue, .int mm_queued, .ref mm_meets, .ref mm_bytes, .int (nI bl), .int (nI ta), .int (nI tl), .int mm_token, .int mm_value, .ref mm_next, .int (nI tk)])), (mm_now, .inl (cy 1, 122, .inl mm_now_f))]) [0, 1] (by decide) rfl) rfl rfl) rfl rfl hl.1 rfl (lv_room (Nat.le_of_ble_eq_true rfl)) dX11_sees_85 ⟨Nat.le_of_ble_eq_true rfl, Nat.le_of_ble_eq_true rfl⟩) hP hS hA (fun r10 H locs hwr10 hP hS => ?_)
            have hwr10 : r10 = mm_now_f (5 + 3 * pb + 1) := hwr10
            subst hwr10
            refine wr_i (wr := []) (va_runV (As := [.int (mm_now_f (5 + 3 * pa + 1)), .int (mm_now_f (5 + 3 * pb + 1))]) (rest := []) ⟨hx, hb, hml, hown, hts⟩ (n_X11_isClear l D cy mW mH mS mP mm mm_now mm_kept mm_isKept mm_refused mm_lineFrom mm_lineTo mm_stands mm_far mm_queue mm_queued mm_meets mm_bytes bl ta tl mm_token mm_value mm_next tk mm_now_f (mm_now_f (5 + 3 * pa + 1)) (mm_now_f (5 + 3 * pb + 1)) _ (by first | assumption | omega)) (cwV 2 hts gX11_sees_X11_isClear rfl rfl rfl (by decide +kernel) ⟨Nat.le_of_ble_eq_true rfl, Nat.le_of_ble_eq_true rfl⟩) (pV (ci := 11) (k := 0) hKA (hP.sub (ws' := [(mm, .inr (11, [.ref mm_now, .ref mm_kept, .ref mm_isKept, .ref mm_refused, .int mm_lineFrom, .int mm_lineTo, .ref mm_stands, .ref mm_far, .ref mm_queue, .int mm_queued, .ref mm_meets, .ref mm_bytes, .int (nI bl), .int (nI ta), .int (nI tl), .int mm_token, .int mm_value, .ref mm_next, .int (nI tk)])), (mm_now, .inl (cy 1, 122, .inl mm_now_f))]) [0, 1] rfl) (hD.sub (ws' := [(mm, .inr (11, [.ref mm_now, .ref mm_kept, .ref mm_isKept, .ref mm_refused, .int mm_lineFrom, .int mm_lineTo, .ref mm_stands, .ref mm_far, .ref mm_queue, .int mm_queued, .ref mm_meets, .ref mm_bytes, .int (nI bl), .int (nI ta), .int (nI tl), .int mm_token, .int mm_value, .ref mm_next, .int (nI tk)])), (mm_now, .inl (cy 1, 122, .inl mm_now_f))]) [0, 1] (by decide) rfl) rfl rfl) rfl rfl hl.1 rfl (lv_room (Nat.le_of_ble_eq_true rfl)) dX11_sees_88 ⟨Nat.le_of_ble_eq_true rfl, Nat.le_of_ble_eq_true rfl⟩) hP hD hS hA [0, 1] [] rfl rfl (by decide +kernel) (by decide +kernel) (fun r11 ur11 H locs hwr11 hP hD hS => ?_)
            obtain ⟨z12, z13⟩ := ur11
            have hP : va_P D vwCl [(mm, .inr (11, [.ref mm_now, .ref mm_kept, .ref mm_isKept, .ref mm_refused, .int z12, .int z13, .ref mm_stands, .ref mm_far, .ref mm_queue, .int mm_queued, .ref mm_meets, .ref mm_bytes, .int (nI bl), .int (nI ta), .int (nI tl), .int mm_token, .int mm_value, .ref mm_next, .int (nI tk)])), (mm_now, .inl (cy 1, 122, .inl mm_now_f))] H := hP
            have hD : va_D A [(mm, .inr (11, [.ref mm_now, .ref mm_kept, .ref mm_isKept, .ref mm_refused, .int z12, .int z13, .ref mm_stands, .ref mm_far, .ref mm_queue, .int mm_queued, .ref mm_meets, .ref mm_bytes, .int (nI bl), .int (nI ta), .int (nI tl), .int mm_token, .int mm_value, .ref mm_next, .int (nI tk)])), (mm_now, .inl (cy 1, 122, .inl mm_now_f))] := hD
            have hwr11 : (r11 = 1 ∧ True) ∨ (r11 = 0 ∧ True) := hwr11
            refine lv_if_eq (tgt := 98) hx hb dX11_sees_91 (by decide) (fun c14 => ?_) (fun c14 => ?_)
            · skip
              refine lv_iconst (v := 0) hx hb dX11_sees_98 (by decide) ?_
              subst hQF
              have hP9 := hP
              have hD9 := hD
              exact W.zret (v := 0) hx hb hr rfl (fun t ht hW => ⟨⟨0, (z12, z13), rfl, (Or.inr ⟨rfl, trivial⟩), by rw [ht]; exact hP9, hD9⟩, hS.F ht⟩) hS.2.2 dX11_sees_99
            · skip
              refine lv_iconst (v := 1) hx hb dX11_sees_94 (by decide) ?_
              refine lv_goto (tgt := 99) hx hb dX11_sees_95 (by decide) ?_
              subst hQF
              have hP9 := hP
              have hD9 := hD
              exact W.zret (v := 1) hx hb hr rfl (fun t ht hW => ⟨⟨1, (z12, z13), rfl, (Or.inl ⟨rfl, trivial⟩), by rw [ht]; exact hP9, hD9⟩, hS.F ht⟩) hS.2.2 dX11_sees_99
    refine lv_icmp_ne (tgt := 49) hx hb dX11_sees_19 (by decide) (fun c15 => ?_) (fun c15 => ?_)
    · skip
      refine lv_iconst (v := 0) hx hb dX11_sees_49 (by decide) ?_
      exact j50 0 (Or.inr rfl) _ _ hP hD hS ls hl
    · skip
      refine lv_aload_n hx hb dX11_sees_22 rfl (lv_at hl 0 rfl) ?_
      refine lv_aload_n hx hb dX11_sees_23 rfl (lv_at hl 0 rfl) ?_
      refine lv_iload_n hx hb dX11_sees_24 rfl (lv_at hl 1 rfl) ?_
      refine lv_iconst (v := 1) hx hb dX11_sees_25 (by decide) ?_
      refine rd_i (va_runV (As := [.int (nI pa), .int 1]) (rest := [.ref mm]) ⟨hx, hb, hml, hown, hts⟩ (n_X11_of l D cy mW mH mS mP mm mm_now mm_kept mm_isKept mm_refused mm_lineFrom mm_lineTo mm_stands mm_far mm_queue mm_queued mm_meets mm_bytes bl ta tl mm_token mm_value mm_next tk mm_now_f pa 1 _ (by first | assumption | omega) (by first | assumption | omega) (by first | assumption | omega)) (cwV 2 hts gX11_sees_X11_of rfl rfl rfl (by decide +kernel) ⟨Nat.le_of_ble_eq_true rfl, Nat.le_of_ble_eq_true rfl⟩) (pV (ci := 11) (k := 0) hKA (hP.sub (ws' := [(mm, .inr (11, [.ref mm_now, .ref mm_kept, .ref mm_isKept, .ref mm_refused, .int mm_lineFrom, .int mm_lineTo, .ref mm_stands, .ref mm_far, .ref mm_queue, .int mm_queued, .ref mm_meets, .ref mm_bytes, .int (nI bl), .int (nI ta), .int (nI tl), .int mm_token, .int mm_value, .ref mm_next, .int (nI tk)])), (mm_now, .inl (cy 1, 122, .inl mm_now_f))]) [0, 1] rfl) (hD.sub (ws' := [(mm, .inr (11, [.ref mm_now, .ref mm_kept, .ref mm_isKept, .ref mm_refused, .int mm_lineFrom, .int mm_lineTo, .ref mm_stands, .ref mm_far, .ref mm_queue, .int mm_queued, .ref mm_meets, .ref mm_bytes, .int (nI bl), .int (nI ta), .int (nI tl), .int mm_token, .int mm_value, .ref mm_next, .int (nI tk)])), (mm_now, .inl (cy 1, 122, .inl mm_now_f))]) [0, 1] (by decide) rfl) rfl rfl) rfl rfl hl.1 rfl (lv_room (Nat.le_of_ble_eq_true rfl)) dX11_sees_26 ⟨Nat.le_of_ble_eq_true rfl, Nat.le_of_ble_eq_true rfl⟩) hP hS hA (fun r16 H locs hwr16 hP hS => ?_)
      have hwr16 : r16 = mm_now_f (5 + 3 * pa + 1) := hwr16
      subst hwr16
      refine rd_i (va_runV (As := [.int (mm_now_f (5 + 3 * pa + 1))]) (rest := []) ⟨hx, hb, hml, hown, hts⟩ (n_X11_yOf l D cy mW mH mS mP mm mm_now mm_kept mm_isKept mm_refused mm_lineFrom mm_lineTo mm_stands mm_far mm_queue mm_queued mm_meets mm_bytes bl ta tl mm_token mm_value mm_next tk mm_now_f (mm_now_f (5 + 3 * pa + 1)) _ (by first | assumption | omega)) (cwV 1 hts gX11_sees_X11_yOf rfl rfl rfl (by decide +kernel) ⟨Nat.le_of_ble_eq_true rfl, Nat.le_of_ble_eq_true rfl⟩) (pV (ci := 11) (k := 0) hKA (hP.sub (ws' := [(mm, .inr (11, [.ref mm_now, .ref mm_kept, .ref mm_isKept, .ref mm_refused, .int mm_lineFrom, .int mm_lineTo, .ref mm_stands, .ref mm_far, .ref mm_queue, .int mm_queued, .ref mm_meets, .ref mm_bytes, .int (nI bl), .int (nI ta), .int (nI tl), .int mm_token, .int mm_value, .ref mm_next, .int (nI tk)])), (mm_now, .inl (cy 1, 122, .inl mm_now_f))]) [0, 1] rfl) (hD.sub (ws' := [(mm, .inr (11, [.ref mm_now, .ref mm_kept, .ref mm_isKept, .ref mm_refused, .int mm_lineFrom, .int mm_lineTo, .ref mm_stands, .ref mm_far, .ref mm_queue, .int mm_queued, .ref mm_meets, .ref mm_bytes, .int (nI bl), .int (nI ta), .int (nI tl), .int mm_token, .int mm_value, .ref mm_next, .int (nI tk)])), (mm_now, .inl (cy 1, 122, .inl mm_now_f))]) [0, 1] (by decide) rfl) rfl rfl) rfl rfl hl.1 rfl (lv_room (Nat.le_of_ble_eq_true rfl)) dX11_sees_29 ⟨Nat.le_of_ble_eq_true rfl, Nat.le_of_ble_eq_true rfl⟩) hP hS hA (fun r17 H locs hwr17 hP hS => ?_)
      have hwr17 : r17 = (mm_now_f (5 + 3 * pa + 1)) / nI mW := hwr17
      subst hwr17
      refine lv_aload_n hx hb dX11_sees_32 rfl (lv_at hl 0 rfl) ?_
      refine lv_aload_n hx hb dX11_sees_33 rfl (lv_at hl 0 rfl) ?_
      refine lv_iload_n hx hb dX11_sees_34 rfl (lv_at hl 2 rfl) ?_
      refine lv_iconst (v := 1) hx hb dX11_sees_35 (by decide) ?_
      refine rd_i (va_runV (As := [.int (nI pb), .int 1]) (rest := [.ref mm, .int ((mm_now_f (5 + 3 * pa + 1)) / nI mW)]) ⟨hx, hb, hml, hown, hts⟩ (n_X11_of l D cy mW mH mS mP mm mm_now mm_kept mm_isKept mm_refused mm_lineFrom mm_lineTo mm_stands mm_far mm_queue mm_queued mm_meets mm_bytes bl ta tl mm_token mm_value mm_next tk mm_now_f pb 1 _ (by first | assumption | omega) (by first | assumption | omega) (by first | assumption | omega)) (cwV 2 hts gX11_sees_X11_of rfl rfl rfl (by decide +kernel) ⟨Nat.le_of_ble_eq_true rfl, Nat.le_of_ble_eq_true rfl⟩) (pV (ci := 11) (k := 0) hKA (hP.sub (ws' := [(mm, .inr (11, [.ref mm_now, .ref mm_kept, .ref mm_isKept, .ref mm_refused, .int mm_lineFrom, .int mm_lineTo, .ref mm_stands, .ref mm_far, .ref mm_queue, .int mm_queued, .ref mm_meets, .ref mm_bytes, .int (nI bl), .int (nI ta), .int (nI tl), .int mm_token, .int mm_value, .ref mm_next, .int (nI tk)])), (mm_now, .inl (cy 1, 122, .inl mm_now_f))]) [0, 1] rfl) (hD.sub (ws' := [(mm, .inr (11, [.ref mm_now, .ref mm_kept, .ref mm_isKept, .ref mm_refused, .int mm_lineFrom, .int mm_lineTo, .ref mm_stands, .ref mm_far, .ref mm_queue, .int mm_queued, .ref mm_meets, .ref mm_bytes, .int (nI bl), .int (nI ta), .int (nI tl), .int mm_token, .int mm_value, .ref mm_next, .int (nI tk)])), (mm_now, .inl (cy 1, 122, .inl mm_now_f))]) [0, 1] (by decide) rfl) rfl rfl) rfl rfl hl.1 rfl (lv_room (Nat.le_of_ble_eq_true rfl)) dX11_sees_36 ⟨Nat.le_of_ble_eq_true rfl, Nat.le_of_ble_eq_true rfl⟩) hP hS hA (fun r18 H locs hwr18 hP hS => ?_)
      have hwr18 : r18 = mm_now_f (5 + 3 * pb + 1) := hwr18
      subst hwr18
      refine rd_i (va_runV (As := [.int (mm_now_f (5 + 3 * pb + 1))]) (rest := [.int ((mm_now_f (5 + 3 * pa + 1)) / nI mW)]) ⟨hx, hb, hml, hown, hts⟩ (n_X11_yOf l D cy mW mH mS mP mm mm_now mm_kept mm_isKept mm_refused mm_lineFrom mm_lineTo mm_stands mm_far mm_queue mm_queued mm_meets mm_bytes bl ta tl mm_token mm_value mm_next tk mm_now_f (mm_now_f (5 + 3 * pb + 1)) _ (by first | assumption | omega)) (cwV 1 hts gX11_sees_X11_yOf rfl rfl rfl (by decide +kernel) ⟨Nat.le_of_ble_eq_true rfl, Nat.le_of_ble_eq_true rfl⟩) (pV (ci := 11) (k := 0) hKA (hP.sub (ws' := [(mm, .inr (11, [.ref mm_now, .ref mm_kept, .ref mm_isKept, .ref mm_refused, .int mm_lineFrom, .int mm_lineTo, .ref mm_stands, .ref mm_far, .ref mm_queue, .int mm_queued, .ref mm_meets, .ref mm_bytes, .int (nI bl), .int (nI ta), .int (nI tl), .int mm_token, .int mm_value, .ref mm_next, .int (nI tk)])), (mm_now, .inl (cy 1, 122, .inl mm_now_f))]) [0, 1] rfl) (hD.sub (ws' := [(mm, .inr (11, [.ref mm_now, .ref mm_kept, .ref mm_isKept, .ref mm_refused, .int mm_lineFrom, .int mm_lineTo, .ref mm_stands, .ref mm_far, .ref mm_queue, .int mm_queued, .ref mm_meets, .ref mm_bytes, .int (nI bl), .int (nI ta), .int (nI tl), .int mm_token, .int mm_value, .ref mm_next, .int (nI tk)])), (mm_now, .inl (cy 1, 122, .inl mm_now_f))]) [0, 1] (by decide) rfl) rfl rfl) rfl rfl hl.1 rfl (lv_room (Nat.le_of_ble_eq_true rfl)) dX11_sees_39 ⟨Nat.le_of_ble_eq_true rfl, Nat.le_of_ble_eq_true rfl⟩) hP hS hA (fun r19 H locs hwr19 hP hS => ?_)
      have hwr19 : r19 = (mm_now_f (5 + 3 * pb + 1)) / nI mW := hwr19
      subst hwr19
      refine lv_icmp_ne (tgt := 49) hx hb dX11_sees_42 (by decide) (fun c20 => ?_) (fun c20 => ?_)
      · skip
        refine lv_iconst (v := 0) hx hb dX11_sees_49 (by decide) ?_
        exact j50 0 (Or.inr rfl) _ _ hP hD hS ls hl
      · skip
        refine lv_iconst (v := 1) hx hb dX11_sees_45 (by decide) ?_
        refine lv_goto (tgt := 50) hx hb dX11_sees_46 (by decide) ?_
        exact j50 1 (Or.inl rfl) _ _ hP hD hS ls hl
  · skip
    refine lv_iconst (v := 1) hx hb dX11_sees_10 (by decide) ?_
    subst hQF
    have hP9 := hP
    have hD9 := hD
    exact W.zret (v := 1) hx hb hr rfl (fun t ht hW => ⟨⟨1, (mm_lineFrom, mm_lineTo), rfl, (Or.inl ⟨rfl, trivial⟩), by rw [ht]; exact hP9, hD9⟩, hS.F ht⟩) hS.2.2 dX11_sees_11

set_option maxHeartbeats 4000000 in
set_option maxRecDepth 100000 in
theorem n_X11_isDrowned (l : Launch) (D : va_G) (cy : Nat → ClassId) (mW : Nat) (mH : Nat) (mS : Nat) (mP : Nat) (mm : Nat) (mm_now : Nat) (mm_kept : Nat) (mm_isKept : Nat) (mm_refused : Nat) (mm_lineFrom : Int32) (mm_lineTo : Int32) (mm_stands : Nat) (mm_far : Nat) (mm_queue : Nat) (mm_queued : Int32) (mm_meets : Nat) (mm_bytes : Nat) (bl : Nat) (ta : Nat) (tl : Nat) (mm_token : Int32) (mm_value : Int32) (mm_next : Nat) (tk : Nat) (mm_now_f : Nat → Int32) (px : Int32) (sz : Nat) (hF : mV mm_now_f mW mH mS mP) : Met l yX11_isDrowned wsX11_isDrowned ({ frames := 3, cells := 0, slots := 0, locals := 63 }) (va_Pc [.ref mm, .int px] (kPre D cy [(mm, .inr (11, [.ref mm_now, .ref mm_kept, .ref mm_isKept, .ref mm_refused, .int mm_lineFrom, .int mm_lineTo, .ref mm_stands, .ref mm_far, .ref mm_queue, .int mm_queued, .ref mm_meets, .ref mm_bytes, .int (nI bl), .int (nI ta), .int (nI tl), .int mm_token, .int mm_value, .ref mm_next, .int (nI tk)])), (mm_now, .inl (cy 1, 122, .inl mm_now_f))] sz)) (va_Qi (fun (r : Int32) (u : Unit) => (r = 1 ∧ True) ∨ (r = 0 ∧ True)) (fun _ _ => True) (fun q : Nat => sz ≤ q)) 0 0 (fun q : Nat => sz ≤ q) := by
  refine Met.ofW (cc := cX11_isDrowned) (maxL := 4) (ret := (some .boolean)) (by decide) rfl ?_
  intro p e s m args below meth c s₁ B hml hv
  obtain ⟨rfl, hsz, hP, hKA, hD0⟩ := hv
  have hx := B.exec
  have hb := B.bytes
  have hr := B.returns
  have hts := atoms_spec (ws := wsX11_isDrowned) B.pre
  have hown : s.vm.findClass RX11 = some m.cls := findClass_of_methodNamed B.named
  have hlocks := B.notSynchronized
  subst hsz
  have hK := hKA.1
  have hD := hD0
  generalize hAe : (fun q : Nat => s.heap.size ≤ q) = A
  have hA : ∀ q : Nat, s.heap.size ≤ q → A q := fun q h => by rw [← hAe]; exact h
  have hS : va_S A s.heap s.heap [] := va_S.rf
  have hP : va_P D vwCl [(mm, .inr (11, [.ref mm_now, .ref mm_kept, .ref mm_isKept, .ref mm_refused, .int mm_lineFrom, .int mm_lineTo, .ref mm_stands, .ref mm_far, .ref mm_queue, .int mm_queued, .ref mm_meets, .ref mm_bytes, .int (nI bl), .int (nI ta), .int (nI tl), .int mm_token, .int mm_value, .ref mm_next, .int (nI tk)])), (mm_now, .inl (cy 1, 122, .inl mm_now_f))] s.heap := hP
  have hl := lv_entry ([.ref mm, .int px]) (n := 4) (Nat.le_of_ble_eq_true rfl)
  rw [lg_entry_eq]
  generalize (lg_sl ([.ref mm, .int px]) ++ List.replicate (4 - (lg_sl ([.ref mm, .int px])).length) Slot.unset).toArray = ls at hl ⊢
  have hl : lv_has ls 4 [(0, .ref mm), (1, .int px)] := hl
  refine qW (fun QF hQF => ?_)
  have z0_ := hts (.fieldLink RX11 7 "HeardSeenModel" "now" "[I") (by decide +kernel)
  have zi11_ : ∀ w ∈ u_ws RX11 TX11 19, w ∈ wsX11_isDrowned := by decide +kernel
  obtain ⟨hW2, hW6, hH2, hH6, hSe, hS4, hS6, hP5⟩ := hF.rng
  refine lv_iconst (v := 0) hx hb dX11_isDrowned_0 (by decide) ?_
  refine lv_istore_n (lv' := [(2, .int 0), (0, .ref mm), (1, .int px)]) hx hb dX11_isDrowned_1 rfl hl (by decide) rfl (fun ls hl => ?_)
  refine lv_iconst (v := 0) hx hb dX11_isDrowned_2 (by decide) ?_
  refine lv_istore_n (lv' := [(3, .int 0), (2, .int 0), (0, .ref mm), (1, .int px)]) hx hb dX11_isDrowned_3 rfl hl (by decide) rfl (fun ls hl => ?_)
  have lp4 : ∀ (n4 : Nat) (v3_4 : Nat) (v2_4 : Int32) (bv2_4 : v2_4 = 1 ∨ v2_4 = 0) (hv3_4 : v3_4 < 2147483648), 2147483648 - v3_4 < n4 → ∀ (H : Heap) (locs : List Loc), va_P D vwCl [(mm, .inr (11, [.ref mm_now, .ref mm_kept, .ref mm_isKept, .ref mm_refused, .int mm_lineFrom, .int mm_lineTo, .ref mm_stands, .ref mm_far, .ref mm_queue, .int mm_queued, .ref mm_meets, .ref mm_bytes, .int (nI bl), .int (nI ta), .int (nI tl), .int mm_token, .int mm_value, .ref mm_next, .int (nI tk)])), (mm_now, .inl (cy 1, 122, .inl mm_now_f))] H → va_D (fun _ => True) [(mm, .inr (11, [.ref mm_now, .ref mm_kept, .ref mm_isKept, .ref mm_refused, .int mm_lineFrom, .int mm_lineTo, .ref mm_stands, .ref mm_far, .ref mm_queue, .int mm_queued, .ref mm_meets, .ref mm_bytes, .int (nI bl), .int (nI ta), .int (nI tl), .int mm_token, .int mm_value, .ref mm_next, .int (nI tk)])), (mm_now, .inl (cy 1, 122, .inl mm_now_f))] → va_S A s.heap H locs → ∀ ls : Array Slot, lv_has ls 4 [(3, .int (nI v3_4)), (2, .int v2_4), (0, .ref mm), (1, .int px)] → W p l e (headSpec wsX11_isDrowned ({ frames := 3, cells := 0, slots := 0, locals := 63 })).room s m [.ref mm, .int px].toArray below meth c H locs 0 0 QF (F0 m 4 ls []) := by
    intro n4
    induction n4 with
    | zero => intro v3_4 v2_4 bv2_4 hv3_4 hm; exact absurd hm (Nat.not_lt_zero _)
    | succ n4 ih4 =>
      intro v3_4 v2_4 bv2_4 hv3_4 hm4 H locs hP hD hS ls hl
      refine lv_iload_n hx hb dX11_isDrowned_4 rfl (lv_at hl 0 rfl) ?_
      refine lv_aload_n hx hb dX11_isDrowned_5 rfl (lv_at hl 2 rfl) ?_
      refine rd_i (va_runV (As := []) (rest := [.int (nI v3_4)]) ⟨hx, hb, hml, hown, hts⟩ (n_X11_squares l D cy mW mH mS mP mm mm_now mm_kept mm_isKept mm_refused mm_lineFrom mm_lineTo mm_stands mm_far mm_queue mm_queued mm_meets mm_bytes bl ta tl mm_token mm_value mm_next tk mm_now_f _ (by first | assumption | omega)) (cwV 0 hts gX11_isDrowned_X11_squares rfl rfl rfl (by decide +kernel) ⟨Nat.le_of_ble_eq_true rfl, Nat.le_of_ble_eq_true rfl⟩) (pV (ci := 11) (k := 0) hKA (hP.sub (ws' := [(mm, .inr (11, [.ref mm_now, .ref mm_kept, .ref mm_isKept, .ref mm_refused, .int mm_lineFrom, .int mm_lineTo, .ref mm_stands, .ref mm_far, .ref mm_queue, .int mm_queued, .ref mm_meets, .ref mm_bytes, .int (nI bl), .int (nI ta), .int (nI tl), .int mm_token, .int mm_value, .ref mm_next, .int (nI tk)])), (mm_now, .inl (cy 1, 122, .inl mm_now_f))]) [0, 1] rfl) (hD.sub (ws' := [(mm, .inr (11, [.ref mm_now, .ref mm_kept, .ref mm_isKept, .ref mm_refused, .int mm_lineFrom, .int mm_lineTo, .ref mm_stands, .ref mm_far, .ref mm_queue, .int mm_queued, .ref mm_meets, .ref mm_bytes, .int (nI bl), .int (nI ta), .int (nI tl), .int mm_token, .int mm_value, .ref mm_next, .int (nI tk)])), (mm_now, .inl (cy 1, 122, .inl mm_now_f))]) [0, 1] (by decide) rfl) rfl rfl) rfl rfl hl.1 rfl (lv_room (Nat.le_of_ble_eq_true rfl)) dX11_isDrowned_6 ⟨Nat.le_of_ble_eq_true rfl, Nat.le_of_ble_eq_true rfl⟩) hP hS hA (fun r1 H locs hwr1 hP hS => ?_)
      have hwr1 : r1 = nI mS := hwr1
      subst hwr1
      refine lv_icmp_ge (tgt := 56) hx hb dX11_isDrowned_9 (by decide) (fun c2 => ?_) (fun c2 => ?_)
      · skip
        refine lv_iload_n hx hb dX11_isDrowned_56 rfl (lv_at hl 1 rfl) ?_
        subst hQF
        exact W.zret (v := v2_4) hx hb hr (z_bm bv2_4) (fun t ht hW => ⟨⟨v2_4, (), rfl, (z_bu bv2_4), trivial⟩, hS.F ht⟩) hS.2.2 dX11_isDrowned_57
      · skip
        have hk9 := ltM (n := mS) (k := v3_4) (by omega) (by assumption) (by assumption)
        refine lv_iload_n hx hb dX11_isDrowned_12 rfl (lv_at hl 1 rfl) ?_
        refine lv_if_ne (tgt := 44) hx hb dX11_isDrowned_13 (by decide) (fun c3 => ?_) (fun c3 => ?_)
        · skip
          refine lv_iconst (v := 1) hx hb dX11_isDrowned_44 (by decide) ?_
          refine lv_goto (tgt := 49) hx hb dX11_isDrowned_45 (by decide) ?_
          refine lv_istore_n (lv' := [(2, .int 1), (3, .int (nI v3_4)), (0, .ref mm), (1, .int px)]) hx hb dX11_isDrowned_49 rfl hl (by decide) rfl (fun ls hl => ?_)
          refine lv_iinc (v := nI (v3_4 + 1)) (lv' := [(3, .int (nI (v3_4 + 1))), (2, .int 1), (0, .ref mm), (1, .int px)]) hx hb dX11_isDrowned_50 hl (k := 1) rfl (nI_1 _) (by decide) rfl (fun ls hl => ?_)
          refine lv_goto (tgt := 4) hx hb dX11_isDrowned_53 (by decide) ?_
          exact ih4 (v3_4 + 1) 1 (Or.inl rfl) (by first | omega | exact nlt_max hv3_4 (by assumption)) (by first | omega | (have := nlt_max hv3_4 (by assumption); omega)) _ _ hP hD hS ls hl
        · skip
          refine lv_aload_n hx hb dX11_isDrowned_16 rfl (lv_at hl 2 rfl) ?_
          refine va_get (D := D) (ci := 11) (v := .ref mm_now) (C := RX11) (T := TX11) (N := 19) hx hb hts zi11_ hown hK hP 0 rfl rfl 0 (by decide) z0_ (fun _ h9 => h9) rfl dX11_isDrowned_17 ?_
          refine lv_bipush (v := 56) hx hb dX11_isDrowned_20 (by decide) ?_
          refine lv_iload_n hx hb dX11_isDrowned_22 rfl (lv_at hl 0 rfl) ?_
          refine lv_iadd hx hb dX11_isDrowned_23 ?_
          refine lv_topi (fun x4 ex4 => ?_)
          obtain rfl : x4 = nI (56 + v3_4) := by rw [ex4]; exact nI_add _ _
          refine my_iald hx hb hK hP 1 1 rfl rfl (by first | exact in_ge (N := 122) (by decide) (by omega) (by assumption) | exact vp_in_nI (by omega) (by omega)) (nI_clamp (by omega)) dX11_isDrowned_24 ?_
          refine lv_iconst (v := 1) hx hb dX11_isDrowned_25 (by decide) ?_
          refine lv_icmp_ne (tgt := 48) hx hb dX11_isDrowned_26 (by decide) (fun c5 => ?_) (fun c5 => ?_)
          · skip
            refine lv_iconst (v := 0) hx hb dX11_isDrowned_48 (by decide) ?_
            refine lv_istore_n (lv' := [(2, .int 0), (3, .int (nI v3_4)), (0, .ref mm), (1, .int px)]) hx hb dX11_isDrowned_49 rfl hl (by decide) rfl (fun ls hl => ?_)
            refine lv_iinc (v := nI (v3_4 + 1)) (lv' := [(3, .int (nI (v3_4 + 1))), (2, .int 0), (0, .ref mm), (1, .int px)]) hx hb dX11_isDrowned_50 hl (k := 1) rfl (nI_1 _) (by decide) rfl (fun ls hl => ?_)
            refine lv_goto (tgt := 4) hx hb dX11_isDrowned_53 (by decide) ?_
            exact ih4 (v3_4 + 1) 0 (Or.inr rfl) (by first | omega | exact nlt_max hv3_4 (by assumption)) (by first | omega | (have := nlt_max hv3_4 (by assumption); omega)) _ _ hP hD hS ls hl
          · skip
            refine lv_aload_n hx hb dX11_isDrowned_29 rfl (lv_at hl 2 rfl) ?_
            refine lv_iload_n hx hb dX11_isDrowned_30 rfl (lv_at hl 3 rfl) ?_
            refine lv_iload_n hx hb dX11_isDrowned_31 rfl (lv_at hl 0 rfl) ?_
            refine rd_i (va_runV (As := [.int px, .int (nI v3_4)]) (rest := []) ⟨hx, hb, hml, hown, hts⟩ (n_X11_yards l D cy mW mH mS mP mm mm_now mm_kept mm_isKept mm_refused mm_lineFrom mm_lineTo mm_stands mm_far mm_queue mm_queued mm_meets mm_bytes bl ta tl mm_token mm_value mm_next tk mm_now_f px (nI v3_4) _ (by first | assumption | omega)) (cwV 2 hts gX11_isDrowned_X11_yards rfl rfl rfl (by decide +kernel) ⟨Nat.le_of_ble_eq_true rfl, Nat.le_of_ble_eq_true rfl⟩) (pV (ci := 11) (k := 0) hKA (hP.sub (ws' := [(mm, .inr (11, [.ref mm_now, .ref mm_kept, .ref mm_isKept, .ref mm_refused, .int mm_lineFrom, .int mm_lineTo, .ref mm_stands, .ref mm_far, .ref mm_queue, .int mm_queued, .ref mm_meets, .ref mm_bytes, .int (nI bl), .int (nI ta), .int (nI tl), .int mm_token, .int mm_value, .ref mm_next, .int (nI tk)])), (mm_now, .inl (cy 1, 122, .inl mm_now_f))]) [0, 1] rfl) (hD.sub (ws' := [(mm, .inr (11, [.ref mm_now, .ref mm_kept, .ref mm_isKept, .ref mm_refused, .int mm_lineFrom, .int mm_lineTo, .ref mm_stands, .ref mm_far, .ref mm_queue, .int mm_queued, .ref mm_meets, .ref mm_bytes, .int (nI bl), .int (nI ta), .int (nI tl), .int mm_token, .int mm_value, .ref mm_next, .int (nI tk)])), (mm_now, .inl (cy 1, 122, .inl mm_now_f))]) [0, 1] (by decide) rfl) rfl rfl) rfl rfl hl.1 rfl (lv_room (Nat.le_of_ble_eq_true rfl)) dX11_isDrowned_32 ⟨Nat.le_of_ble_eq_true rfl, Nat.le_of_ble_eq_true rfl⟩) hP hS hA (fun r6 H locs hwr6 hP hS => ?_)
            refine lv_aload_n hx hb dX11_isDrowned_35 rfl (lv_at hl 2 rfl) ?_
            refine va_get (D := D) (ci := 11) (v := .ref mm_now) (C := RX11) (T := TX11) (N := 19) hx hb hts zi11_ hown hK hP 0 rfl rfl 0 (by decide) z0_ (fun _ h9 => h9) rfl dX11_isDrowned_36 ?_
            refine lv_iconst (v := 2) hx hb dX11_isDrowned_39 (by decide) ?_
            refine my_iald hx hb hK hP 1 1 rfl rfl (by rw [vp_in_iff]; decide +kernel) (k := 2) (by decide +kernel) dX11_isDrowned_40 ?_
            refine lv_icmp_gt (tgt := 48) hx hb dX11_isDrowned_41 (by decide) (fun c7 => ?_) (fun c7 => ?_)
            · skip
              refine lv_iconst (v := 0) hx hb dX11_isDrowned_48 (by decide) ?_
              refine lv_istore_n (lv' := [(2, .int 0), (3, .int (nI v3_4)), (0, .ref mm), (1, .int px)]) hx hb dX11_isDrowned_49 rfl hl (by decide) rfl (fun ls hl => ?_)
              refine lv_iinc (v := nI (v3_4 + 1)) (lv' := [(3, .int (nI (v3_4 + 1))), (2, .int 0), (0, .ref mm), (1, .int px)]) hx hb dX11_isDrowned_50 hl (k := 1) rfl (nI_1 _) (by decide) rfl (fun ls hl => ?_)
              refine lv_goto (tgt := 4) hx hb dX11_isDrowned_53 (by decide) ?_
              exact ih4 (v3_4 + 1) 0 (Or.inr rfl) (by first | omega | exact nlt_max hv3_4 (by assumption)) (by first | omega | (have := nlt_max hv3_4 (by assumption); omega)) _ _ hP hD hS ls hl
            · skip
              refine lv_iconst (v := 1) hx hb dX11_isDrowned_44 (by decide) ?_
              refine lv_goto (tgt := 49) hx hb dX11_isDrowned_45 (by decide) ?_
              refine lv_istore_n (lv' := [(2, .int 1), (3, .int (nI v3_4)), (0, .ref mm), (1, .int px)]) hx hb dX11_isDrowned_49 rfl hl (by decide) rfl (fun ls hl => ?_)
              refine lv_iinc (v := nI (v3_4 + 1)) (lv' := [(3, .int (nI (v3_4 + 1))), (2, .int 1), (0, .ref mm), (1, .int px)]) hx hb dX11_isDrowned_50 hl (k := 1) rfl (nI_1 _) (by decide) rfl (fun ls hl => ?_)
              refine lv_goto (tgt := 4) hx hb dX11_isDrowned_53 (by decide) ?_
              exact ih4 (v3_4 + 1) 1 (Or.inl rfl) (by first | omega | exact nlt_max hv3_4 (by assumption)) (by first | omega | (have := nlt_max hv3_4 (by assumption); omega)) _ _ hP hD hS ls hl
  exact lp4 (2147483648 - 0 + 1) 0 0 (Or.inr rfl) (by first | omega | exact nlt_max (by assumption) (by assumption)) (Nat.lt_succ_self _) _ _ hP hD hS ls hl

set_option maxHeartbeats 4000000 in
set_option maxRecDepth 100000 in
theorem n_X11_reaches (l : Launch) (D : va_G) (cy : Nat → ClassId) (mW : Nat) (mH : Nat) (mS : Nat) (mP : Nat) (mm : Nat) (mm_now : Nat) (mm_kept : Nat) (mm_isKept : Nat) (mm_refused : Nat) (mm_lineFrom : Int32) (mm_lineTo : Int32) (mm_stands : Nat) (mm_far : Nat) (mm_queue : Nat) (mm_queued : Int32) (mm_meets : Nat) (mm_bytes : Nat) (bl : Nat) (ta : Nat) (tl : Nat) (mm_token : Int32) (mm_value : Int32) (mm_next : Nat) (tk : Nat) (mm_now_f : Nat → Int32) (pa : Nat) (pb : Nat) (sz : Nat) (hF : mV mm_now_f mW mH mS mP) (hpa : pa < 5) (hpb : pb < 5) : Met l yX11_reaches wsX11_reaches ({ frames := 4, cells := 0, slots := 0, locals := 86 }) (va_Pc [.ref mm, .int (nI pa), .int (nI pb)] (kPre D cy [(mm, .inr (11, [.ref mm_now, .ref mm_kept, .ref mm_isKept, .ref mm_refused, .int mm_lineFrom, .int mm_lineTo, .ref mm_stands, .ref mm_far, .ref mm_queue, .int mm_queued, .ref mm_meets, .ref mm_bytes, .int (nI bl), .int (nI ta), .int (nI tl), .int mm_token, .int mm_value, .ref mm_next, .int (nI tk)])), (mm_now, .inl (cy 1, 122, .inl mm_now_f))] sz)) (va_Qi (fun (r : Int32) (u : Unit) => (r = 1 ∧ True) ∨ (r = 0 ∧ True)) (fun _ _ => True) (fun q : Nat => sz ≤ q)) 0 0 (fun q : Nat => sz ≤ q) := by
  refine Met.ofW (cc := cX11_reaches) (maxL := 6) (ret := (some .boolean)) (by decide) rfl ?_
  intro p e s m args below meth c s₁ B hml hv
  obtain ⟨rfl, hsz, hP, hKA, hD0⟩ := hv
  have hx := B.exec
  have hb := B.bytes
  have hr := B.returns
  have hts := atoms_spec (ws := wsX11_reaches) B.pre
  have hown : s.vm.findClass RX11 = some m.cls := findClass_of_methodNamed B.named
  have hlocks := B.notSynchronized
  subst hsz
  have hK := hKA.1
  have hD := hD0
  generalize hAe : (fun q : Nat => s.heap.size ≤ q) = A
  have hA : ∀ q : Nat, s.heap.size ≤ q → A q := fun q h => by rw [← hAe]; exact h
  have hS : va_S A s.heap s.heap [] := va_S.rf
  have hP : va_P D vwCl [(mm, .inr (11, [.ref mm_now, .ref mm_kept, .ref mm_isKept, .ref mm_refused, .int mm_lineFrom, .int mm_lineTo, .ref mm_stands, .ref mm_far, .ref mm_queue, .int mm_queued, .ref mm_meets, .ref mm_bytes, .int (nI bl), .int (nI ta), .int (nI tl), .int mm_token, .int mm_value, .ref mm_next, .int (nI tk)])), (mm_now, .inl (cy 1, 122, .inl mm_now_f))] s.heap := hP
  have hl := lv_entry ([.ref mm, .int (nI pa), .int (nI pb)]) (n := 6) (Nat.le_of_ble_eq_true rfl)
  rw [lg_entry_eq]
  generalize (lg_sl ([.ref mm, .int (nI pa), .int (nI pb)]) ++ List.replicate (6 - (lg_sl ([.ref mm, .int (nI pa), .int (nI pb)])).length) Slot.unset).toArray = ls at hl ⊢
  have hl : lv_has ls 6 [(0, .ref mm), (1, .int (nI pa)), (2, .int (nI pb))] := hl
  refine qW (fun QF hQF => ?_)
  have z0_ := hts (.fieldLink RX11 7 "HeardSeenModel" "now" "[I") (by decide +kernel)
  have zi11_ : ∀ w ∈ u_ws RX11 TX11 19, w ∈ wsX11_reaches := by decide +kernel
  obtain ⟨hW2, hW6, hH2, hH6, hSe, hS4, hS6, hP5⟩ := hF.rng
  refine lv_aload_n hx hb dX11_reaches_0 rfl (lv_at hl 0 rfl) ?_
  refine lv_iload_n hx hb dX11_reaches_1 rfl (lv_at hl 2 rfl) ?_
  refine lv_iconst (v := 1) hx hb dX11_reaches_2 (by decide) ?_
  refine rd_i (va_runV (As := [.int (nI pb), .int 1]) (rest := []) ⟨hx, hb, hml, hown, hts⟩ (n_X11_of l D cy mW mH mS mP mm mm_now mm_kept mm_isKept mm_refused mm_lineFrom mm_lineTo mm_stands mm_far mm_queue mm_queued mm_meets mm_bytes bl ta tl mm_token mm_value mm_next tk mm_now_f pb 1 _ (by first | assumption | omega) (by first | assumption | omega) (by first | assumption | omega)) (cwV 2 hts gX11_reaches_X11_of rfl rfl rfl (by decide +kernel) ⟨Nat.le_of_ble_eq_true rfl, Nat.le_of_ble_eq_true rfl⟩) (pV (ci := 11) (k := 0) hKA (hP.sub (ws' := [(mm, .inr (11, [.ref mm_now, .ref mm_kept, .ref mm_isKept, .ref mm_refused, .int mm_lineFrom, .int mm_lineTo, .ref mm_stands, .ref mm_far, .ref mm_queue, .int mm_queued, .ref mm_meets, .ref mm_bytes, .int (nI bl), .int (nI ta), .int (nI tl), .int mm_token, .int mm_value, .ref mm_next, .int (nI tk)])), (mm_now, .inl (cy 1, 122, .inl mm_now_f))]) [0, 1] rfl) (hD.sub (ws' := [(mm, .inr (11, [.ref mm_now, .ref mm_kept, .ref mm_isKept, .ref mm_refused, .int mm_lineFrom, .int mm_lineTo, .ref mm_stands, .ref mm_far, .ref mm_queue, .int mm_queued, .ref mm_meets, .ref mm_bytes, .int (nI bl), .int (nI ta), .int (nI tl), .int mm_token, .int mm_value, .ref mm_next, .int (nI tk)])), (mm_now, .inl (cy 1, 122, .inl mm_now_f))]) [0, 1] (by decide) rfl) rfl rfl) rfl rfl hl.1 rfl (lv_room (Nat.le_of_ble_eq_true rfl)) dX11_reaches_3 ⟨Nat.le_of_ble_eq_true rfl, Nat.le_of_ble_eq_true rfl⟩) hP hS hA (fun r1 H locs hwr1 hP hS => ?_)
  have hwr1 : r1 = mm_now_f (5 + 3 * pb + 1) := hwr1
  subst hwr1
  refine lv_topi (fun x2 ex2 => ?_)
  refine lv_istore_n (lv' := [(3, .int x2), (0, .ref mm), (1, .int (nI pa)), (2, .int (nI pb))]) hx hb dX11_reaches_6 rfl hl (by decide) rfl (fun ls hl => ?_)
  refine lv_aload_n hx hb dX11_reaches_7 rfl (lv_at hl 1 rfl) ?_
  refine lv_iload_n hx hb dX11_reaches_8 rfl (lv_at hl 2 rfl) ?_
  refine lv_iconst (v := 1) hx hb dX11_reaches_9 (by decide) ?_
  refine rd_i (va_runV (As := [.int (nI pa), .int 1]) (rest := []) ⟨hx, hb, hml, hown, hts⟩ (n_X11_of l D cy mW mH mS mP mm mm_now mm_kept mm_isKept mm_refused mm_lineFrom mm_lineTo mm_stands mm_far mm_queue mm_queued mm_meets mm_bytes bl ta tl mm_token mm_value mm_next tk mm_now_f pa 1 _ (by first | assumption | omega) (by first | assumption | omega) (by first | assumption | omega)) (cwV 2 hts gX11_reaches_X11_of rfl rfl rfl (by decide +kernel) ⟨Nat.le_of_ble_eq_true rfl, Nat.le_of_ble_eq_true rfl⟩) (pV (ci := 11) (k := 0) hKA (hP.sub (ws' := [(mm, .inr (11, [.ref mm_now, .ref mm_kept, .ref mm_isKept, .ref mm_refused, .int mm_lineFrom, .int mm_lineTo, .ref mm_stands, .ref mm_far, .ref mm_queue, .int mm_queued, .ref mm_meets, .ref mm_bytes, .int (nI bl), .int (nI ta), .int (nI tl), .int mm_token, .int mm_value, .ref mm_next, .int (nI tk)])), (mm_now, .inl (cy 1, 122, .inl mm_now_f))]) [0, 1] rfl) (hD.sub (ws' := [(mm, .inr (11, [.ref mm_now, .ref mm_kept, .ref mm_isKept, .ref mm_refused, .int mm_lineFrom, .int mm_lineTo, .ref mm_stands, .ref mm_far, .ref mm_queue, .int mm_queued, .ref mm_meets, .ref mm_bytes, .int (nI bl), .int (nI ta), .int (nI tl), .int mm_token, .int mm_value, .ref mm_next, .int (nI tk)])), (mm_now, .inl (cy 1, 122, .inl mm_now_f))]) [0, 1] (by decide) rfl) rfl rfl) rfl rfl hl.1 rfl (lv_room (Nat.le_of_ble_eq_true rfl)) dX11_reaches_10 ⟨Nat.le_of_ble_eq_true rfl, Nat.le_of_ble_eq_true rfl⟩) hP hS hA (fun r3 H locs hwr3 hP hS => ?_)
  have hwr3 : r3 = mm_now_f (5 + 3 * pa + 1) := hwr3
  subst hwr3
  refine lv_topi (fun x4 ex4 => ?_)
  refine lv_istore (lv' := [(4, .int x4), (3, .int x2), (0, .ref mm), (1, .int (nI pa)), (2, .int (nI pb))]) hx hb dX11_reaches_13 hl (by decide) rfl (fun ls hl => ?_)
  refine lv_aload_n hx hb dX11_reaches_15 rfl (lv_at hl 2 rfl) ?_
  refine lv_iload_n hx hb dX11_reaches_16 rfl (lv_at hl 1 rfl) ?_
  refine rd_i (va_runV (As := [.int x2]) (rest := []) ⟨hx, hb, hml, hown, hts⟩ (n_X11_isDrowned l D cy mW mH mS mP mm mm_now mm_kept mm_isKept mm_refused mm_lineFrom mm_lineTo mm_stands mm_far mm_queue mm_queued mm_meets mm_bytes bl ta tl mm_token mm_value mm_next tk mm_now_f x2 _ (by first | assumption | omega)) (cwV 1 hts gX11_reaches_X11_isDrowned rfl rfl rfl (by decide +kernel) ⟨Nat.le_of_ble_eq_true rfl, Nat.le_of_ble_eq_true rfl⟩) (pV (ci := 11) (k := 0) hKA (hP.sub (ws' := [(mm, .inr (11, [.ref mm_now, .ref mm_kept, .ref mm_isKept, .ref mm_refused, .int mm_lineFrom, .int mm_lineTo, .ref mm_stands, .ref mm_far, .ref mm_queue, .int mm_queued, .ref mm_meets, .ref mm_bytes, .int (nI bl), .int (nI ta), .int (nI tl), .int mm_token, .int mm_value, .ref mm_next, .int (nI tk)])), (mm_now, .inl (cy 1, 122, .inl mm_now_f))]) [0, 1] rfl) (hD.sub (ws' := [(mm, .inr (11, [.ref mm_now, .ref mm_kept, .ref mm_isKept, .ref mm_refused, .int mm_lineFrom, .int mm_lineTo, .ref mm_stands, .ref mm_far, .ref mm_queue, .int mm_queued, .ref mm_meets, .ref mm_bytes, .int (nI bl), .int (nI ta), .int (nI tl), .int mm_token, .int mm_value, .ref mm_next, .int (nI tk)])), (mm_now, .inl (cy 1, 122, .inl mm_now_f))]) [0, 1] (by decide) rfl) rfl rfl) rfl rfl hl.1 rfl (lv_room (Nat.le_of_ble_eq_true rfl)) dX11_reaches_17 ⟨Nat.le_of_ble_eq_true rfl, Nat.le_of_ble_eq_true rfl⟩) hP hS hA (fun r5 H locs hwr5 hP hS => ?_)
  have hwr5 : (r5 = 1 ∧ True) ∨ (r5 = 0 ∧ True) := hwr5
  refine lv_if_ne (tgt := 32) hx hb dX11_reaches_20 (by decide) (fun c6 => ?_) (fun c6 => ?_)
  · skip
    refine lv_aload_n hx hb dX11_reaches_32 rfl (lv_at hl 2 rfl) ?_
    refine lv_iload_n hx hb dX11_reaches_33 rfl (lv_at hl 1 rfl) ?_
    refine lv_iload hx hb dX11_reaches_34 (lv_at hl 0 rfl) ?_
    refine rd_i (va_runV (As := [.int x2, .int x4]) (rest := []) ⟨hx, hb, hml, hown, hts⟩ (n_X11_yards l D cy mW mH mS mP mm mm_now mm_kept mm_isKept mm_refused mm_lineFrom mm_lineTo mm_stands mm_far mm_queue mm_queued mm_meets mm_bytes bl ta tl mm_token mm_value mm_next tk mm_now_f x2 x4 _ (by first | assumption | omega)) (cwV 2 hts gX11_reaches_X11_yards rfl rfl rfl (by decide +kernel) ⟨Nat.le_of_ble_eq_true rfl, Nat.le_of_ble_eq_true rfl⟩) (pV (ci := 11) (k := 0) hKA (hP.sub (ws' := [(mm, .inr (11, [.ref mm_now, .ref mm_kept, .ref mm_isKept, .ref mm_refused, .int mm_lineFrom, .int mm_lineTo, .ref mm_stands, .ref mm_far, .ref mm_queue, .int mm_queued, .ref mm_meets, .ref mm_bytes, .int (nI bl), .int (nI ta), .int (nI tl), .int mm_token, .int mm_value, .ref mm_next, .int (nI tk)])), (mm_now, .inl (cy 1, 122, .inl mm_now_f))]) [0, 1] rfl) (hD.sub (ws' := [(mm, .inr (11, [.ref mm_now, .ref mm_kept, .ref mm_isKept, .ref mm_refused, .int mm_lineFrom, .int mm_lineTo, .ref mm_stands, .ref mm_far, .ref mm_queue, .int mm_queued, .ref mm_meets, .ref mm_bytes, .int (nI bl), .int (nI ta), .int (nI tl), .int mm_token, .int mm_value, .ref mm_next, .int (nI tk)])), (mm_now, .inl (cy 1, 122, .inl mm_now_f))]) [0, 1] (by decide) rfl) rfl rfl) rfl rfl hl.1 rfl (lv_room (Nat.le_of_ble_eq_true rfl)) dX11_reaches_36 ⟨Nat.le_of_ble_eq_true rfl, Nat.le_of_ble_eq_true rfl⟩) hP hS hA (fun r7 H locs hwr7 hP hS => ?_)
    refine lv_iconst (v := 1) hx hb dX11_reaches_39 (by decide) ?_
    refine lv_icmp_gt (tgt := 56) hx hb dX11_reaches_40 (by decide) (fun c8 => ?_) (fun c8 => ?_)
    · skip
      refine lv_iconst (v := 0) hx hb dX11_reaches_56 (by decide) ?_
      subst hQF
      exact W.zret (v := 0) hx hb hr rfl (fun t ht hW => ⟨⟨0, (), rfl, (Or.inr ⟨rfl, trivial⟩), trivial⟩, hS.F ht⟩) hS.2.2 dX11_reaches_57
    · skip
      refine lv_aload_n hx hb dX11_reaches_43 rfl (lv_at hl 2 rfl) ?_
      refine lv_iload_n hx hb dX11_reaches_44 rfl (lv_at hl 4 rfl) ?_
      refine lv_iconst (v := 2) hx hb dX11_reaches_45 (by decide) ?_
      refine rd_i (va_runV (As := [.int (nI pb), .int 2]) (rest := []) ⟨hx, hb, hml, hown, hts⟩ (n_X11_of l D cy mW mH mS mP mm mm_now mm_kept mm_isKept mm_refused mm_lineFrom mm_lineTo mm_stands mm_far mm_queue mm_queued mm_meets mm_bytes bl ta tl mm_token mm_value mm_next tk mm_now_f pb 2 _ (by first | assumption | omega) (by first | assumption | omega) (by first | assumption | omega)) (cwV 2 hts gX11_reaches_X11_of rfl rfl rfl (by decide +kernel) ⟨Nat.le_of_ble_eq_true rfl, Nat.le_of_ble_eq_true rfl⟩) (pV (ci := 11) (k := 0) hKA (hP.sub (ws' := [(mm, .inr (11, [.ref mm_now, .ref mm_kept, .ref mm_isKept, .ref mm_refused, .int mm_lineFrom, .int mm_lineTo, .ref mm_stands, .ref mm_far, .ref mm_queue, .int mm_queued, .ref mm_meets, .ref mm_bytes, .int (nI bl), .int (nI ta), .int (nI tl), .int mm_token, .int mm_value, .ref mm_next, .int (nI tk)])), (mm_now, .inl (cy 1, 122, .inl mm_now_f))]) [0, 1] rfl) (hD.sub (ws' := [(mm, .inr (11, [.ref mm_now, .ref mm_kept, .ref mm_isKept, .ref mm_refused, .int mm_lineFrom, .int mm_lineTo, .ref mm_stands, .ref mm_far, .ref mm_queue, .int mm_queued, .ref mm_meets, .ref mm_bytes, .int (nI bl), .int (nI ta), .int (nI tl), .int mm_token, .int mm_value, .ref mm_next, .int (nI tk)])), (mm_now, .inl (cy 1, 122, .inl mm_now_f))]) [0, 1] (by decide) rfl) rfl rfl) rfl rfl hl.1 rfl (lv_room (Nat.le_of_ble_eq_true rfl)) dX11_reaches_46 ⟨Nat.le_of_ble_eq_true rfl, Nat.le_of_ble_eq_true rfl⟩) hP hS hA (fun r9 H locs hwr9 hP hS => ?_)
      have hwr9 : r9 = mm_now_f (5 + 3 * pb + 2) := hwr9
      subst hwr9
      refine lv_if_le (tgt := 56) hx hb dX11_reaches_49 (by decide) (fun c10 => ?_) (fun c10 => ?_)
      · skip
        refine lv_iconst (v := 0) hx hb dX11_reaches_56 (by decide) ?_
        subst hQF
        exact W.zret (v := 0) hx hb hr rfl (fun t ht hW => ⟨⟨0, (), rfl, (Or.inr ⟨rfl, trivial⟩), trivial⟩, hS.F ht⟩) hS.2.2 dX11_reaches_57
      · skip
        refine lv_iconst (v := 1) hx hb dX11_reaches_52 (by decide) ?_
        refine lv_goto (tgt := 57) hx hb dX11_reaches_53 (by decide) ?_
        subst hQF
        exact W.zret (v := 1) hx hb hr rfl (fun t ht hW => ⟨⟨1, (), rfl, (Or.inl ⟨rfl, trivial⟩), trivial⟩, hS.F ht⟩) hS.2.2 dX11_reaches_57
  · skip
    refine lv_aload_n hx hb dX11_reaches_23 rfl (lv_at hl 2 rfl) ?_
    refine lv_iload hx hb dX11_reaches_24 (lv_at hl 0 rfl) ?_
    refine rd_i (va_runV (As := [.int x4]) (rest := []) ⟨hx, hb, hml, hown, hts⟩ (n_X11_isDrowned l D cy mW mH mS mP mm mm_now mm_kept mm_isKept mm_refused mm_lineFrom mm_lineTo mm_stands mm_far mm_queue mm_queued mm_meets mm_bytes bl ta tl mm_token mm_value mm_next tk mm_now_f x4 _ (by first | assumption | omega)) (cwV 1 hts gX11_reaches_X11_isDrowned rfl rfl rfl (by decide +kernel) ⟨Nat.le_of_ble_eq_true rfl, Nat.le_of_ble_eq_true rfl⟩) (pV (ci := 11) (k := 0) hKA (hP.sub (ws' := [(mm, .inr (11, [.ref mm_now, .ref mm_kept, .ref mm_isKept, .ref mm_refused, .int mm_lineFrom, .int mm_lineTo, .ref mm_stands, .ref mm_far, .ref mm_queue, .int mm_queued, .ref mm_meets, .ref mm_bytes, .int (nI bl), .int (nI ta), .int (nI tl), .int mm_token, .int mm_value, .ref mm_next, .int (nI tk)])), (mm_now, .inl (cy 1, 122, .inl mm_now_f))]) [0, 1] rfl) (hD.sub (ws' := [(mm, .inr (11, [.ref mm_now, .ref mm_kept, .ref mm_isKept, .ref mm_refused, .int mm_lineFrom, .int mm_lineTo, .ref mm_stands, .ref mm_far, .ref mm_queue, .int mm_queued, .ref mm_meets, .ref mm_bytes, .int (nI bl), .int (nI ta), .int (nI tl), .int mm_token, .int mm_value, .ref mm_next, .int (nI tk)])), (mm_now, .inl (cy 1, 122, .inl mm_now_f))]) [0, 1] (by decide) rfl) rfl rfl) rfl rfl hl.1 rfl (lv_room (Nat.le_of_ble_eq_true rfl)) dX11_reaches_26 ⟨Nat.le_of_ble_eq_true rfl, Nat.le_of_ble_eq_true rfl⟩) hP hS hA (fun r11 H locs hwr11 hP hS => ?_)
    have hwr11 : (r11 = 1 ∧ True) ∨ (r11 = 0 ∧ True) := hwr11
    refine lv_if_eq (tgt := 58) hx hb dX11_reaches_29 (by decide) (fun c12 => ?_) (fun c12 => ?_)
    · skip
      refine lv_aload_n hx hb dX11_reaches_58 rfl (lv_at hl 2 rfl) ?_
      refine lv_iload hx hb dX11_reaches_59 (lv_at hl 0 rfl) ?_
      refine rd_i (va_runV (As := [.int x4]) (rest := []) ⟨hx, hb, hml, hown, hts⟩ (n_X11_xOf l D cy mW mH mS mP mm mm_now mm_kept mm_isKept mm_refused mm_lineFrom mm_lineTo mm_stands mm_far mm_queue mm_queued mm_meets mm_bytes bl ta tl mm_token mm_value mm_next tk mm_now_f x4 _ (by first | assumption | omega)) (cwV 1 hts gX11_reaches_X11_xOf rfl rfl rfl (by decide +kernel) ⟨Nat.le_of_ble_eq_true rfl, Nat.le_of_ble_eq_true rfl⟩) (pV (ci := 11) (k := 0) hKA (hP.sub (ws' := [(mm, .inr (11, [.ref mm_now, .ref mm_kept, .ref mm_isKept, .ref mm_refused, .int mm_lineFrom, .int mm_lineTo, .ref mm_stands, .ref mm_far, .ref mm_queue, .int mm_queued, .ref mm_meets, .ref mm_bytes, .int (nI bl), .int (nI ta), .int (nI tl), .int mm_token, .int mm_value, .ref mm_next, .int (nI tk)])), (mm_now, .inl (cy 1, 122, .inl mm_now_f))]) [0, 1] rfl) (hD.sub (ws' := [(mm, .inr (11, [.ref mm_now, .ref mm_kept, .ref mm_isKept, .ref mm_refused, .int mm_lineFrom, .int mm_lineTo, .ref mm_stands, .ref mm_far, .ref mm_queue, .int mm_queued, .ref mm_meets, .ref mm_bytes, .int (nI bl), .int (nI ta), .int (nI tl), .int mm_token, .int mm_value, .ref mm_next, .int (nI tk)])), (mm_now, .inl (cy 1, 122, .inl mm_now_f))]) [0, 1] (by decide) rfl) rfl rfl) rfl rfl hl.1 rfl (lv_room (Nat.le_of_ble_eq_true rfl)) dX11_reaches_61 ⟨Nat.le_of_ble_eq_true rfl, Nat.le_of_ble_eq_true rfl⟩) hP hS hA (fun r13 H locs hwr13 hP hS => ?_)
      have hwr13 : r13 = x4 - x4 / nI mW * nI mW := hwr13
      subst hwr13
      refine lv_aload_n hx hb dX11_reaches_64 rfl (lv_at hl 2 rfl) ?_
      refine lv_iload_n hx hb dX11_reaches_65 rfl (lv_at hl 1 rfl) ?_
      refine rd_i (va_runV (As := [.int x2]) (rest := [.int (x4 - x4 / nI mW * nI mW)]) ⟨hx, hb, hml, hown, hts⟩ (n_X11_xOf l D cy mW mH mS mP mm mm_now mm_kept mm_isKept mm_refused mm_lineFrom mm_lineTo mm_stands mm_far mm_queue mm_queued mm_meets mm_bytes bl ta tl mm_token mm_value mm_next tk mm_now_f x2 _ (by first | assumption | omega)) (cwV 1 hts gX11_reaches_X11_xOf rfl rfl rfl (by decide +kernel) ⟨Nat.le_of_ble_eq_true rfl, Nat.le_of_ble_eq_true rfl⟩) (pV (ci := 11) (k := 0) hKA (hP.sub (ws' := [(mm, .inr (11, [.ref mm_now, .ref mm_kept, .ref mm_isKept, .ref mm_refused, .int mm_lineFrom, .int mm_lineTo, .ref mm_stands, .ref mm_far, .ref mm_queue, .int mm_queued, .ref mm_meets, .ref mm_bytes, .int (nI bl), .int (nI ta), .int (nI tl), .int mm_token, .int mm_value, .ref mm_next, .int (nI tk)])), (mm_now, .inl (cy 1, 122, .inl mm_now_f))]) [0, 1] rfl) (hD.sub (ws' := [(mm, .inr (11, [.ref mm_now, .ref mm_kept, .ref mm_isKept, .ref mm_refused, .int mm_lineFrom, .int mm_lineTo, .ref mm_stands, .ref mm_far, .ref mm_queue, .int mm_queued, .ref mm_meets, .ref mm_bytes, .int (nI bl), .int (nI ta), .int (nI tl), .int mm_token, .int mm_value, .ref mm_next, .int (nI tk)])), (mm_now, .inl (cy 1, 122, .inl mm_now_f))]) [0, 1] (by decide) rfl) rfl rfl) rfl rfl hl.1 rfl (lv_room (Nat.le_of_ble_eq_true rfl)) dX11_reaches_66 ⟨Nat.le_of_ble_eq_true rfl, Nat.le_of_ble_eq_true rfl⟩) hP hS hA (fun r14 H locs hwr14 hP hS => ?_)
      have hwr14 : r14 = x2 - x2 / nI mW * nI mW := hwr14
      subst hwr14
      refine lv_isub hx hb dX11_reaches_69 ?_
      refine lv_topi (fun x15 ex15 => ?_)
      refine lv_istore (lv' := [(5, .int x15), (4, .int x4), (3, .int x2), (0, .ref mm), (1, .int (nI pa)), (2, .int (nI pb))]) hx hb dX11_reaches_70 hl (by decide) rfl (fun ls hl => ?_)
      refine lv_aload_n hx hb dX11_reaches_72 rfl (lv_at hl 3 rfl) ?_
      refine lv_iload_n hx hb dX11_reaches_73 rfl (lv_at hl 2 rfl) ?_
      refine lv_iload hx hb dX11_reaches_74 (lv_at hl 1 rfl) ?_
      refine rd_i (va_runV (As := [.int x2, .int x4]) (rest := []) ⟨hx, hb, hml, hown, hts⟩ (n_X11_yards l D cy mW mH mS mP mm mm_now mm_kept mm_isKept mm_refused mm_lineFrom mm_lineTo mm_stands mm_far mm_queue mm_queued mm_meets mm_bytes bl ta tl mm_token mm_value mm_next tk mm_now_f x2 x4 _ (by first | assumption | omega)) (cwV 2 hts gX11_reaches_X11_yards rfl rfl rfl (by decide +kernel) ⟨Nat.le_of_ble_eq_true rfl, Nat.le_of_ble_eq_true rfl⟩) (pV (ci := 11) (k := 0) hKA (hP.sub (ws' := [(mm, .inr (11, [.ref mm_now, .ref mm_kept, .ref mm_isKept, .ref mm_refused, .int mm_lineFrom, .int mm_lineTo, .ref mm_stands, .ref mm_far, .ref mm_queue, .int mm_queued, .ref mm_meets, .ref mm_bytes, .int (nI bl), .int (nI ta), .int (nI tl), .int mm_token, .int mm_value, .ref mm_next, .int (nI tk)])), (mm_now, .inl (cy 1, 122, .inl mm_now_f))]) [0, 1] rfl) (hD.sub (ws' := [(mm, .inr (11, [.ref mm_now, .ref mm_kept, .ref mm_isKept, .ref mm_refused, .int mm_lineFrom, .int mm_lineTo, .ref mm_stands, .ref mm_far, .ref mm_queue, .int mm_queued, .ref mm_meets, .ref mm_bytes, .int (nI bl), .int (nI ta), .int (nI tl), .int mm_token, .int mm_value, .ref mm_next, .int (nI tk)])), (mm_now, .inl (cy 1, 122, .inl mm_now_f))]) [0, 1] (by decide) rfl) rfl rfl) rfl rfl hl.1 rfl (lv_room (Nat.le_of_ble_eq_true rfl)) dX11_reaches_76 ⟨Nat.le_of_ble_eq_true rfl, Nat.le_of_ble_eq_true rfl⟩) hP hS hA (fun r16 H locs hwr16 hP hS => ?_)
      refine lv_aload_n hx hb dX11_reaches_79 rfl (lv_at hl 3 rfl) ?_
      refine lv_iload_n hx hb dX11_reaches_80 rfl (lv_at hl 5 rfl) ?_
      refine lv_iconst (v := 2) hx hb dX11_reaches_81 (by decide) ?_
      refine rd_i (va_runV (As := [.int (nI pb), .int 2]) (rest := [.int r16]) ⟨hx, hb, hml, hown, hts⟩ (n_X11_of l D cy mW mH mS mP mm mm_now mm_kept mm_isKept mm_refused mm_lineFrom mm_lineTo mm_stands mm_far mm_queue mm_queued mm_meets mm_bytes bl ta tl mm_token mm_value mm_next tk mm_now_f pb 2 _ (by first | assumption | omega) (by first | assumption | omega) (by first | assumption | omega)) (cwV 2 hts gX11_reaches_X11_of rfl rfl rfl (by decide +kernel) ⟨Nat.le_of_ble_eq_true rfl, Nat.le_of_ble_eq_true rfl⟩) (pV (ci := 11) (k := 0) hKA (hP.sub (ws' := [(mm, .inr (11, [.ref mm_now, .ref mm_kept, .ref mm_isKept, .ref mm_refused, .int mm_lineFrom, .int mm_lineTo, .ref mm_stands, .ref mm_far, .ref mm_queue, .int mm_queued, .ref mm_meets, .ref mm_bytes, .int (nI bl), .int (nI ta), .int (nI tl), .int mm_token, .int mm_value, .ref mm_next, .int (nI tk)])), (mm_now, .inl (cy 1, 122, .inl mm_now_f))]) [0, 1] rfl) (hD.sub (ws' := [(mm, .inr (11, [.ref mm_now, .ref mm_kept, .ref mm_isKept, .ref mm_refused, .int mm_lineFrom, .int mm_lineTo, .ref mm_stands, .ref mm_far, .ref mm_queue, .int mm_queued, .ref mm_meets, .ref mm_bytes, .int (nI bl), .int (nI ta), .int (nI tl), .int mm_token, .int mm_value, .ref mm_next, .int (nI tk)])), (mm_now, .inl (cy 1, 122, .inl mm_now_f))]) [0, 1] (by decide) rfl) rfl rfl) rfl rfl hl.1 rfl (lv_room (Nat.le_of_ble_eq_true rfl)) dX11_reaches_82 ⟨Nat.le_of_ble_eq_true rfl, Nat.le_of_ble_eq_true rfl⟩) hP hS hA (fun r17 H locs hwr17 hP hS => ?_)
      have hwr17 : r17 = mm_now_f (5 + 3 * pb + 2) := hwr17
      subst hwr17
      refine lv_iload hx hb dX11_reaches_85 (lv_at hl 0 rfl) ?_
      have j115 : ∀ (s3_115 : Int32) (H : Heap) (locs : List Loc), va_P D vwCl [(mm, .inr (11, [.ref mm_now, .ref mm_kept, .ref mm_isKept, .ref mm_refused, .int mm_lineFrom, .int mm_lineTo, .ref mm_stands, .ref mm_far, .ref mm_queue, .int mm_queued, .ref mm_meets, .ref mm_bytes, .int (nI bl), .int (nI ta), .int (nI tl), .int mm_token, .int mm_value, .ref mm_next, .int (nI tk)])), (mm_now, .inl (cy 1, 122, .inl mm_now_f))] H → va_D (fun _ => True) [(mm, .inr (11, [.ref mm_now, .ref mm_kept, .ref mm_isKept, .ref mm_refused, .int mm_lineFrom, .int mm_lineTo, .ref mm_stands, .ref mm_far, .ref mm_queue, .int mm_queued, .ref mm_meets, .ref mm_bytes, .int (nI bl), .int (nI ta), .int (nI tl), .int mm_token, .int mm_value, .ref mm_next, .int (nI tk)])), (mm_now, .inl (cy 1, 122, .inl mm_now_f))] → va_S A s.heap H locs → ∀ ls : Array Slot, lv_has ls 6 [(5, .int x15), (4, .int x4), (3, .int x2), (0, .ref mm), (1, .int (nI pa)), (2, .int (nI pb))] → W p l e (headSpec wsX11_reaches ({ frames := 4, cells := 0, slots := 0, locals := 86 })).room s m [.ref mm, .int (nI pa), .int (nI pb)].toArray below meth c H locs 0 0 QF (F0 m 115 ls [.int s3_115, .int (mm_now_f (5 + 3 * pb + 2)), .int r16]) := by
        intro s3_115 H locs hP hD hS ls hl
        refine lv_iadd hx hb dX11_reaches_115 ?_
        refine lv_icmp_gt (tgt := 123) hx hb dX11_reaches_116 (by decide) (fun c18 => ?_) (fun c18 => ?_)
        · skip
          refine lv_iconst (v := 0) hx hb dX11_reaches_123 (by decide) ?_
          subst hQF
          exact W.zret (v := 0) hx hb hr rfl (fun t ht hW => ⟨⟨0, (), rfl, (Or.inr ⟨rfl, trivial⟩), trivial⟩, hS.F ht⟩) hS.2.2 dX11_reaches_124
        · skip
          refine lv_iconst (v := 1) hx hb dX11_reaches_119 (by decide) ?_
          refine lv_goto (tgt := 124) hx hb dX11_reaches_120 (by decide) ?_
          subst hQF
          exact W.zret (v := 1) hx hb hr rfl (fun t ht hW => ⟨⟨1, (), rfl, (Or.inl ⟨rfl, trivial⟩), trivial⟩, hS.F ht⟩) hS.2.2 dX11_reaches_124
      refine lv_if_le (tgt := 99) hx hb dX11_reaches_87 (by decide) (fun c19 => ?_) (fun c19 => ?_)
      · skip
        refine lv_iload hx hb dX11_reaches_99 (lv_at hl 0 rfl) ?_
        refine lv_if_ge (tgt := 114) hx hb dX11_reaches_101 (by decide) (fun c20 => ?_) (fun c20 => ?_)
        · skip
          refine lv_iconst (v := 0) hx hb dX11_reaches_114 (by decide) ?_
          exact j115 0 _ _ hP hD hS ls hl
        · skip
          refine lv_aload_n hx hb dX11_reaches_104 rfl (lv_at hl 3 rfl) ?_
          refine va_get (D := D) (ci := 11) (v := .ref mm_now) (C := RX11) (T := TX11) (N := 19) hx hb hts zi11_ hown hK hP 0 rfl rfl 0 (by decide) z0_ (fun _ h9 => h9) rfl dX11_reaches_105 ?_
          refine lv_iconst (v := 3) hx hb dX11_reaches_108 (by decide) ?_
          refine my_iald hx hb hK hP 1 1 rfl rfl (by rw [vp_in_iff]; decide +kernel) (k := 3) (by decide +kernel) dX11_reaches_109 ?_
          refine lv_ineg hx hb dX11_reaches_110 ?_
          refine lv_goto (tgt := 115) hx hb dX11_reaches_111 (by decide) ?_
          exact j115 (-(mm_now_f 3)) _ _ hP hD hS ls hl
      · skip
        refine lv_aload_n hx hb dX11_reaches_90 rfl (lv_at hl 3 rfl) ?_
        refine va_get (D := D) (ci := 11) (v := .ref mm_now) (C := RX11) (T := TX11) (N := 19) hx hb hts zi11_ hown hK hP 0 rfl rfl 0 (by decide) z0_ (fun _ h9 => h9) rfl dX11_reaches_91 ?_
        refine lv_iconst (v := 3) hx hb dX11_reaches_94 (by decide) ?_
        refine my_iald hx hb hK hP 1 1 rfl rfl (by rw [vp_in_iff]; decide +kernel) (k := 3) (by decide +kernel) dX11_reaches_95 ?_
        refine lv_goto (tgt := 115) hx hb dX11_reaches_96 (by decide) ?_
        exact j115 (mm_now_f 3) _ _ hP hD hS ls hl
    · skip
      refine lv_aload_n hx hb dX11_reaches_32 rfl (lv_at hl 2 rfl) ?_
      refine lv_iload_n hx hb dX11_reaches_33 rfl (lv_at hl 1 rfl) ?_
      refine lv_iload hx hb dX11_reaches_34 (lv_at hl 0 rfl) ?_
      refine rd_i (va_runV (As := [.int x2, .int x4]) (rest := []) ⟨hx, hb, hml, hown, hts⟩ (n_X11_yards l D cy mW mH mS mP mm mm_now mm_kept mm_isKept mm_refused mm_lineFrom mm_lineTo mm_stands mm_far mm_queue mm_queued mm_meets mm_bytes bl ta tl mm_token mm_value mm_next tk mm_now_f x2 x4 _ (by first | assumption | omega)) (cwV 2 hts gX11_reaches_X11_yards rfl rfl rfl (by decide +kernel) ⟨Nat.le_of_ble_eq_true rfl, Nat.le_of_ble_eq_true rfl⟩) (pV (ci := 11) (k := 0) hKA (hP.sub (ws' := [(mm, .inr (11, [.ref mm_now, .ref mm_kept, .ref mm_isKept, .ref mm_refused, .int mm_lineFrom, .int mm_lineTo, .ref mm_stands, .ref mm_far, .ref mm_queue, .int mm_queued, .ref mm_meets, .ref mm_bytes, .int (nI bl), .int (nI ta), .int (nI tl), .int mm_token, .int mm_value, .ref mm_next, .int (nI tk)])), (mm_now, .inl (cy 1, 122, .inl mm_now_f))]) [0, 1] rfl) (hD.sub (ws' := [(mm, .inr (11, [.ref mm_now, .ref mm_kept, .ref mm_isKept, .ref mm_refused, .int mm_lineFrom, .int mm_lineTo, .ref mm_stands, .ref mm_far, .ref mm_queue, .int mm_queued, .ref mm_meets, .ref mm_bytes, .int (nI bl), .int (nI ta), .int (nI tl), .int mm_token, .int mm_value, .ref mm_next, .int (nI tk)])), (mm_now, .inl (cy 1, 122, .inl mm_now_f))]) [0, 1] (by decide) rfl) rfl rfl) rfl rfl hl.1 rfl (lv_room (Nat.le_of_ble_eq_true rfl)) dX11_reaches_36 ⟨Nat.le_of_ble_eq_true rfl, Nat.le_of_ble_eq_true rfl⟩) hP hS hA (fun r21 H locs hwr21 hP hS => ?_)
      refine lv_iconst (v := 1) hx hb dX11_reaches_39 (by decide) ?_
      refine lv_icmp_gt (tgt := 56) hx hb dX11_reaches_40 (by decide) (fun c22 => ?_) (fun c22 => ?_)
      · skip
        refine lv_iconst (v := 0) hx hb dX11_reaches_56 (by decide) ?_
        subst hQF
        exact W.zret (v := 0) hx hb hr rfl (fun t ht hW => ⟨⟨0, (), rfl, (Or.inr ⟨rfl, trivial⟩), trivial⟩, hS.F ht⟩) hS.2.2 dX11_reaches_57
      · skip
        refine lv_aload_n hx hb dX11_reaches_43 rfl (lv_at hl 2 rfl) ?_
        refine lv_iload_n hx hb dX11_reaches_44 rfl (lv_at hl 4 rfl) ?_
        refine lv_iconst (v := 2) hx hb dX11_reaches_45 (by decide) ?_
        refine rd_i (va_runV (As := [.int (nI pb), .int 2]) (rest := []) ⟨hx, hb, hml, hown, hts⟩ (n_X11_of l D cy mW mH mS mP mm mm_now mm_kept mm_isKept mm_refused mm_lineFrom mm_lineTo mm_stands mm_far mm_queue mm_queued mm_meets mm_bytes bl ta tl mm_token mm_value mm_next tk mm_now_f pb 2 _ (by first | assumption | omega) (by first | assumption | omega) (by first | assumption | omega)) (cwV 2 hts gX11_reaches_X11_of rfl rfl rfl (by decide +kernel) ⟨Nat.le_of_ble_eq_true rfl, Nat.le_of_ble_eq_true rfl⟩) (pV (ci := 11) (k := 0) hKA (hP.sub (ws' := [(mm, .inr (11, [.ref mm_now, .ref mm_kept, .ref mm_isKept, .ref mm_refused, .int mm_lineFrom, .int mm_lineTo, .ref mm_stands, .ref mm_far, .ref mm_queue, .int mm_queued, .ref mm_meets, .ref mm_bytes, .int (nI bl), .int (nI ta), .int (nI tl), .int mm_token, .int mm_value, .ref mm_next, .int (nI tk)])), (mm_now, .inl (cy 1, 122, .inl mm_now_f))]) [0, 1] rfl) (hD.sub (ws' := [(mm, .inr (11, [.ref mm_now, .ref mm_kept, .ref mm_isKept, .ref mm_refused, .int mm_lineFrom, .int mm_lineTo, .ref mm_stands, .ref mm_far, .ref mm_queue, .int mm_queued, .ref mm_meets, .ref mm_bytes, .int (nI bl), .int (nI ta), .int (nI tl), .int mm_token, .int mm_value, .ref mm_next, .int (nI tk)])), (mm_now, .inl (cy 1, 122, .inl mm_now_f))]) [0, 1] (by decide) rfl) rfl rfl) rfl rfl hl.1 rfl (lv_room (Nat.le_of_ble_eq_true rfl)) dX11_reaches_46 ⟨Nat.le_of_ble_eq_true rfl, Nat.le_of_ble_eq_true rfl⟩) hP hS hA (fun r23 H locs hwr23 hP hS => ?_)
        have hwr23 : r23 = mm_now_f (5 + 3 * pb + 2) := hwr23
        subst hwr23
        refine lv_if_le (tgt := 56) hx hb dX11_reaches_49 (by decide) (fun c24 => ?_) (fun c24 => ?_)
        · skip
          refine lv_iconst (v := 0) hx hb dX11_reaches_56 (by decide) ?_
          subst hQF
          exact W.zret (v := 0) hx hb hr rfl (fun t ht hW => ⟨⟨0, (), rfl, (Or.inr ⟨rfl, trivial⟩), trivial⟩, hS.F ht⟩) hS.2.2 dX11_reaches_57
        · skip
          refine lv_iconst (v := 1) hx hb dX11_reaches_52 (by decide) ?_
          refine lv_goto (tgt := 57) hx hb dX11_reaches_53 (by decide) ?_
          subst hQF
          exact W.zret (v := 1) hx hb hr rfl (fun t ht hW => ⟨⟨1, (), rfl, (Or.inl ⟨rfl, trivial⟩), trivial⟩, hS.F ht⟩) hS.2.2 dX11_reaches_57

set_option maxHeartbeats 4000000 in
set_option maxRecDepth 100000 in
theorem n_X11_hears (l : Launch) (D : va_G) (cy : Nat → ClassId) (mW : Nat) (mH : Nat) (mS : Nat) (mP : Nat) (mm : Nat) (mm_now : Nat) (mm_kept : Nat) (mm_isKept : Nat) (mm_refused : Nat) (mm_lineFrom : Int32) (mm_lineTo : Int32) (mm_stands : Nat) (mm_far : Nat) (mm_queue : Nat) (mm_queued : Int32) (mm_meets : Nat) (mm_bytes : Nat) (bl : Nat) (ta : Nat) (tl : Nat) (mm_token : Int32) (mm_value : Int32) (mm_next : Nat) (tk : Nat) (mm_now_f : Nat → Int32) (pa : Nat) (pb : Nat) (sz : Nat) (hF : mV mm_now_f mW mH mS mP) (hpa : pa < 5) (hpb : pb < 5) : Met l yX11_hears wsX11_hears ({ frames := 5, cells := 0, slots := 0, locals := 111 }) (va_Pc [.ref mm, .int (nI pa), .int (nI pb)] (kPre D cy [(mm, .inr (11, [.ref mm_now, .ref mm_kept, .ref mm_isKept, .ref mm_refused, .int mm_lineFrom, .int mm_lineTo, .ref mm_stands, .ref mm_far, .ref mm_queue, .int mm_queued, .ref mm_meets, .ref mm_bytes, .int (nI bl), .int (nI ta), .int (nI tl), .int mm_token, .int mm_value, .ref mm_next, .int (nI tk)])), (mm_now, .inl (cy 1, 122, .inl mm_now_f))] sz)) (va_Qi (fun (r : Int32) (u : Unit) => (r = 1 ∧ True) ∨ (r = 0 ∧ True)) (fun _ _ => True) (fun q : Nat => sz ≤ q)) 0 0 (fun q : Nat => sz ≤ q) := by
  refine Met.ofW (cc := cX11_hears) (maxL := 4) (ret := (some .boolean)) (by decide) rfl ?_
  intro p e s m args below meth c s₁ B hml hv
  obtain ⟨rfl, hsz, hP, hKA, hD0⟩ := hv
  have hx := B.exec
  have hb := B.bytes
  have hr := B.returns
  have hts := atoms_spec (ws := wsX11_hears) B.pre
  have hown : s.vm.findClass RX11 = some m.cls := findClass_of_methodNamed B.named
  have hlocks := B.notSynchronized
  subst hsz
  have hK := hKA.1
  have hD := hD0
  generalize hAe : (fun q : Nat => s.heap.size ≤ q) = A
  have hA : ∀ q : Nat, s.heap.size ≤ q → A q := fun q h => by rw [← hAe]; exact h
  have hS : va_S A s.heap s.heap [] := va_S.rf
  have hP : va_P D vwCl [(mm, .inr (11, [.ref mm_now, .ref mm_kept, .ref mm_isKept, .ref mm_refused, .int mm_lineFrom, .int mm_lineTo, .ref mm_stands, .ref mm_far, .ref mm_queue, .int mm_queued, .ref mm_meets, .ref mm_bytes, .int (nI bl), .int (nI ta), .int (nI tl), .int mm_token, .int mm_value, .ref mm_next, .int (nI tk)])), (mm_now, .inl (cy 1, 122, .inl mm_now_f))] s.heap := hP
  have hl := lv_entry ([.ref mm, .int (nI pa), .int (nI pb)]) (n := 4) (Nat.le_of_ble_eq_true rfl)
  rw [lg_entry_eq]
  generalize (lg_sl ([.ref mm, .int (nI pa), .int (nI pb)]) ++ List.replicate (4 - (lg_sl ([.ref mm, .int (nI pa), .int (nI pb)])).length) Slot.unset).toArray = ls at hl ⊢
  have hl : lv_has ls 4 [(0, .ref mm), (1, .int (nI pa)), (2, .int (nI pb))] := hl
  refine qW (fun QF hQF => ?_)
  obtain ⟨hW2, hW6, hH2, hH6, hSe, hS4, hS6, hP5⟩ := hF.rng
  refine lv_aload_n hx hb dX11_hears_0 rfl (lv_at hl 0 rfl) ?_
  refine lv_iload_n hx hb dX11_hears_1 rfl (lv_at hl 1 rfl) ?_
  refine lv_iconst (v := 0) hx hb dX11_hears_2 (by decide) ?_
  refine rd_i (va_runV (As := [.int (nI pa), .int 0]) (rest := []) ⟨hx, hb, hml, hown, hts⟩ (n_X11_of l D cy mW mH mS mP mm mm_now mm_kept mm_isKept mm_refused mm_lineFrom mm_lineTo mm_stands mm_far mm_queue mm_queued mm_meets mm_bytes bl ta tl mm_token mm_value mm_next tk mm_now_f pa 0 _ (by first | assumption | omega) (by first | assumption | omega) (by first | assumption | omega)) (cwV 2 hts gX11_hears_X11_of rfl rfl rfl (by decide +kernel) ⟨Nat.le_of_ble_eq_true rfl, Nat.le_of_ble_eq_true rfl⟩) (pV (ci := 11) (k := 0) hKA (hP.sub (ws' := [(mm, .inr (11, [.ref mm_now, .ref mm_kept, .ref mm_isKept, .ref mm_refused, .int mm_lineFrom, .int mm_lineTo, .ref mm_stands, .ref mm_far, .ref mm_queue, .int mm_queued, .ref mm_meets, .ref mm_bytes, .int (nI bl), .int (nI ta), .int (nI tl), .int mm_token, .int mm_value, .ref mm_next, .int (nI tk)])), (mm_now, .inl (cy 1, 122, .inl mm_now_f))]) [0, 1] rfl) (hD.sub (ws' := [(mm, .inr (11, [.ref mm_now, .ref mm_kept, .ref mm_isKept, .ref mm_refused, .int mm_lineFrom, .int mm_lineTo, .ref mm_stands, .ref mm_far, .ref mm_queue, .int mm_queued, .ref mm_meets, .ref mm_bytes, .int (nI bl), .int (nI ta), .int (nI tl), .int mm_token, .int mm_value, .ref mm_next, .int (nI tk)])), (mm_now, .inl (cy 1, 122, .inl mm_now_f))]) [0, 1] (by decide) rfl) rfl rfl) rfl rfl hl.1 rfl (lv_room (Nat.le_of_ble_eq_true rfl)) dX11_hears_3 ⟨Nat.le_of_ble_eq_true rfl, Nat.le_of_ble_eq_true rfl⟩) hP hS hA (fun r1 H locs hwr1 hP hS => ?_)
  have hwr1 : r1 = mm_now_f (5 + 3 * pa + 0) := hwr1
  subst hwr1
  refine lv_topi (fun x2 ex2 => ?_)
  refine lv_istore_n (lv' := [(3, .int x2), (0, .ref mm), (1, .int (nI pa)), (2, .int (nI pb))]) hx hb dX11_hears_6 rfl hl (by decide) rfl (fun ls hl => ?_)
  refine lv_iload_n hx hb dX11_hears_7 rfl (lv_at hl 0 rfl) ?_
  refine lv_iconst (v := 5) hx hb dX11_hears_8 (by decide) ?_
  refine lv_icmp_ne (tgt := 14) hx hb dX11_hears_9 (by decide) (fun c3 => ?_) (fun c3 => ?_)
  · skip
    refine lv_aload_n hx hb dX11_hears_14 rfl (lv_at hl 1 rfl) ?_
    refine lv_iload_n hx hb dX11_hears_15 rfl (lv_at hl 3 rfl) ?_
    refine lv_iconst (v := 0) hx hb dX11_hears_16 (by decide) ?_
    refine rd_i (va_runV (As := [.int (nI pb), .int 0]) (rest := []) ⟨hx, hb, hml, hown, hts⟩ (n_X11_of l D cy mW mH mS mP mm mm_now mm_kept mm_isKept mm_refused mm_lineFrom mm_lineTo mm_stands mm_far mm_queue mm_queued mm_meets mm_bytes bl ta tl mm_token mm_value mm_next tk mm_now_f pb 0 _ (by first | assumption | omega) (by first | assumption | omega) (by first | assumption | omega)) (cwV 2 hts gX11_hears_X11_of rfl rfl rfl (by decide +kernel) ⟨Nat.le_of_ble_eq_true rfl, Nat.le_of_ble_eq_true rfl⟩) (pV (ci := 11) (k := 0) hKA (hP.sub (ws' := [(mm, .inr (11, [.ref mm_now, .ref mm_kept, .ref mm_isKept, .ref mm_refused, .int mm_lineFrom, .int mm_lineTo, .ref mm_stands, .ref mm_far, .ref mm_queue, .int mm_queued, .ref mm_meets, .ref mm_bytes, .int (nI bl), .int (nI ta), .int (nI tl), .int mm_token, .int mm_value, .ref mm_next, .int (nI tk)])), (mm_now, .inl (cy 1, 122, .inl mm_now_f))]) [0, 1] rfl) (hD.sub (ws' := [(mm, .inr (11, [.ref mm_now, .ref mm_kept, .ref mm_isKept, .ref mm_refused, .int mm_lineFrom, .int mm_lineTo, .ref mm_stands, .ref mm_far, .ref mm_queue, .int mm_queued, .ref mm_meets, .ref mm_bytes, .int (nI bl), .int (nI ta), .int (nI tl), .int mm_token, .int mm_value, .ref mm_next, .int (nI tk)])), (mm_now, .inl (cy 1, 122, .inl mm_now_f))]) [0, 1] (by decide) rfl) rfl rfl) rfl rfl hl.1 rfl (lv_room (Nat.le_of_ble_eq_true rfl)) dX11_hears_17 ⟨Nat.le_of_ble_eq_true rfl, Nat.le_of_ble_eq_true rfl⟩) hP hS hA (fun r4 H locs hwr4 hP hS => ?_)
    have hwr4 : r4 = mm_now_f (5 + 3 * pb + 0) := hwr4
    subst hwr4
    refine lv_iconst (v := 5) hx hb dX11_hears_20 (by decide) ?_
    refine lv_icmp_eq (tgt := 54) hx hb dX11_hears_21 (by decide) (fun c5 => ?_) (fun c5 => ?_)
    · skip
      refine lv_iconst (v := 0) hx hb dX11_hears_54 (by decide) ?_
      subst hQF
      exact W.zret (v := 0) hx hb hr rfl (fun t ht hW => ⟨⟨0, (), rfl, (Or.inr ⟨rfl, trivial⟩), trivial⟩, hS.F ht⟩) hS.2.2 dX11_hears_55
    · skip
      refine lv_iload_n hx hb dX11_hears_24 rfl (lv_at hl 0 rfl) ?_
      refine lv_iconst (v := 1) hx hb dX11_hears_25 (by decide) ?_
      refine lv_icmp_eq (tgt := 54) hx hb dX11_hears_26 (by decide) (fun c6 => ?_) (fun c6 => ?_)
      · skip
        refine lv_iconst (v := 0) hx hb dX11_hears_54 (by decide) ?_
        subst hQF
        exact W.zret (v := 0) hx hb hr rfl (fun t ht hW => ⟨⟨0, (), rfl, (Or.inr ⟨rfl, trivial⟩), trivial⟩, hS.F ht⟩) hS.2.2 dX11_hears_55
      · skip
        refine lv_iload_n hx hb dX11_hears_29 rfl (lv_at hl 0 rfl) ?_
        refine lv_iconst (v := 4) hx hb dX11_hears_30 (by decide) ?_
        refine lv_icmp_ne (tgt := 56) hx hb dX11_hears_31 (by decide) (fun c7 => ?_) (fun c7 => ?_)
        · skip
          refine lv_aload_n hx hb dX11_hears_56 rfl (lv_at hl 1 rfl) ?_
          refine lv_iload_n hx hb dX11_hears_57 rfl (lv_at hl 2 rfl) ?_
          refine lv_iload_n hx hb dX11_hears_58 rfl (lv_at hl 3 rfl) ?_
          refine rd_i (va_runV (As := [.int (nI pa), .int (nI pb)]) (rest := []) ⟨hx, hb, hml, hown, hts⟩ (n_X11_reaches l D cy mW mH mS mP mm mm_now mm_kept mm_isKept mm_refused mm_lineFrom mm_lineTo mm_stands mm_far mm_queue mm_queued mm_meets mm_bytes bl ta tl mm_token mm_value mm_next tk mm_now_f pa pb _ (by first | assumption | omega) (by first | assumption | omega) (by first | assumption | omega)) (cwV 2 hts gX11_hears_X11_reaches rfl rfl rfl (by decide +kernel) ⟨Nat.le_of_ble_eq_true rfl, Nat.le_of_ble_eq_true rfl⟩) (pV (ci := 11) (k := 0) hKA (hP.sub (ws' := [(mm, .inr (11, [.ref mm_now, .ref mm_kept, .ref mm_isKept, .ref mm_refused, .int mm_lineFrom, .int mm_lineTo, .ref mm_stands, .ref mm_far, .ref mm_queue, .int mm_queued, .ref mm_meets, .ref mm_bytes, .int (nI bl), .int (nI ta), .int (nI tl), .int mm_token, .int mm_value, .ref mm_next, .int (nI tk)])), (mm_now, .inl (cy 1, 122, .inl mm_now_f))]) [0, 1] rfl) (hD.sub (ws' := [(mm, .inr (11, [.ref mm_now, .ref mm_kept, .ref mm_isKept, .ref mm_refused, .int mm_lineFrom, .int mm_lineTo, .ref mm_stands, .ref mm_far, .ref mm_queue, .int mm_queued, .ref mm_meets, .ref mm_bytes, .int (nI bl), .int (nI ta), .int (nI tl), .int mm_token, .int mm_value, .ref mm_next, .int (nI tk)])), (mm_now, .inl (cy 1, 122, .inl mm_now_f))]) [0, 1] (by decide) rfl) rfl rfl) rfl rfl hl.1 rfl (lv_room (Nat.le_of_ble_eq_true rfl)) dX11_hears_59 ⟨Nat.le_of_ble_eq_true rfl, Nat.le_of_ble_eq_true rfl⟩) hP hS hA (fun r8 H locs hwr8 hP hS => ?_)
          have hwr8 : (r8 = 1 ∧ True) ∨ (r8 = 0 ∧ True) := hwr8
          subst hQF
          exact W.zret (v := r8) hx hb hr (z_bn hwr8) (fun t ht hW => ⟨⟨r8, (), rfl, (z_bt hwr8), trivial⟩, hS.F ht⟩) hS.2.2 dX11_hears_62
        · skip
          refine lv_aload_n hx hb dX11_hears_34 rfl (lv_at hl 1 rfl) ?_
          refine lv_aload_n hx hb dX11_hears_35 rfl (lv_at hl 1 rfl) ?_
          refine lv_iload_n hx hb dX11_hears_36 rfl (lv_at hl 2 rfl) ?_
          refine lv_iconst (v := 1) hx hb dX11_hears_37 (by decide) ?_
          refine rd_i (va_runV (As := [.int (nI pa), .int 1]) (rest := [.ref mm]) ⟨hx, hb, hml, hown, hts⟩ (n_X11_of l D cy mW mH mS mP mm mm_now mm_kept mm_isKept mm_refused mm_lineFrom mm_lineTo mm_stands mm_far mm_queue mm_queued mm_meets mm_bytes bl ta tl mm_token mm_value mm_next tk mm_now_f pa 1 _ (by first | assumption | omega) (by first | assumption | omega) (by first | assumption | omega)) (cwV 2 hts gX11_hears_X11_of rfl rfl rfl (by decide +kernel) ⟨Nat.le_of_ble_eq_true rfl, Nat.le_of_ble_eq_true rfl⟩) (pV (ci := 11) (k := 0) hKA (hP.sub (ws' := [(mm, .inr (11, [.ref mm_now, .ref mm_kept, .ref mm_isKept, .ref mm_refused, .int mm_lineFrom, .int mm_lineTo, .ref mm_stands, .ref mm_far, .ref mm_queue, .int mm_queued, .ref mm_meets, .ref mm_bytes, .int (nI bl), .int (nI ta), .int (nI tl), .int mm_token, .int mm_value, .ref mm_next, .int (nI tk)])), (mm_now, .inl (cy 1, 122, .inl mm_now_f))]) [0, 1] rfl) (hD.sub (ws' := [(mm, .inr (11, [.ref mm_now, .ref mm_kept, .ref mm_isKept, .ref mm_refused, .int mm_lineFrom, .int mm_lineTo, .ref mm_stands, .ref mm_far, .ref mm_queue, .int mm_queued, .ref mm_meets, .ref mm_bytes, .int (nI bl), .int (nI ta), .int (nI tl), .int mm_token, .int mm_value, .ref mm_next, .int (nI tk)])), (mm_now, .inl (cy 1, 122, .inl mm_now_f))]) [0, 1] (by decide) rfl) rfl rfl) rfl rfl hl.1 rfl (lv_room (Nat.le_of_ble_eq_true rfl)) dX11_hears_38 ⟨Nat.le_of_ble_eq_true rfl, Nat.le_of_ble_eq_true rfl⟩) hP hS hA (fun r9 H locs hwr9 hP hS => ?_)
          have hwr9 : r9 = mm_now_f (5 + 3 * pa + 1) := hwr9
          subst hwr9
          refine lv_aload_n hx hb dX11_hears_41 rfl (lv_at hl 1 rfl) ?_
          refine lv_iload_n hx hb dX11_hears_42 rfl (lv_at hl 3 rfl) ?_
          refine lv_iconst (v := 1) hx hb dX11_hears_43 (by decide) ?_
          refine rd_i (va_runV (As := [.int (nI pb), .int 1]) (rest := [.int (mm_now_f (5 + 3 * pa + 1)), .ref mm]) ⟨hx, hb, hml, hown, hts⟩ (n_X11_of l D cy mW mH mS mP mm mm_now mm_kept mm_isKept mm_refused mm_lineFrom mm_lineTo mm_stands mm_far mm_queue mm_queued mm_meets mm_bytes bl ta tl mm_token mm_value mm_next tk mm_now_f pb 1 _ (by first | assumption | omega) (by first | assumption | omega) (by first | assumption | omega)) (cwV 2 hts gX11_hears_X11_of rfl rfl rfl (by decide +kernel) ⟨Nat.le_of_ble_eq_true rfl, Nat.le_of_ble_eq_true rfl⟩) (pV (ci := 11) (k := 0) hKA (hP.sub (ws' := [(mm, .inr (11, [.ref mm_now, .ref mm_kept, .ref mm_isKept, .ref mm_refused, .int mm_lineFrom, .int mm_lineTo, .ref mm_stands, .ref mm_far, .ref mm_queue, .int mm_queued, .ref mm_meets, .ref mm_bytes, .int (nI bl), .int (nI ta), .int (nI tl), .int mm_token, .int mm_value, .ref mm_next, .int (nI tk)])), (mm_now, .inl (cy 1, 122, .inl mm_now_f))]) [0, 1] rfl) (hD.sub (ws' := [(mm, .inr (11, [.ref mm_now, .ref mm_kept, .ref mm_isKept, .ref mm_refused, .int mm_lineFrom, .int mm_lineTo, .ref mm_stands, .ref mm_far, .ref mm_queue, .int mm_queued, .ref mm_meets, .ref mm_bytes, .int (nI bl), .int (nI ta), .int (nI tl), .int mm_token, .int mm_value, .ref mm_next, .int (nI tk)])), (mm_now, .inl (cy 1, 122, .inl mm_now_f))]) [0, 1] (by decide) rfl) rfl rfl) rfl rfl hl.1 rfl (lv_room (Nat.le_of_ble_eq_true rfl)) dX11_hears_44 ⟨Nat.le_of_ble_eq_true rfl, Nat.le_of_ble_eq_true rfl⟩) hP hS hA (fun r10 H locs hwr10 hP hS => ?_)
          have hwr10 : r10 = mm_now_f (5 + 3 * pb + 1) := hwr10
          subst hwr10
          refine rd_i (va_runV (As := [.int (mm_now_f (5 + 3 * pa + 1)), .int (mm_now_f (5 + 3 * pb + 1))]) (rest := []) ⟨hx, hb, hml, hown, hts⟩ (n_X11_yards l D cy mW mH mS mP mm mm_now mm_kept mm_isKept mm_refused mm_lineFrom mm_lineTo mm_stands mm_far mm_queue mm_queued mm_meets mm_bytes bl ta tl mm_token mm_value mm_next tk mm_now_f (mm_now_f (5 + 3 * pa + 1)) (mm_now_f (5 + 3 * pb + 1)) _ (by first | assumption | omega)) (cwV 2 hts gX11_hears_X11_yards rfl rfl rfl (by decide +kernel) ⟨Nat.le_of_ble_eq_true rfl, Nat.le_of_ble_eq_true rfl⟩) (pV (ci := 11) (k := 0) hKA (hP.sub (ws' := [(mm, .inr (11, [.ref mm_now, .ref mm_kept, .ref mm_isKept, .ref mm_refused, .int mm_lineFrom, .int mm_lineTo, .ref mm_stands, .ref mm_far, .ref mm_queue, .int mm_queued, .ref mm_meets, .ref mm_bytes, .int (nI bl), .int (nI ta), .int (nI tl), .int mm_token, .int mm_value, .ref mm_next, .int (nI tk)])), (mm_now, .inl (cy 1, 122, .inl mm_now_f))]) [0, 1] rfl) (hD.sub (ws' := [(mm, .inr (11, [.ref mm_now, .ref mm_kept, .ref mm_isKept, .ref mm_refused, .int mm_lineFrom, .int mm_lineTo, .ref mm_stands, .ref mm_far, .ref mm_queue, .int mm_queued, .ref mm_meets, .ref mm_bytes, .int (nI bl), .int (nI ta), .int (nI tl), .int mm_token, .int mm_value, .ref mm_next, .int (nI tk)])), (mm_now, .inl (cy 1, 122, .inl mm_now_f))]) [0, 1] (by decide) rfl) rfl rfl) rfl rfl hl.1 rfl (lv_room (Nat.le_of_ble_eq_true rfl)) dX11_hears_47 ⟨Nat.le_of_ble_eq_true rfl, Nat.le_of_ble_eq_true rfl⟩) hP hS hA (fun r11 H locs hwr11 hP hS => ?_)
          refine lv_iconst (v := 1) hx hb dX11_hears_50 (by decide) ?_
          refine lv_icmp_eq (tgt := 56) hx hb dX11_hears_51 (by decide) (fun c12 => ?_) (fun c12 => ?_)
          · skip
            refine lv_aload_n hx hb dX11_hears_56 rfl (lv_at hl 1 rfl) ?_
            refine lv_iload_n hx hb dX11_hears_57 rfl (lv_at hl 2 rfl) ?_
            refine lv_iload_n hx hb dX11_hears_58 rfl (lv_at hl 3 rfl) ?_
            refine rd_i (va_runV (As := [.int (nI pa), .int (nI pb)]) (rest := []) ⟨hx, hb, hml, hown, hts⟩ (n_X11_reaches l D cy mW mH mS mP mm mm_now mm_kept mm_isKept mm_refused mm_lineFrom mm_lineTo mm_stands mm_far mm_queue mm_queued mm_meets mm_bytes bl ta tl mm_token mm_value mm_next tk mm_now_f pa pb _ (by first | assumption | omega) (by first | assumption | omega) (by first | assumption | omega)) (cwV 2 hts gX11_hears_X11_reaches rfl rfl rfl (by decide +kernel) ⟨Nat.le_of_ble_eq_true rfl, Nat.le_of_ble_eq_true rfl⟩) (pV (ci := 11) (k := 0) hKA (hP.sub (ws' := [(mm, .inr (11, [.ref mm_now, .ref mm_kept, .ref mm_isKept, .ref mm_refused, .int mm_lineFrom, .int mm_lineTo, .ref mm_stands, .ref mm_far, .ref mm_queue, .int mm_queued, .ref mm_meets, .ref mm_bytes, .int (nI bl), .int (nI ta), .int (nI tl), .int mm_token, .int mm_value, .ref mm_next, .int (nI tk)])), (mm_now, .inl (cy 1, 122, .inl mm_now_f))]) [0, 1] rfl) (hD.sub (ws' := [(mm, .inr (11, [.ref mm_now, .ref mm_kept, .ref mm_isKept, .ref mm_refused, .int mm_lineFrom, .int mm_lineTo, .ref mm_stands, .ref mm_far, .ref mm_queue, .int mm_queued, .ref mm_meets, .ref mm_bytes, .int (nI bl), .int (nI ta), .int (nI tl), .int mm_token, .int mm_value, .ref mm_next, .int (nI tk)])), (mm_now, .inl (cy 1, 122, .inl mm_now_f))]) [0, 1] (by decide) rfl) rfl rfl) rfl rfl hl.1 rfl (lv_room (Nat.le_of_ble_eq_true rfl)) dX11_hears_59 ⟨Nat.le_of_ble_eq_true rfl, Nat.le_of_ble_eq_true rfl⟩) hP hS hA (fun r13 H locs hwr13 hP hS => ?_)
            have hwr13 : (r13 = 1 ∧ True) ∨ (r13 = 0 ∧ True) := hwr13
            subst hQF
            exact W.zret (v := r13) hx hb hr (z_bn hwr13) (fun t ht hW => ⟨⟨r13, (), rfl, (z_bt hwr13), trivial⟩, hS.F ht⟩) hS.2.2 dX11_hears_62
          · skip
            refine lv_iconst (v := 0) hx hb dX11_hears_54 (by decide) ?_
            subst hQF
            exact W.zret (v := 0) hx hb hr rfl (fun t ht hW => ⟨⟨0, (), rfl, (Or.inr ⟨rfl, trivial⟩), trivial⟩, hS.F ht⟩) hS.2.2 dX11_hears_55
  · skip
    refine lv_iconst (v := 1) hx hb dX11_hears_12 (by decide) ?_
    subst hQF
    exact W.zret (v := 1) hx hb hr rfl (fun t ht hW => ⟨⟨1, (), rfl, (Or.inl ⟨rfl, trivial⟩), trivial⟩, hS.F ht⟩) hS.2.2 dX11_hears_13

set_option maxHeartbeats 4000000 in
set_option maxRecDepth 100000 in
theorem n_X11_breaks (l : Launch) (D : va_G) (cy : Nat → ClassId) (mW : Nat) (mH : Nat) (mS : Nat) (mP : Nat) (mm : Nat) (mm_now : Nat) (mm_kept : Nat) (mm_isKept : Nat) (mm_refused : Nat) (mm_lineFrom : Int32) (mm_lineTo : Int32) (mm_stands : Nat) (mm_far : Nat) (mm_queue : Nat) (mm_queued : Int32) (mm_meets : Nat) (mm_bytes : Nat) (bl : Nat) (ta : Nat) (tl : Nat) (mm_token : Int32) (mm_value : Int32) (mm_next : Nat) (tk : Nat) (mm_now_f : Nat → Int32) (pa : Nat) (pb : Nat) (sz : Nat) (hF : mV mm_now_f mW mH mS mP) (hpa : pa < 5) (hpb : pb < 5) : Met l yX11_breaks wsX11_breaks ({ frames := 6, cells := 0, slots := 0, locals := 134 }) (va_Pc [.ref mm, .int (nI pa), .int (nI pb)] (kPre D cy [(mm, .inr (11, [.ref mm_now, .ref mm_kept, .ref mm_isKept, .ref mm_refused, .int mm_lineFrom, .int mm_lineTo, .ref mm_stands, .ref mm_far, .ref mm_queue, .int mm_queued, .ref mm_meets, .ref mm_bytes, .int (nI bl), .int (nI ta), .int (nI tl), .int mm_token, .int mm_value, .ref mm_next, .int (nI tk)])), (mm_now, .inl (cy 1, 122, .inl mm_now_f))] sz)) (va_Qi (fun (r : Int32) (u : Int32 × Int32) => (r = 1 ∧ True) ∨ (r = 0 ∧ True)) (fun (u : Int32 × Int32) t => va_P D vwCl ([(mm, .inr (11, [.ref mm_now, .ref mm_kept, .ref mm_isKept, .ref mm_refused, .int u.1, .int u.2, .ref mm_stands, .ref mm_far, .ref mm_queue, .int mm_queued, .ref mm_meets, .ref mm_bytes, .int (nI bl), .int (nI ta), .int (nI tl), .int mm_token, .int mm_value, .ref mm_next, .int (nI tk)])), (mm_now, .inl (cy 1, 122, .inl mm_now_f))]) t.heap ∧ va_D (va_A [(mm, .inr (11, [.ref mm_now, .ref mm_kept, .ref mm_isKept, .ref mm_refused, .int mm_lineFrom, .int mm_lineTo, .ref mm_stands, .ref mm_far, .ref mm_queue, .int mm_queued, .ref mm_meets, .ref mm_bytes, .int (nI bl), .int (nI ta), .int (nI tl), .int mm_token, .int mm_value, .ref mm_next, .int (nI tk)])), (mm_now, .inl (cy 1, 122, .inl mm_now_f))] sz) ([(mm, .inr (11, [.ref mm_now, .ref mm_kept, .ref mm_isKept, .ref mm_refused, .int u.1, .int u.2, .ref mm_stands, .ref mm_far, .ref mm_queue, .int mm_queued, .ref mm_meets, .ref mm_bytes, .int (nI bl), .int (nI ta), .int (nI tl), .int mm_token, .int mm_value, .ref mm_next, .int (nI tk)])), (mm_now, .inl (cy 1, 122, .inl mm_now_f))])) (va_A [(mm, .inr (11, [.ref mm_now, .ref mm_kept, .ref mm_isKept, .ref mm_refused, .int mm_lineFrom, .int mm_lineTo, .ref mm_stands, .ref mm_far, .ref mm_queue, .int mm_queued, .ref mm_meets, .ref mm_bytes, .int (nI bl), .int (nI ta), .int (nI tl), .int mm_token, .int mm_value, .ref mm_next, .int (nI tk)])), (mm_now, .inl (cy 1, 122, .inl mm_now_f))] sz)) 0 0 (va_A [(mm, .inr (11, [.ref mm_now, .ref mm_kept, .ref mm_isKept, .ref mm_refused, .int mm_lineFrom, .int mm_lineTo, .ref mm_stands, .ref mm_far, .ref mm_queue, .int mm_queued, .ref mm_meets, .ref mm_bytes, .int (nI bl), .int (nI ta), .int (nI tl), .int mm_token, .int mm_value, .ref mm_next, .int (nI tk)])), (mm_now, .inl (cy 1, 122, .inl mm_now_f))] sz) := by
  refine Met.ofW (cc := cX11_breaks) (maxL := 3) (ret := (some .boolean)) (by decide) rfl ?_
  intro p e s m args below meth c s₁ B hml hv
  obtain ⟨rfl, hsz, hP, hKA, hD0⟩ := hv
  have hx := B.exec
  have hb := B.bytes
  have hr := B.returns
  have hts := atoms_spec (ws := wsX11_breaks) B.pre
  have hown : s.vm.findClass RX11 = some m.cls := findClass_of_methodNamed B.named
  have hlocks := B.notSynchronized
  subst hsz
  have hK := hKA.1
  have hD := hD0.self (sz := s.heap.size)
  generalize hAe : va_A [(mm, .inr (11, [.ref mm_now, .ref mm_kept, .ref mm_isKept, .ref mm_refused, .int mm_lineFrom, .int mm_lineTo, .ref mm_stands, .ref mm_far, .ref mm_queue, .int mm_queued, .ref mm_meets, .ref mm_bytes, .int (nI bl), .int (nI ta), .int (nI tl), .int mm_token, .int mm_value, .ref mm_next, .int (nI tk)])), (mm_now, .inl (cy 1, 122, .inl mm_now_f))] s.heap.size = A at hD ⊢
  have hA : ∀ q : Nat, s.heap.size ≤ q → A q := fun q h => by rw [← hAe]; exact Or.inr h
  have hS : va_S A s.heap s.heap [] := va_S.rf
  have hP : va_P D vwCl [(mm, .inr (11, [.ref mm_now, .ref mm_kept, .ref mm_isKept, .ref mm_refused, .int mm_lineFrom, .int mm_lineTo, .ref mm_stands, .ref mm_far, .ref mm_queue, .int mm_queued, .ref mm_meets, .ref mm_bytes, .int (nI bl), .int (nI ta), .int (nI tl), .int mm_token, .int mm_value, .ref mm_next, .int (nI tk)])), (mm_now, .inl (cy 1, 122, .inl mm_now_f))] s.heap := hP
  have hl := lv_entry ([.ref mm, .int (nI pa), .int (nI pb)]) (n := 3) (Nat.le_of_ble_eq_true rfl)
  rw [lg_entry_eq]
  generalize (lg_sl ([.ref mm, .int (nI pa), .int (nI pb)]) ++ List.replicate (3 - (lg_sl ([.ref mm, .int (nI pa), .int (nI pb)])).length) Slot.unset).toArray = ls at hl ⊢
  have hl : lv_has ls 3 [(0, .ref mm), (1, .int (nI pa)), (2, .int (nI pb))] := hl
  refine qW (fun QF hQF => ?_)
  obtain ⟨hW2, hW6, hH2, hH6, hSe, hS4, hS6, hP5⟩ := hF.rng
  refine lv_iload_n hx hb dX11_breaks_0 rfl (lv_at hl 1 rfl) ?_
  refine lv_iload_n hx hb dX11_breaks_1 rfl (lv_at hl 2 rfl) ?_
  refine lv_icmp_eq (tgt := 37) hx hb dX11_breaks_2 (by decide) (fun c1 => ?_) (fun c1 => ?_)
  · skip
    refine lv_iconst (v := 0) hx hb dX11_breaks_37 (by decide) ?_
    subst hQF
    have hP9 := hP
    have hD9 := hD
    exact W.zret (v := 0) hx hb hr rfl (fun t ht hW => ⟨⟨0, (mm_lineFrom, mm_lineTo), rfl, (Or.inr ⟨rfl, trivial⟩), by rw [ht]; exact hP9, hD9⟩, hS.F ht⟩) hS.2.2 dX11_breaks_38
  · skip
    refine lv_aload_n hx hb dX11_breaks_5 rfl (lv_at hl 0 rfl) ?_
    refine lv_iload_n hx hb dX11_breaks_6 rfl (lv_at hl 1 rfl) ?_
    refine lv_iconst (v := 0) hx hb dX11_breaks_7 (by decide) ?_
    refine rd_i (va_runV (As := [.int (nI pa), .int 0]) (rest := []) ⟨hx, hb, hml, hown, hts⟩ (n_X11_of l D cy mW mH mS mP mm mm_now mm_kept mm_isKept mm_refused mm_lineFrom mm_lineTo mm_stands mm_far mm_queue mm_queued mm_meets mm_bytes bl ta tl mm_token mm_value mm_next tk mm_now_f pa 0 _ (by first | assumption | omega) (by first | assumption | omega) (by first | assumption | omega)) (cwV 2 hts gX11_breaks_X11_of rfl rfl rfl (by decide +kernel) ⟨Nat.le_of_ble_eq_true rfl, Nat.le_of_ble_eq_true rfl⟩) (pV (ci := 11) (k := 0) hKA (hP.sub (ws' := [(mm, .inr (11, [.ref mm_now, .ref mm_kept, .ref mm_isKept, .ref mm_refused, .int mm_lineFrom, .int mm_lineTo, .ref mm_stands, .ref mm_far, .ref mm_queue, .int mm_queued, .ref mm_meets, .ref mm_bytes, .int (nI bl), .int (nI ta), .int (nI tl), .int mm_token, .int mm_value, .ref mm_next, .int (nI tk)])), (mm_now, .inl (cy 1, 122, .inl mm_now_f))]) [0, 1] rfl) (hD.sub (ws' := [(mm, .inr (11, [.ref mm_now, .ref mm_kept, .ref mm_isKept, .ref mm_refused, .int mm_lineFrom, .int mm_lineTo, .ref mm_stands, .ref mm_far, .ref mm_queue, .int mm_queued, .ref mm_meets, .ref mm_bytes, .int (nI bl), .int (nI ta), .int (nI tl), .int mm_token, .int mm_value, .ref mm_next, .int (nI tk)])), (mm_now, .inl (cy 1, 122, .inl mm_now_f))]) [0, 1] (by decide) rfl) rfl rfl) rfl rfl hl.1 rfl (lv_room (Nat.le_of_ble_eq_true rfl)) dX11_breaks_8 ⟨Nat.le_of_ble_eq_true rfl, Nat.le_of_ble_eq_true rfl⟩) hP hS hA (fun r2 H locs hwr2 hP hS => ?_)
    have hwr2 : r2 = mm_now_f (5 + 3 * pa + 0) := hwr2
    subst hwr2
    refine lv_iconst (v := 5) hx hb dX11_breaks_11 (by decide) ?_
    refine lv_icmp_eq (tgt := 37) hx hb dX11_breaks_12 (by decide) (fun c3 => ?_) (fun c3 => ?_)
    · skip
      refine lv_iconst (v := 0) hx hb dX11_breaks_37 (by decide) ?_
      subst hQF
      have hP9 := hP
      have hD9 := hD
      exact W.zret (v := 0) hx hb hr rfl (fun t ht hW => ⟨⟨0, (mm_lineFrom, mm_lineTo), rfl, (Or.inr ⟨rfl, trivial⟩), by rw [ht]; exact hP9, hD9⟩, hS.F ht⟩) hS.2.2 dX11_breaks_38
    · skip
      refine lv_aload_n hx hb dX11_breaks_15 rfl (lv_at hl 0 rfl) ?_
      refine lv_iload_n hx hb dX11_breaks_16 rfl (lv_at hl 1 rfl) ?_
      refine lv_iload_n hx hb dX11_breaks_17 rfl (lv_at hl 2 rfl) ?_
      refine wr_i (wr := []) (va_runV (As := [.int (nI pa), .int (nI pb)]) (rest := []) ⟨hx, hb, hml, hown, hts⟩ (n_X11_sees l D cy mW mH mS mP mm mm_now mm_kept mm_isKept mm_refused mm_lineFrom mm_lineTo mm_stands mm_far mm_queue mm_queued mm_meets mm_bytes bl ta tl mm_token mm_value mm_next tk mm_now_f pa pb _ (by first | assumption | omega) (by first | assumption | omega) (by first | assumption | omega)) (cwV 2 hts gX11_breaks_X11_sees rfl rfl rfl (by decide +kernel) ⟨Nat.le_of_ble_eq_true rfl, Nat.le_of_ble_eq_true rfl⟩) (pV (ci := 11) (k := 0) hKA (hP.sub (ws' := [(mm, .inr (11, [.ref mm_now, .ref mm_kept, .ref mm_isKept, .ref mm_refused, .int mm_lineFrom, .int mm_lineTo, .ref mm_stands, .ref mm_far, .ref mm_queue, .int mm_queued, .ref mm_meets, .ref mm_bytes, .int (nI bl), .int (nI ta), .int (nI tl), .int mm_token, .int mm_value, .ref mm_next, .int (nI tk)])), (mm_now, .inl (cy 1, 122, .inl mm_now_f))]) [0, 1] rfl) (hD.sub (ws' := [(mm, .inr (11, [.ref mm_now, .ref mm_kept, .ref mm_isKept, .ref mm_refused, .int mm_lineFrom, .int mm_lineTo, .ref mm_stands, .ref mm_far, .ref mm_queue, .int mm_queued, .ref mm_meets, .ref mm_bytes, .int (nI bl), .int (nI ta), .int (nI tl), .int mm_token, .int mm_value, .ref mm_next, .int (nI tk)])), (mm_now, .inl (cy 1, 122, .inl mm_now_f))]) [0, 1] (by decide) rfl) rfl rfl) rfl rfl hl.1 rfl (lv_room (Nat.le_of_ble_eq_true rfl)) dX11_breaks_18 ⟨Nat.le_of_ble_eq_true rfl, Nat.le_of_ble_eq_true rfl⟩) hP hD hS hA [0, 1] [] rfl rfl (by decide +kernel) (by decide +kernel) (fun r4 ur4 H locs hwr4 hP hD hS => ?_)
      obtain ⟨z5, z6⟩ := ur4
      have hP : va_P D vwCl [(mm, .inr (11, [.ref mm_now, .ref mm_kept, .ref mm_isKept, .ref mm_refused, .int z5, .int z6, .ref mm_stands, .ref mm_far, .ref mm_queue, .int mm_queued, .ref mm_meets, .ref mm_bytes, .int (nI bl), .int (nI ta), .int (nI tl), .int mm_token, .int mm_value, .ref mm_next, .int (nI tk)])), (mm_now, .inl (cy 1, 122, .inl mm_now_f))] H := hP
      have hD : va_D A [(mm, .inr (11, [.ref mm_now, .ref mm_kept, .ref mm_isKept, .ref mm_refused, .int z5, .int z6, .ref mm_stands, .ref mm_far, .ref mm_queue, .int mm_queued, .ref mm_meets, .ref mm_bytes, .int (nI bl), .int (nI ta), .int (nI tl), .int mm_token, .int mm_value, .ref mm_next, .int (nI tk)])), (mm_now, .inl (cy 1, 122, .inl mm_now_f))] := hD
      have hwr4 : (r4 = 1 ∧ True) ∨ (r4 = 0 ∧ True) := hwr4
      refine lv_if_eq (tgt := 37) hx hb dX11_breaks_21 (by decide) (fun c7 => ?_) (fun c7 => ?_)
      · skip
        refine lv_iconst (v := 0) hx hb dX11_breaks_37 (by decide) ?_
        subst hQF
        have hP9 := hP
        have hD9 := hD
        exact W.zret (v := 0) hx hb hr rfl (fun t ht hW => ⟨⟨0, (z5, z6), rfl, (Or.inr ⟨rfl, trivial⟩), by rw [ht]; exact hP9, hD9⟩, hS.F ht⟩) hS.2.2 dX11_breaks_38
      · skip
        refine lv_aload_n hx hb dX11_breaks_24 rfl (lv_at hl 0 rfl) ?_
        refine lv_iload_n hx hb dX11_breaks_25 rfl (lv_at hl 1 rfl) ?_
        refine lv_iload_n hx hb dX11_breaks_26 rfl (lv_at hl 2 rfl) ?_
        refine rd_i (va_runV (As := [.int (nI pa), .int (nI pb)]) (rest := []) ⟨hx, hb, hml, hown, hts⟩ (n_X11_hears l D cy mW mH mS mP mm mm_now mm_kept mm_isKept mm_refused z5 z6 mm_stands mm_far mm_queue mm_queued mm_meets mm_bytes bl ta tl mm_token mm_value mm_next tk mm_now_f pa pb _ (by first | assumption | omega) (by first | assumption | omega) (by first | assumption | omega)) (cwV 2 hts gX11_breaks_X11_hears rfl rfl rfl (by decide +kernel) ⟨Nat.le_of_ble_eq_true rfl, Nat.le_of_ble_eq_true rfl⟩) (pV (ci := 11) (k := 0) hKA (hP.sub (ws' := [(mm, .inr (11, [.ref mm_now, .ref mm_kept, .ref mm_isKept, .ref mm_refused, .int z5, .int z6, .ref mm_stands, .ref mm_far, .ref mm_queue, .int mm_queued, .ref mm_meets, .ref mm_bytes, .int (nI bl), .int (nI ta), .int (nI tl), .int mm_token, .int mm_value, .ref mm_next, .int (nI tk)])), (mm_now, .inl (cy 1, 122, .inl mm_now_f))]) [0, 1] rfl) (hD.sub (ws' := [(mm, .inr (11, [.ref mm_now, .ref mm_kept, .ref mm_isKept, .ref mm_refused, .int z5, .int z6, .ref mm_stands, .ref mm_far, .ref mm_queue, .int mm_queued, .ref mm_meets, .ref mm_bytes, .int (nI bl), .int (nI ta), .int (nI tl), .int mm_token, .int mm_value, .ref mm_next, .int (nI tk)])), (mm_now, .inl (cy 1, 122, .inl mm_now_f))]) [0, 1] (by decide) rfl) rfl rfl) rfl rfl hl.1 rfl (lv_room (Nat.le_of_ble_eq_true rfl)) dX11_breaks_27 ⟨Nat.le_of_ble_eq_true rfl, Nat.le_of_ble_eq_true rfl⟩) hP hS hA (fun r8 H locs hwr8 hP hS => ?_)
        have hwr8 : (r8 = 1 ∧ True) ∨ (r8 = 0 ∧ True) := hwr8
        refine lv_if_eq (tgt := 37) hx hb dX11_breaks_30 (by decide) (fun c9 => ?_) (fun c9 => ?_)
        · skip
          refine lv_iconst (v := 0) hx hb dX11_breaks_37 (by decide) ?_
          subst hQF
          have hP9 := hP
          have hD9 := hD
          exact W.zret (v := 0) hx hb hr rfl (fun t ht hW => ⟨⟨0, (z5, z6), rfl, (Or.inr ⟨rfl, trivial⟩), by rw [ht]; exact hP9, hD9⟩, hS.F ht⟩) hS.2.2 dX11_breaks_38
        · skip
          refine lv_iconst (v := 1) hx hb dX11_breaks_33 (by decide) ?_
          refine lv_goto (tgt := 38) hx hb dX11_breaks_34 (by decide) ?_
          subst hQF
          have hP9 := hP
          have hD9 := hD
          exact W.zret (v := 1) hx hb hr rfl (fun t ht hW => ⟨⟨1, (z5, z6), rfl, (Or.inl ⟨rfl, trivial⟩), by rw [ht]; exact hP9, hD9⟩, hS.F ht⟩) hS.2.2 dX11_breaks_38
