theorem dX11_begin_0 : decode cX11_begin 0 = .ok (.iconst 0, 1) := by decide +kernel
theorem dX11_begin_1 : decode cX11_begin 1 = .ok (.istore_n 3, 1) := by decide +kernel
theorem dX11_begin_2 : decode cX11_begin 2 = .ok (.iload_n 3, 1) := by decide +kernel
theorem dX11_begin_3 : decode cX11_begin 3 = .ok (.bipush 122, 2) := by decide +kernel
theorem dX11_begin_5 : decode cX11_begin 5 = .ok (.if_icmp .ge 13, 3) := by decide +kernel
theorem dX11_begin_18 : decode cX11_begin 18 = .ok (.aload_n 0, 1) := by decide +kernel
theorem dX11_begin_19 : decode cX11_begin 19 = .ok (.iconst 0, 1) := by decide +kernel
theorem dX11_begin_20 : decode cX11_begin 20 = .ok (.iload_n 1, 1) := by decide +kernel
theorem dX11_begin_21 : decode cX11_begin 21 = .ok (.iastore, 1) := by decide +kernel
theorem dX11_begin_22 : decode cX11_begin 22 = .ok (.aload_n 0, 1) := by decide +kernel
theorem dX11_begin_23 : decode cX11_begin 23 = .ok (.iconst 1, 1) := by decide +kernel
theorem dX11_begin_24 : decode cX11_begin 24 = .ok (.iload_n 2, 1) := by decide +kernel
theorem dX11_begin_25 : decode cX11_begin 25 = .ok (.iastore, 1) := by decide +kernel
theorem dX11_begin_26 : decode cX11_begin 26 = .ok (.aload_n 0, 1) := by decide +kernel
theorem dX11_begin_27 : decode cX11_begin 27 = .ok (.iconst 2, 1) := by decide +kernel
theorem dX11_begin_28 : decode cX11_begin 28 = .ok (.iconst 1, 1) := by decide +kernel
theorem dX11_begin_29 : decode cX11_begin 29 = .ok (.iastore, 1) := by decide +kernel
theorem dX11_begin_30 : decode cX11_begin 30 = .ok (.return_, 1) := by decide +kernel
theorem dX11_begin_8 : decode cX11_begin 8 = .ok (.aload_n 0, 1) := by decide +kernel
theorem dX11_begin_9 : decode cX11_begin 9 = .ok (.iload_n 3, 1) := by decide +kernel
theorem dX11_begin_10 : decode cX11_begin 10 = .ok (.iconst 0, 1) := by decide +kernel
theorem dX11_begin_11 : decode cX11_begin 11 = .ok (.iastore, 1) := by decide +kernel
theorem dX11_begin_12 : decode cX11_begin 12 = .ok (.iinc 3 1, 3) := by decide +kernel
theorem dX11_begin_15 : decode cX11_begin 15 = .ok (.goto (-13), 3) := by decide +kernel
theorem dX11_layPerson_0 : decode cX11_layPerson 0 = .ok (.iconst 5, 1) := by decide +kernel
theorem dX11_layPerson_1 : decode cX11_layPerson 1 = .ok (.iconst 3, 1) := by decide +kernel
theorem dX11_layPerson_2 : decode cX11_layPerson 2 = .ok (.aload_n 0, 1) := by decide +kernel
theorem dX11_layPerson_3 : decode cX11_layPerson 3 = .ok (.iconst 4, 1) := by decide +kernel
theorem dX11_layPerson_4 : decode cX11_layPerson 4 = .ok (.iaload, 1) := by decide +kernel
theorem dX11_layPerson_5 : decode cX11_layPerson 5 = .ok (.imul, 1) := by decide +kernel
theorem dX11_layPerson_6 : decode cX11_layPerson 6 = .ok (.iadd, 1) := by decide +kernel
theorem dX11_layPerson_7 : decode cX11_layPerson 7 = .ok (.istore 4, 2) := by decide +kernel
theorem dX11_layPerson_9 : decode cX11_layPerson 9 = .ok (.aload_n 0, 1) := by decide +kernel
theorem dX11_layPerson_10 : decode cX11_layPerson 10 = .ok (.iload 4, 2) := by decide +kernel
theorem dX11_layPerson_12 : decode cX11_layPerson 12 = .ok (.iconst 0, 1) := by decide +kernel
theorem dX11_layPerson_13 : decode cX11_layPerson 13 = .ok (.iadd, 1) := by decide +kernel
theorem dX11_layPerson_14 : decode cX11_layPerson 14 = .ok (.iload_n 1, 1) := by decide +kernel
theorem dX11_layPerson_15 : decode cX11_layPerson 15 = .ok (.iastore, 1) := by decide +kernel
theorem dX11_layPerson_16 : decode cX11_layPerson 16 = .ok (.aload_n 0, 1) := by decide +kernel
theorem dX11_layPerson_17 : decode cX11_layPerson 17 = .ok (.iload 4, 2) := by decide +kernel
theorem dX11_layPerson_19 : decode cX11_layPerson 19 = .ok (.iconst 1, 1) := by decide +kernel
theorem dX11_layPerson_20 : decode cX11_layPerson 20 = .ok (.iadd, 1) := by decide +kernel
theorem dX11_layPerson_21 : decode cX11_layPerson 21 = .ok (.iload_n 2, 1) := by decide +kernel
theorem dX11_layPerson_22 : decode cX11_layPerson 22 = .ok (.iastore, 1) := by decide +kernel
theorem dX11_layPerson_23 : decode cX11_layPerson 23 = .ok (.aload_n 0, 1) := by decide +kernel
theorem dX11_layPerson_24 : decode cX11_layPerson 24 = .ok (.iload 4, 2) := by decide +kernel
theorem dX11_layPerson_26 : decode cX11_layPerson 26 = .ok (.iconst 2, 1) := by decide +kernel
theorem dX11_layPerson_27 : decode cX11_layPerson 27 = .ok (.iadd, 1) := by decide +kernel
theorem dX11_layPerson_28 : decode cX11_layPerson 28 = .ok (.iload_n 3, 1) := by decide +kernel
theorem dX11_layPerson_29 : decode cX11_layPerson 29 = .ok (.iastore, 1) := by decide +kernel
theorem dX11_layPerson_30 : decode cX11_layPerson 30 = .ok (.aload_n 0, 1) := by decide +kernel
theorem dX11_layPerson_31 : decode cX11_layPerson 31 = .ok (.iconst 4, 1) := by decide +kernel
theorem dX11_layPerson_32 : decode cX11_layPerson 32 = .ok (.dup2, 1) := by decide +kernel
theorem dX11_layPerson_33 : decode cX11_layPerson 33 = .ok (.iaload, 1) := by decide +kernel
theorem dX11_layPerson_34 : decode cX11_layPerson 34 = .ok (.iconst 1, 1) := by decide +kernel
theorem dX11_layPerson_35 : decode cX11_layPerson 35 = .ok (.iadd, 1) := by decide +kernel
theorem dX11_layPerson_36 : decode cX11_layPerson 36 = .ok (.iastore, 1) := by decide +kernel
theorem dX11_layPerson_37 : decode cX11_layPerson 37 = .ok (.return_, 1) := by decide +kernel
theorem dX11_garden_0 : decode cX11_garden 0 = .ok (.iload_n 1, 1) := by decide +kernel
theorem dX11_garden_1 : decode cX11_garden 1 = .ok (.i2l, 1) := by decide +kernel
theorem dX11_garden_2 : decode cX11_garden 2 = .ok (.ldc2_w 56, 3) := by decide +kernel
theorem dX11_garden_5 : decode cX11_garden 5 = .ok (.ldc2_w 58, 3) := by decide +kernel
set_option maxRecDepth 20000 in
theorem ggX11_garden_X11_in : GoodIn wsX11_garden wsX11_in := goodIn_r _ [7] (by decide +kernel) (by decide +kernel)
set_option maxRecDepth 20000 in
theorem gX11_garden_X11_in : GoodIn wsX11_garden (va_wsS RX11 49 yX11_in wsX11_in) := goodIn_app (goodIn_of _ (by decide +kernel)) ggX11_garden_X11_in
theorem dX11_garden_8 : decode cX11_garden 8 = .ok (.invokestatic 49, 3) := by decide +kernel
theorem dX11_garden_11 : decode cX11_garden 11 = .ok (.ifCond .eq 17, 3) := by decide +kernel
theorem dX11_garden_28 : decode cX11_garden 28 = .ok (.aload_n 0, 1) := by decide +kernel
theorem dX11_garden_29 : decode cX11_garden 29 = .ok (.bipush (-2), 2) := by decide +kernel
set_option maxRecDepth 20000 in
theorem ggX11_garden_X11_bad : GoodIn wsX11_garden wsX11_bad := goodIn_r _ [11, 12, 16, 17, 18, 19, 20, 21, 22, 23, 24, 25, 26, 27, 28, 29, 30, 31, 32, 33, 34] (by decide +kernel) (by decide +kernel)
set_option maxRecDepth 20000 in
theorem gX11_garden_X11_bad : GoodIn wsX11_garden (wsV RX11 60 RX11 yX11_bad wsX11_bad) := goodIn_app (goodIn_of _ (by decide +kernel)) ggX11_garden_X11_bad
theorem dX11_garden_31 : decode cX11_garden 31 = .ok (.invokevirtual 60, 3) := by decide +kernel
theorem dX11_garden_34 : decode cX11_garden 34 = .ok (.ireturn, 1) := by decide +kernel
theorem dX11_garden_14 : decode cX11_garden 14 = .ok (.iload_n 2, 1) := by decide +kernel
theorem dX11_garden_15 : decode cX11_garden 15 = .ok (.i2l, 1) := by decide +kernel
theorem dX11_garden_16 : decode cX11_garden 16 = .ok (.ldc2_w 56, 3) := by decide +kernel
theorem dX11_garden_19 : decode cX11_garden 19 = .ok (.ldc2_w 58, 3) := by decide +kernel
theorem dX11_garden_22 : decode cX11_garden 22 = .ok (.invokestatic 49, 3) := by decide +kernel
theorem dX11_garden_25 : decode cX11_garden 25 = .ok (.ifCond .ne 10, 3) := by decide +kernel
theorem dX11_garden_35 : decode cX11_garden 35 = .ok (.aload_n 0, 1) := by decide +kernel
theorem dX11_garden_36 : decode cX11_garden 36 = .ok (.getfield 7, 3) := by decide +kernel
theorem dX11_garden_39 : decode cX11_garden 39 = .ok (.iload_n 1, 1) := by decide +kernel
theorem dX11_garden_40 : decode cX11_garden 40 = .ok (.iload_n 2, 1) := by decide +kernel
set_option maxRecDepth 20000 in
theorem ggX11_garden_X11_begin : GoodIn wsX11_garden wsX11_begin := goodIn_r _ [15] (by decide +kernel) (by decide +kernel)
set_option maxRecDepth 20000 in
theorem gX11_garden_X11_begin : GoodIn wsX11_garden (va_wsS RX11 41 yX11_begin wsX11_begin) := goodIn_app (goodIn_of _ (by decide +kernel)) ggX11_garden_X11_begin
theorem dX11_garden_41 : decode cX11_garden 41 = .ok (.invokestatic 41, 3) := by decide +kernel
theorem dX11_garden_44 : decode cX11_garden 44 = .ok (.iload_n 1, 1) := by decide +kernel
theorem dX11_garden_45 : decode cX11_garden 45 = .ok (.iload_n 2, 1) := by decide +kernel
theorem dX11_garden_46 : decode cX11_garden 46 = .ok (.imul, 1) := by decide +kernel
theorem dX11_garden_47 : decode cX11_garden 47 = .ok (.ireturn, 1) := by decide +kernel
theorem dX11_set_0 : decode cX11_set 0 = .ok (.iload_n 1, 1) := by decide +kernel
theorem dX11_set_1 : decode cX11_set 1 = .ok (.i2l, 1) := by decide +kernel
theorem dX11_set_2 : decode cX11_set 2 = .ok (.lconst 0, 1) := by decide +kernel
theorem dX11_set_3 : decode cX11_set 3 = .ok (.lconst 1, 1) := by decide +kernel
set_option maxRecDepth 20000 in
theorem ggX11_set_X11_in : GoodIn wsX11_set wsX11_in := goodIn_r _ [5] (by decide +kernel) (by decide +kernel)
set_option maxRecDepth 20000 in
theorem gX11_set_X11_in : GoodIn wsX11_set (va_wsS RX11 49 yX11_in wsX11_in) := goodIn_app (goodIn_of _ (by decide +kernel)) ggX11_set_X11_in
theorem dX11_set_4 : decode cX11_set 4 = .ok (.invokestatic 49, 3) := by decide +kernel
theorem dX11_set_7 : decode cX11_set 7 = .ok (.ifCond .eq 11, 3) := by decide +kernel
theorem dX11_set_18 : decode cX11_set 18 = .ok (.aload_n 0, 1) := by decide +kernel
theorem dX11_set_19 : decode cX11_set 19 = .ok (.bipush (-2), 2) := by decide +kernel
set_option maxRecDepth 20000 in
theorem ggX11_set_X11_bad : GoodIn wsX11_set wsX11_bad := goodIn_r _ [17, 18, 26, 27, 28, 29, 30, 31, 32, 33, 34, 35, 36, 37, 38, 39, 40, 41, 42, 43, 44] (by decide +kernel) (by decide +kernel)
set_option maxRecDepth 20000 in
theorem gX11_set_X11_bad : GoodIn wsX11_set (wsV RX11 60 RX11 yX11_bad wsX11_bad) := goodIn_app (goodIn_of _ (by decide +kernel)) ggX11_set_X11_bad
theorem dX11_set_21 : decode cX11_set 21 = .ok (.invokevirtual 60, 3) := by decide +kernel
theorem dX11_set_24 : decode cX11_set 24 = .ok (.ireturn, 1) := by decide +kernel
theorem dX11_set_10 : decode cX11_set 10 = .ok (.aload_n 0, 1) := by decide +kernel
theorem dX11_set_11 : decode cX11_set 11 = .ok (.iload_n 2, 1) := by decide +kernel
set_option maxRecDepth 20000 in
theorem ggX11_set_X11_isSquare : GoodIn wsX11_set wsX11_isSquare := goodIn_r _ [9, 10, 11, 12, 4, 13, 1, 2, 3, 5, 26, 27, 28, 29, 30, 31, 32, 33, 34, 35, 36, 37, 38, 39, 40, 41, 42, 43, 44] (by decide +kernel) (by decide +kernel)
set_option maxRecDepth 20000 in
theorem gX11_set_X11_isSquare : GoodIn wsX11_set (wsV RX11 68 RX11 yX11_isSquare wsX11_isSquare) := goodIn_app (goodIn_of _ (by decide +kernel)) ggX11_set_X11_isSquare
theorem dX11_set_12 : decode cX11_set 12 = .ok (.invokevirtual 68, 3) := by decide +kernel
theorem dX11_set_15 : decode cX11_set 15 = .ok (.ifCond .ne 10, 3) := by decide +kernel
theorem dX11_set_25 : decode cX11_set 25 = .ok (.iload_n 1, 1) := by decide +kernel
theorem dX11_set_26 : decode cX11_set 26 = .ok (.ifCond .ne 8, 3) := by decide +kernel
theorem dX11_set_34 : decode cX11_set 34 = .ok (.bipush 56, 2) := by decide +kernel
theorem dX11_set_36 : decode cX11_set 36 = .ok (.iload_n 2, 1) := by decide +kernel
theorem dX11_set_37 : decode cX11_set 37 = .ok (.iadd, 1) := by decide +kernel
theorem dX11_set_38 : decode cX11_set 38 = .ok (.istore 4, 2) := by decide +kernel
theorem dX11_set_40 : decode cX11_set 40 = .ok (.iload_n 3, 1) := by decide +kernel
theorem dX11_set_49 : decode cX11_set 49 = .ok (.istore 5, 2) := by decide +kernel
theorem dX11_set_51 : decode cX11_set 51 = .ok (.aload_n 0, 1) := by decide +kernel
theorem dX11_set_52 : decode cX11_set 52 = .ok (.getfield 7, 3) := by decide +kernel
theorem dX11_set_55 : decode cX11_set 55 = .ok (.iload 4, 2) := by decide +kernel
theorem dX11_set_57 : decode cX11_set 57 = .ok (.iaload, 1) := by decide +kernel
theorem dX11_set_58 : decode cX11_set 58 = .ok (.iload 5, 2) := by decide +kernel
theorem dX11_set_60 : decode cX11_set 60 = .ok (.if_icmp .eq 19, 3) := by decide +kernel
theorem dX11_set_79 : decode cX11_set 79 = .ok (.aload_n 0, 1) := by decide +kernel
theorem dX11_set_80 : decode cX11_set 80 = .ok (.bipush (-3), 2) := by decide +kernel
set_option maxRecDepth 20000 in
theorem ggX11_set_X11_no : GoodIn wsX11_set wsX11_no := goodIn_r _ [25, 18, 26, 27, 28, 29, 30, 31, 32, 33, 34, 35, 36, 37, 38, 39, 40, 41, 42, 43, 44] (by decide +kernel) (by decide +kernel)
set_option maxRecDepth 20000 in
theorem gX11_set_X11_no : GoodIn wsX11_set (wsV RX11 72 RX11 yX11_no wsX11_no) := goodIn_app (goodIn_of _ (by decide +kernel)) ggX11_set_X11_no
theorem dX11_set_82 : decode cX11_set 82 = .ok (.invokevirtual 72, 3) := by decide +kernel
theorem dX11_set_85 : decode cX11_set 85 = .ok (.ireturn, 1) := by decide +kernel
theorem dX11_set_63 : decode cX11_set 63 = .ok (.iload_n 1, 1) := by decide +kernel
theorem dX11_set_64 : decode cX11_set 64 = .ok (.ifCond .ne 22, 3) := by decide +kernel
theorem dX11_set_86 : decode cX11_set 86 = .ok (.aload_n 0, 1) := by decide +kernel
theorem dX11_set_87 : decode cX11_set 87 = .ok (.getfield 7, 3) := by decide +kernel
theorem dX11_set_90 : decode cX11_set 90 = .ok (.iload 4, 2) := by decide +kernel
theorem dX11_set_92 : decode cX11_set 92 = .ok (.iload 5, 2) := by decide +kernel
theorem dX11_set_94 : decode cX11_set 94 = .ok (.iastore, 1) := by decide +kernel
theorem dX11_set_95 : decode cX11_set 95 = .ok (.iconst 1, 1) := by decide +kernel
theorem dX11_set_96 : decode cX11_set 96 = .ok (.ireturn, 1) := by decide +kernel
theorem dX11_set_67 : decode cX11_set 67 = .ok (.aload_n 0, 1) := by decide +kernel
theorem dX11_set_68 : decode cX11_set 68 = .ok (.getfield 7, 3) := by decide +kernel
theorem dX11_set_71 : decode cX11_set 71 = .ok (.iload_n 2, 1) := by decide +kernel
theorem dX11_set_72 : decode cX11_set 72 = .ok (.iconst (-1), 1) := by decide +kernel
set_option maxRecDepth 20000 in
theorem ggX11_set_X11_isStood : GoodIn wsX11_set wsX11_isStood := goodIn_r _ [21] (by decide +kernel) (by decide +kernel)
set_option maxRecDepth 20000 in
theorem gX11_set_X11_isStood : GoodIn wsX11_set (va_wsS RX11 64 yX11_isStood wsX11_isStood) := goodIn_app (goodIn_of _ (by decide +kernel)) ggX11_set_X11_isStood
theorem dX11_set_73 : decode cX11_set 73 = .ok (.invokestatic 64, 3) := by decide +kernel
theorem dX11_set_76 : decode cX11_set 76 = .ok (.ifCond .eq 10, 3) := by decide +kernel
theorem dX11_set_41 : decode cX11_set 41 = .ok (.ifCond .eq 7, 3) := by decide +kernel
theorem dX11_set_48 : decode cX11_set 48 = .ok (.iconst 0, 1) := by decide +kernel
theorem dX11_set_44 : decode cX11_set 44 = .ok (.iconst 1, 1) := by decide +kernel
theorem dX11_set_45 : decode cX11_set 45 = .ok (.goto 4, 3) := by decide +kernel
theorem dX11_set_29 : decode cX11_set 29 = .ok (.bipush 20, 2) := by decide +kernel
theorem dX11_set_31 : decode cX11_set 31 = .ok (.goto 5, 3) := by decide +kernel
theorem dX11_put_0 : decode cX11_put 0 = .ok (.iload_n 1, 1) := by decide +kernel
theorem dX11_put_1 : decode cX11_put 1 = .ok (.ifCond .ne 15, 3) := by decide +kernel
theorem dX11_put_16 : decode cX11_put 16 = .ok (.iload_n 1, 1) := by decide +kernel
theorem dX11_put_17 : decode cX11_put 17 = .ok (.iconst 1, 1) := by decide +kernel
theorem dX11_put_18 : decode cX11_put 18 = .ok (.if_icmp .ne 19, 3) := by decide +kernel
theorem dX11_put_37 : decode cX11_put 37 = .ok (.iconst 0, 1) := by decide +kernel
theorem dX11_put_38 : decode cX11_put 38 = .ok (.istore_n 3, 1) := by decide +kernel
theorem dX11_put_39 : decode cX11_put 39 = .ok (.iload_n 3, 1) := by decide +kernel
theorem dX11_put_40 : decode cX11_put 40 = .ok (.ifCond .ne 10, 3) := by decide +kernel
theorem dX11_put_43 : decode cX11_put 43 = .ok (.aload_n 0, 1) := by decide +kernel
theorem dX11_put_44 : decode cX11_put 44 = .ok (.bipush (-10), 2) := by decide +kernel
set_option maxRecDepth 20000 in
theorem ggX11_put_X11_bad : GoodIn wsX11_put wsX11_bad := goodIn_r _ [11, 12, 13, 14, 15, 16, 17, 18, 19, 20, 21, 22, 23, 24, 25, 26, 27, 28, 29, 30, 31] (by decide +kernel) (by decide +kernel)
set_option maxRecDepth 20000 in
theorem gX11_put_X11_bad : GoodIn wsX11_put (wsV RX11 60 RX11 yX11_bad wsX11_bad) := goodIn_app (goodIn_of _ (by decide +kernel)) ggX11_put_X11_bad
theorem dX11_put_46 : decode cX11_put 46 = .ok (.invokevirtual 60, 3) := by decide +kernel
theorem dX11_put_49 : decode cX11_put 49 = .ok (.ireturn, 1) := by decide +kernel
theorem dX11_put_21 : decode cX11_put 21 = .ok (.iload_n 2, 1) := by decide +kernel
theorem dX11_put_22 : decode cX11_put 22 = .ok (.i2l, 1) := by decide +kernel
theorem dX11_put_23 : decode cX11_put 23 = .ok (.ldc2_w 77, 3) := by decide +kernel
theorem dX11_put_26 : decode cX11_put 26 = .ok (.lconst 1, 1) := by decide +kernel
set_option maxRecDepth 20000 in
theorem ggX11_put_X11_in : GoodIn wsX11_put wsX11_in := goodIn_r _ [7] (by decide +kernel) (by decide +kernel)
set_option maxRecDepth 20000 in
theorem gX11_put_X11_in : GoodIn wsX11_put (va_wsS RX11 49 yX11_in wsX11_in) := goodIn_app (goodIn_of _ (by decide +kernel)) ggX11_put_X11_in
theorem dX11_put_27 : decode cX11_put 27 = .ok (.invokestatic 49, 3) := by decide +kernel
theorem dX11_put_30 : decode cX11_put 30 = .ok (.ifCond .eq 7, 3) := by decide +kernel
theorem dX11_put_33 : decode cX11_put 33 = .ok (.iconst 1, 1) := by decide +kernel
theorem dX11_put_34 : decode cX11_put 34 = .ok (.goto 4, 3) := by decide +kernel
theorem dX11_put_50 : decode cX11_put 50 = .ok (.aload_n 0, 1) := by decide +kernel
theorem dX11_put_51 : decode cX11_put 51 = .ok (.getfield 7, 3) := by decide +kernel
theorem dX11_put_54 : decode cX11_put 54 = .ok (.iconst 2, 1) := by decide +kernel
theorem dX11_put_55 : decode cX11_put 55 = .ok (.iload_n 1, 1) := by decide +kernel
theorem dX11_put_56 : decode cX11_put 56 = .ok (.iadd, 1) := by decide +kernel
theorem dX11_put_57 : decode cX11_put 57 = .ok (.iaload, 1) := by decide +kernel
theorem dX11_put_58 : decode cX11_put 58 = .ok (.istore 4, 2) := by decide +kernel
theorem dX11_put_60 : decode cX11_put 60 = .ok (.aload_n 0, 1) := by decide +kernel
theorem dX11_put_61 : decode cX11_put 61 = .ok (.getfield 7, 3) := by decide +kernel
theorem dX11_put_64 : decode cX11_put 64 = .ok (.iconst 2, 1) := by decide +kernel
theorem dX11_put_65 : decode cX11_put 65 = .ok (.iload_n 1, 1) := by decide +kernel
theorem dX11_put_66 : decode cX11_put 66 = .ok (.iadd, 1) := by decide +kernel
theorem dX11_put_67 : decode cX11_put 67 = .ok (.iload_n 2, 1) := by decide +kernel
theorem dX11_put_68 : decode cX11_put 68 = .ok (.iastore, 1) := by decide +kernel
theorem dX11_put_69 : decode cX11_put 69 = .ok (.iload 4, 2) := by decide +kernel
theorem dX11_put_71 : decode cX11_put 71 = .ok (.ireturn, 1) := by decide +kernel
theorem dX11_put_4 : decode cX11_put 4 = .ok (.iload_n 2, 1) := by decide +kernel
theorem dX11_put_5 : decode cX11_put 5 = .ok (.i2l, 1) := by decide +kernel
theorem dX11_put_6 : decode cX11_put 6 = .ok (.lconst 0, 1) := by decide +kernel
theorem dX11_put_7 : decode cX11_put 7 = .ok (.ldc2_w 75, 3) := by decide +kernel
theorem dX11_put_10 : decode cX11_put 10 = .ok (.invokestatic 49, 3) := by decide +kernel
theorem dX11_put_13 : decode cX11_put 13 = .ok (.ifCond .ne 20, 3) := by decide +kernel
theorem dX11_person_0 : decode cX11_person 0 = .ok (.iload_n 1, 1) := by decide +kernel
theorem dX11_person_1 : decode cX11_person 1 = .ok (.i2l, 1) := by decide +kernel
theorem dX11_person_2 : decode cX11_person 2 = .ok (.lconst 0, 1) := by decide +kernel
theorem dX11_person_3 : decode cX11_person 3 = .ok (.ldc2_w 79, 3) := by decide +kernel
set_option maxRecDepth 20000 in
theorem ggX11_person_X11_in : GoodIn wsX11_person wsX11_in := goodIn_r _ [7] (by decide +kernel) (by decide +kernel)
set_option maxRecDepth 20000 in
theorem gX11_person_X11_in : GoodIn wsX11_person (va_wsS RX11 49 yX11_in wsX11_in) := goodIn_app (goodIn_of _ (by decide +kernel)) ggX11_person_X11_in
theorem dX11_person_6 : decode cX11_person 6 = .ok (.invokestatic 49, 3) := by decide +kernel
theorem dX11_person_9 : decode cX11_person 9 = .ok (.ifCond .eq 23, 3) := by decide +kernel
theorem dX11_person_32 : decode cX11_person 32 = .ok (.aload_n 0, 1) := by decide +kernel
theorem dX11_person_33 : decode cX11_person 33 = .ok (.bipush (-2), 2) := by decide +kernel
set_option maxRecDepth 20000 in
theorem ggX11_person_X11_bad : GoodIn wsX11_person wsX11_bad := goodIn_r _ [19, 20, 43, 44, 45, 46, 47, 48, 49, 50, 51, 52, 53, 54, 55, 56, 57, 58, 59, 60, 61] (by decide +kernel) (by decide +kernel)
set_option maxRecDepth 20000 in
theorem gX11_person_X11_bad : GoodIn wsX11_person (wsV RX11 60 RX11 yX11_bad wsX11_bad) := goodIn_app (goodIn_of _ (by decide +kernel)) ggX11_person_X11_bad
theorem dX11_person_35 : decode cX11_person 35 = .ok (.invokevirtual 60, 3) := by decide +kernel
theorem dX11_person_38 : decode cX11_person 38 = .ok (.ireturn, 1) := by decide +kernel
theorem dX11_person_12 : decode cX11_person 12 = .ok (.aload_n 0, 1) := by decide +kernel
theorem dX11_person_13 : decode cX11_person 13 = .ok (.iload_n 2, 1) := by decide +kernel
set_option maxRecDepth 20000 in
theorem ggX11_person_X11_isSquare : GoodIn wsX11_person wsX11_isSquare := goodIn_r _ [11, 12, 13, 14, 6, 15, 3, 4, 5, 7, 43, 44, 45, 46, 47, 48, 49, 50, 51, 52, 53, 54, 55, 56, 57, 58, 59, 60, 61] (by decide +kernel) (by decide +kernel)
set_option maxRecDepth 20000 in
theorem gX11_person_X11_isSquare : GoodIn wsX11_person (wsV RX11 68 RX11 yX11_isSquare wsX11_isSquare) := goodIn_app (goodIn_of _ (by decide +kernel)) ggX11_person_X11_isSquare
theorem dX11_person_14 : decode cX11_person 14 = .ok (.invokevirtual 68, 3) := by decide +kernel
theorem dX11_person_17 : decode cX11_person 17 = .ok (.ifCond .eq 15, 3) := by decide +kernel
theorem dX11_person_20 : decode cX11_person 20 = .ok (.iload_n 3, 1) := by decide +kernel
theorem dX11_person_21 : decode cX11_person 21 = .ok (.i2l, 1) := by decide +kernel
theorem dX11_person_22 : decode cX11_person 22 = .ok (.lconst 0, 1) := by decide +kernel
theorem dX11_person_23 : decode cX11_person 23 = .ok (.ldc2_w 81, 3) := by decide +kernel
theorem dX11_person_26 : decode cX11_person 26 = .ok (.invokestatic 49, 3) := by decide +kernel
theorem dX11_person_29 : decode cX11_person 29 = .ok (.ifCond .ne 10, 3) := by decide +kernel
theorem dX11_person_39 : decode cX11_person 39 = .ok (.aload_n 0, 1) := by decide +kernel
theorem dX11_person_40 : decode cX11_person 40 = .ok (.iload_n 2, 1) := by decide +kernel
theorem dX11_person_41 : decode cX11_person 41 = .ok (.iconst (-1), 1) := by decide +kernel
set_option maxRecDepth 20000 in
theorem ggX11_person_X11_isFree : GoodIn wsX11_person wsX11_isFree := goodIn_r _ [24, 3, 25, 26, 6, 27, 43, 44, 45, 46, 47, 48, 49, 50, 51, 52, 53, 54, 55, 56, 57, 58, 59, 60, 61] (by decide +kernel) (by decide +kernel)
set_option maxRecDepth 20000 in
theorem gX11_person_X11_isFree : GoodIn wsX11_person (wsV RX11 83 RX11 yX11_isFree wsX11_isFree) := goodIn_app (goodIn_of _ (by decide +kernel)) ggX11_person_X11_isFree
theorem dX11_person_42 : decode cX11_person 42 = .ok (.invokevirtual 83, 3) := by decide +kernel
theorem dX11_person_45 : decode cX11_person 45 = .ok (.ifCond .ne 10, 3) := by decide +kernel
theorem dX11_person_55 : decode cX11_person 55 = .ok (.aload_n 0, 1) := by decide +kernel
set_option maxRecDepth 20000 in
theorem ggX11_person_X11_people : GoodIn wsX11_person wsX11_people := goodIn_r _ [35, 3, 43, 44, 45, 46, 47, 48, 49, 50, 51, 52, 53, 54, 55, 56, 57, 58, 59, 60, 61] (by decide +kernel) (by decide +kernel)
set_option maxRecDepth 20000 in
theorem gX11_person_X11_people : GoodIn wsX11_person (wsV RX11 53 RX11 yX11_people wsX11_people) := goodIn_app (goodIn_of _ (by decide +kernel)) ggX11_person_X11_people
theorem dX11_person_56 : decode cX11_person 56 = .ok (.invokevirtual 53, 3) := by decide +kernel
theorem dX11_person_59 : decode cX11_person 59 = .ok (.iconst 5, 1) := by decide +kernel
theorem dX11_person_60 : decode cX11_person 60 = .ok (.if_icmp .ne 8, 3) := by decide +kernel
theorem dX11_person_68 : decode cX11_person 68 = .ok (.aload_n 0, 1) := by decide +kernel
theorem dX11_person_69 : decode cX11_person 69 = .ok (.getfield 7, 3) := by decide +kernel
theorem dX11_person_72 : decode cX11_person 72 = .ok (.iload_n 1, 1) := by decide +kernel
theorem dX11_person_73 : decode cX11_person 73 = .ok (.iload_n 2, 1) := by decide +kernel
theorem dX11_person_74 : decode cX11_person 74 = .ok (.iload_n 3, 1) := by decide +kernel
set_option maxRecDepth 20000 in
theorem ggX11_person_X11_layPerson : GoodIn wsX11_person wsX11_layPerson := goodIn_r _ [42] (by decide +kernel) (by decide +kernel)
set_option maxRecDepth 20000 in
theorem gX11_person_X11_layPerson : GoodIn wsX11_person (va_wsS RX11 90 yX11_layPerson wsX11_layPerson) := goodIn_app (goodIn_of _ (by decide +kernel)) ggX11_person_X11_layPerson
theorem dX11_person_75 : decode cX11_person 75 = .ok (.invokestatic 90, 3) := by decide +kernel
theorem dX11_person_78 : decode cX11_person 78 = .ok (.aload_n 0, 1) := by decide +kernel
theorem dX11_person_79 : decode cX11_person 79 = .ok (.invokevirtual 53, 3) := by decide +kernel
theorem dX11_person_82 : decode cX11_person 82 = .ok (.iconst 1, 1) := by decide +kernel
theorem dX11_person_83 : decode cX11_person 83 = .ok (.isub, 1) := by decide +kernel
theorem dX11_person_84 : decode cX11_person 84 = .ok (.ireturn, 1) := by decide +kernel
theorem dX11_person_63 : decode cX11_person 63 = .ok (.aload_n 0, 1) := by decide +kernel
set_option maxRecDepth 20000 in
theorem ggX11_person_X11_full : GoodIn wsX11_person wsX11_full := goodIn_r _ [39, 20, 43, 44, 45, 46, 47, 48, 49, 50, 51, 52, 53, 54, 55, 56, 57, 58, 59, 60, 61] (by decide +kernel) (by decide +kernel)
set_option maxRecDepth 20000 in
theorem gX11_person_X11_full : GoodIn wsX11_person (wsV RX11 87 RX11 yX11_full wsX11_full) := goodIn_app (goodIn_of _ (by decide +kernel)) ggX11_person_X11_full
theorem dX11_person_64 : decode cX11_person 64 = .ok (.invokevirtual 87, 3) := by decide +kernel
theorem dX11_person_67 : decode cX11_person 67 = .ok (.ireturn, 1) := by decide +kernel
theorem dX11_person_48 : decode cX11_person 48 = .ok (.aload_n 0, 1) := by decide +kernel
theorem dX11_person_49 : decode cX11_person 49 = .ok (.bipush (-3), 2) := by decide +kernel
set_option maxRecDepth 20000 in
theorem ggX11_person_X11_no : GoodIn wsX11_person wsX11_no := goodIn_r _ [31, 20, 43, 44, 45, 46, 47, 48, 49, 50, 51, 52, 53, 54, 55, 56, 57, 58, 59, 60, 61] (by decide +kernel) (by decide +kernel)
set_option maxRecDepth 20000 in
theorem gX11_person_X11_no : GoodIn wsX11_person (wsV RX11 72 RX11 yX11_no wsX11_no) := goodIn_app (goodIn_of _ (by decide +kernel)) ggX11_person_X11_no
theorem dX11_person_51 : decode cX11_person 51 = .ok (.invokevirtual 72, 3) := by decide +kernel
theorem dX11_person_54 : decode cX11_person 54 = .ok (.ireturn, 1) := by decide +kernel
theorem dX11_move_0 : decode cX11_move 0 = .ok (.aload_n 0, 1) := by decide +kernel
theorem dX11_move_1 : decode cX11_move 1 = .ok (.iload_n 1, 1) := by decide +kernel
set_option maxRecDepth 20000 in
theorem ggX11_move_X11_isOne : GoodIn wsX11_move wsX11_isOne := goodIn_r _ [5, 6, 7, 8, 4, 9, 10, 11, 12, 13, 46, 47, 48, 49, 50, 51, 52, 53, 54, 55, 56, 57, 58, 59, 60, 61, 62, 63, 64] (by decide +kernel) (by decide +kernel)
set_option maxRecDepth 20000 in
theorem gX11_move_X11_isOne : GoodIn wsX11_move (wsV RX11 94 RX11 yX11_isOne wsX11_isOne) := goodIn_app (goodIn_of _ (by decide +kernel)) ggX11_move_X11_isOne
theorem dX11_move_2 : decode cX11_move 2 = .ok (.invokevirtual 94, 3) := by decide +kernel
theorem dX11_move_5 : decode cX11_move 5 = .ok (.ifCond .eq 11, 3) := by decide +kernel
theorem dX11_move_16 : decode cX11_move 16 = .ok (.aload_n 0, 1) := by decide +kernel
theorem dX11_move_17 : decode cX11_move 17 = .ok (.bipush (-10), 2) := by decide +kernel
set_option maxRecDepth 20000 in
theorem ggX11_move_X11_bad : GoodIn wsX11_move wsX11_bad := goodIn_r _ [25, 26, 46, 47, 48, 49, 50, 51, 52, 53, 54, 55, 56, 57, 58, 59, 60, 61, 62, 63, 64] (by decide +kernel) (by decide +kernel)
set_option maxRecDepth 20000 in
theorem gX11_move_X11_bad : GoodIn wsX11_move (wsV RX11 60 RX11 yX11_bad wsX11_bad) := goodIn_app (goodIn_of _ (by decide +kernel)) ggX11_move_X11_bad
theorem dX11_move_19 : decode cX11_move 19 = .ok (.invokevirtual 60, 3) := by decide +kernel
theorem dX11_move_22 : decode cX11_move 22 = .ok (.ireturn, 1) := by decide +kernel
theorem dX11_move_8 : decode cX11_move 8 = .ok (.aload_n 0, 1) := by decide +kernel
theorem dX11_move_9 : decode cX11_move 9 = .ok (.iload_n 2, 1) := by decide +kernel
set_option maxRecDepth 20000 in
theorem ggX11_move_X11_isSquare : GoodIn wsX11_move wsX11_isSquare := goodIn_r _ [17, 18, 19, 20, 4, 21, 10, 11, 12, 13, 46, 47, 48, 49, 50, 51, 52, 53, 54, 55, 56, 57, 58, 59, 60, 61, 62, 63, 64] (by decide +kernel) (by decide +kernel)
set_option maxRecDepth 20000 in
theorem gX11_move_X11_isSquare : GoodIn wsX11_move (wsV RX11 68 RX11 yX11_isSquare wsX11_isSquare) := goodIn_app (goodIn_of _ (by decide +kernel)) ggX11_move_X11_isSquare
theorem dX11_move_10 : decode cX11_move 10 = .ok (.invokevirtual 68, 3) := by decide +kernel
theorem dX11_move_13 : decode cX11_move 13 = .ok (.ifCond .ne 10, 3) := by decide +kernel
theorem dX11_move_23 : decode cX11_move 23 = .ok (.aload_n 0, 1) := by decide +kernel
theorem dX11_move_24 : decode cX11_move 24 = .ok (.iload_n 2, 1) := by decide +kernel
theorem dX11_move_25 : decode cX11_move 25 = .ok (.iload_n 1, 1) := by decide +kernel
set_option maxRecDepth 20000 in
theorem ggX11_move_X11_isFree : GoodIn wsX11_move wsX11_isFree := goodIn_r _ [30, 10, 31, 32, 4, 33, 46, 47, 48, 49, 50, 51, 52, 53, 54, 55, 56, 57, 58, 59, 60, 61, 62, 63, 64] (by decide +kernel) (by decide +kernel)
set_option maxRecDepth 20000 in
theorem gX11_move_X11_isFree : GoodIn wsX11_move (wsV RX11 83 RX11 yX11_isFree wsX11_isFree) := goodIn_app (goodIn_of _ (by decide +kernel)) ggX11_move_X11_isFree
theorem dX11_move_26 : decode cX11_move 26 = .ok (.invokevirtual 83, 3) := by decide +kernel
theorem dX11_move_29 : decode cX11_move 29 = .ok (.ifCond .ne 10, 3) := by decide +kernel
theorem dX11_move_39 : decode cX11_move 39 = .ok (.aload_n 0, 1) := by decide +kernel
theorem dX11_move_40 : decode cX11_move 40 = .ok (.iload_n 1, 1) := by decide +kernel
theorem dX11_move_41 : decode cX11_move 41 = .ok (.iconst 1, 1) := by decide +kernel
set_option maxRecDepth 20000 in
theorem ggX11_move_X11_of : GoodIn wsX11_move wsX11_of := goodIn_r _ [41, 10, 46, 47, 48, 49, 50, 51, 52, 53, 54, 55, 56, 57, 58, 59, 60, 61, 62, 63, 64] (by decide +kernel) (by decide +kernel)
set_option maxRecDepth 20000 in
theorem gX11_move_X11_of : GoodIn wsX11_move (wsV RX11 97 RX11 yX11_of wsX11_of) := goodIn_app (goodIn_of _ (by decide +kernel)) ggX11_move_X11_of
theorem dX11_move_42 : decode cX11_move 42 = .ok (.invokevirtual 97, 3) := by decide +kernel
theorem dX11_move_45 : decode cX11_move 45 = .ok (.istore_n 3, 1) := by decide +kernel
theorem dX11_move_46 : decode cX11_move 46 = .ok (.aload_n 0, 1) := by decide +kernel
theorem dX11_move_47 : decode cX11_move 47 = .ok (.iload_n 1, 1) := by decide +kernel
theorem dX11_move_48 : decode cX11_move 48 = .ok (.iload_n 2, 1) := by decide +kernel
set_option maxRecDepth 20000 in
theorem ggX11_move_X11_stand : GoodIn wsX11_move wsX11_stand := goodIn_r _ [45, 10, 46, 47, 48, 49, 50, 51, 52, 53, 54, 55, 56, 57, 58, 59, 60, 61, 62, 63, 64] (by decide +kernel) (by decide +kernel)
set_option maxRecDepth 20000 in
theorem gX11_move_X11_stand : GoodIn wsX11_move (wsV RX11 101 RX11 yX11_stand wsX11_stand) := goodIn_app (goodIn_of _ (by decide +kernel)) ggX11_move_X11_stand
theorem dX11_move_49 : decode cX11_move 49 = .ok (.invokevirtual 101, 3) := by decide +kernel
theorem dX11_move_52 : decode cX11_move 52 = .ok (.iload_n 3, 1) := by decide +kernel
theorem dX11_move_53 : decode cX11_move 53 = .ok (.ireturn, 1) := by decide +kernel
theorem dX11_move_32 : decode cX11_move 32 = .ok (.aload_n 0, 1) := by decide +kernel
theorem dX11_move_33 : decode cX11_move 33 = .ok (.bipush (-20), 2) := by decide +kernel
set_option maxRecDepth 20000 in
theorem ggX11_move_X11_no : GoodIn wsX11_move wsX11_no := goodIn_r _ [37, 26, 46, 47, 48, 49, 50, 51, 52, 53, 54, 55, 56, 57, 58, 59, 60, 61, 62, 63, 64] (by decide +kernel) (by decide +kernel)
set_option maxRecDepth 20000 in
theorem gX11_move_X11_no : GoodIn wsX11_move (wsV RX11 72 RX11 yX11_no wsX11_no) := goodIn_app (goodIn_of _ (by decide +kernel)) ggX11_move_X11_no
theorem dX11_move_35 : decode cX11_move 35 = .ok (.invokevirtual 72, 3) := by decide +kernel
theorem dX11_move_38 : decode cX11_move 38 = .ok (.ireturn, 1) := by decide +kernel
theorem dX11_tell_0 : decode cX11_tell 0 = .ok (.aload_n 0, 1) := by decide +kernel
theorem dX11_tell_1 : decode cX11_tell 1 = .ok (.iload_n 1, 1) := by decide +kernel
set_option maxRecDepth 20000 in
theorem ggX11_tell_X11_isOne : GoodIn wsX11_tell wsX11_isOne := goodIn_r _ [6, 7, 8, 9, 5, 10, 1, 11, 12, 13, 23, 24, 25, 26, 27, 28, 29, 30, 31, 32, 33, 34, 35, 36, 37, 38, 39, 40, 41] (by decide +kernel) (by decide +kernel)
set_option maxRecDepth 20000 in
theorem gX11_tell_X11_isOne : GoodIn wsX11_tell (wsV RX11 94 RX11 yX11_isOne wsX11_isOne) := goodIn_app (goodIn_of _ (by decide +kernel)) ggX11_tell_X11_isOne
theorem dX11_tell_2 : decode cX11_tell 2 = .ok (.invokevirtual 94, 3) := by decide +kernel
theorem dX11_tell_5 : decode cX11_tell 5 = .ok (.ifCond .eq 16, 3) := by decide +kernel
theorem dX11_tell_21 : decode cX11_tell 21 = .ok (.aload_n 0, 1) := by decide +kernel
theorem dX11_tell_22 : decode cX11_tell 22 = .ok (.bipush (-2), 2) := by decide +kernel
set_option maxRecDepth 20000 in
theorem ggX11_tell_X11_bad : GoodIn wsX11_tell wsX11_bad := goodIn_r _ [17, 18, 23, 24, 25, 26, 27, 28, 29, 30, 31, 32, 33, 34, 35, 36, 37, 38, 39, 40, 41] (by decide +kernel) (by decide +kernel)
set_option maxRecDepth 20000 in
theorem gX11_tell_X11_bad : GoodIn wsX11_tell (wsV RX11 60 RX11 yX11_bad wsX11_bad) := goodIn_app (goodIn_of _ (by decide +kernel)) ggX11_tell_X11_bad
theorem dX11_tell_24 : decode cX11_tell 24 = .ok (.invokevirtual 60, 3) := by decide +kernel
theorem dX11_tell_27 : decode cX11_tell 27 = .ok (.ireturn, 1) := by decide +kernel
theorem dX11_tell_8 : decode cX11_tell 8 = .ok (.aload_n 0, 1) := by decide +kernel
theorem dX11_tell_9 : decode cX11_tell 9 = .ok (.iload_n 2, 1) := by decide +kernel
theorem dX11_tell_10 : decode cX11_tell 10 = .ok (.invokevirtual 94, 3) := by decide +kernel
theorem dX11_tell_13 : decode cX11_tell 13 = .ok (.ifCond .eq 8, 3) := by decide +kernel
theorem dX11_tell_16 : decode cX11_tell 16 = .ok (.iload_n 1, 1) := by decide +kernel
theorem dX11_tell_17 : decode cX11_tell 17 = .ok (.iload_n 2, 1) := by decide +kernel
theorem dX11_tell_18 : decode cX11_tell 18 = .ok (.if_icmp .ne 10, 3) := by decide +kernel
theorem dX11_tell_28 : decode cX11_tell 28 = .ok (.aload_n 0, 1) := by decide +kernel
theorem dX11_tell_29 : decode cX11_tell 29 = .ok (.getfield 7, 3) := by decide +kernel
theorem dX11_tell_32 : decode cX11_tell 32 = .ok (.bipush 92, 2) := by decide +kernel
theorem dX11_tell_34 : decode cX11_tell 34 = .ok (.iaload, 1) := by decide +kernel
theorem dX11_tell_35 : decode cX11_tell 35 = .ok (.istore_n 3, 1) := by decide +kernel
theorem dX11_tell_36 : decode cX11_tell 36 = .ok (.iload_n 3, 1) := by decide +kernel
theorem dX11_tell_37 : decode cX11_tell 37 = .ok (.bipush 6, 2) := by decide +kernel
theorem dX11_tell_39 : decode cX11_tell 39 = .ok (.if_icmp .ne 8, 3) := by decide +kernel
theorem dX11_tell_47 : decode cX11_tell 47 = .ok (.aload_n 0, 1) := by decide +kernel
theorem dX11_tell_48 : decode cX11_tell 48 = .ok (.getfield 7, 3) := by decide +kernel
theorem dX11_tell_51 : decode cX11_tell 51 = .ok (.bipush 93, 2) := by decide +kernel
theorem dX11_tell_53 : decode cX11_tell 53 = .ok (.iconst 2, 1) := by decide +kernel
theorem dX11_tell_54 : decode cX11_tell 54 = .ok (.iload_n 3, 1) := by decide +kernel
theorem dX11_tell_55 : decode cX11_tell 55 = .ok (.imul, 1) := by decide +kernel
theorem dX11_tell_56 : decode cX11_tell 56 = .ok (.iadd, 1) := by decide +kernel
theorem dX11_tell_57 : decode cX11_tell 57 = .ok (.iload_n 1, 1) := by decide +kernel
theorem dX11_tell_58 : decode cX11_tell 58 = .ok (.iastore, 1) := by decide +kernel
theorem dX11_tell_59 : decode cX11_tell 59 = .ok (.aload_n 0, 1) := by decide +kernel
theorem dX11_tell_60 : decode cX11_tell 60 = .ok (.getfield 7, 3) := by decide +kernel
theorem dX11_tell_63 : decode cX11_tell 63 = .ok (.bipush 93, 2) := by decide +kernel
theorem dX11_tell_65 : decode cX11_tell 65 = .ok (.iconst 2, 1) := by decide +kernel
theorem dX11_tell_66 : decode cX11_tell 66 = .ok (.iload_n 3, 1) := by decide +kernel
theorem dX11_tell_67 : decode cX11_tell 67 = .ok (.imul, 1) := by decide +kernel
theorem dX11_tell_68 : decode cX11_tell 68 = .ok (.iadd, 1) := by decide +kernel
theorem dX11_tell_69 : decode cX11_tell 69 = .ok (.iconst 1, 1) := by decide +kernel
theorem dX11_tell_70 : decode cX11_tell 70 = .ok (.iadd, 1) := by decide +kernel
theorem dX11_tell_71 : decode cX11_tell 71 = .ok (.iload_n 2, 1) := by decide +kernel
theorem dX11_tell_72 : decode cX11_tell 72 = .ok (.iastore, 1) := by decide +kernel
theorem dX11_tell_73 : decode cX11_tell 73 = .ok (.aload_n 0, 1) := by decide +kernel
theorem dX11_tell_74 : decode cX11_tell 74 = .ok (.getfield 7, 3) := by decide +kernel
theorem dX11_tell_77 : decode cX11_tell 77 = .ok (.bipush 92, 2) := by decide +kernel
theorem dX11_tell_79 : decode cX11_tell 79 = .ok (.dup2, 1) := by decide +kernel
theorem dX11_tell_80 : decode cX11_tell 80 = .ok (.iaload, 1) := by decide +kernel
theorem dX11_tell_81 : decode cX11_tell 81 = .ok (.iconst 1, 1) := by decide +kernel
theorem dX11_tell_82 : decode cX11_tell 82 = .ok (.iadd, 1) := by decide +kernel
theorem dX11_tell_83 : decode cX11_tell 83 = .ok (.iastore, 1) := by decide +kernel
theorem dX11_tell_84 : decode cX11_tell 84 = .ok (.iload_n 3, 1) := by decide +kernel
theorem dX11_tell_85 : decode cX11_tell 85 = .ok (.ireturn, 1) := by decide +kernel
theorem dX11_tell_42 : decode cX11_tell 42 = .ok (.aload_n 0, 1) := by decide +kernel
set_option maxRecDepth 20000 in
theorem ggX11_tell_X11_full : GoodIn wsX11_tell wsX11_full := goodIn_r _ [22, 18, 23, 24, 25, 26, 27, 28, 29, 30, 31, 32, 33, 34, 35, 36, 37, 38, 39, 40, 41] (by decide +kernel) (by decide +kernel)
set_option maxRecDepth 20000 in
theorem gX11_tell_X11_full : GoodIn wsX11_tell (wsV RX11 87 RX11 yX11_full wsX11_full) := goodIn_app (goodIn_of _ (by decide +kernel)) ggX11_tell_X11_full
theorem dX11_tell_43 : decode cX11_tell 43 = .ok (.invokevirtual 87, 3) := by decide +kernel
theorem dX11_tell_46 : decode cX11_tell 46 = .ok (.ireturn, 1) := by decide +kernel
theorem dX11_report_0 : decode cX11_report 0 = .ok (.aload_n 0, 1) := by decide +kernel
theorem dX11_report_1 : decode cX11_report 1 = .ok (.iload_n 1, 1) := by decide +kernel
set_option maxRecDepth 20000 in
theorem ggX11_report_X11_isOne : GoodIn wsX11_report wsX11_isOne := goodIn_r _ [7, 8, 9, 10, 6, 11, 2, 12, 13, 14, 24, 25, 26, 27, 28, 29, 30, 31, 32, 33, 34, 35, 36, 37, 38, 39, 40, 41, 42] (by decide +kernel) (by decide +kernel)
set_option maxRecDepth 20000 in
theorem gX11_report_X11_isOne : GoodIn wsX11_report (wsV RX11 94 RX11 yX11_isOne wsX11_isOne) := goodIn_app (goodIn_of _ (by decide +kernel)) ggX11_report_X11_isOne
theorem dX11_report_2 : decode cX11_report 2 = .ok (.invokevirtual 94, 3) := by decide +kernel
theorem dX11_report_5 : decode cX11_report 5 = .ok (.ifCond .eq 15, 3) := by decide +kernel
theorem dX11_report_20 : decode cX11_report 20 = .ok (.aload_n 0, 1) := by decide +kernel
theorem dX11_report_21 : decode cX11_report 21 = .ok (.bipush (-2), 2) := by decide +kernel
set_option maxRecDepth 20000 in
theorem ggX11_report_X11_bad : GoodIn wsX11_report wsX11_bad := goodIn_r _ [18, 19, 24, 25, 26, 27, 28, 29, 30, 31, 32, 33, 34, 35, 36, 37, 38, 39, 40, 41, 42] (by decide +kernel) (by decide +kernel)
set_option maxRecDepth 20000 in
theorem gX11_report_X11_bad : GoodIn wsX11_report (wsV RX11 60 RX11 yX11_bad wsX11_bad) := goodIn_app (goodIn_of _ (by decide +kernel)) ggX11_report_X11_bad
theorem dX11_report_23 : decode cX11_report 23 = .ok (.invokevirtual 60, 3) := by decide +kernel
theorem dX11_report_26 : decode cX11_report 26 = .ok (.ireturn, 1) := by decide +kernel
theorem dX11_report_8 : decode cX11_report 8 = .ok (.iload_n 2, 1) := by decide +kernel
theorem dX11_report_9 : decode cX11_report 9 = .ok (.i2l, 1) := by decide +kernel
theorem dX11_report_10 : decode cX11_report 10 = .ok (.lconst 0, 1) := by decide +kernel
theorem dX11_report_11 : decode cX11_report 11 = .ok (.ldc2_w 105, 3) := by decide +kernel
set_option maxRecDepth 20000 in
theorem ggX11_report_X11_in : GoodIn wsX11_report wsX11_in := goodIn_r _ [14] (by decide +kernel) (by decide +kernel)
set_option maxRecDepth 20000 in
theorem gX11_report_X11_in : GoodIn wsX11_report (va_wsS RX11 49 yX11_in wsX11_in) := goodIn_app (goodIn_of _ (by decide +kernel)) ggX11_report_X11_in
theorem dX11_report_14 : decode cX11_report 14 = .ok (.invokestatic 49, 3) := by decide +kernel
theorem dX11_report_17 : decode cX11_report 17 = .ok (.ifCond .ne 10, 3) := by decide +kernel
theorem dX11_report_27 : decode cX11_report 27 = .ok (.aload_n 0, 1) := by decide +kernel
theorem dX11_report_28 : decode cX11_report 28 = .ok (.getfield 7, 3) := by decide +kernel
theorem dX11_report_31 : decode cX11_report 31 = .ok (.bipush 105, 2) := by decide +kernel
theorem dX11_report_33 : decode cX11_report 33 = .ok (.iaload, 1) := by decide +kernel
theorem dX11_report_34 : decode cX11_report 34 = .ok (.istore_n 3, 1) := by decide +kernel
theorem dX11_report_35 : decode cX11_report 35 = .ok (.iload_n 3, 1) := by decide +kernel
theorem dX11_report_36 : decode cX11_report 36 = .ok (.bipush 8, 2) := by decide +kernel
theorem dX11_report_38 : decode cX11_report 38 = .ok (.if_icmp .ne 8, 3) := by decide +kernel
theorem dX11_report_46 : decode cX11_report 46 = .ok (.aload_n 0, 1) := by decide +kernel
theorem dX11_report_47 : decode cX11_report 47 = .ok (.getfield 7, 3) := by decide +kernel
theorem dX11_report_50 : decode cX11_report 50 = .ok (.bipush 106, 2) := by decide +kernel
theorem dX11_report_52 : decode cX11_report 52 = .ok (.iconst 2, 1) := by decide +kernel
theorem dX11_report_53 : decode cX11_report 53 = .ok (.iload_n 3, 1) := by decide +kernel
theorem dX11_report_54 : decode cX11_report 54 = .ok (.imul, 1) := by decide +kernel
theorem dX11_report_55 : decode cX11_report 55 = .ok (.iadd, 1) := by decide +kernel
theorem dX11_report_56 : decode cX11_report 56 = .ok (.iload_n 1, 1) := by decide +kernel
theorem dX11_report_57 : decode cX11_report 57 = .ok (.iastore, 1) := by decide +kernel
theorem dX11_report_58 : decode cX11_report 58 = .ok (.aload_n 0, 1) := by decide +kernel
theorem dX11_report_59 : decode cX11_report 59 = .ok (.getfield 7, 3) := by decide +kernel
theorem dX11_report_62 : decode cX11_report 62 = .ok (.bipush 106, 2) := by decide +kernel
theorem dX11_report_64 : decode cX11_report 64 = .ok (.iconst 2, 1) := by decide +kernel
theorem dX11_report_65 : decode cX11_report 65 = .ok (.iload_n 3, 1) := by decide +kernel
theorem dX11_report_66 : decode cX11_report 66 = .ok (.imul, 1) := by decide +kernel
theorem dX11_report_67 : decode cX11_report 67 = .ok (.iadd, 1) := by decide +kernel
theorem dX11_report_68 : decode cX11_report 68 = .ok (.iconst 1, 1) := by decide +kernel
theorem dX11_report_69 : decode cX11_report 69 = .ok (.iadd, 1) := by decide +kernel
theorem dX11_report_70 : decode cX11_report 70 = .ok (.iload_n 2, 1) := by decide +kernel
theorem dX11_report_71 : decode cX11_report 71 = .ok (.iastore, 1) := by decide +kernel
theorem dX11_report_72 : decode cX11_report 72 = .ok (.aload_n 0, 1) := by decide +kernel
theorem dX11_report_73 : decode cX11_report 73 = .ok (.getfield 7, 3) := by decide +kernel
theorem dX11_report_76 : decode cX11_report 76 = .ok (.bipush 105, 2) := by decide +kernel
theorem dX11_report_78 : decode cX11_report 78 = .ok (.dup2, 1) := by decide +kernel
theorem dX11_report_79 : decode cX11_report 79 = .ok (.iaload, 1) := by decide +kernel
theorem dX11_report_80 : decode cX11_report 80 = .ok (.iconst 1, 1) := by decide +kernel
theorem dX11_report_81 : decode cX11_report 81 = .ok (.iadd, 1) := by decide +kernel
theorem dX11_report_82 : decode cX11_report 82 = .ok (.iastore, 1) := by decide +kernel
theorem dX11_report_83 : decode cX11_report 83 = .ok (.iload_n 3, 1) := by decide +kernel
theorem dX11_report_84 : decode cX11_report 84 = .ok (.ireturn, 1) := by decide +kernel
theorem dX11_report_41 : decode cX11_report 41 = .ok (.aload_n 0, 1) := by decide +kernel
set_option maxRecDepth 20000 in
theorem ggX11_report_X11_full : GoodIn wsX11_report wsX11_full := goodIn_r _ [23, 19, 24, 25, 26, 27, 28, 29, 30, 31, 32, 33, 34, 35, 36, 37, 38, 39, 40, 41, 42] (by decide +kernel) (by decide +kernel)
set_option maxRecDepth 20000 in
theorem gX11_report_X11_full : GoodIn wsX11_report (wsV RX11 87 RX11 yX11_full wsX11_full) := goodIn_app (goodIn_of _ (by decide +kernel)) ggX11_report_X11_full
theorem dX11_report_42 : decode cX11_report 42 = .ok (.invokevirtual 87, 3) := by decide +kernel
theorem dX11_report_45 : decode cX11_report 45 = .ok (.ireturn, 1) := by decide +kernel
theorem dX11_clears_0 : decode cX11_clears 0 = .ok (.iload_n 1, 1) := by decide +kernel
theorem dX11_clears_1 : decode cX11_clears 1 = .ok (.i2l, 1) := by decide +kernel
theorem dX11_clears_2 : decode cX11_clears 2 = .ok (.lconst 0, 1) := by decide +kernel
theorem dX11_clears_3 : decode cX11_clears 3 = .ok (.lconst 1, 1) := by decide +kernel
set_option maxRecDepth 20000 in
theorem ggX11_clears_X11_in : GoodIn wsX11_clears wsX11_in := goodIn_r _ [5] (by decide +kernel) (by decide +kernel)
set_option maxRecDepth 20000 in
theorem gX11_clears_X11_in : GoodIn wsX11_clears (va_wsS RX11 49 yX11_in wsX11_in) := goodIn_app (goodIn_of _ (by decide +kernel)) ggX11_clears_X11_in
theorem dX11_clears_4 : decode cX11_clears 4 = .ok (.invokestatic 49, 3) := by decide +kernel
theorem dX11_clears_7 : decode cX11_clears 7 = .ok (.ifCond .ne 10, 3) := by decide +kernel
theorem dX11_clears_17 : decode cX11_clears 17 = .ok (.iload_n 1, 1) := by decide +kernel
theorem dX11_clears_18 : decode cX11_clears 18 = .ok (.ifCond .ne 8, 3) := by decide +kernel
theorem dX11_clears_26 : decode cX11_clears 26 = .ok (.bipush 105, 2) := by decide +kernel
theorem dX11_clears_28 : decode cX11_clears 28 = .ok (.istore_n 2, 1) := by decide +kernel
theorem dX11_clears_29 : decode cX11_clears 29 = .ok (.aload_n 0, 1) := by decide +kernel
theorem dX11_clears_30 : decode cX11_clears 30 = .ok (.getfield 7, 3) := by decide +kernel
theorem dX11_clears_33 : decode cX11_clears 33 = .ok (.iload_n 2, 1) := by decide +kernel
theorem dX11_clears_34 : decode cX11_clears 34 = .ok (.iaload, 1) := by decide +kernel
theorem dX11_clears_35 : decode cX11_clears 35 = .ok (.istore_n 3, 1) := by decide +kernel
theorem dX11_clears_36 : decode cX11_clears 36 = .ok (.aload_n 0, 1) := by decide +kernel
theorem dX11_clears_37 : decode cX11_clears 37 = .ok (.getfield 7, 3) := by decide +kernel
theorem dX11_clears_40 : decode cX11_clears 40 = .ok (.iload_n 2, 1) := by decide +kernel
theorem dX11_clears_41 : decode cX11_clears 41 = .ok (.iconst 0, 1) := by decide +kernel
theorem dX11_clears_42 : decode cX11_clears 42 = .ok (.iastore, 1) := by decide +kernel
theorem dX11_clears_43 : decode cX11_clears 43 = .ok (.iload_n 3, 1) := by decide +kernel
theorem dX11_clears_44 : decode cX11_clears 44 = .ok (.ireturn, 1) := by decide +kernel
theorem dX11_clears_21 : decode cX11_clears 21 = .ok (.bipush 92, 2) := by decide +kernel
theorem dX11_clears_23 : decode cX11_clears 23 = .ok (.goto 5, 3) := by decide +kernel
theorem dX11_clears_10 : decode cX11_clears 10 = .ok (.aload_n 0, 1) := by decide +kernel
theorem dX11_clears_11 : decode cX11_clears 11 = .ok (.bipush (-2), 2) := by decide +kernel
set_option maxRecDepth 20000 in
theorem ggX11_clears_X11_bad : GoodIn wsX11_clears wsX11_bad := goodIn_r _ [9, 10, 11, 12, 13, 14, 15, 16, 17, 18, 19, 20, 21, 22, 23, 24, 25, 26, 27, 28, 29] (by decide +kernel) (by decide +kernel)
set_option maxRecDepth 20000 in
theorem gX11_clears_X11_bad : GoodIn wsX11_clears (wsV RX11 60 RX11 yX11_bad wsX11_bad) := goodIn_app (goodIn_of _ (by decide +kernel)) ggX11_clears_X11_bad
theorem dX11_clears_13 : decode cX11_clears 13 = .ok (.invokevirtual 60, 3) := by decide +kernel
theorem dX11_clears_16 : decode cX11_clears 16 = .ok (.ireturn, 1) := by decide +kernel
theorem dX11_clear_0 : decode cX11_clear 0 = .ok (.aload_n 0, 1) := by decide +kernel
theorem dX11_clear_1 : decode cX11_clear 1 = .ok (.iload_n 1, 1) := by decide +kernel
set_option maxRecDepth 20000 in
theorem ggX11_clear_X11_isSquare : GoodIn wsX11_clear wsX11_isSquare := goodIn_r _ [5, 6, 7, 8, 4, 9, 10, 11, 12, 13, 50, 51, 52, 53, 54, 55, 56, 57, 58, 59, 60, 61, 62, 63, 64, 65, 66, 67, 68] (by decide +kernel) (by decide +kernel)
set_option maxRecDepth 20000 in
theorem gX11_clear_X11_isSquare : GoodIn wsX11_clear (wsV RX11 68 RX11 yX11_isSquare wsX11_isSquare) := goodIn_app (goodIn_of _ (by decide +kernel)) ggX11_clear_X11_isSquare
theorem dX11_clear_2 : decode cX11_clear 2 = .ok (.invokevirtual 68, 3) := by decide +kernel
theorem dX11_clear_5 : decode cX11_clear 5 = .ok (.ifCond .eq 11, 3) := by decide +kernel
theorem dX11_clear_16 : decode cX11_clear 16 = .ok (.aload_n 0, 1) := by decide +kernel
theorem dX11_clear_17 : decode cX11_clear 17 = .ok (.bipush (-2), 2) := by decide +kernel
set_option maxRecDepth 20000 in
theorem ggX11_clear_X11_bad : GoodIn wsX11_clear wsX11_bad := goodIn_r _ [17, 18, 50, 51, 52, 53, 54, 55, 56, 57, 58, 59, 60, 61, 62, 63, 64, 65, 66, 67, 68] (by decide +kernel) (by decide +kernel)
set_option maxRecDepth 20000 in
theorem gX11_clear_X11_bad : GoodIn wsX11_clear (wsV RX11 60 RX11 yX11_bad wsX11_bad) := goodIn_app (goodIn_of _ (by decide +kernel)) ggX11_clear_X11_bad
theorem dX11_clear_19 : decode cX11_clear 19 = .ok (.invokevirtual 60, 3) := by decide +kernel
theorem dX11_clear_22 : decode cX11_clear 22 = .ok (.ireturn, 1) := by decide +kernel
theorem dX11_clear_8 : decode cX11_clear 8 = .ok (.aload_n 0, 1) := by decide +kernel
theorem dX11_clear_9 : decode cX11_clear 9 = .ok (.iload_n 2, 1) := by decide +kernel
theorem dX11_clear_10 : decode cX11_clear 10 = .ok (.invokevirtual 68, 3) := by decide +kernel
theorem dX11_clear_13 : decode cX11_clear 13 = .ok (.ifCond .ne 10, 3) := by decide +kernel
theorem dX11_clear_23 : decode cX11_clear 23 = .ok (.aload_n 0, 1) := by decide +kernel
theorem dX11_clear_24 : decode cX11_clear 24 = .ok (.iload_n 1, 1) := by decide +kernel
theorem dX11_clear_25 : decode cX11_clear 25 = .ok (.iload_n 2, 1) := by decide +kernel
set_option maxRecDepth 20000 in
theorem ggX11_clear_X11_isClear : GoodIn wsX11_clear wsX11_isClear := goodIn_r _ [22, 10, 6, 7, 8, 4, 9, 23, 24, 25, 26, 27, 28, 29, 30, 31, 32, 33, 34, 35, 36, 37, 38, 39, 40, 41, 42, 43, 44, 45, 46, 47, 48, 49, 50, 51, 52, 53, 54, 55, 56, 57, 58, 59, 60, 61, 62, 63, 64, 65, 66, 67, 68] (by decide +kernel) (by decide +kernel)
set_option maxRecDepth 20000 in
theorem gX11_clear_X11_isClear : GoodIn wsX11_clear (wsV RX11 136 RX11 yX11_isClear wsX11_isClear) := goodIn_app (goodIn_of _ (by decide +kernel)) ggX11_clear_X11_isClear
theorem dX11_clear_26 : decode cX11_clear 26 = .ok (.invokevirtual 136, 3) := by decide +kernel
theorem dX11_clear_29 : decode cX11_clear 29 = .ok (.ifCond .eq 7, 3) := by decide +kernel
theorem dX11_clear_36 : decode cX11_clear 36 = .ok (.iconst 0, 1) := by decide +kernel
theorem dX11_clear_37 : decode cX11_clear 37 = .ok (.ireturn, 1) := by decide +kernel
theorem dX11_clear_32 : decode cX11_clear 32 = .ok (.iconst 1, 1) := by decide +kernel
theorem dX11_clear_33 : decode cX11_clear 33 = .ok (.goto 4, 3) := by decide +kernel
theorem dX11_knows_0 : decode cX11_knows 0 = .ok (.aload_n 0, 1) := by decide +kernel
theorem dX11_knows_1 : decode cX11_knows 1 = .ok (.iload_n 1, 1) := by decide +kernel
set_option maxRecDepth 20000 in
theorem ggX11_knows_X11_isOne : GoodIn wsX11_knows wsX11_isOne := goodIn_r _ [5, 6, 7, 8, 4, 9, 10, 11, 12, 13, 78, 79, 80, 81, 82, 83, 84, 85, 86, 87, 88, 89, 90, 91, 92, 93, 94, 95, 96] (by decide +kernel) (by decide +kernel)
set_option maxRecDepth 20000 in
theorem gX11_knows_X11_isOne : GoodIn wsX11_knows (wsV RX11 94 RX11 yX11_isOne wsX11_isOne) := goodIn_app (goodIn_of _ (by decide +kernel)) ggX11_knows_X11_isOne
theorem dX11_knows_2 : decode cX11_knows 2 = .ok (.invokevirtual 94, 3) := by decide +kernel
theorem dX11_knows_5 : decode cX11_knows 5 = .ok (.ifCond .eq 26, 3) := by decide +kernel
theorem dX11_knows_31 : decode cX11_knows 31 = .ok (.aload_n 0, 1) := by decide +kernel
theorem dX11_knows_32 : decode cX11_knows 32 = .ok (.bipush (-2), 2) := by decide +kernel
set_option maxRecDepth 20000 in
theorem ggX11_knows_X11_bad : GoodIn wsX11_knows wsX11_bad := goodIn_r _ [17, 18, 78, 79, 80, 81, 82, 83, 84, 85, 86, 87, 88, 89, 90, 91, 92, 93, 94, 95, 96] (by decide +kernel) (by decide +kernel)
set_option maxRecDepth 20000 in
theorem gX11_knows_X11_bad : GoodIn wsX11_knows (wsV RX11 60 RX11 yX11_bad wsX11_bad) := goodIn_app (goodIn_of _ (by decide +kernel)) ggX11_knows_X11_bad
theorem dX11_knows_34 : decode cX11_knows 34 = .ok (.invokevirtual 60, 3) := by decide +kernel
theorem dX11_knows_37 : decode cX11_knows 37 = .ok (.ireturn, 1) := by decide +kernel
theorem dX11_knows_8 : decode cX11_knows 8 = .ok (.aload_n 0, 1) := by decide +kernel
theorem dX11_knows_9 : decode cX11_knows 9 = .ok (.iload_n 2, 1) := by decide +kernel
theorem dX11_knows_10 : decode cX11_knows 10 = .ok (.invokevirtual 94, 3) := by decide +kernel
theorem dX11_knows_13 : decode cX11_knows 13 = .ok (.ifCond .eq 18, 3) := by decide +kernel
theorem dX11_knows_16 : decode cX11_knows 16 = .ok (.iload_n 1, 1) := by decide +kernel
theorem dX11_knows_17 : decode cX11_knows 17 = .ok (.iload_n 2, 1) := by decide +kernel
theorem dX11_knows_18 : decode cX11_knows 18 = .ok (.if_icmp .eq 13, 3) := by decide +kernel
theorem dX11_knows_21 : decode cX11_knows 21 = .ok (.iload_n 3, 1) := by decide +kernel
theorem dX11_knows_22 : decode cX11_knows 22 = .ok (.i2l, 1) := by decide +kernel
theorem dX11_knows_23 : decode cX11_knows 23 = .ok (.lconst 0, 1) := by decide +kernel
theorem dX11_knows_24 : decode cX11_knows 24 = .ok (.lconst 1, 1) := by decide +kernel
set_option maxRecDepth 20000 in
theorem ggX11_knows_X11_in : GoodIn wsX11_knows wsX11_in := goodIn_r _ [13] (by decide +kernel) (by decide +kernel)
set_option maxRecDepth 20000 in
theorem gX11_knows_X11_in : GoodIn wsX11_knows (va_wsS RX11 49 yX11_in wsX11_in) := goodIn_app (goodIn_of _ (by decide +kernel)) ggX11_knows_X11_in
theorem dX11_knows_25 : decode cX11_knows 25 = .ok (.invokestatic 49, 3) := by decide +kernel
theorem dX11_knows_28 : decode cX11_knows 28 = .ok (.ifCond .ne 10, 3) := by decide +kernel
theorem dX11_knows_38 : decode cX11_knows 38 = .ok (.iload_n 3, 1) := by decide +kernel
theorem dX11_knows_57 : decode cX11_knows 57 = .ok (.istore 4, 2) := by decide +kernel
theorem dX11_knows_59 : decode cX11_knows 59 = .ok (.iload 4, 2) := by decide +kernel
theorem dX11_knows_61 : decode cX11_knows 61 = .ok (.ifCond .eq 7, 3) := by decide +kernel
theorem dX11_knows_68 : decode cX11_knows 68 = .ok (.iconst 0, 1) := by decide +kernel
theorem dX11_knows_69 : decode cX11_knows 69 = .ok (.ireturn, 1) := by decide +kernel
theorem dX11_knows_64 : decode cX11_knows 64 = .ok (.iconst 1, 1) := by decide +kernel
theorem dX11_knows_65 : decode cX11_knows 65 = .ok (.goto 4, 3) := by decide +kernel
theorem dX11_knows_39 : decode cX11_knows 39 = .ok (.ifCond .ne 12, 3) := by decide +kernel
theorem dX11_knows_51 : decode cX11_knows 51 = .ok (.aload_n 0, 1) := by decide +kernel
theorem dX11_knows_52 : decode cX11_knows 52 = .ok (.iload_n 1, 1) := by decide +kernel
theorem dX11_knows_53 : decode cX11_knows 53 = .ok (.iload_n 2, 1) := by decide +kernel
set_option maxRecDepth 20000 in
theorem ggX11_knows_X11_hears : GoodIn wsX11_knows wsX11_hears := goodIn_r _ [65, 23, 24, 25, 4, 26, 10, 66, 67, 68, 69, 51, 52, 53, 54, 31, 32, 33, 34, 55, 56, 57, 27, 28, 29, 30, 70, 71, 72, 73, 74, 75, 76, 77, 39, 40, 41, 42, 78, 79, 80, 81, 82, 83, 84, 85, 86, 87, 88, 89, 90, 91, 92, 93, 94, 95, 96] (by decide +kernel) (by decide +kernel)
set_option maxRecDepth 20000 in
theorem gX11_knows_X11_hears : GoodIn wsX11_knows (wsV RX11 151 RX11 yX11_hears wsX11_hears) := goodIn_app (goodIn_of _ (by decide +kernel)) ggX11_knows_X11_hears
theorem dX11_knows_54 : decode cX11_knows 54 = .ok (.invokevirtual 151, 3) := by decide +kernel
theorem dX11_knows_42 : decode cX11_knows 42 = .ok (.aload_n 0, 1) := by decide +kernel
theorem dX11_knows_43 : decode cX11_knows 43 = .ok (.iload_n 1, 1) := by decide +kernel
theorem dX11_knows_44 : decode cX11_knows 44 = .ok (.iload_n 2, 1) := by decide +kernel
set_option maxRecDepth 20000 in
theorem ggX11_knows_X11_sees : GoodIn wsX11_knows wsX11_sees := goodIn_r _ [22, 23, 24, 25, 4, 26, 10, 27, 28, 29, 30, 31, 32, 33, 34, 35, 36, 37, 38, 39, 40, 41, 42, 43, 44, 45, 46, 47, 48, 49, 50, 51, 52, 53, 54, 55, 56, 57, 58, 59, 60, 61, 78, 79, 80, 81, 82, 83, 84, 85, 86, 87, 88, 89, 90, 91, 92, 93, 94, 95, 96] (by decide +kernel) (by decide +kernel)
set_option maxRecDepth 20000 in
theorem gX11_knows_X11_sees : GoodIn wsX11_knows (wsV RX11 148 RX11 yX11_sees wsX11_sees) := goodIn_app (goodIn_of _ (by decide +kernel)) ggX11_knows_X11_sees
theorem dX11_knows_45 : decode cX11_knows 45 = .ok (.invokevirtual 148, 3) := by decide +kernel
theorem dX11_knows_48 : decode cX11_knows 48 = .ok (.goto 9, 3) := by decide +kernel
theorem dX11_where_0 : decode cX11_where 0 = .ok (.aload_n 0, 1) := by decide +kernel
theorem dX11_where_1 : decode cX11_where 1 = .ok (.iload_n 1, 1) := by decide +kernel
set_option maxRecDepth 20000 in
theorem ggX11_where_X11_isOne : GoodIn wsX11_where wsX11_isOne := goodIn_r _ [5, 6, 7, 8, 4, 9, 10, 11, 12, 13, 23, 24, 25, 26, 27, 28, 29, 30, 31, 32, 33, 34, 35, 36, 37, 38, 39, 40, 41] (by decide +kernel) (by decide +kernel)
set_option maxRecDepth 20000 in
theorem gX11_where_X11_isOne : GoodIn wsX11_where (wsV RX11 94 RX11 yX11_isOne wsX11_isOne) := goodIn_app (goodIn_of _ (by decide +kernel)) ggX11_where_X11_isOne
theorem dX11_where_2 : decode cX11_where 2 = .ok (.invokevirtual 94, 3) := by decide +kernel
theorem dX11_where_5 : decode cX11_where 5 = .ok (.ifCond .eq 12, 3) := by decide +kernel
theorem dX11_where_17 : decode cX11_where 17 = .ok (.aload_n 0, 1) := by decide +kernel
theorem dX11_where_18 : decode cX11_where 18 = .ok (.bipush (-2), 2) := by decide +kernel
set_option maxRecDepth 20000 in
theorem ggX11_where_X11_bad : GoodIn wsX11_where wsX11_bad := goodIn_r _ [21, 22, 23, 24, 25, 26, 27, 28, 29, 30, 31, 32, 33, 34, 35, 36, 37, 38, 39, 40, 41] (by decide +kernel) (by decide +kernel)
set_option maxRecDepth 20000 in
theorem gX11_where_X11_bad : GoodIn wsX11_where (wsV RX11 60 RX11 yX11_bad wsX11_bad) := goodIn_app (goodIn_of _ (by decide +kernel)) ggX11_where_X11_bad
theorem dX11_where_20 : decode cX11_where 20 = .ok (.invokevirtual 60, 3) := by decide +kernel
theorem dX11_where_23 : decode cX11_where 23 = .ok (.ireturn, 1) := by decide +kernel
theorem dX11_where_8 : decode cX11_where 8 = .ok (.aload_n 0, 1) := by decide +kernel
theorem dX11_where_9 : decode cX11_where 9 = .ok (.iload_n 1, 1) := by decide +kernel
theorem dX11_where_10 : decode cX11_where 10 = .ok (.iconst 1, 1) := by decide +kernel
set_option maxRecDepth 20000 in
theorem ggX11_where_X11_of : GoodIn wsX11_where wsX11_of := goodIn_r _ [17, 10, 23, 24, 25, 26, 27, 28, 29, 30, 31, 32, 33, 34, 35, 36, 37, 38, 39, 40, 41] (by decide +kernel) (by decide +kernel)
set_option maxRecDepth 20000 in
theorem gX11_where_X11_of : GoodIn wsX11_where (wsV RX11 97 RX11 yX11_of wsX11_of) := goodIn_app (goodIn_of _ (by decide +kernel)) ggX11_where_X11_of
theorem dX11_where_11 : decode cX11_where 11 = .ok (.invokevirtual 97, 3) := by decide +kernel
theorem dX11_where_14 : decode cX11_where 14 = .ok (.goto 9, 3) := by decide +kernel
theorem dX11_may_0 : decode cX11_may 0 = .ok (.aload_n 0, 1) := by decide +kernel
set_option maxRecDepth 20000 in
theorem ggX11_may_X11_maySpeak : GoodIn wsX11_may wsX11_maySpeak := goodIn_r _ [5, 6, 7, 8, 4, 9, 10, 11, 12, 13, 14, 15, 16, 17, 18, 19, 20, 21, 22, 23, 24, 25, 26, 27, 28, 29, 30, 31, 32, 33, 34, 35, 36, 37, 38, 39, 40, 41, 42, 43, 44, 45, 46, 47, 48, 49, 50, 51, 52, 53, 54, 55, 56, 57, 58, 59, 60, 61, 62, 63, 64, 65, 66, 67, 68, 69, 70, 71, 72, 73, 74, 75, 76, 77, 78, 79, 80, 81, 82, 83, 84, 85, 86, 87, 88, 89, 90, 91, 92] (by decide +kernel) (by decide +kernel)
set_option maxRecDepth 20000 in
theorem gX11_may_X11_maySpeak : GoodIn wsX11_may (wsV RX11 157 RX11 yX11_maySpeak wsX11_maySpeak) := goodIn_app (goodIn_of _ (by decide +kernel)) ggX11_may_X11_maySpeak
theorem dX11_may_1 : decode cX11_may 1 = .ok (.invokevirtual 157, 3) := by decide +kernel
theorem dX11_may_4 : decode cX11_may 4 = .ok (.ireturn, 1) := by decide +kernel
theorem dX11_judge_0 : decode cX11_judge 0 = .ok (.aload_n 0, 1) := by decide +kernel
theorem dX11_judge_1 : decode cX11_judge 1 = .ok (.iload_n 1, 1) := by decide +kernel
set_option maxRecDepth 20000 in
theorem ggX11_judge_X11_isSet : GoodIn wsX11_judge wsX11_isSet := goodIn_r _ [5, 6, 7, 8, 4, 9, 10, 11, 12, 13, 86, 87, 88, 89, 90, 91, 92, 93, 94, 95, 96, 97, 98, 99, 100, 101, 102, 103, 104] (by decide +kernel) (by decide +kernel)
set_option maxRecDepth 20000 in
theorem gX11_judge_X11_isSet : GoodIn wsX11_judge (wsV RX11 160 RX11 yX11_isSet wsX11_isSet) := goodIn_app (goodIn_of _ (by decide +kernel)) ggX11_judge_X11_isSet
theorem dX11_judge_2 : decode cX11_judge 2 = .ok (.invokevirtual 160, 3) := by decide +kernel
theorem dX11_judge_5 : decode cX11_judge 5 = .ok (.ifCond .eq 11, 3) := by decide +kernel
theorem dX11_judge_16 : decode cX11_judge 16 = .ok (.aload_n 0, 1) := by decide +kernel
theorem dX11_judge_17 : decode cX11_judge 17 = .ok (.bipush (-2), 2) := by decide +kernel
set_option maxRecDepth 20000 in
theorem ggX11_judge_X11_bad : GoodIn wsX11_judge wsX11_bad := goodIn_r _ [84, 85, 86, 87, 88, 89, 90, 91, 92, 93, 94, 95, 96, 97, 98, 99, 100, 101, 102, 103, 104] (by decide +kernel) (by decide +kernel)
set_option maxRecDepth 20000 in
theorem gX11_judge_X11_bad : GoodIn wsX11_judge (wsV RX11 60 RX11 yX11_bad wsX11_bad) := goodIn_app (goodIn_of _ (by decide +kernel)) ggX11_judge_X11_bad
theorem dX11_judge_19 : decode cX11_judge 19 = .ok (.invokevirtual 60, 3) := by decide +kernel
theorem dX11_judge_22 : decode cX11_judge 22 = .ok (.ireturn, 1) := by decide +kernel
theorem dX11_judge_8 : decode cX11_judge 8 = .ok (.aload_n 0, 1) := by decide +kernel
theorem dX11_judge_9 : decode cX11_judge 9 = .ok (.iload_n 1, 1) := by decide +kernel
set_option maxRecDepth 20000 in
theorem ggX11_judge_X11_judged : GoodIn wsX11_judge wsX11_judged := goodIn_r _ [17, 6, 7, 8, 4, 9, 10, 18, 19, 20, 21, 22, 23, 24, 25, 26, 27, 28, 29, 30, 31, 32, 33, 34, 35, 36, 37, 38, 39, 40, 41, 42, 43, 44, 45, 46, 47, 48, 49, 50, 51, 52, 53, 54, 55, 56, 57, 58, 59, 60, 61, 62, 63, 64, 65, 66, 67, 68, 69, 70, 71, 72, 73, 74, 75, 76, 77, 78, 79, 80, 86, 87, 88, 89, 90, 91, 92, 93, 94, 95, 96, 97, 98, 99, 100, 101, 102, 103, 104] (by decide +kernel) (by decide +kernel)
set_option maxRecDepth 20000 in
theorem gX11_judge_X11_judged : GoodIn wsX11_judge (wsV RX11 163 RX11 yX11_judged wsX11_judged) := goodIn_app (goodIn_of _ (by decide +kernel)) ggX11_judge_X11_judged
theorem dX11_judge_10 : decode cX11_judge 10 = .ok (.invokevirtual 163, 3) := by decide +kernel
theorem dX11_judge_13 : decode cX11_judge 13 = .ok (.goto 9, 3) := by decide +kernel
theorem dX11_told_0 : decode cX11_told 0 = .ok (.aload_n 0, 1) := by decide +kernel
theorem dX11_told_1 : decode cX11_told 1 = .ok (.iload_n 1, 1) := by decide +kernel
set_option maxRecDepth 20000 in
theorem ggX11_told_X11_isSet : GoodIn wsX11_told wsX11_isSet := goodIn_r _ [5, 6, 7, 8, 4, 9, 10, 11, 12, 13, 90, 91, 92, 93, 94, 95, 96, 97, 98, 99, 100, 101, 102, 103, 104, 105, 106, 107, 108] (by decide +kernel) (by decide +kernel)
set_option maxRecDepth 20000 in
theorem gX11_told_X11_isSet : GoodIn wsX11_told (wsV RX11 160 RX11 yX11_isSet wsX11_isSet) := goodIn_app (goodIn_of _ (by decide +kernel)) ggX11_told_X11_isSet
theorem dX11_told_2 : decode cX11_told 2 = .ok (.invokevirtual 160, 3) := by decide +kernel
theorem dX11_told_5 : decode cX11_told 5 = .ok (.ifCond .ne 10, 3) := by decide +kernel
theorem dX11_told_15 : decode cX11_told 15 = .ok (.aload_n 0, 1) := by decide +kernel
theorem dX11_told_16 : decode cX11_told 16 = .ok (.iload_n 1, 1) := by decide +kernel
set_option maxRecDepth 20000 in
theorem ggX11_told_X11_isTold : GoodIn wsX11_told wsX11_isTold := goodIn_r _ [22, 10, 23, 24, 25, 4, 26, 6, 7, 8, 9, 27, 28, 29, 30, 31, 32, 33, 34, 35, 36, 37, 38, 39, 40, 41, 42, 43, 44, 45, 46, 47, 48, 49, 50, 51, 52, 53, 54, 55, 56, 57, 58, 59, 60, 61, 62, 63, 64, 65, 66, 67, 68, 69, 70, 71, 72, 73, 74, 75, 76, 77, 78, 79, 80, 81, 82, 83, 84, 85, 86, 87, 88, 89, 90, 91, 92, 93, 94, 95, 96, 97, 98, 99, 100, 101, 102, 103, 104, 105, 106, 107, 108] (by decide +kernel) (by decide +kernel)
set_option maxRecDepth 20000 in
theorem gX11_told_X11_isTold : GoodIn wsX11_told (wsV RX11 166 RX11 yX11_isTold wsX11_isTold) := goodIn_app (goodIn_of _ (by decide +kernel)) ggX11_told_X11_isTold
theorem dX11_told_17 : decode cX11_told 17 = .ok (.invokevirtual 166, 3) := by decide +kernel
theorem dX11_told_20 : decode cX11_told 20 = .ok (.ifCond .eq 7, 3) := by decide +kernel
theorem dX11_told_27 : decode cX11_told 27 = .ok (.iconst 0, 1) := by decide +kernel
theorem dX11_told_28 : decode cX11_told 28 = .ok (.ireturn, 1) := by decide +kernel
theorem dX11_told_23 : decode cX11_told 23 = .ok (.iconst 1, 1) := by decide +kernel
theorem dX11_told_24 : decode cX11_told 24 = .ok (.goto 4, 3) := by decide +kernel
theorem dX11_told_8 : decode cX11_told 8 = .ok (.aload_n 0, 1) := by decide +kernel
theorem dX11_told_9 : decode cX11_told 9 = .ok (.bipush (-2), 2) := by decide +kernel
set_option maxRecDepth 20000 in
theorem ggX11_told_X11_bad : GoodIn wsX11_told wsX11_bad := goodIn_r _ [17, 18, 90, 91, 92, 93, 94, 95, 96, 97, 98, 99, 100, 101, 102, 103, 104, 105, 106, 107, 108] (by decide +kernel) (by decide +kernel)
set_option maxRecDepth 20000 in
theorem gX11_told_X11_bad : GoodIn wsX11_told (wsV RX11 60 RX11 yX11_bad wsX11_bad) := goodIn_app (goodIn_of _ (by decide +kernel)) ggX11_told_X11_bad
theorem dX11_told_11 : decode cX11_told 11 = .ok (.invokevirtual 60, 3) := by decide +kernel
theorem dX11_told_14 : decode cX11_told 14 = .ok (.ireturn, 1) := by decide +kernel
set_option maxHeartbeats 4000000 in
set_option maxRecDepth 100000 in
theorem n_X11_begin (l : Launch) (D : va_G) (cy : Nat → ClassId) (a_row : Nat) (row_f : Nat → Int32) (pw : Nat) (ph : Nat) (sz : Nat) (hw2 : 2 ≤ pw ∧ pw ≤ 6) (hh2 : 2 ≤ ph ∧ ph ≤ 6) : Met l yX11_begin wsX11_begin ({ frames := 0, cells := 0, slots := 0, locals := 0 }) (va_Pc [.ref a_row, .int (nI pw), .int (nI ph)] (kPre D cy [(a_row, .inl (cy 1, 122, .inl row_f))] sz)) (va_Qv (fun (u : (Nat → Int32)) => mV u pw ph (pw * ph) 0) (fun (u : (Nat → Int32)) t => va_P D vwCl ([(a_row, .inl (cy 1, 122, .inl u))]) t.heap ∧ va_D (va_A [(a_row, .inl (cy 1, 122, .inl row_f))] sz) ([(a_row, .inl (cy 1, 122, .inl u))])) (va_A [(a_row, .inl (cy 1, 122, .inl row_f))] sz)) 0 0 (va_A [(a_row, .inl (cy 1, 122, .inl row_f))] sz) := by
  refine Met.ofW (cc := cX11_begin) (maxL := 4) (ret := none) (by decide) rfl ?_
  intro p e s m args below meth c s₁ B hml hv
  obtain ⟨rfl, hsz, hP, hKA, hD0⟩ := hv
  have hx := B.exec
  have hb := B.bytes
  have hr := B.returns
  have hts := atoms_spec (ws := wsX11_begin) B.pre
  have hown : s.vm.findClass RX11 = some m.cls := findClass_of_methodNamed B.named
  have hlocks := B.notSynchronized
  subst hsz
  have hK := hKA.1
  have hD := hD0.self (sz := s.heap.size)
  generalize hAe : va_A [(a_row, .inl (cy 1, 122, .inl row_f))] s.heap.size = A at hD ⊢
  have hA : ∀ q : Nat, s.heap.size ≤ q → A q := fun q h => by rw [← hAe]; exact Or.inr h
  have hS : va_S A s.heap s.heap [] := va_S.rf
  have hP : va_P D vwCl [(a_row, .inl (cy 1, 122, .inl row_f))] s.heap := hP
  have hl := lv_entry ([.ref a_row, .int (nI pw), .int (nI ph)]) (n := 4) (Nat.le_of_ble_eq_true rfl)
  rw [lg_entry_eq]
  generalize (lg_sl ([.ref a_row, .int (nI pw), .int (nI ph)]) ++ List.replicate (4 - (lg_sl ([.ref a_row, .int (nI pw), .int (nI ph)])).length) Slot.unset).toArray = ls at hl ⊢
  have hl : lv_has ls 4 [(0, .ref a_row), (1, .int (nI pw)), (2, .int (nI ph))] := hl
  refine qW (fun QF hQF => ?_)
  refine lv_iconst (v := 0) hx hb dX11_begin_0 (by decide) ?_
  refine lv_istore_n (lv' := [(3, .int 0), (0, .ref a_row), (1, .int (nI pw)), (2, .int (nI ph))]) hx hb dX11_begin_1 rfl hl (by decide) rfl (fun ls hl => ?_)
  have lp2 : ∀ (n2 : Nat) (v3_2 : Nat) (y_row_2 : Nat → Int32) (hv3_2 : v3_2 < 2147483648) (hk : v3_2 ≤ 122) (hzz : ∀ j, j < v3_2 → y_row_2 j = 0), 2147483648 - v3_2 < n2 → ∀ (H : Heap) (locs : List Loc), va_P D vwCl [(a_row, .inl (cy 1, 122, .inl y_row_2))] H → va_D A [(a_row, .inl (cy 1, 122, .inl y_row_2))] → va_S A s.heap H locs → ∀ ls : Array Slot, lv_has ls 4 [(3, .int (nI v3_2)), (0, .ref a_row), (1, .int (nI pw)), (2, .int (nI ph))] → W p l e (headSpec wsX11_begin ({ frames := 0, cells := 0, slots := 0, locals := 0 })).room s m [.ref a_row, .int (nI pw), .int (nI ph)].toArray below meth c H locs 0 0 QF (F0 m 2 ls []) := by
    intro n2
    induction n2 with
    | zero => intro v3_2 y_row_2 hv3_2 hk hzz hm; exact absurd hm (Nat.not_lt_zero _)
    | succ n2 ih2 =>
      intro v3_2 y_row_2 hv3_2 hk hzz hm2 H locs hP hD hS ls hl
      refine lv_iload_n hx hb dX11_begin_2 rfl (lv_at hl 0 rfl) ?_
      refine lv_bipush (v := 122) hx hb dX11_begin_3 (by decide) ?_
      refine lv_icmp_ge (tgt := 18) hx hb dX11_begin_5 (by decide) (fun c1 => ?_) (fun c1 => ?_)
      · skip
        refine lv_aload_n hx hb dX11_begin_18 rfl (lv_at hl 1 rfl) ?_
        refine lv_iconst (v := 0) hx hb dX11_begin_19 (by decide) ?_
        refine lv_iload_n hx hb dX11_begin_20 rfl (lv_at hl 2 rfl) ?_
        refine my_iast hx hb hK hP hD hS 0 1 rfl rfl (by rw [vp_in_iff]; decide +kernel) (k := 0) (by decide +kernel) dX11_begin_21 (fun H locs hP hD hS => ?_)
        have hP : va_P D vwCl [(a_row, .inl (cy 1, 122, .inl (upd y_row_2 0 (nI pw))))] H := hP
        have hD : va_D A [(a_row, .inl (cy 1, 122, .inl (upd y_row_2 0 (nI pw))))] := hD
        refine lv_aload_n hx hb dX11_begin_22 rfl (lv_at hl 1 rfl) ?_
        refine lv_iconst (v := 1) hx hb dX11_begin_23 (by decide) ?_
        refine lv_iload_n hx hb dX11_begin_24 rfl (lv_at hl 3 rfl) ?_
        refine my_iast hx hb hK hP hD hS 0 1 rfl rfl (by rw [vp_in_iff]; decide +kernel) (k := 1) (by decide +kernel) dX11_begin_25 (fun H locs hP hD hS => ?_)
        have hP : va_P D vwCl [(a_row, .inl (cy 1, 122, .inl (upd (upd y_row_2 0 (nI pw)) 1 (nI ph))))] H := hP
        have hD : va_D A [(a_row, .inl (cy 1, 122, .inl (upd (upd y_row_2 0 (nI pw)) 1 (nI ph))))] := hD
        refine lv_aload_n hx hb dX11_begin_26 rfl (lv_at hl 1 rfl) ?_
        refine lv_iconst (v := 2) hx hb dX11_begin_27 (by decide) ?_
        refine lv_iconst (v := 1) hx hb dX11_begin_28 (by decide) ?_
        refine my_iast hx hb hK hP hD hS 0 1 rfl rfl (by rw [vp_in_iff]; decide +kernel) (k := 2) (by decide +kernel) dX11_begin_29 (fun H locs hP hD hS => ?_)
        have hP : va_P D vwCl [(a_row, .inl (cy 1, 122, .inl (upd (upd (upd y_row_2 0 (nI pw)) 1 (nI ph)) 2 1)))] H := hP
        have hD : va_D A [(a_row, .inl (cy 1, 122, .inl (upd (upd (upd y_row_2 0 (nI pw)) 1 (nI ph)) 2 1)))] := hD
        subst hQF
        have hP9 := hP
        have hD9 := hD
        exact W.vret hx hb hr (fun t ht hW => ⟨⟨(upd (upd (upd y_row_2 0 (nI pw)) 1 (nI ph)) 2 1), rfl, (mV_new rfl rfl (fun j h3 hj => by have q := nge_of (n := 122) rfl hk (by decide) (by assumption); show upd _ _ _ j = 0; rw [ur_ne _ _ (by omega), ur_ne _ _ (by omega), ur_ne _ _ (by omega)]; exact hzz j (by omega)) hw2 hh2), by rw [ht]; exact hP9, hD9⟩, hS.F ht⟩) hS.2.2 dX11_begin_30
      · skip
        have hk5 := ltN (n := 122) (x := 122) (k := v3_2) (by decide) (by assumption) (by assumption)
        refine lv_aload_n hx hb dX11_begin_8 rfl (lv_at hl 1 rfl) ?_
        refine lv_iload_n hx hb dX11_begin_9 rfl (lv_at hl 0 rfl) ?_
        refine lv_iconst (v := 0) hx hb dX11_begin_10 (by decide) ?_
        refine my_iast hx hb hK hP hD hS 0 1 rfl rfl (by first | exact in_ge (N := 122) (by decide) (by omega) (by assumption) | exact vp_in_nI (by omega) (by omega)) (nI_clamp (by omega)) dX11_begin_11 (fun H locs hP hD hS => ?_)
        have hP : va_P D vwCl [(a_row, .inl (cy 1, 122, .inl (upd y_row_2 v3_2 0)))] H := hP
        have hD : va_D A [(a_row, .inl (cy 1, 122, .inl (upd y_row_2 v3_2 0)))] := hD
        refine lv_iinc (v := nI (v3_2 + 1)) (lv' := [(3, .int (nI (v3_2 + 1))), (0, .ref a_row), (1, .int (nI pw)), (2, .int (nI ph))]) hx hb dX11_begin_12 hl (k := 0) rfl (nI_1 _) (by decide) rfl (fun ls hl => ?_)
        refine lv_goto (tgt := 2) hx hb dX11_begin_15 (by decide) ?_
        exact ih2 (v3_2 + 1) (upd y_row_2 v3_2 0) (by first | omega | exact nlt_max hv3_2 (by assumption)) (by omega) (fun j hj => if q : j = v3_2 then (by subst q; exact ur_eq _ _ _) else (by rw [ur_ne _ _ q]; exact hzz j (by omega))) (by first | omega | (have := nlt_max hv3_2 (by assumption); omega)) _ _ hP hD hS ls hl
  exact lp2 (2147483648 - 0 + 1) 0 row_f (by first | omega | exact nlt_max (by assumption) (by assumption)) (by omega) (fun j hj => absurd hj (Nat.not_lt_zero j)) (Nat.lt_succ_self _) _ _ hP hD hS ls hl

set_option maxHeartbeats 4000000 in
set_option maxRecDepth 100000 in
theorem n_X11_layPerson (l : Launch) (D : va_G) (cy : Nat → ClassId) (rW : Nat) (rH : Nat) (rS : Nat) (rP : Nat) (a_row : Nat) (row_f : Nat → Int32) (pk : Nat) (pq : Nat) (pv : Nat) (sz : Nat) (hrow : mV row_f rW rH rS rP) (hr4 : rP < 5) (hpk : pk ≤ 5) (hpq : pq < 36) (hpv : pv ≤ 9) : Met l yX11_layPerson wsX11_layPerson ({ frames := 0, cells := 0, slots := 0, locals := 0 }) (va_Pc [.ref a_row, .int (nI pk), .int (nI pq), .int (nI pv)] (kPre D cy [(a_row, .inl (cy 1, 122, .inl row_f))] sz)) (va_Qv (fun (u : (Nat → Int32)) => mV u rW rH rS (rP + 1)) (fun (u : (Nat → Int32)) t => va_P D vwCl ([(a_row, .inl (cy 1, 122, .inl u))]) t.heap ∧ va_D (va_A [(a_row, .inl (cy 1, 122, .inl row_f))] sz) ([(a_row, .inl (cy 1, 122, .inl u))])) (va_A [(a_row, .inl (cy 1, 122, .inl row_f))] sz)) 0 0 (va_A [(a_row, .inl (cy 1, 122, .inl row_f))] sz) := by
  refine Met.ofW (cc := cX11_layPerson) (maxL := 5) (ret := none) (by decide) rfl ?_
  intro p e s m args below meth c s₁ B hml hv
  obtain ⟨rfl, hsz, hP, hKA, hD0⟩ := hv
  have hx := B.exec
  have hb := B.bytes
  have hr := B.returns
  have hts := atoms_spec (ws := wsX11_layPerson) B.pre
  have hown : s.vm.findClass RX11 = some m.cls := findClass_of_methodNamed B.named
  have hlocks := B.notSynchronized
  subst hsz
  have hK := hKA.1
  have hD := hD0.self (sz := s.heap.size)
  generalize hAe : va_A [(a_row, .inl (cy 1, 122, .inl row_f))] s.heap.size = A at hD ⊢
  have hA : ∀ q : Nat, s.heap.size ≤ q → A q := fun q h => by rw [← hAe]; exact Or.inr h
  have hS : va_S A s.heap s.heap [] := va_S.rf
  have hP : va_P D vwCl [(a_row, .inl (cy 1, 122, .inl row_f))] s.heap := hP
  have hl := lv_entry ([.ref a_row, .int (nI pk), .int (nI pq), .int (nI pv)]) (n := 5) (Nat.le_of_ble_eq_true rfl)
  rw [lg_entry_eq]
  generalize (lg_sl ([.ref a_row, .int (nI pk), .int (nI pq), .int (nI pv)]) ++ List.replicate (5 - (lg_sl ([.ref a_row, .int (nI pk), .int (nI pq), .int (nI pv)])).length) Slot.unset).toArray = ls at hl ⊢
  have hl : lv_has ls 5 [(0, .ref a_row), (1, .int (nI pk)), (2, .int (nI pq)), (3, .int (nI pv))] := hl
  refine qW (fun QF hQF => ?_)
  refine lv_iconst (v := 5) hx hb dX11_layPerson_0 (by decide) ?_
  refine lv_iconst (v := 3) hx hb dX11_layPerson_1 (by decide) ?_
  refine lv_aload_n hx hb dX11_layPerson_2 rfl (lv_at hl 0 rfl) ?_
  refine lv_iconst (v := 4) hx hb dX11_layPerson_3 (by decide) ?_
  refine my_iald hx hb hK hP 0 1 rfl rfl (by rw [vp_in_iff]; decide +kernel) (k := 4) (by decide +kernel) dX11_layPerson_4 ?_
  refine W.eq (g2 := F0 m 5 ls [.int (nI rP), .int 3, .int 5]) (congrArg (fun v9 : Int32 => F0 m 5 ls [.int v9, .int 3, .int 5]) hrow.2.2.1) ?_
  refine lv_imul hx hb dX11_layPerson_5 ?_
  refine lv_topi (fun x1 ex1 => ?_)
  obtain rfl : x1 = nI (3 * rP) := by rw [ex1]; exact pk_mul _ _
  refine lv_iadd hx hb dX11_layPerson_6 ?_
  refine lv_topi (fun x2 ex2 => ?_)
  obtain rfl : x2 = nI (5 + (3 * rP)) := by rw [ex2]; exact nI_add _ _
  refine lv_istore (lv' := [(4, .int (nI (5 + (3 * rP)))), (0, .ref a_row), (1, .int (nI pk)), (2, .int (nI pq)), (3, .int (nI pv))]) hx hb dX11_layPerson_7 hl (by decide) rfl (fun ls hl => ?_)
  refine lv_aload_n hx hb dX11_layPerson_9 rfl (lv_at hl 1 rfl) ?_
  refine lv_iload hx hb dX11_layPerson_10 (lv_at hl 0 rfl) ?_
  refine lv_iconst (v := 0) hx hb dX11_layPerson_12 (by decide) ?_
  refine lv_iadd hx hb dX11_layPerson_13 ?_
  refine lv_topi (fun x3 ex3 => ?_)
  obtain rfl : x3 = nI ((5 + (3 * rP)) + 0) := by rw [ex3]; exact nI_add _ _
  refine lv_iload_n hx hb dX11_layPerson_14 rfl (lv_at hl 2 rfl) ?_
  refine my_iast hx hb hK hP hD hS 0 1 rfl rfl (by first | exact in_ge (N := 122) (by decide) (by omega) (by assumption) | exact vp_in_nI (by omega) (by omega)) (nI_clamp (by omega)) dX11_layPerson_15 (fun H locs hP hD hS => ?_)
  have hP : va_P D vwCl [(a_row, .inl (cy 1, 122, .inl (upd row_f ((5 + (3 * rP)) + 0) (nI pk))))] H := hP
  have hD : va_D A [(a_row, .inl (cy 1, 122, .inl (upd row_f ((5 + (3 * rP)) + 0) (nI pk))))] := hD
  obtain ⟨f4, ef4⟩ : ∃ y : Nat → Int32, y = upd row_f ((5 + (3 * rP)) + 0) (nI pk) := ⟨_, rfl⟩
  rw [← ef4] at hP hD
  have hf4 : mV f4 rW rH rS rP := by rw [ef4]; exact mV.put hrow ((5 + (3 * rP)) + 0) pk rfl (by omega) (by unfold mHi; (repeat' split) <;> omega)
  have hP : va_P D vwCl [(a_row, .inl (cy 1, 122, .inl f4))] H := hP
  have hD : va_D A [(a_row, .inl (cy 1, 122, .inl f4))] := hD
  refine lv_aload_n hx hb dX11_layPerson_16 rfl (lv_at hl 1 rfl) ?_
  refine lv_iload hx hb dX11_layPerson_17 (lv_at hl 0 rfl) ?_
  refine lv_iconst (v := 1) hx hb dX11_layPerson_19 (by decide) ?_
  refine lv_iadd hx hb dX11_layPerson_20 ?_
  refine lv_topi (fun x5 ex5 => ?_)
  obtain rfl : x5 = nI ((5 + (3 * rP)) + 1) := by rw [ex5]; exact nI_add _ _
  refine lv_iload_n hx hb dX11_layPerson_21 rfl (lv_at hl 3 rfl) ?_
  refine my_iast hx hb hK hP hD hS 0 1 rfl rfl (by first | exact in_ge (N := 122) (by decide) (by omega) (by assumption) | exact vp_in_nI (by omega) (by omega)) (nI_clamp (by omega)) dX11_layPerson_22 (fun H locs hP hD hS => ?_)
  have hP : va_P D vwCl [(a_row, .inl (cy 1, 122, .inl (upd f4 ((5 + (3 * rP)) + 1) (nI pq))))] H := hP
  have hD : va_D A [(a_row, .inl (cy 1, 122, .inl (upd f4 ((5 + (3 * rP)) + 1) (nI pq))))] := hD
  obtain ⟨f6, ef6⟩ : ∃ y : Nat → Int32, y = upd f4 ((5 + (3 * rP)) + 1) (nI pq) := ⟨_, rfl⟩
  rw [← ef6] at hP hD
  have hf6 : mV f6 rW rH rS rP := by rw [ef6]; exact mV.put hf4 ((5 + (3 * rP)) + 1) pq rfl (by omega) (by unfold mHi; (repeat' split) <;> omega)
  have hP : va_P D vwCl [(a_row, .inl (cy 1, 122, .inl f6))] H := hP
  have hD : va_D A [(a_row, .inl (cy 1, 122, .inl f6))] := hD
  refine lv_aload_n hx hb dX11_layPerson_23 rfl (lv_at hl 1 rfl) ?_
  refine lv_iload hx hb dX11_layPerson_24 (lv_at hl 0 rfl) ?_
  refine lv_iconst (v := 2) hx hb dX11_layPerson_26 (by decide) ?_
  refine lv_iadd hx hb dX11_layPerson_27 ?_
  refine lv_topi (fun x7 ex7 => ?_)
  obtain rfl : x7 = nI ((5 + (3 * rP)) + 2) := by rw [ex7]; exact nI_add _ _
  refine lv_iload_n hx hb dX11_layPerson_28 rfl (lv_at hl 4 rfl) ?_
  refine my_iast hx hb hK hP hD hS 0 1 rfl rfl (by first | exact in_ge (N := 122) (by decide) (by omega) (by assumption) | exact vp_in_nI (by omega) (by omega)) (nI_clamp (by omega)) dX11_layPerson_29 (fun H locs hP hD hS => ?_)
  have hP : va_P D vwCl [(a_row, .inl (cy 1, 122, .inl (upd f6 ((5 + (3 * rP)) + 2) (nI pv))))] H := hP
  have hD : va_D A [(a_row, .inl (cy 1, 122, .inl (upd f6 ((5 + (3 * rP)) + 2) (nI pv))))] := hD
  obtain ⟨f8, ef8⟩ : ∃ y : Nat → Int32, y = upd f6 ((5 + (3 * rP)) + 2) (nI pv) := ⟨_, rfl⟩
  rw [← ef8] at hP hD
  have hf8 : mV f8 rW rH rS rP := by rw [ef8]; exact mV.put hf6 ((5 + (3 * rP)) + 2) pv rfl (by omega) (by unfold mHi; (repeat' split) <;> omega)
  have hP : va_P D vwCl [(a_row, .inl (cy 1, 122, .inl f8))] H := hP
  have hD : va_D A [(a_row, .inl (cy 1, 122, .inl f8))] := hD
  refine lv_aload_n hx hb dX11_layPerson_30 rfl (lv_at hl 1 rfl) ?_
  refine lv_iconst (v := 4) hx hb dX11_layPerson_31 (by decide) ?_
  refine lv_dup2_11 hx hb dX11_layPerson_32 rfl rfl ?_
  refine my_iald hx hb hK hP 0 1 rfl rfl (by rw [vp_in_iff]; decide +kernel) (k := 4) (by decide +kernel) dX11_layPerson_33 ?_
  refine W.eq (g2 := F0 m 34 ls [.int (nI rP), .int 4, .ref a_row]) (congrArg (fun v9 : Int32 => F0 m 34 ls [.int v9, .int 4, .ref a_row]) hf8.2.2.1) ?_
  refine lv_iconst (v := 1) hx hb dX11_layPerson_34 (by decide) ?_
  refine lv_iadd hx hb dX11_layPerson_35 ?_
  refine lv_topi (fun x9 ex9 => ?_)
  obtain rfl : x9 = nI (rP + 1) := by rw [ex9]; exact nI_add _ _
  refine my_iast hx hb hK hP hD hS 0 1 rfl rfl (by rw [vp_in_iff]; decide +kernel) (k := 4) (by decide +kernel) dX11_layPerson_36 (fun H locs hP hD hS => ?_)
  have hP : va_P D vwCl [(a_row, .inl (cy 1, 122, .inl (upd f8 4 (nI (rP + 1)))))] H := hP
  have hD : va_D A [(a_row, .inl (cy 1, 122, .inl (upd f8 4 (nI (rP + 1)))))] := hD
  obtain ⟨f10, ef10⟩ : ∃ y : Nat → Int32, y = upd f8 4 (nI (rP + 1)) := ⟨_, rfl⟩
  rw [← ef10] at hP hD
  have hf10 : mV f10 rW rH rS (rP + 1) := by rw [ef10]; exact mV.putP hf8 rfl hr4
  have hP : va_P D vwCl [(a_row, .inl (cy 1, 122, .inl f10))] H := hP
  have hD : va_D A [(a_row, .inl (cy 1, 122, .inl f10))] := hD
  subst hQF
  have hP9 := hP
  have hD9 := hD
  exact W.vret hx hb hr (fun t ht hW => ⟨⟨f10, rfl, hf10, by rw [ht]; exact hP9, hD9⟩, hS.F ht⟩) hS.2.2 dX11_layPerson_37

set_option maxHeartbeats 4000000 in
set_option maxRecDepth 100000 in
theorem n_X11_garden (l : Launch) (D : va_G) (cy : Nat → ClassId) (mm : Nat) (mm_now : Nat) (mm_kept : Nat) (mm_isKept : Nat) (mm_refused : Nat) (mm_lineFrom : Int32) (mm_lineTo : Int32) (mm_stands : Nat) (mm_far : Nat) (mm_queue : Nat) (mm_queued : Int32) (mm_meets : Nat) (mm_bytes : Nat) (bl : Nat) (ta : Nat) (tl : Nat) (mm_token : Int32) (mm_value : Int32) (mm_next : Nat) (tk : Nat) (mm_refused_f : Nat → Int32) (mm_now_f : Nat → Int32) (px : Int32) (py : Int32) (sz : Nat) (hN : mN mm_now_f) : Met l yX11_garden wsX11_garden ({ frames := 1, cells := 0, slots := 0, locals := 25 }) (va_Pc [.ref mm, .int px, .int py] (kPre D cy [(mm, .inr (11, [.ref mm_now, .ref mm_kept, .ref mm_isKept, .ref mm_refused, .int mm_lineFrom, .int mm_lineTo, .ref mm_stands, .ref mm_far, .ref mm_queue, .int mm_queued, .ref mm_meets, .ref mm_bytes, .int (nI bl), .int (nI ta), .int (nI tl), .int mm_token, .int mm_value, .ref mm_next, .int (nI tk)])), (mm_refused, .inl (cy 1, 3, .inl mm_refused_f)), (mm_now, .inl (cy 1, 122, .inl mm_now_f))] sz)) (va_Qi (fun (r : Int32) (u : (Nat → Int32) × (Nat → Int32)) => mN u.2 ∧ (r = sp_garden px py)) (fun (u : (Nat → Int32) × (Nat → Int32)) t => va_P D vwCl ([(mm, .inr (11, [.ref mm_now, .ref mm_kept, .ref mm_isKept, .ref mm_refused, .int mm_lineFrom, .int mm_lineTo, .ref mm_stands, .ref mm_far, .ref mm_queue, .int mm_queued, .ref mm_meets, .ref mm_bytes, .int (nI bl), .int (nI ta), .int (nI tl), .int mm_token, .int mm_value, .ref mm_next, .int (nI tk)])), (mm_refused, .inl (cy 1, 3, .inl u.1)), (mm_now, .inl (cy 1, 122, .inl u.2))]) t.heap ∧ va_D (va_A [(mm, .inr (11, [.ref mm_now, .ref mm_kept, .ref mm_isKept, .ref mm_refused, .int mm_lineFrom, .int mm_lineTo, .ref mm_stands, .ref mm_far, .ref mm_queue, .int mm_queued, .ref mm_meets, .ref mm_bytes, .int (nI bl), .int (nI ta), .int (nI tl), .int mm_token, .int mm_value, .ref mm_next, .int (nI tk)])), (mm_refused, .inl (cy 1, 3, .inl mm_refused_f)), (mm_now, .inl (cy 1, 122, .inl mm_now_f))] sz) ([(mm, .inr (11, [.ref mm_now, .ref mm_kept, .ref mm_isKept, .ref mm_refused, .int mm_lineFrom, .int mm_lineTo, .ref mm_stands, .ref mm_far, .ref mm_queue, .int mm_queued, .ref mm_meets, .ref mm_bytes, .int (nI bl), .int (nI ta), .int (nI tl), .int mm_token, .int mm_value, .ref mm_next, .int (nI tk)])), (mm_refused, .inl (cy 1, 3, .inl u.1)), (mm_now, .inl (cy 1, 122, .inl u.2))])) (va_A [(mm, .inr (11, [.ref mm_now, .ref mm_kept, .ref mm_isKept, .ref mm_refused, .int mm_lineFrom, .int mm_lineTo, .ref mm_stands, .ref mm_far, .ref mm_queue, .int mm_queued, .ref mm_meets, .ref mm_bytes, .int (nI bl), .int (nI ta), .int (nI tl), .int mm_token, .int mm_value, .ref mm_next, .int (nI tk)])), (mm_refused, .inl (cy 1, 3, .inl mm_refused_f)), (mm_now, .inl (cy 1, 122, .inl mm_now_f))] sz)) 0 0 (va_A [(mm, .inr (11, [.ref mm_now, .ref mm_kept, .ref mm_isKept, .ref mm_refused, .int mm_lineFrom, .int mm_lineTo, .ref mm_stands, .ref mm_far, .ref mm_queue, .int mm_queued, .ref mm_meets, .ref mm_bytes, .int (nI bl), .int (nI ta), .int (nI tl), .int mm_token, .int mm_value, .ref mm_next, .int (nI tk)])), (mm_refused, .inl (cy 1, 3, .inl mm_refused_f)), (mm_now, .inl (cy 1, 122, .inl mm_now_f))] sz) := by
  refine Met.ofW (cc := cX11_garden) (maxL := 3) (ret := (some .int)) (by decide) rfl ?_
  intro p e s m args below meth c s₁ B hml hv
  obtain ⟨rfl, hsz, hP, hKA, hD0⟩ := hv
  have hx := B.exec
  have hb := B.bytes
  have hr := B.returns
  have hts := atoms_spec (ws := wsX11_garden) B.pre
  have hown : s.vm.findClass RX11 = some m.cls := findClass_of_methodNamed B.named
  have hlocks := B.notSynchronized
  subst hsz
  have hK := hKA.1
  have hD := hD0.self (sz := s.heap.size)
  generalize hAe : va_A [(mm, .inr (11, [.ref mm_now, .ref mm_kept, .ref mm_isKept, .ref mm_refused, .int mm_lineFrom, .int mm_lineTo, .ref mm_stands, .ref mm_far, .ref mm_queue, .int mm_queued, .ref mm_meets, .ref mm_bytes, .int (nI bl), .int (nI ta), .int (nI tl), .int mm_token, .int mm_value, .ref mm_next, .int (nI tk)])), (mm_refused, .inl (cy 1, 3, .inl mm_refused_f)), (mm_now, .inl (cy 1, 122, .inl mm_now_f))] s.heap.size = A at hD ⊢
  have hA : ∀ q : Nat, s.heap.size ≤ q → A q := fun q h => by rw [← hAe]; exact Or.inr h
  have hS : va_S A s.heap s.heap [] := va_S.rf
  have hP : va_P D vwCl [(mm, .inr (11, [.ref mm_now, .ref mm_kept, .ref mm_isKept, .ref mm_refused, .int mm_lineFrom, .int mm_lineTo, .ref mm_stands, .ref mm_far, .ref mm_queue, .int mm_queued, .ref mm_meets, .ref mm_bytes, .int (nI bl), .int (nI ta), .int (nI tl), .int mm_token, .int mm_value, .ref mm_next, .int (nI tk)])), (mm_refused, .inl (cy 1, 3, .inl mm_refused_f)), (mm_now, .inl (cy 1, 122, .inl mm_now_f))] s.heap := hP
  have hl := lv_entry ([.ref mm, .int px, .int py]) (n := 3) (Nat.le_of_ble_eq_true rfl)
  rw [lg_entry_eq]
  generalize (lg_sl ([.ref mm, .int px, .int py]) ++ List.replicate (3 - (lg_sl ([.ref mm, .int px, .int py])).length) Slot.unset).toArray = ls at hl ⊢
  have hl : lv_has ls 3 [(0, .ref mm), (1, .int px), (2, .int py)] := hl
  refine qW (fun QF hQF => ?_)
  have z0_ := hts (.constantLong RX11 56 2) (by decide +kernel)
  have z1_ := hts (.constantLong RX11 58 6) (by decide +kernel)
  have z2_ := hts (.fieldLink RX11 7 "HeardSeenModel" "now" "[I") (by decide +kernel)
  have zi11_ : ∀ w ∈ u_ws RX11 TX11 19, w ∈ wsX11_garden := by decide +kernel
  obtain ⟨mW, mH, mS, mP, hF⟩ := hN
  obtain ⟨hW2, hW6, hH2, hH6, hSe, hS4, hS6, hP5⟩ := hF.rng
  refine lv_iload_n hx hb dX11_garden_0 rfl (lv_at hl 1 rfl) ?_
  refine lv_i2l hx hb dX11_garden_1 rfl ?_
  refine lv_ldc2 hx hb hown z0_ dX11_garden_2 ?_
  refine lv_ldc2 hx hb hown z1_ dX11_garden_5 ?_
  refine rd_i (va_runS (As := [.long px.toInt64, .long 2, .long 6]) (rest := []) ⟨hx, hb, hml, hown, hts⟩ (n_X11_in l D cy px.toInt64 (2) (6) _ ) (va_cwS 3 hts gX11_garden_X11_in rfl rfl rfl (by decide +kernel) ⟨Nat.le_of_ble_eq_true rfl, Nat.le_of_ble_eq_true rfl⟩) (pS hKA pE (dE (A := A))) rfl rfl hl.1 rfl (lv_room (Nat.le_of_ble_eq_true rfl)) dX11_garden_8 ⟨Nat.le_of_ble_eq_true rfl, Nat.le_of_ble_eq_true rfl⟩) hP hS hA (fun r1 H locs hwr1 hP hS => ?_)
  have hwr1 : (r1 = 1 ∧ ((2) ≤ px.toInt64 ∧ px.toInt64 ≤ (6))) ∨ (r1 = 0 ∧ (¬ ((2) ≤ px.toInt64 ∧ px.toInt64 ≤ (6)))) := hwr1
  refine lv_if_eq (tgt := 28) hx hb dX11_garden_11 (by decide) (fun c2 => ?_) (fun c2 => ?_)
  · skip
    have hq3 := z_b0 hwr1 c2
    refine lv_aload_n hx hb dX11_garden_28 rfl (lv_at hl 0 rfl) ?_
    refine lv_bipush (v := (-2)) hx hb dX11_garden_29 (by decide) ?_
    refine wr_i (wr := [(mm_now, .inl (cy 1, 122, .inl mm_now_f))]) (va_runV (As := [.int (-2)]) (rest := []) ⟨hx, hb, hml, hown, hts⟩ (n_X11_bad l D cy mm mm_now mm_kept mm_isKept mm_refused mm_lineFrom mm_lineTo mm_stands mm_far mm_queue mm_queued mm_meets mm_bytes bl ta tl mm_token mm_value mm_next tk mm_refused_f (-2) _ ) (cwV 1 hts gX11_garden_X11_bad rfl rfl rfl (by decide +kernel) ⟨Nat.le_of_ble_eq_true rfl, Nat.le_of_ble_eq_true rfl⟩) (pV (ci := 11) (k := 0) hKA (hP.sub (ws' := [(mm, .inr (11, [.ref mm_now, .ref mm_kept, .ref mm_isKept, .ref mm_refused, .int mm_lineFrom, .int mm_lineTo, .ref mm_stands, .ref mm_far, .ref mm_queue, .int mm_queued, .ref mm_meets, .ref mm_bytes, .int (nI bl), .int (nI ta), .int (nI tl), .int mm_token, .int mm_value, .ref mm_next, .int (nI tk)])), (mm_refused, .inl (cy 1, 3, .inl mm_refused_f))]) [0, 1] rfl) (hD.sub (ws' := [(mm, .inr (11, [.ref mm_now, .ref mm_kept, .ref mm_isKept, .ref mm_refused, .int mm_lineFrom, .int mm_lineTo, .ref mm_stands, .ref mm_far, .ref mm_queue, .int mm_queued, .ref mm_meets, .ref mm_bytes, .int (nI bl), .int (nI ta), .int (nI tl), .int mm_token, .int mm_value, .ref mm_next, .int (nI tk)])), (mm_refused, .inl (cy 1, 3, .inl mm_refused_f))]) [0, 1] (by decide) rfl) rfl rfl) rfl rfl hl.1 rfl (lv_room (Nat.le_of_ble_eq_true rfl)) dX11_garden_31 ⟨Nat.le_of_ble_eq_true rfl, Nat.le_of_ble_eq_true rfl⟩) hP hD hS hA [0, 1] [2] rfl rfl (by decide +kernel) (by decide +kernel) (fun r4 ur4 H locs hwr4 hP hD hS => ?_)
    obtain ⟨z5, rfl⟩ : ∃ z, z = ur4 := ⟨_, rfl⟩
    have hP : va_P D vwCl [(mm_now, .inl (cy 1, 122, .inl mm_now_f)), (mm, .inr (11, [.ref mm_now, .ref mm_kept, .ref mm_isKept, .ref mm_refused, .int mm_lineFrom, .int mm_lineTo, .ref mm_stands, .ref mm_far, .ref mm_queue, .int mm_queued, .ref mm_meets, .ref mm_bytes, .int (nI bl), .int (nI ta), .int (nI tl), .int mm_token, .int mm_value, .ref mm_next, .int (nI tk)])), (mm_refused, .inl (cy 1, 3, .inl z5))] H := hP
    have hD : va_D A [(mm_now, .inl (cy 1, 122, .inl mm_now_f)), (mm, .inr (11, [.ref mm_now, .ref mm_kept, .ref mm_isKept, .ref mm_refused, .int mm_lineFrom, .int mm_lineTo, .ref mm_stands, .ref mm_far, .ref mm_queue, .int mm_queued, .ref mm_meets, .ref mm_bytes, .int (nI bl), .int (nI ta), .int (nI tl), .int mm_token, .int mm_value, .ref mm_next, .int (nI tk)])), (mm_refused, .inl (cy 1, 3, .inl z5))] := hD
    have hwr4 : r4 = (-2) := hwr4
    subst hwr4
    subst hQF
    have hP9 := hP.sub (ws' := [(mm, .inr (11, [.ref mm_now, .ref mm_kept, .ref mm_isKept, .ref mm_refused, .int mm_lineFrom, .int mm_lineTo, .ref mm_stands, .ref mm_far, .ref mm_queue, .int mm_queued, .ref mm_meets, .ref mm_bytes, .int (nI bl), .int (nI ta), .int (nI tl), .int mm_token, .int mm_value, .ref mm_next, .int (nI tk)])), (mm_refused, .inl (cy 1, 3, .inl z5)), (mm_now, .inl (cy 1, 122, .inl mm_now_f))]) [1, 2, 0] rfl
    have hD9 := hD.sub (ws' := [(mm, .inr (11, [.ref mm_now, .ref mm_kept, .ref mm_isKept, .ref mm_refused, .int mm_lineFrom, .int mm_lineTo, .ref mm_stands, .ref mm_far, .ref mm_queue, .int mm_queued, .ref mm_meets, .ref mm_bytes, .int (nI bl), .int (nI ta), .int (nI tl), .int mm_token, .int mm_value, .ref mm_next, .int (nI tk)])), (mm_refused, .inl (cy 1, 3, .inl z5)), (mm_now, .inl (cy 1, 122, .inl mm_now_f))]) [1, 2, 0] (by decide) rfl
    exact W.iret (v := (-2)) hx hb hr (fun t ht hW => ⟨⟨(-2), (z5, mm_now_f), rfl, ⟨⟨_, _, _, _, hF⟩, (by first | exact spg1 (by assumption) | exact spg2 (by assumption))⟩, by rw [ht]; exact hP9, hD9⟩, hS.F ht⟩) hS.2.2 dX11_garden_34
  · skip
    obtain ⟨hp6, hp7⟩ := z_b1 hwr1 c2
    obtain ⟨j8, gj8, hj8, ej8⟩ := z_rng (lo := 2) (hi := 6) (by decide) (by decide) hp6 hp7
    refine lv_iload_n hx hb dX11_garden_14 rfl (lv_at hl 2 rfl) ?_
    refine lv_i2l hx hb dX11_garden_15 rfl ?_
    refine lv_ldc2 hx hb hown z0_ dX11_garden_16 ?_
    refine lv_ldc2 hx hb hown z1_ dX11_garden_19 ?_
    refine rd_i (va_runS (As := [.long py.toInt64, .long 2, .long 6]) (rest := []) ⟨hx, hb, hml, hown, hts⟩ (n_X11_in l D cy py.toInt64 (2) (6) _ ) (va_cwS 3 hts gX11_garden_X11_in rfl rfl rfl (by decide +kernel) ⟨Nat.le_of_ble_eq_true rfl, Nat.le_of_ble_eq_true rfl⟩) (pS hKA pE (dE (A := A))) rfl rfl hl.1 rfl (lv_room (Nat.le_of_ble_eq_true rfl)) dX11_garden_22 ⟨Nat.le_of_ble_eq_true rfl, Nat.le_of_ble_eq_true rfl⟩) hP hS hA (fun r9 H locs hwr9 hP hS => ?_)
    have hwr9 : (r9 = 1 ∧ ((2) ≤ py.toInt64 ∧ py.toInt64 ≤ (6))) ∨ (r9 = 0 ∧ (¬ ((2) ≤ py.toInt64 ∧ py.toInt64 ≤ (6)))) := hwr9
    refine lv_if_ne (tgt := 35) hx hb dX11_garden_25 (by decide) (fun c10 => ?_) (fun c10 => ?_)
    · skip
      obtain ⟨hp11, hp12⟩ := z_b1 hwr9 c10
      obtain ⟨j13, gj13, hj13, ej13⟩ := z_rng (lo := 2) (hi := 6) (by decide) (by decide) hp11 hp12
      refine lv_aload_n hx hb dX11_garden_35 rfl (lv_at hl 0 rfl) ?_
      refine va_get (D := D) (ci := 11) (v := .ref mm_now) (C := RX11) (T := TX11) (N := 19) hx hb hts zi11_ hown hK hP 0 rfl rfl 0 (by decide) z2_ (fun _ h9 => h9) rfl dX11_garden_36 ?_
      refine lv_iload_n hx hb dX11_garden_39 rfl (lv_at hl 1 rfl) ?_
      refine W.eq (g2 := F0 m 40 ls [.int (nI j8), .ref mm_now]) (congrArg (fun v9 : Int32 => F0 m 40 ls [.int v9, .ref mm_now]) ej8) ?_
      refine lv_iload_n hx hb dX11_garden_40 rfl (lv_at hl 2 rfl) ?_
      refine W.eq (g2 := F0 m 41 ls [.int (nI j13), .int (nI j8), .ref mm_now]) (congrArg (fun v9 : Int32 => F0 m 41 ls [.int v9, .int (nI j8), .ref mm_now]) ej13) ?_
      refine wr_v (wr := [(mm, .inr (11, [.ref mm_now, .ref mm_kept, .ref mm_isKept, .ref mm_refused, .int mm_lineFrom, .int mm_lineTo, .ref mm_stands, .ref mm_far, .ref mm_queue, .int mm_queued, .ref mm_meets, .ref mm_bytes, .int (nI bl), .int (nI ta), .int (nI tl), .int mm_token, .int mm_value, .ref mm_next, .int (nI tk)])), (mm_refused, .inl (cy 1, 3, .inl mm_refused_f))]) (va_runS (As := [.ref mm_now, .int (nI j8), .int (nI j13)]) (rest := []) ⟨hx, hb, hml, hown, hts⟩ (n_X11_begin l D cy mm_now mm_now_f j8 j13 _ (by first | assumption | omega) (by first | assumption | omega)) (va_cwS 3 hts gX11_garden_X11_begin rfl rfl rfl (by decide +kernel) ⟨Nat.le_of_ble_eq_true rfl, Nat.le_of_ble_eq_true rfl⟩) (pS hKA (hP.sub (ws' := [(mm_now, .inl (cy 1, 122, .inl mm_now_f))]) [2] rfl) (hD.sub (ws' := [(mm_now, .inl (cy 1, 122, .inl mm_now_f))]) [2] (by decide) rfl)) rfl rfl hl.1 rfl (lv_room (Nat.le_of_ble_eq_true rfl)) dX11_garden_41 ⟨Nat.le_of_ble_eq_true rfl, Nat.le_of_ble_eq_true rfl⟩) hP hD hS hA [2] [0, 1] rfl rfl (by decide +kernel) (by decide +kernel) (fun ur14 H locs hwr14 hP hD hS => ?_)
      obtain ⟨z15, rfl⟩ : ∃ z, z = ur14 := ⟨_, rfl⟩
      have hP : va_P D vwCl [(mm, .inr (11, [.ref mm_now, .ref mm_kept, .ref mm_isKept, .ref mm_refused, .int mm_lineFrom, .int mm_lineTo, .ref mm_stands, .ref mm_far, .ref mm_queue, .int mm_queued, .ref mm_meets, .ref mm_bytes, .int (nI bl), .int (nI ta), .int (nI tl), .int mm_token, .int mm_value, .ref mm_next, .int (nI tk)])), (mm_refused, .inl (cy 1, 3, .inl mm_refused_f)), (mm_now, .inl (cy 1, 122, .inl z15))] H := hP
      have hD : va_D A [(mm, .inr (11, [.ref mm_now, .ref mm_kept, .ref mm_isKept, .ref mm_refused, .int mm_lineFrom, .int mm_lineTo, .ref mm_stands, .ref mm_far, .ref mm_queue, .int mm_queued, .ref mm_meets, .ref mm_bytes, .int (nI bl), .int (nI ta), .int (nI tl), .int mm_token, .int mm_value, .ref mm_next, .int (nI tk)])), (mm_refused, .inl (cy 1, 3, .inl mm_refused_f)), (mm_now, .inl (cy 1, 122, .inl z15))] := hD
      have hwr14 : mV z15 j8 j13 (j8 * j13) 0 := hwr14
      refine lv_iload_n hx hb dX11_garden_44 rfl (lv_at hl 1 rfl) ?_
      refine W.eq (g2 := F0 m 45 ls [.int (nI j8)]) (congrArg (fun v9 : Int32 => F0 m 45 ls [.int v9]) ej8) ?_
      refine lv_iload_n hx hb dX11_garden_45 rfl (lv_at hl 2 rfl) ?_
      refine W.eq (g2 := F0 m 46 ls [.int (nI j13), .int (nI j8)]) (congrArg (fun v9 : Int32 => F0 m 46 ls [.int v9, .int (nI j8)]) ej13) ?_
      refine lv_imul hx hb dX11_garden_46 ?_
      refine lv_topi (fun x16 ex16 => ?_)
      obtain rfl : x16 = nI (j8 * j13) := by rw [ex16]; exact pk_mul _ _
      subst hQF
      have hP9 := hP
      have hD9 := hD
      exact W.iret (v := nI (j8 * j13)) hx hb hr (fun t ht hW => ⟨⟨nI (j8 * j13), (mm_refused_f, z15), rfl, ⟨⟨_, _, _, _, hwr14⟩, (spg (by assumption) (by assumption) (by assumption) (by assumption) (by assumption) (by assumption))⟩, by rw [ht]; exact hP9, hD9⟩, hS.F ht⟩) hS.2.2 dX11_garden_47
    · skip
      have hq17 := z_b0 hwr9 c10
      refine lv_aload_n hx hb dX11_garden_28 rfl (lv_at hl 0 rfl) ?_
      refine lv_bipush (v := (-2)) hx hb dX11_garden_29 (by decide) ?_
      refine wr_i (wr := [(mm_now, .inl (cy 1, 122, .inl mm_now_f))]) (va_runV (As := [.int (-2)]) (rest := []) ⟨hx, hb, hml, hown, hts⟩ (n_X11_bad l D cy mm mm_now mm_kept mm_isKept mm_refused mm_lineFrom mm_lineTo mm_stands mm_far mm_queue mm_queued mm_meets mm_bytes bl ta tl mm_token mm_value mm_next tk mm_refused_f (-2) _ ) (cwV 1 hts gX11_garden_X11_bad rfl rfl rfl (by decide +kernel) ⟨Nat.le_of_ble_eq_true rfl, Nat.le_of_ble_eq_true rfl⟩) (pV (ci := 11) (k := 0) hKA (hP.sub (ws' := [(mm, .inr (11, [.ref mm_now, .ref mm_kept, .ref mm_isKept, .ref mm_refused, .int mm_lineFrom, .int mm_lineTo, .ref mm_stands, .ref mm_far, .ref mm_queue, .int mm_queued, .ref mm_meets, .ref mm_bytes, .int (nI bl), .int (nI ta), .int (nI tl), .int mm_token, .int mm_value, .ref mm_next, .int (nI tk)])), (mm_refused, .inl (cy 1, 3, .inl mm_refused_f))]) [0, 1] rfl) (hD.sub (ws' := [(mm, .inr (11, [.ref mm_now, .ref mm_kept, .ref mm_isKept, .ref mm_refused, .int mm_lineFrom, .int mm_lineTo, .ref mm_stands, .ref mm_far, .ref mm_queue, .int mm_queued, .ref mm_meets, .ref mm_bytes, .int (nI bl), .int (nI ta), .int (nI tl), .int mm_token, .int mm_value, .ref mm_next, .int (nI tk)])), (mm_refused, .inl (cy 1, 3, .inl mm_refused_f))]) [0, 1] (by decide) rfl) rfl rfl) rfl rfl hl.1 rfl (lv_room (Nat.le_of_ble_eq_true rfl)) dX11_garden_31 ⟨Nat.le_of_ble_eq_true rfl, Nat.le_of_ble_eq_true rfl⟩) hP hD hS hA [0, 1] [2] rfl rfl (by decide +kernel) (by decide +kernel) (fun r18 ur18 H locs hwr18 hP hD hS => ?_)
      obtain ⟨z19, rfl⟩ : ∃ z, z = ur18 := ⟨_, rfl⟩
      have hP : va_P D vwCl [(mm_now, .inl (cy 1, 122, .inl mm_now_f)), (mm, .inr (11, [.ref mm_now, .ref mm_kept, .ref mm_isKept, .ref mm_refused, .int mm_lineFrom, .int mm_lineTo, .ref mm_stands, .ref mm_far, .ref mm_queue, .int mm_queued, .ref mm_meets, .ref mm_bytes, .int (nI bl), .int (nI ta), .int (nI tl), .int mm_token, .int mm_value, .ref mm_next, .int (nI tk)])), (mm_refused, .inl (cy 1, 3, .inl z19))] H := hP
      have hD : va_D A [(mm_now, .inl (cy 1, 122, .inl mm_now_f)), (mm, .inr (11, [.ref mm_now, .ref mm_kept, .ref mm_isKept, .ref mm_refused, .int mm_lineFrom, .int mm_lineTo, .ref mm_stands, .ref mm_far, .ref mm_queue, .int mm_queued, .ref mm_meets, .ref mm_bytes, .int (nI bl), .int (nI ta), .int (nI tl), .int mm_token, .int mm_value, .ref mm_next, .int (nI tk)])), (mm_refused, .inl (cy 1, 3, .inl z19))] := hD
      have hwr18 : r18 = (-2) := hwr18
      subst hwr18
      subst hQF
      have hP9 := hP.sub (ws' := [(mm, .inr (11, [.ref mm_now, .ref mm_kept, .ref mm_isKept, .ref mm_refused, .int mm_lineFrom, .int mm_lineTo, .ref mm_stands, .ref mm_far, .ref mm_queue, .int mm_queued, .ref mm_meets, .ref mm_bytes, .int (nI bl), .int (nI ta), .int (nI tl), .int mm_token, .int mm_value, .ref mm_next, .int (nI tk)])), (mm_refused, .inl (cy 1, 3, .inl z19)), (mm_now, .inl (cy 1, 122, .inl mm_now_f))]) [1, 2, 0] rfl
      have hD9 := hD.sub (ws' := [(mm, .inr (11, [.ref mm_now, .ref mm_kept, .ref mm_isKept, .ref mm_refused, .int mm_lineFrom, .int mm_lineTo, .ref mm_stands, .ref mm_far, .ref mm_queue, .int mm_queued, .ref mm_meets, .ref mm_bytes, .int (nI bl), .int (nI ta), .int (nI tl), .int mm_token, .int mm_value, .ref mm_next, .int (nI tk)])), (mm_refused, .inl (cy 1, 3, .inl z19)), (mm_now, .inl (cy 1, 122, .inl mm_now_f))]) [1, 2, 0] (by decide) rfl
      exact W.iret (v := (-2)) hx hb hr (fun t ht hW => ⟨⟨(-2), (z19, mm_now_f), rfl, ⟨⟨_, _, _, _, hF⟩, (by first | exact spg1 (by assumption) | exact spg2 (by assumption))⟩, by rw [ht]; exact hP9, hD9⟩, hS.F ht⟩) hS.2.2 dX11_garden_34

set_option maxHeartbeats 4000000 in
set_option maxRecDepth 100000 in
theorem n_X11_set (l : Launch) (D : va_G) (cy : Nat → ClassId) (mm : Nat) (mm_now : Nat) (mm_kept : Nat) (mm_isKept : Nat) (mm_refused : Nat) (mm_lineFrom : Int32) (mm_lineTo : Int32) (mm_stands : Nat) (mm_far : Nat) (mm_queue : Nat) (mm_queued : Int32) (mm_meets : Nat) (mm_bytes : Nat) (bl : Nat) (ta : Nat) (tl : Nat) (mm_token : Int32) (mm_value : Int32) (mm_next : Nat) (tk : Nat) (mm_refused_f : Nat → Int32) (mm_now_f : Nat → Int32) (px : Int32) (py : Int32) (pz : Int32) (sz : Nat) (hN : mN mm_now_f) : Met l yX11_set wsX11_set ({ frames := 2, cells := 0, slots := 0, locals := 46 }) (va_Pc [.ref mm, .int px, .int py, .int pz] (kPre D cy [(mm, .inr (11, [.ref mm_now, .ref mm_kept, .ref mm_isKept, .ref mm_refused, .int mm_lineFrom, .int mm_lineTo, .ref mm_stands, .ref mm_far, .ref mm_queue, .int mm_queued, .ref mm_meets, .ref mm_bytes, .int (nI bl), .int (nI ta), .int (nI tl), .int mm_token, .int mm_value, .ref mm_next, .int (nI tk)])), (mm_refused, .inl (cy 1, 3, .inl mm_refused_f)), (mm_now, .inl (cy 1, 122, .inl mm_now_f))] sz)) (va_Qi (fun (r : Int32) (u : (Nat → Int32) × (Nat → Int32)) => mN u.2) (fun (u : (Nat → Int32) × (Nat → Int32)) t => va_P D vwCl ([(mm, .inr (11, [.ref mm_now, .ref mm_kept, .ref mm_isKept, .ref mm_refused, .int mm_lineFrom, .int mm_lineTo, .ref mm_stands, .ref mm_far, .ref mm_queue, .int mm_queued, .ref mm_meets, .ref mm_bytes, .int (nI bl), .int (nI ta), .int (nI tl), .int mm_token, .int mm_value, .ref mm_next, .int (nI tk)])), (mm_refused, .inl (cy 1, 3, .inl u.1)), (mm_now, .inl (cy 1, 122, .inl u.2))]) t.heap ∧ va_D (va_A [(mm, .inr (11, [.ref mm_now, .ref mm_kept, .ref mm_isKept, .ref mm_refused, .int mm_lineFrom, .int mm_lineTo, .ref mm_stands, .ref mm_far, .ref mm_queue, .int mm_queued, .ref mm_meets, .ref mm_bytes, .int (nI bl), .int (nI ta), .int (nI tl), .int mm_token, .int mm_value, .ref mm_next, .int (nI tk)])), (mm_refused, .inl (cy 1, 3, .inl mm_refused_f)), (mm_now, .inl (cy 1, 122, .inl mm_now_f))] sz) ([(mm, .inr (11, [.ref mm_now, .ref mm_kept, .ref mm_isKept, .ref mm_refused, .int mm_lineFrom, .int mm_lineTo, .ref mm_stands, .ref mm_far, .ref mm_queue, .int mm_queued, .ref mm_meets, .ref mm_bytes, .int (nI bl), .int (nI ta), .int (nI tl), .int mm_token, .int mm_value, .ref mm_next, .int (nI tk)])), (mm_refused, .inl (cy 1, 3, .inl u.1)), (mm_now, .inl (cy 1, 122, .inl u.2))])) (va_A [(mm, .inr (11, [.ref mm_now, .ref mm_kept, .ref mm_isKept, .ref mm_refused, .int mm_lineFrom, .int mm_lineTo, .ref mm_stands, .ref mm_far, .ref mm_queue, .int mm_queued, .ref mm_meets, .ref mm_bytes, .int (nI bl), .int (nI ta), .int (nI tl), .int mm_token, .int mm_value, .ref mm_next, .int (nI tk)])), (mm_refused, .inl (cy 1, 3, .inl mm_refused_f)), (mm_now, .inl (cy 1, 122, .inl mm_now_f))] sz)) 0 0 (va_A [(mm, .inr (11, [.ref mm_now, .ref mm_kept, .ref mm_isKept, .ref mm_refused, .int mm_lineFrom, .int mm_lineTo, .ref mm_stands, .ref mm_far, .ref mm_queue, .int mm_queued, .ref mm_meets, .ref mm_bytes, .int (nI bl), .int (nI ta), .int (nI tl), .int mm_token, .int mm_value, .ref mm_next, .int (nI tk)])), (mm_refused, .inl (cy 1, 3, .inl mm_refused_f)), (mm_now, .inl (cy 1, 122, .inl mm_now_f))] sz) := by
  refine Met.ofW (cc := cX11_set) (maxL := 6) (ret := (some .int)) (by decide) rfl ?_
  intro p e s m args below meth c s₁ B hml hv
  obtain ⟨rfl, hsz, hP, hKA, hD0⟩ := hv
  have hx := B.exec
  have hb := B.bytes
  have hr := B.returns
  have hts := atoms_spec (ws := wsX11_set) B.pre
  have hown : s.vm.findClass RX11 = some m.cls := findClass_of_methodNamed B.named
  have hlocks := B.notSynchronized
  subst hsz
  have hK := hKA.1
  have hD := hD0.self (sz := s.heap.size)
  generalize hAe : va_A [(mm, .inr (11, [.ref mm_now, .ref mm_kept, .ref mm_isKept, .ref mm_refused, .int mm_lineFrom, .int mm_lineTo, .ref mm_stands, .ref mm_far, .ref mm_queue, .int mm_queued, .ref mm_meets, .ref mm_bytes, .int (nI bl), .int (nI ta), .int (nI tl), .int mm_token, .int mm_value, .ref mm_next, .int (nI tk)])), (mm_refused, .inl (cy 1, 3, .inl mm_refused_f)), (mm_now, .inl (cy 1, 122, .inl mm_now_f))] s.heap.size = A at hD ⊢
  have hA : ∀ q : Nat, s.heap.size ≤ q → A q := fun q h => by rw [← hAe]; exact Or.inr h
  have hS : va_S A s.heap s.heap [] := va_S.rf
  have hP : va_P D vwCl [(mm, .inr (11, [.ref mm_now, .ref mm_kept, .ref mm_isKept, .ref mm_refused, .int mm_lineFrom, .int mm_lineTo, .ref mm_stands, .ref mm_far, .ref mm_queue, .int mm_queued, .ref mm_meets, .ref mm_bytes, .int (nI bl), .int (nI ta), .int (nI tl), .int mm_token, .int mm_value, .ref mm_next, .int (nI tk)])), (mm_refused, .inl (cy 1, 3, .inl mm_refused_f)), (mm_now, .inl (cy 1, 122, .inl mm_now_f))] s.heap := hP
  have hl := lv_entry ([.ref mm, .int px, .int py, .int pz]) (n := 6) (Nat.le_of_ble_eq_true rfl)
  rw [lg_entry_eq]
  generalize (lg_sl ([.ref mm, .int px, .int py, .int pz]) ++ List.replicate (6 - (lg_sl ([.ref mm, .int px, .int py, .int pz])).length) Slot.unset).toArray = ls at hl ⊢
  have hl : lv_has ls 6 [(0, .ref mm), (1, .int px), (2, .int py), (3, .int pz)] := hl
  refine qW (fun QF hQF => ?_)
  have z0_ := hts (.fieldLink RX11 7 "HeardSeenModel" "now" "[I") (by decide +kernel)
  have zi11_ : ∀ w ∈ u_ws RX11 TX11 19, w ∈ wsX11_set := by decide +kernel
  obtain ⟨mW, mH, mS, mP, hF⟩ := hN
  obtain ⟨hW2, hW6, hH2, hH6, hSe, hS4, hS6, hP5⟩ := hF.rng
  refine lv_iload_n hx hb dX11_set_0 rfl (lv_at hl 1 rfl) ?_
  refine lv_i2l hx hb dX11_set_1 rfl ?_
  refine lv_lconst (v := 0) hx hb dX11_set_2 (by decide) ?_
  refine lv_lconst (v := 1) hx hb dX11_set_3 (by decide) ?_
  refine rd_i (va_runS (As := [.long px.toInt64, .long 0, .long 1]) (rest := []) ⟨hx, hb, hml, hown, hts⟩ (n_X11_in l D cy px.toInt64 (0) (1) _ ) (va_cwS 3 hts gX11_set_X11_in rfl rfl rfl (by decide +kernel) ⟨Nat.le_of_ble_eq_true rfl, Nat.le_of_ble_eq_true rfl⟩) (pS hKA pE (dE (A := A))) rfl rfl hl.1 rfl (lv_room (Nat.le_of_ble_eq_true rfl)) dX11_set_4 ⟨Nat.le_of_ble_eq_true rfl, Nat.le_of_ble_eq_true rfl⟩) hP hS hA (fun r1 H locs hwr1 hP hS => ?_)
  have hwr1 : (r1 = 1 ∧ ((0) ≤ px.toInt64 ∧ px.toInt64 ≤ (1))) ∨ (r1 = 0 ∧ (¬ ((0) ≤ px.toInt64 ∧ px.toInt64 ≤ (1)))) := hwr1
  refine lv_if_eq (tgt := 18) hx hb dX11_set_7 (by decide) (fun c2 => ?_) (fun c2 => ?_)
  · skip
    have hq3 := z_b0 hwr1 c2
    refine lv_aload_n hx hb dX11_set_18 rfl (lv_at hl 0 rfl) ?_
    refine lv_bipush (v := (-2)) hx hb dX11_set_19 (by decide) ?_
    refine wr_i (wr := [(mm_now, .inl (cy 1, 122, .inl mm_now_f))]) (va_runV (As := [.int (-2)]) (rest := []) ⟨hx, hb, hml, hown, hts⟩ (n_X11_bad l D cy mm mm_now mm_kept mm_isKept mm_refused mm_lineFrom mm_lineTo mm_stands mm_far mm_queue mm_queued mm_meets mm_bytes bl ta tl mm_token mm_value mm_next tk mm_refused_f (-2) _ ) (cwV 1 hts gX11_set_X11_bad rfl rfl rfl (by decide +kernel) ⟨Nat.le_of_ble_eq_true rfl, Nat.le_of_ble_eq_true rfl⟩) (pV (ci := 11) (k := 0) hKA (hP.sub (ws' := [(mm, .inr (11, [.ref mm_now, .ref mm_kept, .ref mm_isKept, .ref mm_refused, .int mm_lineFrom, .int mm_lineTo, .ref mm_stands, .ref mm_far, .ref mm_queue, .int mm_queued, .ref mm_meets, .ref mm_bytes, .int (nI bl), .int (nI ta), .int (nI tl), .int mm_token, .int mm_value, .ref mm_next, .int (nI tk)])), (mm_refused, .inl (cy 1, 3, .inl mm_refused_f))]) [0, 1] rfl) (hD.sub (ws' := [(mm, .inr (11, [.ref mm_now, .ref mm_kept, .ref mm_isKept, .ref mm_refused, .int mm_lineFrom, .int mm_lineTo, .ref mm_stands, .ref mm_far, .ref mm_queue, .int mm_queued, .ref mm_meets, .ref mm_bytes, .int (nI bl), .int (nI ta), .int (nI tl), .int mm_token, .int mm_value, .ref mm_next, .int (nI tk)])), (mm_refused, .inl (cy 1, 3, .inl mm_refused_f))]) [0, 1] (by decide) rfl) rfl rfl) rfl rfl hl.1 rfl (lv_room (Nat.le_of_ble_eq_true rfl)) dX11_set_21 ⟨Nat.le_of_ble_eq_true rfl, Nat.le_of_ble_eq_true rfl⟩) hP hD hS hA [0, 1] [2] rfl rfl (by decide +kernel) (by decide +kernel) (fun r4 ur4 H locs hwr4 hP hD hS => ?_)
    obtain ⟨z5, rfl⟩ : ∃ z, z = ur4 := ⟨_, rfl⟩
    have hP : va_P D vwCl [(mm_now, .inl (cy 1, 122, .inl mm_now_f)), (mm, .inr (11, [.ref mm_now, .ref mm_kept, .ref mm_isKept, .ref mm_refused, .int mm_lineFrom, .int mm_lineTo, .ref mm_stands, .ref mm_far, .ref mm_queue, .int mm_queued, .ref mm_meets, .ref mm_bytes, .int (nI bl), .int (nI ta), .int (nI tl), .int mm_token, .int mm_value, .ref mm_next, .int (nI tk)])), (mm_refused, .inl (cy 1, 3, .inl z5))] H := hP
    have hD : va_D A [(mm_now, .inl (cy 1, 122, .inl mm_now_f)), (mm, .inr (11, [.ref mm_now, .ref mm_kept, .ref mm_isKept, .ref mm_refused, .int mm_lineFrom, .int mm_lineTo, .ref mm_stands, .ref mm_far, .ref mm_queue, .int mm_queued, .ref mm_meets, .ref mm_bytes, .int (nI bl), .int (nI ta), .int (nI tl), .int mm_token, .int mm_value, .ref mm_next, .int (nI tk)])), (mm_refused, .inl (cy 1, 3, .inl z5))] := hD
    have hwr4 : r4 = (-2) := hwr4
    subst hwr4
    subst hQF
    have hP9 := hP.sub (ws' := [(mm, .inr (11, [.ref mm_now, .ref mm_kept, .ref mm_isKept, .ref mm_refused, .int mm_lineFrom, .int mm_lineTo, .ref mm_stands, .ref mm_far, .ref mm_queue, .int mm_queued, .ref mm_meets, .ref mm_bytes, .int (nI bl), .int (nI ta), .int (nI tl), .int mm_token, .int mm_value, .ref mm_next, .int (nI tk)])), (mm_refused, .inl (cy 1, 3, .inl z5)), (mm_now, .inl (cy 1, 122, .inl mm_now_f))]) [1, 2, 0] rfl
    have hD9 := hD.sub (ws' := [(mm, .inr (11, [.ref mm_now, .ref mm_kept, .ref mm_isKept, .ref mm_refused, .int mm_lineFrom, .int mm_lineTo, .ref mm_stands, .ref mm_far, .ref mm_queue, .int mm_queued, .ref mm_meets, .ref mm_bytes, .int (nI bl), .int (nI ta), .int (nI tl), .int mm_token, .int mm_value, .ref mm_next, .int (nI tk)])), (mm_refused, .inl (cy 1, 3, .inl z5)), (mm_now, .inl (cy 1, 122, .inl mm_now_f))]) [1, 2, 0] (by decide) rfl
    exact W.iret (v := (-2)) hx hb hr (fun t ht hW => ⟨⟨(-2), (z5, mm_now_f), rfl, ⟨_, _, _, _, hF⟩, by rw [ht]; exact hP9, hD9⟩, hS.F ht⟩) hS.2.2 dX11_set_24
  · skip
    obtain ⟨hp6, hp7⟩ := z_b1 hwr1 c2
    obtain ⟨j8, gj8, hj8, ej8⟩ := z_rng (lo := 0) (hi := 1) (by decide) (by decide) hp6 hp7
    refine lv_aload_n hx hb dX11_set_10 rfl (lv_at hl 0 rfl) ?_
    refine lv_iload_n hx hb dX11_set_11 rfl (lv_at hl 2 rfl) ?_
    refine rd_i (va_runV (As := [.int py]) (rest := []) ⟨hx, hb, hml, hown, hts⟩ (n_X11_isSquare l D cy mW mH mS mP mm mm_now mm_kept mm_isKept mm_refused mm_lineFrom mm_lineTo mm_stands mm_far mm_queue mm_queued mm_meets mm_bytes bl ta tl mm_token mm_value mm_next tk mm_now_f py _ (by first | assumption | omega)) (cwV 1 hts gX11_set_X11_isSquare rfl rfl rfl (by decide +kernel) ⟨Nat.le_of_ble_eq_true rfl, Nat.le_of_ble_eq_true rfl⟩) (pV (ci := 11) (k := 0) hKA (hP.sub (ws' := [(mm, .inr (11, [.ref mm_now, .ref mm_kept, .ref mm_isKept, .ref mm_refused, .int mm_lineFrom, .int mm_lineTo, .ref mm_stands, .ref mm_far, .ref mm_queue, .int mm_queued, .ref mm_meets, .ref mm_bytes, .int (nI bl), .int (nI ta), .int (nI tl), .int mm_token, .int mm_value, .ref mm_next, .int (nI tk)])), (mm_now, .inl (cy 1, 122, .inl mm_now_f))]) [0, 2] rfl) (hD.sub (ws' := [(mm, .inr (11, [.ref mm_now, .ref mm_kept, .ref mm_isKept, .ref mm_refused, .int mm_lineFrom, .int mm_lineTo, .ref mm_stands, .ref mm_far, .ref mm_queue, .int mm_queued, .ref mm_meets, .ref mm_bytes, .int (nI bl), .int (nI ta), .int (nI tl), .int mm_token, .int mm_value, .ref mm_next, .int (nI tk)])), (mm_now, .inl (cy 1, 122, .inl mm_now_f))]) [0, 2] (by decide) rfl) rfl rfl) rfl rfl hl.1 rfl (lv_room (Nat.le_of_ble_eq_true rfl)) dX11_set_12 ⟨Nat.le_of_ble_eq_true rfl, Nat.le_of_ble_eq_true rfl⟩) hP hS hA (fun r9 H locs hwr9 hP hS => ?_)
    have hwr9 : (r9 = 1 ∧ (∃ j : Nat, j < mS ∧ py = nI j)) ∨ (r9 = 0 ∧ True) := hwr9
    refine lv_if_ne (tgt := 25) hx hb dX11_set_15 (by decide) (fun c10 => ?_) (fun c10 => ?_)
    · skip
      have hp11 := z_b1 hwr9 c10
      obtain ⟨j12, hj12, ej12⟩ := hp11
      refine lv_iload_n hx hb dX11_set_25 rfl (lv_at hl 1 rfl) ?_
      refine W.eq (g2 := F0 m 26 ls [.int (nI j8)]) (congrArg (fun v9 : Int32 => F0 m 26 ls [.int v9]) ej8) ?_
      refine lv_if_ne (tgt := 34) hx hb dX11_set_26 (by decide) (fun c13 => ?_) (fun c13 => ?_)
      · skip
        refine lv_bipush (v := 56) hx hb dX11_set_34 (by decide) ?_
        refine lv_iload_n hx hb dX11_set_36 rfl (lv_at hl 2 rfl) ?_
        refine W.eq (g2 := F0 m 37 ls [.int (nI j12), .int 56]) (congrArg (fun v9 : Int32 => F0 m 37 ls [.int v9, .int 56]) ej12) ?_
        refine lv_iadd hx hb dX11_set_37 ?_
        refine lv_topi (fun x14 ex14 => ?_)
        obtain rfl : x14 = nI (56 + j12) := by rw [ex14]; exact nI_add _ _
        refine lv_istore (lv' := [(4, .int (nI (56 + j12))), (0, .ref mm), (1, .int px), (2, .int py), (3, .int pz)]) hx hb dX11_set_38 hl (by decide) rfl (fun ls hl => ?_)
        refine lv_iload_n hx hb dX11_set_40 rfl (lv_at hl 4 rfl) ?_
        have j49 : ∀ (s1_49 : Int32) (bs1_49 : s1_49 = 1 ∨ s1_49 = 0) (H : Heap) (locs : List Loc), va_P D vwCl [(mm, .inr (11, [.ref mm_now, .ref mm_kept, .ref mm_isKept, .ref mm_refused, .int mm_lineFrom, .int mm_lineTo, .ref mm_stands, .ref mm_far, .ref mm_queue, .int mm_queued, .ref mm_meets, .ref mm_bytes, .int (nI bl), .int (nI ta), .int (nI tl), .int mm_token, .int mm_value, .ref mm_next, .int (nI tk)])), (mm_refused, .inl (cy 1, 3, .inl mm_refused_f)), (mm_now, .inl (cy 1, 122, .inl mm_now_f))] H → va_D A [(mm, .inr (11, [.ref mm_now, .ref mm_kept, .ref mm_isKept, .ref mm_refused, .int mm_lineFrom, .int mm_lineTo, .ref mm_stands, .ref mm_far, .ref mm_queue, .int mm_queued, .ref mm_meets, .ref mm_bytes, .int (nI bl), .int (nI ta), .int (nI tl), .int mm_token, .int mm_value, .ref mm_next, .int (nI tk)])), (mm_refused, .inl (cy 1, 3, .inl mm_refused_f)), (mm_now, .inl (cy 1, 122, .inl mm_now_f))] → va_S A s.heap H locs → ∀ ls : Array Slot, lv_has ls 6 [(4, .int (nI (56 + j12))), (0, .ref mm), (1, .int px), (2, .int py), (3, .int pz)] → W p l e (headSpec wsX11_set ({ frames := 2, cells := 0, slots := 0, locals := 46 })).room s m [.ref mm, .int px, .int py, .int pz].toArray below meth c H locs 0 0 QF (F0 m 49 ls [.int s1_49]) := by
          intro s1_49 bs1_49 H locs hP hD hS ls hl
          refine lv_istore (lv' := [(5, .int s1_49), (4, .int (nI (56 + j12))), (0, .ref mm), (1, .int px), (2, .int py), (3, .int pz)]) hx hb dX11_set_49 hl (by decide) rfl (fun ls hl => ?_)
          refine lv_aload_n hx hb dX11_set_51 rfl (lv_at hl 2 rfl) ?_
          refine va_get (D := D) (ci := 11) (v := .ref mm_now) (C := RX11) (T := TX11) (N := 19) hx hb hts zi11_ hown hK hP 0 rfl rfl 0 (by decide) z0_ (fun _ h9 => h9) rfl dX11_set_52 ?_
          refine lv_iload hx hb dX11_set_55 (lv_at hl 1 rfl) ?_
          refine my_iald hx hb hK hP 2 1 rfl rfl (by first | exact in_ge (N := 122) (by decide) (by omega) (by assumption) | exact vp_in_nI (by omega) (by omega)) (nI_clamp (by omega)) dX11_set_57 ?_
          refine lv_iload hx hb dX11_set_58 (lv_at hl 0 rfl) ?_
          refine lv_icmp_eq (tgt := 79) hx hb dX11_set_60 (by decide) (fun c15 => ?_) (fun c15 => ?_)
          · skip
            refine lv_aload_n hx hb dX11_set_79 rfl (lv_at hl 2 rfl) ?_
            refine lv_bipush (v := (-3)) hx hb dX11_set_80 (by decide) ?_
            refine wr_i (wr := [(mm_now, .inl (cy 1, 122, .inl mm_now_f))]) (va_runV (As := [.int (-3)]) (rest := []) ⟨hx, hb, hml, hown, hts⟩ (n_X11_no l D cy mm mm_now mm_kept mm_isKept mm_refused mm_lineFrom mm_lineTo mm_stands mm_far mm_queue mm_queued mm_meets mm_bytes bl ta tl mm_token mm_value mm_next tk mm_refused_f (-3) _ ) (cwV 1 hts gX11_set_X11_no rfl rfl rfl (by decide +kernel) ⟨Nat.le_of_ble_eq_true rfl, Nat.le_of_ble_eq_true rfl⟩) (pV (ci := 11) (k := 0) hKA (hP.sub (ws' := [(mm, .inr (11, [.ref mm_now, .ref mm_kept, .ref mm_isKept, .ref mm_refused, .int mm_lineFrom, .int mm_lineTo, .ref mm_stands, .ref mm_far, .ref mm_queue, .int mm_queued, .ref mm_meets, .ref mm_bytes, .int (nI bl), .int (nI ta), .int (nI tl), .int mm_token, .int mm_value, .ref mm_next, .int (nI tk)])), (mm_refused, .inl (cy 1, 3, .inl mm_refused_f))]) [0, 1] rfl) (hD.sub (ws' := [(mm, .inr (11, [.ref mm_now, .ref mm_kept, .ref mm_isKept, .ref mm_refused, .int mm_lineFrom, .int mm_lineTo, .ref mm_stands, .ref mm_far, .ref mm_queue, .int mm_queued, .ref mm_meets, .ref mm_bytes, .int (nI bl), .int (nI ta), .int (nI tl), .int mm_token, .int mm_value, .ref mm_next, .int (nI tk)])), (mm_refused, .inl (cy 1, 3, .inl mm_refused_f))]) [0, 1] (by decide) rfl) rfl rfl) rfl rfl hl.1 rfl (lv_room (Nat.le_of_ble_eq_true rfl)) dX11_set_82 ⟨Nat.le_of_ble_eq_true rfl, Nat.le_of_ble_eq_true rfl⟩) hP hD hS hA [0, 1] [2] rfl rfl (by decide +kernel) (by decide +kernel) (fun r16 ur16 H locs hwr16 hP hD hS => ?_)
            obtain ⟨z17, rfl⟩ : ∃ z, z = ur16 := ⟨_, rfl⟩
            have hP : va_P D vwCl [(mm_now, .inl (cy 1, 122, .inl mm_now_f)), (mm, .inr (11, [.ref mm_now, .ref mm_kept, .ref mm_isKept, .ref mm_refused, .int mm_lineFrom, .int mm_lineTo, .ref mm_stands, .ref mm_far, .ref mm_queue, .int mm_queued, .ref mm_meets, .ref mm_bytes, .int (nI bl), .int (nI ta), .int (nI tl), .int mm_token, .int mm_value, .ref mm_next, .int (nI tk)])), (mm_refused, .inl (cy 1, 3, .inl z17))] H := hP
            have hD : va_D A [(mm_now, .inl (cy 1, 122, .inl mm_now_f)), (mm, .inr (11, [.ref mm_now, .ref mm_kept, .ref mm_isKept, .ref mm_refused, .int mm_lineFrom, .int mm_lineTo, .ref mm_stands, .ref mm_far, .ref mm_queue, .int mm_queued, .ref mm_meets, .ref mm_bytes, .int (nI bl), .int (nI ta), .int (nI tl), .int mm_token, .int mm_value, .ref mm_next, .int (nI tk)])), (mm_refused, .inl (cy 1, 3, .inl z17))] := hD
            have hwr16 : r16 = (-3) := hwr16
            subst hwr16
            subst hQF
            have hP9 := hP.sub (ws' := [(mm, .inr (11, [.ref mm_now, .ref mm_kept, .ref mm_isKept, .ref mm_refused, .int mm_lineFrom, .int mm_lineTo, .ref mm_stands, .ref mm_far, .ref mm_queue, .int mm_queued, .ref mm_meets, .ref mm_bytes, .int (nI bl), .int (nI ta), .int (nI tl), .int mm_token, .int mm_value, .ref mm_next, .int (nI tk)])), (mm_refused, .inl (cy 1, 3, .inl z17)), (mm_now, .inl (cy 1, 122, .inl mm_now_f))]) [1, 2, 0] rfl
            have hD9 := hD.sub (ws' := [(mm, .inr (11, [.ref mm_now, .ref mm_kept, .ref mm_isKept, .ref mm_refused, .int mm_lineFrom, .int mm_lineTo, .ref mm_stands, .ref mm_far, .ref mm_queue, .int mm_queued, .ref mm_meets, .ref mm_bytes, .int (nI bl), .int (nI ta), .int (nI tl), .int mm_token, .int mm_value, .ref mm_next, .int (nI tk)])), (mm_refused, .inl (cy 1, 3, .inl z17)), (mm_now, .inl (cy 1, 122, .inl mm_now_f))]) [1, 2, 0] (by decide) rfl
            exact W.iret (v := (-3)) hx hb hr (fun t ht hW => ⟨⟨(-3), (z17, mm_now_f), rfl, ⟨_, _, _, _, hF⟩, by rw [ht]; exact hP9, hD9⟩, hS.F ht⟩) hS.2.2 dX11_set_85
          · skip
            refine lv_iload_n hx hb dX11_set_63 rfl (lv_at hl 3 rfl) ?_
            refine W.eq (g2 := F0 m 64 ls [.int (nI j8)]) (congrArg (fun v9 : Int32 => F0 m 64 ls [.int v9]) ej8) ?_
            refine lv_if_ne (tgt := 86) hx hb dX11_set_64 (by decide) (fun c18 => ?_) (fun c18 => ?_)
            · skip
              refine lv_aload_n hx hb dX11_set_86 rfl (lv_at hl 2 rfl) ?_
              refine va_get (D := D) (ci := 11) (v := .ref mm_now) (C := RX11) (T := TX11) (N := 19) hx hb hts zi11_ hown hK hP 0 rfl rfl 0 (by decide) z0_ (fun _ h9 => h9) rfl dX11_set_87 ?_
              refine lv_iload hx hb dX11_set_90 (lv_at hl 1 rfl) ?_
              refine lv_iload hx hb dX11_set_92 (lv_at hl 0 rfl) ?_
              refine my_iast hx hb hK hP hD hS 2 1 rfl rfl (by first | exact in_ge (N := 122) (by decide) (by omega) (by assumption) | exact vp_in_nI (by omega) (by omega)) (nI_clamp (by omega)) dX11_set_94 (fun H locs hP hD hS => ?_)
              have hP : va_P D vwCl [(mm, .inr (11, [.ref mm_now, .ref mm_kept, .ref mm_isKept, .ref mm_refused, .int mm_lineFrom, .int mm_lineTo, .ref mm_stands, .ref mm_far, .ref mm_queue, .int mm_queued, .ref mm_meets, .ref mm_bytes, .int (nI bl), .int (nI ta), .int (nI tl), .int mm_token, .int mm_value, .ref mm_next, .int (nI tk)])), (mm_refused, .inl (cy 1, 3, .inl mm_refused_f)), (mm_now, .inl (cy 1, 122, .inl (upd mm_now_f (56 + j12) s1_49)))] H := hP
              have hD : va_D A [(mm, .inr (11, [.ref mm_now, .ref mm_kept, .ref mm_isKept, .ref mm_refused, .int mm_lineFrom, .int mm_lineTo, .ref mm_stands, .ref mm_far, .ref mm_queue, .int mm_queued, .ref mm_meets, .ref mm_bytes, .int (nI bl), .int (nI ta), .int (nI tl), .int mm_token, .int mm_value, .ref mm_next, .int (nI tk)])), (mm_refused, .inl (cy 1, 3, .inl mm_refused_f)), (mm_now, .inl (cy 1, 122, .inl (upd mm_now_f (56 + j12) s1_49)))] := hD
              obtain ⟨f19, ef19⟩ : ∃ y : Nat → Int32, y = upd mm_now_f (56 + j12) s1_49 := ⟨_, rfl⟩
              rw [← ef19] at hP hD
              have hf19 : mV f19 mW mH mS mP := by rw [ef19]; exact mV.putB hF (56 + j12) bs1_49 (by omega) (by unfold mHi; (repeat' split) <;> omega)
              have hP : va_P D vwCl [(mm, .inr (11, [.ref mm_now, .ref mm_kept, .ref mm_isKept, .ref mm_refused, .int mm_lineFrom, .int mm_lineTo, .ref mm_stands, .ref mm_far, .ref mm_queue, .int mm_queued, .ref mm_meets, .ref mm_bytes, .int (nI bl), .int (nI ta), .int (nI tl), .int mm_token, .int mm_value, .ref mm_next, .int (nI tk)])), (mm_refused, .inl (cy 1, 3, .inl mm_refused_f)), (mm_now, .inl (cy 1, 122, .inl f19))] H := hP
              have hD : va_D A [(mm, .inr (11, [.ref mm_now, .ref mm_kept, .ref mm_isKept, .ref mm_refused, .int mm_lineFrom, .int mm_lineTo, .ref mm_stands, .ref mm_far, .ref mm_queue, .int mm_queued, .ref mm_meets, .ref mm_bytes, .int (nI bl), .int (nI ta), .int (nI tl), .int mm_token, .int mm_value, .ref mm_next, .int (nI tk)])), (mm_refused, .inl (cy 1, 3, .inl mm_refused_f)), (mm_now, .inl (cy 1, 122, .inl f19))] := hD
              refine lv_iconst (v := 1) hx hb dX11_set_95 (by decide) ?_
              subst hQF
              have hP9 := hP
              have hD9 := hD
              exact W.iret (v := 1) hx hb hr (fun t ht hW => ⟨⟨1, (mm_refused_f, f19), rfl, ⟨_, _, _, _, hf19⟩, by rw [ht]; exact hP9, hD9⟩, hS.F ht⟩) hS.2.2 dX11_set_96
            · skip
              refine lv_aload_n hx hb dX11_set_67 rfl (lv_at hl 2 rfl) ?_
              refine va_get (D := D) (ci := 11) (v := .ref mm_now) (C := RX11) (T := TX11) (N := 19) hx hb hts zi11_ hown hK hP 0 rfl rfl 0 (by decide) z0_ (fun _ h9 => h9) rfl dX11_set_68 ?_
              refine lv_iload_n hx hb dX11_set_71 rfl (lv_at hl 4 rfl) ?_
              refine W.eq (g2 := F0 m 72 ls [.int (nI j12), .ref mm_now]) (congrArg (fun v9 : Int32 => F0 m 72 ls [.int v9, .ref mm_now]) ej12) ?_
              refine lv_iconst (v := (-1)) hx hb dX11_set_72 (by decide) ?_
              refine rd_i (va_runS (As := [.ref mm_now, .int (nI j12), .int (-1)]) (rest := []) ⟨hx, hb, hml, hown, hts⟩ (n_X11_isStood l D cy mm_now mm_now_f (nI j12) (-1) _ (mV.p5 (by assumption))) (va_cwS 3 hts gX11_set_X11_isStood rfl rfl rfl (by decide +kernel) ⟨Nat.le_of_ble_eq_true rfl, Nat.le_of_ble_eq_true rfl⟩) (pS hKA (hP.sub (ws' := [(mm_now, .inl (cy 1, 122, .inl mm_now_f))]) [2] rfl) (hD.sub (ws' := [(mm_now, .inl (cy 1, 122, .inl mm_now_f))]) [2] (by decide) rfl)) rfl rfl hl.1 rfl (lv_room (Nat.le_of_ble_eq_true rfl)) dX11_set_73 ⟨Nat.le_of_ble_eq_true rfl, Nat.le_of_ble_eq_true rfl⟩) hP hS hA (fun r20 H locs hwr20 hP hS => ?_)
              have hwr20 : (r20 = 1 ∧ True) ∨ (r20 = 0 ∧ True) := hwr20
              refine lv_if_eq (tgt := 86) hx hb dX11_set_76 (by decide) (fun c21 => ?_) (fun c21 => ?_)
              · skip
                refine lv_aload_n hx hb dX11_set_86 rfl (lv_at hl 2 rfl) ?_
                refine va_get (D := D) (ci := 11) (v := .ref mm_now) (C := RX11) (T := TX11) (N := 19) hx hb hts zi11_ hown hK hP 0 rfl rfl 0 (by decide) z0_ (fun _ h9 => h9) rfl dX11_set_87 ?_
                refine lv_iload hx hb dX11_set_90 (lv_at hl 1 rfl) ?_
                refine lv_iload hx hb dX11_set_92 (lv_at hl 0 rfl) ?_
                refine my_iast hx hb hK hP hD hS 2 1 rfl rfl (by first | exact in_ge (N := 122) (by decide) (by omega) (by assumption) | exact vp_in_nI (by omega) (by omega)) (nI_clamp (by omega)) dX11_set_94 (fun H locs hP hD hS => ?_)
                have hP : va_P D vwCl [(mm, .inr (11, [.ref mm_now, .ref mm_kept, .ref mm_isKept, .ref mm_refused, .int mm_lineFrom, .int mm_lineTo, .ref mm_stands, .ref mm_far, .ref mm_queue, .int mm_queued, .ref mm_meets, .ref mm_bytes, .int (nI bl), .int (nI ta), .int (nI tl), .int mm_token, .int mm_value, .ref mm_next, .int (nI tk)])), (mm_refused, .inl (cy 1, 3, .inl mm_refused_f)), (mm_now, .inl (cy 1, 122, .inl (upd mm_now_f (56 + j12) s1_49)))] H := hP
                have hD : va_D A [(mm, .inr (11, [.ref mm_now, .ref mm_kept, .ref mm_isKept, .ref mm_refused, .int mm_lineFrom, .int mm_lineTo, .ref mm_stands, .ref mm_far, .ref mm_queue, .int mm_queued, .ref mm_meets, .ref mm_bytes, .int (nI bl), .int (nI ta), .int (nI tl), .int mm_token, .int mm_value, .ref mm_next, .int (nI tk)])), (mm_refused, .inl (cy 1, 3, .inl mm_refused_f)), (mm_now, .inl (cy 1, 122, .inl (upd mm_now_f (56 + j12) s1_49)))] := hD
                obtain ⟨f22, ef22⟩ : ∃ y : Nat → Int32, y = upd mm_now_f (56 + j12) s1_49 := ⟨_, rfl⟩
                rw [← ef22] at hP hD
                have hf22 : mV f22 mW mH mS mP := by rw [ef22]; exact mV.putB hF (56 + j12) bs1_49 (by omega) (by unfold mHi; (repeat' split) <;> omega)
                have hP : va_P D vwCl [(mm, .inr (11, [.ref mm_now, .ref mm_kept, .ref mm_isKept, .ref mm_refused, .int mm_lineFrom, .int mm_lineTo, .ref mm_stands, .ref mm_far, .ref mm_queue, .int mm_queued, .ref mm_meets, .ref mm_bytes, .int (nI bl), .int (nI ta), .int (nI tl), .int mm_token, .int mm_value, .ref mm_next, .int (nI tk)])), (mm_refused, .inl (cy 1, 3, .inl mm_refused_f)), (mm_now, .inl (cy 1, 122, .inl f22))] H := hP
                have hD : va_D A [(mm, .inr (11, [.ref mm_now, .ref mm_kept, .ref mm_isKept, .ref mm_refused, .int mm_lineFrom, .int mm_lineTo, .ref mm_stands, .ref mm_far, .ref mm_queue, .int mm_queued, .ref mm_meets, .ref mm_bytes, .int (nI bl), .int (nI ta), .int (nI tl), .int mm_token, .int mm_value, .ref mm_next, .int (nI tk)])), (mm_refused, .inl (cy 1, 3, .inl mm_refused_f)), (mm_now, .inl (cy 1, 122, .inl f22))] := hD
                refine lv_iconst (v := 1) hx hb dX11_set_95 (by decide) ?_
                subst hQF
                have hP9 := hP
                have hD9 := hD
                exact W.iret (v := 1) hx hb hr (fun t ht hW => ⟨⟨1, (mm_refused_f, f22), rfl, ⟨_, _, _, _, hf22⟩, by rw [ht]; exact hP9, hD9⟩, hS.F ht⟩) hS.2.2 dX11_set_96
              · skip
                refine lv_aload_n hx hb dX11_set_79 rfl (lv_at hl 2 rfl) ?_
                refine lv_bipush (v := (-3)) hx hb dX11_set_80 (by decide) ?_
                refine wr_i (wr := [(mm_now, .inl (cy 1, 122, .inl mm_now_f))]) (va_runV (As := [.int (-3)]) (rest := []) ⟨hx, hb, hml, hown, hts⟩ (n_X11_no l D cy mm mm_now mm_kept mm_isKept mm_refused mm_lineFrom mm_lineTo mm_stands mm_far mm_queue mm_queued mm_meets mm_bytes bl ta tl mm_token mm_value mm_next tk mm_refused_f (-3) _ ) (cwV 1 hts gX11_set_X11_no rfl rfl rfl (by decide +kernel) ⟨Nat.le_of_ble_eq_true rfl, Nat.le_of_ble_eq_true rfl⟩) (pV (ci := 11) (k := 0) hKA (hP.sub (ws' := [(mm, .inr (11, [.ref mm_now, .ref mm_kept, .ref mm_isKept, .ref mm_refused, .int mm_lineFrom, .int mm_lineTo, .ref mm_stands, .ref mm_far, .ref mm_queue, .int mm_queued, .ref mm_meets, .ref mm_bytes, .int (nI bl), .int (nI ta), .int (nI tl), .int mm_token, .int mm_value, .ref mm_next, .int (nI tk)])), (mm_refused, .inl (cy 1, 3, .inl mm_refused_f))]) [0, 1] rfl) (hD.sub (ws' := [(mm, .inr (11, [.ref mm_now, .ref mm_kept, .ref mm_isKept, .ref mm_refused, .int mm_lineFrom, .int mm_lineTo, .ref mm_stands, .ref mm_far, .ref mm_queue, .int mm_queued, .ref mm_meets, .ref mm_bytes, .int (nI bl), .int (nI ta), .int (nI tl), .int mm_token, .int mm_value, .ref mm_next, .int (nI tk)])), (mm_refused, .inl (cy 1, 3, .inl mm_refused_f))]) [0, 1] (by decide) rfl) rfl rfl) rfl rfl hl.1 rfl (lv_room (Nat.le_of_ble_eq_true rfl)) dX11_set_82 ⟨Nat.le_of_ble_eq_true rfl, Nat.le_of_ble_eq_true rfl⟩) hP hD hS hA [0, 1] [2] rfl rfl (by decide +kernel) (by decide +kernel) (fun r23 ur23 H locs hwr23 hP hD hS => ?_)
                obtain ⟨z24, rfl⟩ : ∃ z, z = ur23 := ⟨_, rfl⟩
                have hP : va_P D vwCl [(mm_now, .inl (cy 1, 122, .inl mm_now_f)), (mm, .inr (11, [.ref mm_now, .ref mm_kept, .ref mm_isKept, .ref mm_refused, .int mm_lineFrom, .int mm_lineTo, .ref mm_stands, .ref mm_far, .ref mm_queue, .int mm_queued, .ref mm_meets, .ref mm_bytes, .int (nI bl), .int (nI ta), .int (nI tl), .int mm_token, .int mm_value, .ref mm_next, .int (nI tk)])), (mm_refused, .inl (cy 1, 3, .inl z24))] H := hP
                have hD : va_D A [(mm_now, .inl (cy 1, 122, .inl mm_now_f)), (mm, .inr (11, [.ref mm_now, .ref mm_kept, .ref mm_isKept, .ref mm_refused, .int mm_lineFrom, .int mm_lineTo, .ref mm_stands, .ref mm_far, .ref mm_queue, .int mm_queued, .ref mm_meets, .ref mm_bytes, .int (nI bl), .int (nI ta), .int (nI tl), .int mm_token, .int mm_value, .ref mm_next, .int (nI tk)])), (mm_refused, .inl (cy 1, 3, .inl z24))] := hD
                have hwr23 : r23 = (-3) := hwr23
                subst hwr23
                subst hQF
                have hP9 := hP.sub (ws' := [(mm, .inr (11, [.ref mm_now, .ref mm_kept, .ref mm_isKept, .ref mm_refused, .int mm_lineFrom, .int mm_lineTo, .ref mm_stands, .ref mm_far, .ref mm_queue, .int mm_queued, .ref mm_meets, .ref mm_bytes, .int (nI bl), .int (nI ta), .int (nI tl), .int mm_token, .int mm_value, .ref mm_next, .int (nI tk)])), (mm_refused, .inl (cy 1, 3, .inl z24)), (mm_now, .inl (cy 1, 122, .inl mm_now_f))]) [1, 2, 0] rfl
                have hD9 := hD.sub (ws' := [(mm, .inr (11, [.ref mm_now, .ref mm_kept, .ref mm_isKept, .ref mm_refused, .int mm_lineFrom, .int mm_lineTo, .ref mm_stands, .ref mm_far, .ref mm_queue, .int mm_queued, .ref mm_meets, .ref mm_bytes, .int (nI bl), .int (nI ta), .int (nI tl), .int mm_token, .int mm_value, .ref mm_next, .int (nI tk)])), (mm_refused, .inl (cy 1, 3, .inl z24)), (mm_now, .inl (cy 1, 122, .inl mm_now_f))]) [1, 2, 0] (by decide) rfl
                exact W.iret (v := (-3)) hx hb hr (fun t ht hW => ⟨⟨(-3), (z24, mm_now_f), rfl, ⟨_, _, _, _, hF⟩, by rw [ht]; exact hP9, hD9⟩, hS.F ht⟩) hS.2.2 dX11_set_85
        refine lv_if_eq (tgt := 48) hx hb dX11_set_41 (by decide) (fun c25 => ?_) (fun c25 => ?_)
        · skip
          refine lv_iconst (v := 0) hx hb dX11_set_48 (by decide) ?_
          exact j49 0 (Or.inr rfl) _ _ hP hD hS ls hl
        · skip
          refine lv_iconst (v := 1) hx hb dX11_set_44 (by decide) ?_
          refine lv_goto (tgt := 49) hx hb dX11_set_45 (by decide) ?_
          exact j49 1 (Or.inl rfl) _ _ hP hD hS ls hl
      · skip
        refine lv_bipush (v := 20) hx hb dX11_set_29 (by decide) ?_
        refine lv_goto (tgt := 36) hx hb dX11_set_31 (by decide) ?_
        refine lv_iload_n hx hb dX11_set_36 rfl (lv_at hl 2 rfl) ?_
        refine W.eq (g2 := F0 m 37 ls [.int (nI j12), .int 20]) (congrArg (fun v9 : Int32 => F0 m 37 ls [.int v9, .int 20]) ej12) ?_
        refine lv_iadd hx hb dX11_set_37 ?_
        refine lv_topi (fun x26 ex26 => ?_)
        obtain rfl : x26 = nI (20 + j12) := by rw [ex26]; exact nI_add _ _
        refine lv_istore (lv' := [(4, .int (nI (20 + j12))), (0, .ref mm), (1, .int px), (2, .int py), (3, .int pz)]) hx hb dX11_set_38 hl (by decide) rfl (fun ls hl => ?_)
        refine lv_iload_n hx hb dX11_set_40 rfl (lv_at hl 4 rfl) ?_
        have j49 : ∀ (s1_49 : Int32) (bs1_49 : s1_49 = 1 ∨ s1_49 = 0) (H : Heap) (locs : List Loc), va_P D vwCl [(mm, .inr (11, [.ref mm_now, .ref mm_kept, .ref mm_isKept, .ref mm_refused, .int mm_lineFrom, .int mm_lineTo, .ref mm_stands, .ref mm_far, .ref mm_queue, .int mm_queued, .ref mm_meets, .ref mm_bytes, .int (nI bl), .int (nI ta), .int (nI tl), .int mm_token, .int mm_value, .ref mm_next, .int (nI tk)])), (mm_refused, .inl (cy 1, 3, .inl mm_refused_f)), (mm_now, .inl (cy 1, 122, .inl mm_now_f))] H → va_D A [(mm, .inr (11, [.ref mm_now, .ref mm_kept, .ref mm_isKept, .ref mm_refused, .int mm_lineFrom, .int mm_lineTo, .ref mm_stands, .ref mm_far, .ref mm_queue, .int mm_queued, .ref mm_meets, .ref mm_bytes, .int (nI bl), .int (nI ta), .int (nI tl), .int mm_token, .int mm_value, .ref mm_next, .int (nI tk)])), (mm_refused, .inl (cy 1, 3, .inl mm_refused_f)), (mm_now, .inl (cy 1, 122, .inl mm_now_f))] → va_S A s.heap H locs → ∀ ls : Array Slot, lv_has ls 6 [(4, .int (nI (20 + j12))), (0, .ref mm), (1, .int px), (2, .int py), (3, .int pz)] → W p l e (headSpec wsX11_set ({ frames := 2, cells := 0, slots := 0, locals := 46 })).room s m [.ref mm, .int px, .int py, .int pz].toArray below meth c H locs 0 0 QF (F0 m 49 ls [.int s1_49]) := by
          intro s1_49 bs1_49 H locs hP hD hS ls hl
          refine lv_istore (lv' := [(5, .int s1_49), (4, .int (nI (20 + j12))), (0, .ref mm), (1, .int px), (2, .int py), (3, .int pz)]) hx hb dX11_set_49 hl (by decide) rfl (fun ls hl => ?_)
          refine lv_aload_n hx hb dX11_set_51 rfl (lv_at hl 2 rfl) ?_
          refine va_get (D := D) (ci := 11) (v := .ref mm_now) (C := RX11) (T := TX11) (N := 19) hx hb hts zi11_ hown hK hP 0 rfl rfl 0 (by decide) z0_ (fun _ h9 => h9) rfl dX11_set_52 ?_
          refine lv_iload hx hb dX11_set_55 (lv_at hl 1 rfl) ?_
          refine my_iald hx hb hK hP 2 1 rfl rfl (by first | exact in_ge (N := 122) (by decide) (by omega) (by assumption) | exact vp_in_nI (by omega) (by omega)) (nI_clamp (by omega)) dX11_set_57 ?_
          refine lv_iload hx hb dX11_set_58 (lv_at hl 0 rfl) ?_
          refine lv_icmp_eq (tgt := 79) hx hb dX11_set_60 (by decide) (fun c27 => ?_) (fun c27 => ?_)
          · skip
            refine lv_aload_n hx hb dX11_set_79 rfl (lv_at hl 2 rfl) ?_
            refine lv_bipush (v := (-3)) hx hb dX11_set_80 (by decide) ?_
            refine wr_i (wr := [(mm_now, .inl (cy 1, 122, .inl mm_now_f))]) (va_runV (As := [.int (-3)]) (rest := []) ⟨hx, hb, hml, hown, hts⟩ (n_X11_no l D cy mm mm_now mm_kept mm_isKept mm_refused mm_lineFrom mm_lineTo mm_stands mm_far mm_queue mm_queued mm_meets mm_bytes bl ta tl mm_token mm_value mm_next tk mm_refused_f (-3) _ ) (cwV 1 hts gX11_set_X11_no rfl rfl rfl (by decide +kernel) ⟨Nat.le_of_ble_eq_true rfl, Nat.le_of_ble_eq_true rfl⟩) (pV (ci := 11) (k := 0) hKA (hP.sub (ws' := [(mm, .inr (11, [.ref mm_now, .ref mm_kept, .ref mm_isKept, .ref mm_refused, .int mm_lineFrom, .int mm_lineTo, .ref mm_stands, .ref mm_far, .ref mm_queue, .int mm_queued, .ref mm_meets, .ref mm_bytes, .int (nI bl), .int (nI ta), .int (nI tl), .int mm_token, .int mm_value, .ref mm_next, .int (nI tk)])), (mm_refused, .inl (cy 1, 3, .inl mm_refused_f))]) [0, 1] rfl) (hD.sub (ws' := [(mm, .inr (11, [.ref mm_now, .ref mm_kept, .ref mm_isKept, .ref mm_refused, .int mm_lineFrom, .int mm_lineTo, .ref mm_stands, .ref mm_far, .ref mm_queue, .int mm_queued, .ref mm_meets, .ref mm_bytes, .int (nI bl), .int (nI ta), .int (nI tl), .int mm_token, .int mm_value, .ref mm_next, .int (nI tk)])), (mm_refused, .inl (cy 1, 3, .inl mm_refused_f))]) [0, 1] (by decide) rfl) rfl rfl) rfl rfl hl.1 rfl (lv_room (Nat.le_of_ble_eq_true rfl)) dX11_set_82 ⟨Nat.le_of_ble_eq_true rfl, Nat.le_of_ble_eq_true rfl⟩) hP hD hS hA [0, 1] [2] rfl rfl (by decide +kernel) (by decide +kernel) (fun r28 ur28 H locs hwr28 hP hD hS => ?_)
            obtain ⟨z29, rfl⟩ : ∃ z, z = ur28 := ⟨_, rfl⟩
            have hP : va_P D vwCl [(mm_now, .inl (cy 1, 122, .inl mm_now_f)), (mm, .inr (11, [.ref mm_now, .ref mm_kept, .ref mm_isKept, .ref mm_refused, .int mm_lineFrom, .int mm_lineTo, .ref mm_stands, .ref mm_far, .ref mm_queue, .int mm_queued, .ref mm_meets, .ref mm_bytes, .int (nI bl), .int (nI ta), .int (nI tl), .int mm_token, .int mm_value, .ref mm_next, .int (nI tk)])), (mm_refused, .inl (cy 1, 3, .inl z29))] H := hP
            have hD : va_D A [(mm_now, .inl (cy 1, 122, .inl mm_now_f)), (mm, .inr (11, [.ref mm_now, .ref mm_kept, .ref mm_isKept, .ref mm_refused, .int mm_lineFrom, .int mm_lineTo, .ref mm_stands, .ref mm_far, .ref mm_queue, .int mm_queued, .ref mm_meets, .ref mm_bytes, .int (nI bl), .int (nI ta), .int (nI tl), .int mm_token, .int mm_value, .ref mm_next, .int (nI tk)])), (mm_refused, .inl (cy 1, 3, .inl z29))] := hD
            have hwr28 : r28 = (-3) := hwr28
            subst hwr28
            subst hQF
            have hP9 := hP.sub (ws' := [(mm, .inr (11, [.ref mm_now, .ref mm_kept, .ref mm_isKept, .ref mm_refused, .int mm_lineFrom, .int mm_lineTo, .ref mm_stands, .ref mm_far, .ref mm_queue, .int mm_queued, .ref mm_meets, .ref mm_bytes, .int (nI bl), .int (nI ta), .int (nI tl), .int mm_token, .int mm_value, .ref mm_next, .int (nI tk)])), (mm_refused, .inl (cy 1, 3, .inl z29)), (mm_now, .inl (cy 1, 122, .inl mm_now_f))]) [1, 2, 0] rfl
            have hD9 := hD.sub (ws' := [(mm, .inr (11, [.ref mm_now, .ref mm_kept, .ref mm_isKept, .ref mm_refused, .int mm_lineFrom, .int mm_lineTo, .ref mm_stands, .ref mm_far, .ref mm_queue, .int mm_queued, .ref mm_meets, .ref mm_bytes, .int (nI bl), .int (nI ta), .int (nI tl), .int mm_token, .int mm_value, .ref mm_next, .int (nI tk)])), (mm_refused, .inl (cy 1, 3, .inl z29)), (mm_now, .inl (cy 1, 122, .inl mm_now_f))]) [1, 2, 0] (by decide) rfl
            exact W.iret (v := (-3)) hx hb hr (fun t ht hW => ⟨⟨(-3), (z29, mm_now_f), rfl, ⟨_, _, _, _, hF⟩, by rw [ht]; exact hP9, hD9⟩, hS.F ht⟩) hS.2.2 dX11_set_85
          · skip
            refine lv_iload_n hx hb dX11_set_63 rfl (lv_at hl 3 rfl) ?_
            refine W.eq (g2 := F0 m 64 ls [.int (nI j8)]) (congrArg (fun v9 : Int32 => F0 m 64 ls [.int v9]) ej8) ?_
            refine lv_if_ne (tgt := 86) hx hb dX11_set_64 (by decide) (fun c30 => ?_) (fun c30 => ?_)
            · skip
              refine lv_aload_n hx hb dX11_set_86 rfl (lv_at hl 2 rfl) ?_
              refine va_get (D := D) (ci := 11) (v := .ref mm_now) (C := RX11) (T := TX11) (N := 19) hx hb hts zi11_ hown hK hP 0 rfl rfl 0 (by decide) z0_ (fun _ h9 => h9) rfl dX11_set_87 ?_
              refine lv_iload hx hb dX11_set_90 (lv_at hl 1 rfl) ?_
              refine lv_iload hx hb dX11_set_92 (lv_at hl 0 rfl) ?_
              refine my_iast hx hb hK hP hD hS 2 1 rfl rfl (by first | exact in_ge (N := 122) (by decide) (by omega) (by assumption) | exact vp_in_nI (by omega) (by omega)) (nI_clamp (by omega)) dX11_set_94 (fun H locs hP hD hS => ?_)
              have hP : va_P D vwCl [(mm, .inr (11, [.ref mm_now, .ref mm_kept, .ref mm_isKept, .ref mm_refused, .int mm_lineFrom, .int mm_lineTo, .ref mm_stands, .ref mm_far, .ref mm_queue, .int mm_queued, .ref mm_meets, .ref mm_bytes, .int (nI bl), .int (nI ta), .int (nI tl), .int mm_token, .int mm_value, .ref mm_next, .int (nI tk)])), (mm_refused, .inl (cy 1, 3, .inl mm_refused_f)), (mm_now, .inl (cy 1, 122, .inl (upd mm_now_f (20 + j12) s1_49)))] H := hP
              have hD : va_D A [(mm, .inr (11, [.ref mm_now, .ref mm_kept, .ref mm_isKept, .ref mm_refused, .int mm_lineFrom, .int mm_lineTo, .ref mm_stands, .ref mm_far, .ref mm_queue, .int mm_queued, .ref mm_meets, .ref mm_bytes, .int (nI bl), .int (nI ta), .int (nI tl), .int mm_token, .int mm_value, .ref mm_next, .int (nI tk)])), (mm_refused, .inl (cy 1, 3, .inl mm_refused_f)), (mm_now, .inl (cy 1, 122, .inl (upd mm_now_f (20 + j12) s1_49)))] := hD
              obtain ⟨f31, ef31⟩ : ∃ y : Nat → Int32, y = upd mm_now_f (20 + j12) s1_49 := ⟨_, rfl⟩
              rw [← ef31] at hP hD
              have hf31 : mV f31 mW mH mS mP := by rw [ef31]; exact mV.putB hF (20 + j12) bs1_49 (by omega) (by unfold mHi; (repeat' split) <;> omega)
              have hP : va_P D vwCl [(mm, .inr (11, [.ref mm_now, .ref mm_kept, .ref mm_isKept, .ref mm_refused, .int mm_lineFrom, .int mm_lineTo, .ref mm_stands, .ref mm_far, .ref mm_queue, .int mm_queued, .ref mm_meets, .ref mm_bytes, .int (nI bl), .int (nI ta), .int (nI tl), .int mm_token, .int mm_value, .ref mm_next, .int (nI tk)])), (mm_refused, .inl (cy 1, 3, .inl mm_refused_f)), (mm_now, .inl (cy 1, 122, .inl f31))] H := hP
              have hD : va_D A [(mm, .inr (11, [.ref mm_now, .ref mm_kept, .ref mm_isKept, .ref mm_refused, .int mm_lineFrom, .int mm_lineTo, .ref mm_stands, .ref mm_far, .ref mm_queue, .int mm_queued, .ref mm_meets, .ref mm_bytes, .int (nI bl), .int (nI ta), .int (nI tl), .int mm_token, .int mm_value, .ref mm_next, .int (nI tk)])), (mm_refused, .inl (cy 1, 3, .inl mm_refused_f)), (mm_now, .inl (cy 1, 122, .inl f31))] := hD
              refine lv_iconst (v := 1) hx hb dX11_set_95 (by decide) ?_
              subst hQF
              have hP9 := hP
              have hD9 := hD
              exact W.iret (v := 1) hx hb hr (fun t ht hW => ⟨⟨1, (mm_refused_f, f31), rfl, ⟨_, _, _, _, hf31⟩, by rw [ht]; exact hP9, hD9⟩, hS.F ht⟩) hS.2.2 dX11_set_96
            · skip
              refine lv_aload_n hx hb dX11_set_67 rfl (lv_at hl 2 rfl) ?_
              refine va_get (D := D) (ci := 11) (v := .ref mm_now) (C := RX11) (T := TX11) (N := 19) hx hb hts zi11_ hown hK hP 0 rfl rfl 0 (by decide) z0_ (fun _ h9 => h9) rfl dX11_set_68 ?_
              refine lv_iload_n hx hb dX11_set_71 rfl (lv_at hl 4 rfl) ?_
              refine W.eq (g2 := F0 m 72 ls [.int (nI j12), .ref mm_now]) (congrArg (fun v9 : Int32 => F0 m 72 ls [.int v9, .ref mm_now]) ej12) ?_
              refine lv_iconst (v := (-1)) hx hb dX11_set_72 (by decide) ?_
              refine rd_i (va_runS (As := [.ref mm_now, .int (nI j12), .int (-1)]) (rest := []) ⟨hx, hb, hml, hown, hts⟩ (n_X11_isStood l D cy mm_now mm_now_f (nI j12) (-1) _ (mV.p5 (by assumption))) (va_cwS 3 hts gX11_set_X11_isStood rfl rfl rfl (by decide +kernel) ⟨Nat.le_of_ble_eq_true rfl, Nat.le_of_ble_eq_true rfl⟩) (pS hKA (hP.sub (ws' := [(mm_now, .inl (cy 1, 122, .inl mm_now_f))]) [2] rfl) (hD.sub (ws' := [(mm_now, .inl (cy 1, 122, .inl mm_now_f))]) [2] (by decide) rfl)) rfl rfl hl.1 rfl (lv_room (Nat.le_of_ble_eq_true rfl)) dX11_set_73 ⟨Nat.le_of_ble_eq_true rfl, Nat.le_of_ble_eq_true rfl⟩) hP hS hA (fun r32 H locs hwr32 hP hS => ?_)
              have hwr32 : (r32 = 1 ∧ True) ∨ (r32 = 0 ∧ True) := hwr32
              refine lv_if_eq (tgt := 86) hx hb dX11_set_76 (by decide) (fun c33 => ?_) (fun c33 => ?_)
              · skip
                refine lv_aload_n hx hb dX11_set_86 rfl (lv_at hl 2 rfl) ?_
                refine va_get (D := D) (ci := 11) (v := .ref mm_now) (C := RX11) (T := TX11) (N := 19) hx hb hts zi11_ hown hK hP 0 rfl rfl 0 (by decide) z0_ (fun _ h9 => h9) rfl dX11_set_87 ?_
                refine lv_iload hx hb dX11_set_90 (lv_at hl 1 rfl) ?_
                refine lv_iload hx hb dX11_set_92 (lv_at hl 0 rfl) ?_
                refine my_iast hx hb hK hP hD hS 2 1 rfl rfl (by first | exact in_ge (N := 122) (by decide) (by omega) (by assumption) | exact vp_in_nI (by omega) (by omega)) (nI_clamp (by omega)) dX11_set_94 (fun H locs hP hD hS => ?_)
                have hP : va_P D vwCl [(mm, .inr (11, [.ref mm_now, .ref mm_kept, .ref mm_isKept, .ref mm_refused, .int mm_lineFrom, .int mm_lineTo, .ref mm_stands, .ref mm_far, .ref mm_queue, .int mm_queued, .ref mm_meets, .ref mm_bytes, .int (nI bl), .int (nI ta), .int (nI tl), .int mm_token, .int mm_value, .ref mm_next, .int (nI tk)])), (mm_refused, .inl (cy 1, 3, .inl mm_refused_f)), (mm_now, .inl (cy 1, 122, .inl (upd mm_now_f (20 + j12) s1_49)))] H := hP
                have hD : va_D A [(mm, .inr (11, [.ref mm_now, .ref mm_kept, .ref mm_isKept, .ref mm_refused, .int mm_lineFrom, .int mm_lineTo, .ref mm_stands, .ref mm_far, .ref mm_queue, .int mm_queued, .ref mm_meets, .ref mm_bytes, .int (nI bl), .int (nI ta), .int (nI tl), .int mm_token, .int mm_value, .ref mm_next, .int (nI tk)])), (mm_refused, .inl (cy 1, 3, .inl mm_refused_f)), (mm_now, .inl (cy 1, 122, .inl (upd mm_now_f (20 + j12) s1_49)))] := hD
                obtain ⟨f34, ef34⟩ : ∃ y : Nat → Int32, y = upd mm_now_f (20 + j12) s1_49 := ⟨_, rfl⟩
                rw [← ef34] at hP hD
                have hf34 : mV f34 mW mH mS mP := by rw [ef34]; exact mV.putB hF (20 + j12) bs1_49 (by omega) (by unfold mHi; (repeat' split) <;> omega)
                have hP : va_P D vwCl [(mm, .inr (11, [.ref mm_now, .ref mm_kept, .ref mm_isKept, .ref mm_refused, .int mm_lineFrom, .int mm_lineTo, .ref mm_stands, .ref mm_far, .ref mm_queue, .int mm_queued, .ref mm_meets, .ref mm_bytes, .int (nI bl), .int (nI ta), .int (nI tl), .int mm_token, .int mm_value, .ref mm_next, .int (nI tk)])), (mm_refused, .inl (cy 1, 3, .inl mm_refused_f)), (mm_now, .inl (cy 1, 122, .inl f34))] H := hP
                have hD : va_D A [(mm, .inr (11, [.ref mm_now, .ref mm_kept, .ref mm_isKept, .ref mm_refused, .int mm_lineFrom, .int mm_lineTo, .ref mm_stands, .ref mm_far, .ref mm_queue, .int mm_queued, .ref mm_meets, .ref mm_bytes, .int (nI bl), .int (nI ta), .int (nI tl), .int mm_token, .int mm_value, .ref mm_next, .int (nI tk)])), (mm_refused, .inl (cy 1, 3, .inl mm_refused_f)), (mm_now, .inl (cy 1, 122, .inl f34))] := hD
                refine lv_iconst (v := 1) hx hb dX11_set_95 (by decide) ?_
                subst hQF
                have hP9 := hP
                have hD9 := hD
                exact W.iret (v := 1) hx hb hr (fun t ht hW => ⟨⟨1, (mm_refused_f, f34), rfl, ⟨_, _, _, _, hf34⟩, by rw [ht]; exact hP9, hD9⟩, hS.F ht⟩) hS.2.2 dX11_set_96
              · skip
                refine lv_aload_n hx hb dX11_set_79 rfl (lv_at hl 2 rfl) ?_
                refine lv_bipush (v := (-3)) hx hb dX11_set_80 (by decide) ?_
                refine wr_i (wr := [(mm_now, .inl (cy 1, 122, .inl mm_now_f))]) (va_runV (As := [.int (-3)]) (rest := []) ⟨hx, hb, hml, hown, hts⟩ (n_X11_no l D cy mm mm_now mm_kept mm_isKept mm_refused mm_lineFrom mm_lineTo mm_stands mm_far mm_queue mm_queued mm_meets mm_bytes bl ta tl mm_token mm_value mm_next tk mm_refused_f (-3) _ ) (cwV 1 hts gX11_set_X11_no rfl rfl rfl (by decide +kernel) ⟨Nat.le_of_ble_eq_true rfl, Nat.le_of_ble_eq_true rfl⟩) (pV (ci := 11) (k := 0) hKA (hP.sub (ws' := [(mm, .inr (11, [.ref mm_now, .ref mm_kept, .ref mm_isKept, .ref mm_refused, .int mm_lineFrom, .int mm_lineTo, .ref mm_stands, .ref mm_far, .ref mm_queue, .int mm_queued, .ref mm_meets, .ref mm_bytes, .int (nI bl), .int (nI ta), .int (nI tl), .int mm_token, .int mm_value, .ref mm_next, .int (nI tk)])), (mm_refused, .inl (cy 1, 3, .inl mm_refused_f))]) [0, 1] rfl) (hD.sub (ws' := [(mm, .inr (11, [.ref mm_now, .ref mm_kept, .ref mm_isKept, .ref mm_refused, .int mm_lineFrom, .int mm_lineTo, .ref mm_stands, .ref mm_far, .ref mm_queue, .int mm_queued, .ref mm_meets, .ref mm_bytes, .int (nI bl), .int (nI ta), .int (nI tl), .int mm_token, .int mm_value, .ref mm_next, .int (nI tk)])), (mm_refused, .inl (cy 1, 3, .inl mm_refused_f))]) [0, 1] (by decide) rfl) rfl rfl) rfl rfl hl.1 rfl (lv_room (Nat.le_of_ble_eq_true rfl)) dX11_set_82 ⟨Nat.le_of_ble_eq_true rfl, Nat.le_of_ble_eq_true rfl⟩) hP hD hS hA [0, 1] [2] rfl rfl (by decide +kernel) (by decide +kernel) (fun r35 ur35 H locs hwr35 hP hD hS => ?_)
                obtain ⟨z36, rfl⟩ : ∃ z, z = ur35 := ⟨_, rfl⟩
                have hP : va_P D vwCl [(mm_now, .inl (cy 1, 122, .inl mm_now_f)), (mm, .inr (11, [.ref mm_now, .ref mm_kept, .ref mm_isKept, .ref mm_refused, .int mm_lineFrom, .int mm_lineTo, .ref mm_stands, .ref mm_far, .ref mm_queue, .int mm_queued, .ref mm_meets, .ref mm_bytes, .int (nI bl), .int (nI ta), .int (nI tl), .int mm_token, .int mm_value, .ref mm_next, .int (nI tk)])), (mm_refused, .inl (cy 1, 3, .inl z36))] H := hP
                have hD : va_D A [(mm_now, .inl (cy 1, 122, .inl mm_now_f)), (mm, .inr (11, [.ref mm_now, .ref mm_kept, .ref mm_isKept, .ref mm_refused, .int mm_lineFrom, .int mm_lineTo, .ref mm_stands, .ref mm_far, .ref mm_queue, .int mm_queued, .ref mm_meets, .ref mm_bytes, .int (nI bl), .int (nI ta), .int (nI tl), .int mm_token, .int mm_value, .ref mm_next, .int (nI tk)])), (mm_refused, .inl (cy 1, 3, .inl z36))] := hD
                have hwr35 : r35 = (-3) := hwr35
                subst hwr35
                subst hQF
                have hP9 := hP.sub (ws' := [(mm, .inr (11, [.ref mm_now, .ref mm_kept, .ref mm_isKept, .ref mm_refused, .int mm_lineFrom, .int mm_lineTo, .ref mm_stands, .ref mm_far, .ref mm_queue, .int mm_queued, .ref mm_meets, .ref mm_bytes, .int (nI bl), .int (nI ta), .int (nI tl), .int mm_token, .int mm_value, .ref mm_next, .int (nI tk)])), (mm_refused, .inl (cy 1, 3, .inl z36)), (mm_now, .inl (cy 1, 122, .inl mm_now_f))]) [1, 2, 0] rfl
                have hD9 := hD.sub (ws' := [(mm, .inr (11, [.ref mm_now, .ref mm_kept, .ref mm_isKept, .ref mm_refused, .int mm_lineFrom, .int mm_lineTo, .ref mm_stands, .ref mm_far, .ref mm_queue, .int mm_queued, .ref mm_meets, .ref mm_bytes, .int (nI bl), .int (nI ta), .int (nI tl), .int mm_token, .int mm_value, .ref mm_next, .int (nI tk)])), (mm_refused, .inl (cy 1, 3, .inl z36)), (mm_now, .inl (cy 1, 122, .inl mm_now_f))]) [1, 2, 0] (by decide) rfl
                exact W.iret (v := (-3)) hx hb hr (fun t ht hW => ⟨⟨(-3), (z36, mm_now_f), rfl, ⟨_, _, _, _, hF⟩, by rw [ht]; exact hP9, hD9⟩, hS.F ht⟩) hS.2.2 dX11_set_85
        refine lv_if_eq (tgt := 48) hx hb dX11_set_41 (by decide) (fun c37 => ?_) (fun c37 => ?_)
        · skip
          refine lv_iconst (v := 0) hx hb dX11_set_48 (by decide) ?_
          exact j49 0 (Or.inr rfl) _ _ hP hD hS ls hl
        · skip
          refine lv_iconst (v := 1) hx hb dX11_set_44 (by decide) ?_
          refine lv_goto (tgt := 49) hx hb dX11_set_45 (by decide) ?_
          exact j49 1 (Or.inl rfl) _ _ hP hD hS ls hl
    · skip
      refine lv_aload_n hx hb dX11_set_18 rfl (lv_at hl 0 rfl) ?_
      refine lv_bipush (v := (-2)) hx hb dX11_set_19 (by decide) ?_
      refine wr_i (wr := [(mm_now, .inl (cy 1, 122, .inl mm_now_f))]) (va_runV (As := [.int (-2)]) (rest := []) ⟨hx, hb, hml, hown, hts⟩ (n_X11_bad l D cy mm mm_now mm_kept mm_isKept mm_refused mm_lineFrom mm_lineTo mm_stands mm_far mm_queue mm_queued mm_meets mm_bytes bl ta tl mm_token mm_value mm_next tk mm_refused_f (-2) _ ) (cwV 1 hts gX11_set_X11_bad rfl rfl rfl (by decide +kernel) ⟨Nat.le_of_ble_eq_true rfl, Nat.le_of_ble_eq_true rfl⟩) (pV (ci := 11) (k := 0) hKA (hP.sub (ws' := [(mm, .inr (11, [.ref mm_now, .ref mm_kept, .ref mm_isKept, .ref mm_refused, .int mm_lineFrom, .int mm_lineTo, .ref mm_stands, .ref mm_far, .ref mm_queue, .int mm_queued, .ref mm_meets, .ref mm_bytes, .int (nI bl), .int (nI ta), .int (nI tl), .int mm_token, .int mm_value, .ref mm_next, .int (nI tk)])), (mm_refused, .inl (cy 1, 3, .inl mm_refused_f))]) [0, 1] rfl) (hD.sub (ws' := [(mm, .inr (11, [.ref mm_now, .ref mm_kept, .ref mm_isKept, .ref mm_refused, .int mm_lineFrom, .int mm_lineTo, .ref mm_stands, .ref mm_far, .ref mm_queue, .int mm_queued, .ref mm_meets, .ref mm_bytes, .int (nI bl), .int (nI ta), .int (nI tl), .int mm_token, .int mm_value, .ref mm_next, .int (nI tk)])), (mm_refused, .inl (cy 1, 3, .inl mm_refused_f))]) [0, 1] (by decide) rfl) rfl rfl) rfl rfl hl.1 rfl (lv_room (Nat.le_of_ble_eq_true rfl)) dX11_set_21 ⟨Nat.le_of_ble_eq_true rfl, Nat.le_of_ble_eq_true rfl⟩) hP hD hS hA [0, 1] [2] rfl rfl (by decide +kernel) (by decide +kernel) (fun r38 ur38 H locs hwr38 hP hD hS => ?_)
      obtain ⟨z39, rfl⟩ : ∃ z, z = ur38 := ⟨_, rfl⟩
      have hP : va_P D vwCl [(mm_now, .inl (cy 1, 122, .inl mm_now_f)), (mm, .inr (11, [.ref mm_now, .ref mm_kept, .ref mm_isKept, .ref mm_refused, .int mm_lineFrom, .int mm_lineTo, .ref mm_stands, .ref mm_far, .ref mm_queue, .int mm_queued, .ref mm_meets, .ref mm_bytes, .int (nI bl), .int (nI ta), .int (nI tl), .int mm_token, .int mm_value, .ref mm_next, .int (nI tk)])), (mm_refused, .inl (cy 1, 3, .inl z39))] H := hP
      have hD : va_D A [(mm_now, .inl (cy 1, 122, .inl mm_now_f)), (mm, .inr (11, [.ref mm_now, .ref mm_kept, .ref mm_isKept, .ref mm_refused, .int mm_lineFrom, .int mm_lineTo, .ref mm_stands, .ref mm_far, .ref mm_queue, .int mm_queued, .ref mm_meets, .ref mm_bytes, .int (nI bl), .int (nI ta), .int (nI tl), .int mm_token, .int mm_value, .ref mm_next, .int (nI tk)])), (mm_refused, .inl (cy 1, 3, .inl z39))] := hD
      have hwr38 : r38 = (-2) := hwr38
      subst hwr38
      subst hQF
      have hP9 := hP.sub (ws' := [(mm, .inr (11, [.ref mm_now, .ref mm_kept, .ref mm_isKept, .ref mm_refused, .int mm_lineFrom, .int mm_lineTo, .ref mm_stands, .ref mm_far, .ref mm_queue, .int mm_queued, .ref mm_meets, .ref mm_bytes, .int (nI bl), .int (nI ta), .int (nI tl), .int mm_token, .int mm_value, .ref mm_next, .int (nI tk)])), (mm_refused, .inl (cy 1, 3, .inl z39)), (mm_now, .inl (cy 1, 122, .inl mm_now_f))]) [1, 2, 0] rfl
      have hD9 := hD.sub (ws' := [(mm, .inr (11, [.ref mm_now, .ref mm_kept, .ref mm_isKept, .ref mm_refused, .int mm_lineFrom, .int mm_lineTo, .ref mm_stands, .ref mm_far, .ref mm_queue, .int mm_queued, .ref mm_meets, .ref mm_bytes, .int (nI bl), .int (nI ta), .int (nI tl), .int mm_token, .int mm_value, .ref mm_next, .int (nI tk)])), (mm_refused, .inl (cy 1, 3, .inl z39)), (mm_now, .inl (cy 1, 122, .inl mm_now_f))]) [1, 2, 0] (by decide) rfl
      exact W.iret (v := (-2)) hx hb hr (fun t ht hW => ⟨⟨(-2), (z39, mm_now_f), rfl, ⟨_, _, _, _, hF⟩, by rw [ht]; exact hP9, hD9⟩, hS.F ht⟩) hS.2.2 dX11_set_24

set_option maxHeartbeats 4000000 in
set_option maxRecDepth 100000 in
theorem n_X11_put (l : Launch) (D : va_G) (cy : Nat → ClassId) (mm : Nat) (mm_now : Nat) (mm_kept : Nat) (mm_isKept : Nat) (mm_refused : Nat) (mm_lineFrom : Int32) (mm_lineTo : Int32) (mm_stands : Nat) (mm_far : Nat) (mm_queue : Nat) (mm_queued : Int32) (mm_meets : Nat) (mm_bytes : Nat) (bl : Nat) (ta : Nat) (tl : Nat) (mm_token : Int32) (mm_value : Int32) (mm_next : Nat) (tk : Nat) (mm_refused_f : Nat → Int32) (mm_now_f : Nat → Int32) (px : Int32) (py : Int32) (sz : Nat) (hN : mN mm_now_f) : Met l yX11_put wsX11_put ({ frames := 1, cells := 0, slots := 0, locals := 25 }) (va_Pc [.ref mm, .int px, .int py] (kPre D cy [(mm, .inr (11, [.ref mm_now, .ref mm_kept, .ref mm_isKept, .ref mm_refused, .int mm_lineFrom, .int mm_lineTo, .ref mm_stands, .ref mm_far, .ref mm_queue, .int mm_queued, .ref mm_meets, .ref mm_bytes, .int (nI bl), .int (nI ta), .int (nI tl), .int mm_token, .int mm_value, .ref mm_next, .int (nI tk)])), (mm_refused, .inl (cy 1, 3, .inl mm_refused_f)), (mm_now, .inl (cy 1, 122, .inl mm_now_f))] sz)) (va_Qi (fun (r : Int32) (u : (Nat → Int32) × (Nat → Int32)) => mN u.2) (fun (u : (Nat → Int32) × (Nat → Int32)) t => va_P D vwCl ([(mm, .inr (11, [.ref mm_now, .ref mm_kept, .ref mm_isKept, .ref mm_refused, .int mm_lineFrom, .int mm_lineTo, .ref mm_stands, .ref mm_far, .ref mm_queue, .int mm_queued, .ref mm_meets, .ref mm_bytes, .int (nI bl), .int (nI ta), .int (nI tl), .int mm_token, .int mm_value, .ref mm_next, .int (nI tk)])), (mm_refused, .inl (cy 1, 3, .inl u.1)), (mm_now, .inl (cy 1, 122, .inl u.2))]) t.heap ∧ va_D (va_A [(mm, .inr (11, [.ref mm_now, .ref mm_kept, .ref mm_isKept, .ref mm_refused, .int mm_lineFrom, .int mm_lineTo, .ref mm_stands, .ref mm_far, .ref mm_queue, .int mm_queued, .ref mm_meets, .ref mm_bytes, .int (nI bl), .int (nI ta), .int (nI tl), .int mm_token, .int mm_value, .ref mm_next, .int (nI tk)])), (mm_refused, .inl (cy 1, 3, .inl mm_refused_f)), (mm_now, .inl (cy 1, 122, .inl mm_now_f))] sz) ([(mm, .inr (11, [.ref mm_now, .ref mm_kept, .ref mm_isKept, .ref mm_refused, .int mm_lineFrom, .int mm_lineTo, .ref mm_stands, .ref mm_far, .ref mm_queue, .int mm_queued, .ref mm_meets, .ref mm_bytes, .int (nI bl), .int (nI ta), .int (nI tl), .int mm_token, .int mm_value, .ref mm_next, .int (nI tk)])), (mm_refused, .inl (cy 1, 3, .inl u.1)), (mm_now, .inl (cy 1, 122, .inl u.2))])) (va_A [(mm, .inr (11, [.ref mm_now, .ref mm_kept, .ref mm_isKept, .ref mm_refused, .int mm_lineFrom, .int mm_lineTo, .ref mm_stands, .ref mm_far, .ref mm_queue, .int mm_queued, .ref mm_meets, .ref mm_bytes, .int (nI bl), .int (nI ta), .int (nI tl), .int mm_token, .int mm_value, .ref mm_next, .int (nI tk)])), (mm_refused, .inl (cy 1, 3, .inl mm_refused_f)), (mm_now, .inl (cy 1, 122, .inl mm_now_f))] sz)) 0 0 (va_A [(mm, .inr (11, [.ref mm_now, .ref mm_kept, .ref mm_isKept, .ref mm_refused, .int mm_lineFrom, .int mm_lineTo, .ref mm_stands, .ref mm_far, .ref mm_queue, .int mm_queued, .ref mm_meets, .ref mm_bytes, .int (nI bl), .int (nI ta), .int (nI tl), .int mm_token, .int mm_value, .ref mm_next, .int (nI tk)])), (mm_refused, .inl (cy 1, 3, .inl mm_refused_f)), (mm_now, .inl (cy 1, 122, .inl mm_now_f))] sz) := by
  refine Met.ofW (cc := cX11_put) (maxL := 5) (ret := (some .int)) (by decide) rfl ?_
  intro p e s m args below meth c s₁ B hml hv
  obtain ⟨rfl, hsz, hP, hKA, hD0⟩ := hv
  have hx := B.exec
  have hb := B.bytes
  have hr := B.returns
  have hts := atoms_spec (ws := wsX11_put) B.pre
  have hown : s.vm.findClass RX11 = some m.cls := findClass_of_methodNamed B.named
  have hlocks := B.notSynchronized
  subst hsz
  have hK := hKA.1
  have hD := hD0.self (sz := s.heap.size)
  generalize hAe : va_A [(mm, .inr (11, [.ref mm_now, .ref mm_kept, .ref mm_isKept, .ref mm_refused, .int mm_lineFrom, .int mm_lineTo, .ref mm_stands, .ref mm_far, .ref mm_queue, .int mm_queued, .ref mm_meets, .ref mm_bytes, .int (nI bl), .int (nI ta), .int (nI tl), .int mm_token, .int mm_value, .ref mm_next, .int (nI tk)])), (mm_refused, .inl (cy 1, 3, .inl mm_refused_f)), (mm_now, .inl (cy 1, 122, .inl mm_now_f))] s.heap.size = A at hD ⊢
  have hA : ∀ q : Nat, s.heap.size ≤ q → A q := fun q h => by rw [← hAe]; exact Or.inr h
  have hS : va_S A s.heap s.heap [] := va_S.rf
  have hP : va_P D vwCl [(mm, .inr (11, [.ref mm_now, .ref mm_kept, .ref mm_isKept, .ref mm_refused, .int mm_lineFrom, .int mm_lineTo, .ref mm_stands, .ref mm_far, .ref mm_queue, .int mm_queued, .ref mm_meets, .ref mm_bytes, .int (nI bl), .int (nI ta), .int (nI tl), .int mm_token, .int mm_value, .ref mm_next, .int (nI tk)])), (mm_refused, .inl (cy 1, 3, .inl mm_refused_f)), (mm_now, .inl (cy 1, 122, .inl mm_now_f))] s.heap := hP
  have hl := lv_entry ([.ref mm, .int px, .int py]) (n := 5) (Nat.le_of_ble_eq_true rfl)
  rw [lg_entry_eq]
  generalize (lg_sl ([.ref mm, .int px, .int py]) ++ List.replicate (5 - (lg_sl ([.ref mm, .int px, .int py])).length) Slot.unset).toArray = ls at hl ⊢
  have hl : lv_has ls 5 [(0, .ref mm), (1, .int px), (2, .int py)] := hl
  refine qW (fun QF hQF => ?_)
  have z0_ := hts (.constantLong RX11 77 (-1)) (by decide +kernel)
  have z1_ := hts (.fieldLink RX11 7 "HeardSeenModel" "now" "[I") (by decide +kernel)
  have zi11_ : ∀ w ∈ u_ws RX11 TX11 19, w ∈ wsX11_put := by decide +kernel
  have z3_ := hts (.constantLong RX11 75 4) (by decide +kernel)
  obtain ⟨mW, mH, mS, mP, hF⟩ := hN
  obtain ⟨hW2, hW6, hH2, hH6, hSe, hS4, hS6, hP5⟩ := hF.rng
  refine lv_iload_n hx hb dX11_put_0 rfl (lv_at hl 1 rfl) ?_
  refine lv_if_ne (tgt := 16) hx hb dX11_put_1 (by decide) (fun c1 => ?_) (fun c1 => ?_)
  · skip
    refine lv_iload_n hx hb dX11_put_16 rfl (lv_at hl 1 rfl) ?_
    refine lv_iconst (v := 1) hx hb dX11_put_17 (by decide) ?_
    refine lv_icmp_ne (tgt := 37) hx hb dX11_put_18 (by decide) (fun c2 => ?_) (fun c2 => ?_)
    · skip
      refine lv_iconst (v := 0) hx hb dX11_put_37 (by decide) ?_
      refine lv_istore_n (lv' := [(3, .int 0), (0, .ref mm), (1, .int px), (2, .int py)]) hx hb dX11_put_38 rfl hl (by decide) rfl (fun ls hl => ?_)
      refine lv_iload_n hx hb dX11_put_39 rfl (lv_at hl 0 rfl) ?_
      refine lv_if_ne (tgt := 50) hx hb dX11_put_40 (by decide) (fun c3 => absurd c3 (by decide)) (fun c3 => ?_)
      refine lv_aload_n hx hb dX11_put_43 rfl (lv_at hl 1 rfl) ?_
      refine lv_bipush (v := (-10)) hx hb dX11_put_44 (by decide) ?_
      refine wr_i (wr := [(mm_now, .inl (cy 1, 122, .inl mm_now_f))]) (va_runV (As := [.int (-10)]) (rest := []) ⟨hx, hb, hml, hown, hts⟩ (n_X11_bad l D cy mm mm_now mm_kept mm_isKept mm_refused mm_lineFrom mm_lineTo mm_stands mm_far mm_queue mm_queued mm_meets mm_bytes bl ta tl mm_token mm_value mm_next tk mm_refused_f (-10) _ ) (cwV 1 hts gX11_put_X11_bad rfl rfl rfl (by decide +kernel) ⟨Nat.le_of_ble_eq_true rfl, Nat.le_of_ble_eq_true rfl⟩) (pV (ci := 11) (k := 0) hKA (hP.sub (ws' := [(mm, .inr (11, [.ref mm_now, .ref mm_kept, .ref mm_isKept, .ref mm_refused, .int mm_lineFrom, .int mm_lineTo, .ref mm_stands, .ref mm_far, .ref mm_queue, .int mm_queued, .ref mm_meets, .ref mm_bytes, .int (nI bl), .int (nI ta), .int (nI tl), .int mm_token, .int mm_value, .ref mm_next, .int (nI tk)])), (mm_refused, .inl (cy 1, 3, .inl mm_refused_f))]) [0, 1] rfl) (hD.sub (ws' := [(mm, .inr (11, [.ref mm_now, .ref mm_kept, .ref mm_isKept, .ref mm_refused, .int mm_lineFrom, .int mm_lineTo, .ref mm_stands, .ref mm_far, .ref mm_queue, .int mm_queued, .ref mm_meets, .ref mm_bytes, .int (nI bl), .int (nI ta), .int (nI tl), .int mm_token, .int mm_value, .ref mm_next, .int (nI tk)])), (mm_refused, .inl (cy 1, 3, .inl mm_refused_f))]) [0, 1] (by decide) rfl) rfl rfl) rfl rfl hl.1 rfl (lv_room (Nat.le_of_ble_eq_true rfl)) dX11_put_46 ⟨Nat.le_of_ble_eq_true rfl, Nat.le_of_ble_eq_true rfl⟩) hP hD hS hA [0, 1] [2] rfl rfl (by decide +kernel) (by decide +kernel) (fun r4 ur4 H locs hwr4 hP hD hS => ?_)
      obtain ⟨z5, rfl⟩ : ∃ z, z = ur4 := ⟨_, rfl⟩
      have hP : va_P D vwCl [(mm_now, .inl (cy 1, 122, .inl mm_now_f)), (mm, .inr (11, [.ref mm_now, .ref mm_kept, .ref mm_isKept, .ref mm_refused, .int mm_lineFrom, .int mm_lineTo, .ref mm_stands, .ref mm_far, .ref mm_queue, .int mm_queued, .ref mm_meets, .ref mm_bytes, .int (nI bl), .int (nI ta), .int (nI tl), .int mm_token, .int mm_value, .ref mm_next, .int (nI tk)])), (mm_refused, .inl (cy 1, 3, .inl z5))] H := hP
      have hD : va_D A [(mm_now, .inl (cy 1, 122, .inl mm_now_f)), (mm, .inr (11, [.ref mm_now, .ref mm_kept, .ref mm_isKept, .ref mm_refused, .int mm_lineFrom, .int mm_lineTo, .ref mm_stands, .ref mm_far, .ref mm_queue, .int mm_queued, .ref mm_meets, .ref mm_bytes, .int (nI bl), .int (nI ta), .int (nI tl), .int mm_token, .int mm_value, .ref mm_next, .int (nI tk)])), (mm_refused, .inl (cy 1, 3, .inl z5))] := hD
      have hwr4 : r4 = (-10) := hwr4
      subst hwr4
      subst hQF
      have hP9 := hP.sub (ws' := [(mm, .inr (11, [.ref mm_now, .ref mm_kept, .ref mm_isKept, .ref mm_refused, .int mm_lineFrom, .int mm_lineTo, .ref mm_stands, .ref mm_far, .ref mm_queue, .int mm_queued, .ref mm_meets, .ref mm_bytes, .int (nI bl), .int (nI ta), .int (nI tl), .int mm_token, .int mm_value, .ref mm_next, .int (nI tk)])), (mm_refused, .inl (cy 1, 3, .inl z5)), (mm_now, .inl (cy 1, 122, .inl mm_now_f))]) [1, 2, 0] rfl
      have hD9 := hD.sub (ws' := [(mm, .inr (11, [.ref mm_now, .ref mm_kept, .ref mm_isKept, .ref mm_refused, .int mm_lineFrom, .int mm_lineTo, .ref mm_stands, .ref mm_far, .ref mm_queue, .int mm_queued, .ref mm_meets, .ref mm_bytes, .int (nI bl), .int (nI ta), .int (nI tl), .int mm_token, .int mm_value, .ref mm_next, .int (nI tk)])), (mm_refused, .inl (cy 1, 3, .inl z5)), (mm_now, .inl (cy 1, 122, .inl mm_now_f))]) [1, 2, 0] (by decide) rfl
      exact W.iret (v := (-10)) hx hb hr (fun t ht hW => ⟨⟨(-10), (z5, mm_now_f), rfl, ⟨_, _, _, _, hF⟩, by rw [ht]; exact hP9, hD9⟩, hS.F ht⟩) hS.2.2 dX11_put_49
    · skip
      refine lv_iload_n hx hb dX11_put_21 rfl (lv_at hl 2 rfl) ?_
      refine lv_i2l hx hb dX11_put_22 rfl ?_
      refine lv_ldc2 hx hb hown z0_ dX11_put_23 ?_
      refine lv_lconst (v := 1) hx hb dX11_put_26 (by decide) ?_
      refine rd_i (va_runS (As := [.long py.toInt64, .long (-1), .long 1]) (rest := []) ⟨hx, hb, hml, hown, hts⟩ (n_X11_in l D cy py.toInt64 (-1) (1) _ ) (va_cwS 3 hts gX11_put_X11_in rfl rfl rfl (by decide +kernel) ⟨Nat.le_of_ble_eq_true rfl, Nat.le_of_ble_eq_true rfl⟩) (pS hKA pE (dE (A := A))) rfl rfl hl.1 rfl (lv_room (Nat.le_of_ble_eq_true rfl)) dX11_put_27 ⟨Nat.le_of_ble_eq_true rfl, Nat.le_of_ble_eq_true rfl⟩) hP hS hA (fun r6 H locs hwr6 hP hS => ?_)
      have hwr6 : (r6 = 1 ∧ ((-1) ≤ py.toInt64 ∧ py.toInt64 ≤ (1))) ∨ (r6 = 0 ∧ (¬ ((-1) ≤ py.toInt64 ∧ py.toInt64 ≤ (1)))) := hwr6
      refine lv_if_eq (tgt := 37) hx hb dX11_put_30 (by decide) (fun c7 => ?_) (fun c7 => ?_)
      · skip
        have hq8 := z_b0 hwr6 c7
        refine lv_iconst (v := 0) hx hb dX11_put_37 (by decide) ?_
        refine lv_istore_n (lv' := [(3, .int 0), (0, .ref mm), (1, .int px), (2, .int py)]) hx hb dX11_put_38 rfl hl (by decide) rfl (fun ls hl => ?_)
        refine lv_iload_n hx hb dX11_put_39 rfl (lv_at hl 0 rfl) ?_
        refine lv_if_ne (tgt := 50) hx hb dX11_put_40 (by decide) (fun c9 => absurd c9 (by decide)) (fun c9 => ?_)
        refine lv_aload_n hx hb dX11_put_43 rfl (lv_at hl 1 rfl) ?_
        refine lv_bipush (v := (-10)) hx hb dX11_put_44 (by decide) ?_
        refine wr_i (wr := [(mm_now, .inl (cy 1, 122, .inl mm_now_f))]) (va_runV (As := [.int (-10)]) (rest := []) ⟨hx, hb, hml, hown, hts⟩ (n_X11_bad l D cy mm mm_now mm_kept mm_isKept mm_refused mm_lineFrom mm_lineTo mm_stands mm_far mm_queue mm_queued mm_meets mm_bytes bl ta tl mm_token mm_value mm_next tk mm_refused_f (-10) _ ) (cwV 1 hts gX11_put_X11_bad rfl rfl rfl (by decide +kernel) ⟨Nat.le_of_ble_eq_true rfl, Nat.le_of_ble_eq_true rfl⟩) (pV (ci := 11) (k := 0) hKA (hP.sub (ws' := [(mm, .inr (11, [.ref mm_now, .ref mm_kept, .ref mm_isKept, .ref mm_refused, .int mm_lineFrom, .int mm_lineTo, .ref mm_stands, .ref mm_far, .ref mm_queue, .int mm_queued, .ref mm_meets, .ref mm_bytes, .int (nI bl), .int (nI ta), .int (nI tl), .int mm_token, .int mm_value, .ref mm_next, .int (nI tk)])), (mm_refused, .inl (cy 1, 3, .inl mm_refused_f))]) [0, 1] rfl) (hD.sub (ws' := [(mm, .inr (11, [.ref mm_now, .ref mm_kept, .ref mm_isKept, .ref mm_refused, .int mm_lineFrom, .int mm_lineTo, .ref mm_stands, .ref mm_far, .ref mm_queue, .int mm_queued, .ref mm_meets, .ref mm_bytes, .int (nI bl), .int (nI ta), .int (nI tl), .int mm_token, .int mm_value, .ref mm_next, .int (nI tk)])), (mm_refused, .inl (cy 1, 3, .inl mm_refused_f))]) [0, 1] (by decide) rfl) rfl rfl) rfl rfl hl.1 rfl (lv_room (Nat.le_of_ble_eq_true rfl)) dX11_put_46 ⟨Nat.le_of_ble_eq_true rfl, Nat.le_of_ble_eq_true rfl⟩) hP hD hS hA [0, 1] [2] rfl rfl (by decide +kernel) (by decide +kernel) (fun r10 ur10 H locs hwr10 hP hD hS => ?_)
        obtain ⟨z11, rfl⟩ : ∃ z, z = ur10 := ⟨_, rfl⟩
        have hP : va_P D vwCl [(mm_now, .inl (cy 1, 122, .inl mm_now_f)), (mm, .inr (11, [.ref mm_now, .ref mm_kept, .ref mm_isKept, .ref mm_refused, .int mm_lineFrom, .int mm_lineTo, .ref mm_stands, .ref mm_far, .ref mm_queue, .int mm_queued, .ref mm_meets, .ref mm_bytes, .int (nI bl), .int (nI ta), .int (nI tl), .int mm_token, .int mm_value, .ref mm_next, .int (nI tk)])), (mm_refused, .inl (cy 1, 3, .inl z11))] H := hP
        have hD : va_D A [(mm_now, .inl (cy 1, 122, .inl mm_now_f)), (mm, .inr (11, [.ref mm_now, .ref mm_kept, .ref mm_isKept, .ref mm_refused, .int mm_lineFrom, .int mm_lineTo, .ref mm_stands, .ref mm_far, .ref mm_queue, .int mm_queued, .ref mm_meets, .ref mm_bytes, .int (nI bl), .int (nI ta), .int (nI tl), .int mm_token, .int mm_value, .ref mm_next, .int (nI tk)])), (mm_refused, .inl (cy 1, 3, .inl z11))] := hD
        have hwr10 : r10 = (-10) := hwr10
        subst hwr10
        subst hQF
        have hP9 := hP.sub (ws' := [(mm, .inr (11, [.ref mm_now, .ref mm_kept, .ref mm_isKept, .ref mm_refused, .int mm_lineFrom, .int mm_lineTo, .ref mm_stands, .ref mm_far, .ref mm_queue, .int mm_queued, .ref mm_meets, .ref mm_bytes, .int (nI bl), .int (nI ta), .int (nI tl), .int mm_token, .int mm_value, .ref mm_next, .int (nI tk)])), (mm_refused, .inl (cy 1, 3, .inl z11)), (mm_now, .inl (cy 1, 122, .inl mm_now_f))]) [1, 2, 0] rfl
        have hD9 := hD.sub (ws' := [(mm, .inr (11, [.ref mm_now, .ref mm_kept, .ref mm_isKept, .ref mm_refused, .int mm_lineFrom, .int mm_lineTo, .ref mm_stands, .ref mm_far, .ref mm_queue, .int mm_queued, .ref mm_meets, .ref mm_bytes, .int (nI bl), .int (nI ta), .int (nI tl), .int mm_token, .int mm_value, .ref mm_next, .int (nI tk)])), (mm_refused, .inl (cy 1, 3, .inl z11)), (mm_now, .inl (cy 1, 122, .inl mm_now_f))]) [1, 2, 0] (by decide) rfl
        exact W.iret (v := (-10)) hx hb hr (fun t ht hW => ⟨⟨(-10), (z11, mm_now_f), rfl, ⟨_, _, _, _, hF⟩, by rw [ht]; exact hP9, hD9⟩, hS.F ht⟩) hS.2.2 dX11_put_49
      · skip
        obtain ⟨hp12, hp13⟩ := z_b1 hwr6 c7
        refine lv_iconst (v := 1) hx hb dX11_put_33 (by decide) ?_
        refine lv_goto (tgt := 38) hx hb dX11_put_34 (by decide) ?_
        refine lv_istore_n (lv' := [(3, .int 1), (0, .ref mm), (1, .int px), (2, .int py)]) hx hb dX11_put_38 rfl hl (by decide) rfl (fun ls hl => ?_)
        refine lv_iload_n hx hb dX11_put_39 rfl (lv_at hl 0 rfl) ?_
        refine lv_if_ne (tgt := 50) hx hb dX11_put_40 (by decide) (fun c14 => ?_) (fun c14 => absurd c14 (by decide))
        refine lv_aload_n hx hb dX11_put_50 rfl (lv_at hl 1 rfl) ?_
        refine va_get (D := D) (ci := 11) (v := .ref mm_now) (C := RX11) (T := TX11) (N := 19) hx hb hts zi11_ hown hK hP 0 rfl rfl 0 (by decide) z1_ (fun _ h9 => h9) rfl dX11_put_51 ?_
        refine lv_iconst (v := 2) hx hb dX11_put_54 (by decide) ?_
        refine lv_iload_n hx hb dX11_put_55 rfl (lv_at hl 2 rfl) ?_
        refine W.eq (g2 := F0 m 56 ls [.int 1, .int 2, .ref mm_now]) (congrArg (fun v9 : Int32 => F0 m 56 ls [.int v9, .int 2, .ref mm_now]) c2) ?_
        refine lv_iadd hx hb dX11_put_56 ?_
        refine lv_topi (fun x15 ex15 => ?_)
        obtain rfl : x15 = 3 := by rw [ex15]; decide +kernel
        refine my_iald hx hb hK hP 2 1 rfl rfl (by rw [vp_in_iff]; decide +kernel) (k := 3) (by decide +kernel) dX11_put_57 ?_
        refine lv_topi (fun x16 ex16 => ?_)
        refine lv_istore (lv' := [(4, .int x16), (3, .int 1), (0, .ref mm), (1, .int px), (2, .int py)]) hx hb dX11_put_58 hl (by decide) rfl (fun ls hl => ?_)
        refine lv_aload_n hx hb dX11_put_60 rfl (lv_at hl 2 rfl) ?_
        refine va_get (D := D) (ci := 11) (v := .ref mm_now) (C := RX11) (T := TX11) (N := 19) hx hb hts zi11_ hown hK hP 0 rfl rfl 0 (by decide) z1_ (fun _ h9 => h9) rfl dX11_put_61 ?_
        refine lv_iconst (v := 2) hx hb dX11_put_64 (by decide) ?_
        refine lv_iload_n hx hb dX11_put_65 rfl (lv_at hl 3 rfl) ?_
        refine W.eq (g2 := F0 m 66 ls [.int 1, .int 2, .ref mm_now]) (congrArg (fun v9 : Int32 => F0 m 66 ls [.int v9, .int 2, .ref mm_now]) c2) ?_
        refine lv_iadd hx hb dX11_put_66 ?_
        refine lv_topi (fun x17 ex17 => ?_)
        obtain rfl : x17 = 3 := by rw [ex17]; decide +kernel
        refine lv_iload_n hx hb dX11_put_67 rfl (lv_at hl 4 rfl) ?_
        refine my_iast hx hb hK hP hD hS 2 1 rfl rfl (by rw [vp_in_iff]; decide +kernel) (k := 3) (by decide +kernel) dX11_put_68 (fun H locs hP hD hS => ?_)
        have hP : va_P D vwCl [(mm, .inr (11, [.ref mm_now, .ref mm_kept, .ref mm_isKept, .ref mm_refused, .int mm_lineFrom, .int mm_lineTo, .ref mm_stands, .ref mm_far, .ref mm_queue, .int mm_queued, .ref mm_meets, .ref mm_bytes, .int (nI bl), .int (nI ta), .int (nI tl), .int mm_token, .int mm_value, .ref mm_next, .int (nI tk)])), (mm_refused, .inl (cy 1, 3, .inl mm_refused_f)), (mm_now, .inl (cy 1, 122, .inl (upd mm_now_f 3 py)))] H := hP
        have hD : va_D A [(mm, .inr (11, [.ref mm_now, .ref mm_kept, .ref mm_isKept, .ref mm_refused, .int mm_lineFrom, .int mm_lineTo, .ref mm_stands, .ref mm_far, .ref mm_queue, .int mm_queued, .ref mm_meets, .ref mm_bytes, .int (nI bl), .int (nI ta), .int (nI tl), .int mm_token, .int mm_value, .ref mm_next, .int (nI tk)])), (mm_refused, .inl (cy 1, 3, .inl mm_refused_f)), (mm_now, .inl (cy 1, 122, .inl (upd mm_now_f 3 py)))] := hD
        obtain ⟨f18, ef18⟩ : ∃ y : Nat → Int32, y = upd mm_now_f 3 py := ⟨_, rfl⟩
        rw [← ef18] at hP hD
        have hf18 : mV f18 mW mH mS mP := by rw [ef18]; exact mV.put23 hF 3 _ (by decide)
        have hP : va_P D vwCl [(mm, .inr (11, [.ref mm_now, .ref mm_kept, .ref mm_isKept, .ref mm_refused, .int mm_lineFrom, .int mm_lineTo, .ref mm_stands, .ref mm_far, .ref mm_queue, .int mm_queued, .ref mm_meets, .ref mm_bytes, .int (nI bl), .int (nI ta), .int (nI tl), .int mm_token, .int mm_value, .ref mm_next, .int (nI tk)])), (mm_refused, .inl (cy 1, 3, .inl mm_refused_f)), (mm_now, .inl (cy 1, 122, .inl f18))] H := hP
        have hD : va_D A [(mm, .inr (11, [.ref mm_now, .ref mm_kept, .ref mm_isKept, .ref mm_refused, .int mm_lineFrom, .int mm_lineTo, .ref mm_stands, .ref mm_far, .ref mm_queue, .int mm_queued, .ref mm_meets, .ref mm_bytes, .int (nI bl), .int (nI ta), .int (nI tl), .int mm_token, .int mm_value, .ref mm_next, .int (nI tk)])), (mm_refused, .inl (cy 1, 3, .inl mm_refused_f)), (mm_now, .inl (cy 1, 122, .inl f18))] := hD
        refine lv_iload hx hb dX11_put_69 (lv_at hl 0 rfl) ?_
        subst hQF
        have hP9 := hP
        have hD9 := hD
        exact W.iret (v := x16) hx hb hr (fun t ht hW => ⟨⟨x16, (mm_refused_f, f18), rfl, ⟨_, _, _, _, hf18⟩, by rw [ht]; exact hP9, hD9⟩, hS.F ht⟩) hS.2.2 dX11_put_71
  · skip
    refine lv_iload_n hx hb dX11_put_4 rfl (lv_at hl 2 rfl) ?_
    refine lv_i2l hx hb dX11_put_5 rfl ?_
    refine lv_lconst (v := 0) hx hb dX11_put_6 (by decide) ?_
    refine lv_ldc2 hx hb hown z3_ dX11_put_7 ?_
    refine rd_i (va_runS (As := [.long py.toInt64, .long 0, .long 4]) (rest := []) ⟨hx, hb, hml, hown, hts⟩ (n_X11_in l D cy py.toInt64 (0) (4) _ ) (va_cwS 3 hts gX11_put_X11_in rfl rfl rfl (by decide +kernel) ⟨Nat.le_of_ble_eq_true rfl, Nat.le_of_ble_eq_true rfl⟩) (pS hKA pE (dE (A := A))) rfl rfl hl.1 rfl (lv_room (Nat.le_of_ble_eq_true rfl)) dX11_put_10 ⟨Nat.le_of_ble_eq_true rfl, Nat.le_of_ble_eq_true rfl⟩) hP hS hA (fun r19 H locs hwr19 hP hS => ?_)
    have hwr19 : (r19 = 1 ∧ ((0) ≤ py.toInt64 ∧ py.toInt64 ≤ (4))) ∨ (r19 = 0 ∧ (¬ ((0) ≤ py.toInt64 ∧ py.toInt64 ≤ (4)))) := hwr19
    refine lv_if_ne (tgt := 33) hx hb dX11_put_13 (by decide) (fun c20 => ?_) (fun c20 => ?_)
    · skip
      obtain ⟨hp21, hp22⟩ := z_b1 hwr19 c20
      obtain ⟨j23, gj23, hj23, ej23⟩ := z_rng (lo := 0) (hi := 4) (by decide) (by decide) hp21 hp22
      refine lv_iconst (v := 1) hx hb dX11_put_33 (by decide) ?_
      refine lv_goto (tgt := 38) hx hb dX11_put_34 (by decide) ?_
      refine lv_istore_n (lv' := [(3, .int 1), (0, .ref mm), (1, .int px), (2, .int py)]) hx hb dX11_put_38 rfl hl (by decide) rfl (fun ls hl => ?_)
      refine lv_iload_n hx hb dX11_put_39 rfl (lv_at hl 0 rfl) ?_
      refine lv_if_ne (tgt := 50) hx hb dX11_put_40 (by decide) (fun c24 => ?_) (fun c24 => absurd c24 (by decide))
      refine lv_aload_n hx hb dX11_put_50 rfl (lv_at hl 1 rfl) ?_
      refine va_get (D := D) (ci := 11) (v := .ref mm_now) (C := RX11) (T := TX11) (N := 19) hx hb hts zi11_ hown hK hP 0 rfl rfl 0 (by decide) z1_ (fun _ h9 => h9) rfl dX11_put_51 ?_
      refine lv_iconst (v := 2) hx hb dX11_put_54 (by decide) ?_
      refine lv_iload_n hx hb dX11_put_55 rfl (lv_at hl 2 rfl) ?_
      refine W.eq (g2 := F0 m 56 ls [.int 0, .int 2, .ref mm_now]) (congrArg (fun v9 : Int32 => F0 m 56 ls [.int v9, .int 2, .ref mm_now]) c1) ?_
      refine lv_iadd hx hb dX11_put_56 ?_
      refine lv_topi (fun x25 ex25 => ?_)
      obtain rfl : x25 = 2 := by rw [ex25]; decide +kernel
      refine my_iald hx hb hK hP 2 1 rfl rfl (by rw [vp_in_iff]; decide +kernel) (k := 2) (by decide +kernel) dX11_put_57 ?_
      refine lv_topi (fun x26 ex26 => ?_)
      refine lv_istore (lv' := [(4, .int x26), (3, .int 1), (0, .ref mm), (1, .int px), (2, .int py)]) hx hb dX11_put_58 hl (by decide) rfl (fun ls hl => ?_)
      refine lv_aload_n hx hb dX11_put_60 rfl (lv_at hl 2 rfl) ?_
      refine va_get (D := D) (ci := 11) (v := .ref mm_now) (C := RX11) (T := TX11) (N := 19) hx hb hts zi11_ hown hK hP 0 rfl rfl 0 (by decide) z1_ (fun _ h9 => h9) rfl dX11_put_61 ?_
      refine lv_iconst (v := 2) hx hb dX11_put_64 (by decide) ?_
      refine lv_iload_n hx hb dX11_put_65 rfl (lv_at hl 3 rfl) ?_
      refine W.eq (g2 := F0 m 66 ls [.int 0, .int 2, .ref mm_now]) (congrArg (fun v9 : Int32 => F0 m 66 ls [.int v9, .int 2, .ref mm_now]) c1) ?_
      refine lv_iadd hx hb dX11_put_66 ?_
      refine lv_topi (fun x27 ex27 => ?_)
      obtain rfl : x27 = 2 := by rw [ex27]; decide +kernel
      refine lv_iload_n hx hb dX11_put_67 rfl (lv_at hl 4 rfl) ?_
      refine W.eq (g2 := F0 m 68 ls [.int (nI j23), .int 2, .ref mm_now]) (congrArg (fun v9 : Int32 => F0 m 68 ls [.int v9, .int 2, .ref mm_now]) ej23) ?_
      refine my_iast hx hb hK hP hD hS 2 1 rfl rfl (by rw [vp_in_iff]; decide +kernel) (k := 2) (by decide +kernel) dX11_put_68 (fun H locs hP hD hS => ?_)
      have hP : va_P D vwCl [(mm, .inr (11, [.ref mm_now, .ref mm_kept, .ref mm_isKept, .ref mm_refused, .int mm_lineFrom, .int mm_lineTo, .ref mm_stands, .ref mm_far, .ref mm_queue, .int mm_queued, .ref mm_meets, .ref mm_bytes, .int (nI bl), .int (nI ta), .int (nI tl), .int mm_token, .int mm_value, .ref mm_next, .int (nI tk)])), (mm_refused, .inl (cy 1, 3, .inl mm_refused_f)), (mm_now, .inl (cy 1, 122, .inl (upd mm_now_f 2 (nI j23))))] H := hP
      have hD : va_D A [(mm, .inr (11, [.ref mm_now, .ref mm_kept, .ref mm_isKept, .ref mm_refused, .int mm_lineFrom, .int mm_lineTo, .ref mm_stands, .ref mm_far, .ref mm_queue, .int mm_queued, .ref mm_meets, .ref mm_bytes, .int (nI bl), .int (nI ta), .int (nI tl), .int mm_token, .int mm_value, .ref mm_next, .int (nI tk)])), (mm_refused, .inl (cy 1, 3, .inl mm_refused_f)), (mm_now, .inl (cy 1, 122, .inl (upd mm_now_f 2 (nI j23))))] := hD
      obtain ⟨f28, ef28⟩ : ∃ y : Nat → Int32, y = upd mm_now_f 2 (nI j23) := ⟨_, rfl⟩
      rw [← ef28] at hP hD
      have hf28 : mV f28 mW mH mS mP := by rw [ef28]; exact mV.put23 hF 2 _ (by decide)
      have hP : va_P D vwCl [(mm, .inr (11, [.ref mm_now, .ref mm_kept, .ref mm_isKept, .ref mm_refused, .int mm_lineFrom, .int mm_lineTo, .ref mm_stands, .ref mm_far, .ref mm_queue, .int mm_queued, .ref mm_meets, .ref mm_bytes, .int (nI bl), .int (nI ta), .int (nI tl), .int mm_token, .int mm_value, .ref mm_next, .int (nI tk)])), (mm_refused, .inl (cy 1, 3, .inl mm_refused_f)), (mm_now, .inl (cy 1, 122, .inl f28))] H := hP
      have hD : va_D A [(mm, .inr (11, [.ref mm_now, .ref mm_kept, .ref mm_isKept, .ref mm_refused, .int mm_lineFrom, .int mm_lineTo, .ref mm_stands, .ref mm_far, .ref mm_queue, .int mm_queued, .ref mm_meets, .ref mm_bytes, .int (nI bl), .int (nI ta), .int (nI tl), .int mm_token, .int mm_value, .ref mm_next, .int (nI tk)])), (mm_refused, .inl (cy 1, 3, .inl mm_refused_f)), (mm_now, .inl (cy 1, 122, .inl f28))] := hD
      refine lv_iload hx hb dX11_put_69 (lv_at hl 0 rfl) ?_
      subst hQF
      have hP9 := hP
      have hD9 := hD
      exact W.iret (v := x26) hx hb hr (fun t ht hW => ⟨⟨x26, (mm_refused_f, f28), rfl, ⟨_, _, _, _, hf28⟩, by rw [ht]; exact hP9, hD9⟩, hS.F ht⟩) hS.2.2 dX11_put_71
    · skip
      have hq29 := z_b0 hwr19 c20
      refine lv_iload_n hx hb dX11_put_16 rfl (lv_at hl 1 rfl) ?_
      refine W.eq (g2 := F0 m 17 ls [.int 0]) (congrArg (fun v9 : Int32 => F0 m 17 ls [.int v9]) c1) ?_
      refine lv_iconst (v := 1) hx hb dX11_put_17 (by decide) ?_
      refine lv_icmp_ne (tgt := 37) hx hb dX11_put_18 (by decide) (fun c30 => ?_) (fun c30 => absurd c30 (by decide))
      refine lv_iconst (v := 0) hx hb dX11_put_37 (by decide) ?_
      refine lv_istore_n (lv' := [(3, .int 0), (0, .ref mm), (1, .int px), (2, .int py)]) hx hb dX11_put_38 rfl hl (by decide) rfl (fun ls hl => ?_)
      refine lv_iload_n hx hb dX11_put_39 rfl (lv_at hl 0 rfl) ?_
      refine lv_if_ne (tgt := 50) hx hb dX11_put_40 (by decide) (fun c31 => absurd c31 (by decide)) (fun c31 => ?_)
      refine lv_aload_n hx hb dX11_put_43 rfl (lv_at hl 1 rfl) ?_
      refine lv_bipush (v := (-10)) hx hb dX11_put_44 (by decide) ?_
      refine wr_i (wr := [(mm_now, .inl (cy 1, 122, .inl mm_now_f))]) (va_runV (As := [.int (-10)]) (rest := []) ⟨hx, hb, hml, hown, hts⟩ (n_X11_bad l D cy mm mm_now mm_kept mm_isKept mm_refused mm_lineFrom mm_lineTo mm_stands mm_far mm_queue mm_queued mm_meets mm_bytes bl ta tl mm_token mm_value mm_next tk mm_refused_f (-10) _ ) (cwV 1 hts gX11_put_X11_bad rfl rfl rfl (by decide +kernel) ⟨Nat.le_of_ble_eq_true rfl, Nat.le_of_ble_eq_true rfl⟩) (pV (ci := 11) (k := 0) hKA (hP.sub (ws' := [(mm, .inr (11, [.ref mm_now, .ref mm_kept, .ref mm_isKept, .ref mm_refused, .int mm_lineFrom, .int mm_lineTo, .ref mm_stands, .ref mm_far, .ref mm_queue, .int mm_queued, .ref mm_meets, .ref mm_bytes, .int (nI bl), .int (nI ta), .int (nI tl), .int mm_token, .int mm_value, .ref mm_next, .int (nI tk)])), (mm_refused, .inl (cy 1, 3, .inl mm_refused_f))]) [0, 1] rfl) (hD.sub (ws' := [(mm, .inr (11, [.ref mm_now, .ref mm_kept, .ref mm_isKept, .ref mm_refused, .int mm_lineFrom, .int mm_lineTo, .ref mm_stands, .ref mm_far, .ref mm_queue, .int mm_queued, .ref mm_meets, .ref mm_bytes, .int (nI bl), .int (nI ta), .int (nI tl), .int mm_token, .int mm_value, .ref mm_next, .int (nI tk)])), (mm_refused, .inl (cy 1, 3, .inl mm_refused_f))]) [0, 1] (by decide) rfl) rfl rfl) rfl rfl hl.1 rfl (lv_room (Nat.le_of_ble_eq_true rfl)) dX11_put_46 ⟨Nat.le_of_ble_eq_true rfl, Nat.le_of_ble_eq_true rfl⟩) hP hD hS hA [0, 1] [2] rfl rfl (by decide +kernel) (by decide +kernel) (fun r32 ur32 H locs hwr32 hP hD hS => ?_)
      obtain ⟨z33, rfl⟩ : ∃ z, z = ur32 := ⟨_, rfl⟩
      have hP : va_P D vwCl [(mm_now, .inl (cy 1, 122, .inl mm_now_f)), (mm, .inr (11, [.ref mm_now, .ref mm_kept, .ref mm_isKept, .ref mm_refused, .int mm_lineFrom, .int mm_lineTo, .ref mm_stands, .ref mm_far, .ref mm_queue, .int mm_queued, .ref mm_meets, .ref mm_bytes, .int (nI bl), .int (nI ta), .int (nI tl), .int mm_token, .int mm_value, .ref mm_next, .int (nI tk)])), (mm_refused, .inl (cy 1, 3, .inl z33))] H := hP
      have hD : va_D A [(mm_now, .inl (cy 1, 122, .inl mm_now_f)), (mm, .inr (11, [.ref mm_now, .ref mm_kept, .ref mm_isKept, .ref mm_refused, .int mm_lineFrom, .int mm_lineTo, .ref mm_stands, .ref mm_far, .ref mm_queue, .int mm_queued, .ref mm_meets, .ref mm_bytes, .int (nI bl), .int (nI ta), .int (nI tl), .int mm_token, .int mm_value, .ref mm_next, .int (nI tk)])), (mm_refused, .inl (cy 1, 3, .inl z33))] := hD
      have hwr32 : r32 = (-10) := hwr32
      subst hwr32
      subst hQF
      have hP9 := hP.sub (ws' := [(mm, .inr (11, [.ref mm_now, .ref mm_kept, .ref mm_isKept, .ref mm_refused, .int mm_lineFrom, .int mm_lineTo, .ref mm_stands, .ref mm_far, .ref mm_queue, .int mm_queued, .ref mm_meets, .ref mm_bytes, .int (nI bl), .int (nI ta), .int (nI tl), .int mm_token, .int mm_value, .ref mm_next, .int (nI tk)])), (mm_refused, .inl (cy 1, 3, .inl z33)), (mm_now, .inl (cy 1, 122, .inl mm_now_f))]) [1, 2, 0] rfl
      have hD9 := hD.sub (ws' := [(mm, .inr (11, [.ref mm_now, .ref mm_kept, .ref mm_isKept, .ref mm_refused, .int mm_lineFrom, .int mm_lineTo, .ref mm_stands, .ref mm_far, .ref mm_queue, .int mm_queued, .ref mm_meets, .ref mm_bytes, .int (nI bl), .int (nI ta), .int (nI tl), .int mm_token, .int mm_value, .ref mm_next, .int (nI tk)])), (mm_refused, .inl (cy 1, 3, .inl z33)), (mm_now, .inl (cy 1, 122, .inl mm_now_f))]) [1, 2, 0] (by decide) rfl
      exact W.iret (v := (-10)) hx hb hr (fun t ht hW => ⟨⟨(-10), (z33, mm_now_f), rfl, ⟨_, _, _, _, hF⟩, by rw [ht]; exact hP9, hD9⟩, hS.F ht⟩) hS.2.2 dX11_put_49

set_option maxHeartbeats 4000000 in
set_option maxRecDepth 100000 in
theorem n_X11_person (l : Launch) (D : va_G) (cy : Nat → ClassId) (mm : Nat) (mm_now : Nat) (mm_kept : Nat) (mm_isKept : Nat) (mm_refused : Nat) (mm_lineFrom : Int32) (mm_lineTo : Int32) (mm_stands : Nat) (mm_far : Nat) (mm_queue : Nat) (mm_queued : Int32) (mm_meets : Nat) (mm_bytes : Nat) (bl : Nat) (ta : Nat) (tl : Nat) (mm_token : Int32) (mm_value : Int32) (mm_next : Nat) (tk : Nat) (mm_refused_f : Nat → Int32) (mm_now_f : Nat → Int32) (px : Int32) (py : Int32) (pz : Int32) (sz : Nat) (hN : mN mm_now_f) : Met l yX11_person wsX11_person ({ frames := 2, cells := 0, slots := 0, locals := 46 }) (va_Pc [.ref mm, .int px, .int py, .int pz] (kPre D cy [(mm, .inr (11, [.ref mm_now, .ref mm_kept, .ref mm_isKept, .ref mm_refused, .int mm_lineFrom, .int mm_lineTo, .ref mm_stands, .ref mm_far, .ref mm_queue, .int mm_queued, .ref mm_meets, .ref mm_bytes, .int (nI bl), .int (nI ta), .int (nI tl), .int mm_token, .int mm_value, .ref mm_next, .int (nI tk)])), (mm_refused, .inl (cy 1, 3, .inl mm_refused_f)), (mm_now, .inl (cy 1, 122, .inl mm_now_f))] sz)) (va_Qi (fun (r : Int32) (u : (Nat → Int32) × (Nat → Int32)) => mN u.2) (fun (u : (Nat → Int32) × (Nat → Int32)) t => va_P D vwCl ([(mm, .inr (11, [.ref mm_now, .ref mm_kept, .ref mm_isKept, .ref mm_refused, .int mm_lineFrom, .int mm_lineTo, .ref mm_stands, .ref mm_far, .ref mm_queue, .int mm_queued, .ref mm_meets, .ref mm_bytes, .int (nI bl), .int (nI ta), .int (nI tl), .int mm_token, .int mm_value, .ref mm_next, .int (nI tk)])), (mm_refused, .inl (cy 1, 3, .inl u.1)), (mm_now, .inl (cy 1, 122, .inl u.2))]) t.heap ∧ va_D (va_A [(mm, .inr (11, [.ref mm_now, .ref mm_kept, .ref mm_isKept, .ref mm_refused, .int mm_lineFrom, .int mm_lineTo, .ref mm_stands, .ref mm_far, .ref mm_queue, .int mm_queued, .ref mm_meets, .ref mm_bytes, .int (nI bl), .int (nI ta), .int (nI tl), .int mm_token, .int mm_value, .ref mm_next, .int (nI tk)])), (mm_refused, .inl (cy 1, 3, .inl mm_refused_f)), (mm_now, .inl (cy 1, 122, .inl mm_now_f))] sz) ([(mm, .inr (11, [.ref mm_now, .ref mm_kept, .ref mm_isKept, .ref mm_refused, .int mm_lineFrom, .int mm_lineTo, .ref mm_stands, .ref mm_far, .ref mm_queue, .int mm_queued, .ref mm_meets, .ref mm_bytes, .int (nI bl), .int (nI ta), .int (nI tl), .int mm_token, .int mm_value, .ref mm_next, .int (nI tk)])), (mm_refused, .inl (cy 1, 3, .inl u.1)), (mm_now, .inl (cy 1, 122, .inl u.2))])) (va_A [(mm, .inr (11, [.ref mm_now, .ref mm_kept, .ref mm_isKept, .ref mm_refused, .int mm_lineFrom, .int mm_lineTo, .ref mm_stands, .ref mm_far, .ref mm_queue, .int mm_queued, .ref mm_meets, .ref mm_bytes, .int (nI bl), .int (nI ta), .int (nI tl), .int mm_token, .int mm_value, .ref mm_next, .int (nI tk)])), (mm_refused, .inl (cy 1, 3, .inl mm_refused_f)), (mm_now, .inl (cy 1, 122, .inl mm_now_f))] sz)) 0 0 (va_A [(mm, .inr (11, [.ref mm_now, .ref mm_kept, .ref mm_isKept, .ref mm_refused, .int mm_lineFrom, .int mm_lineTo, .ref mm_stands, .ref mm_far, .ref mm_queue, .int mm_queued, .ref mm_meets, .ref mm_bytes, .int (nI bl), .int (nI ta), .int (nI tl), .int mm_token, .int mm_value, .ref mm_next, .int (nI tk)])), (mm_refused, .inl (cy 1, 3, .inl mm_refused_f)), (mm_now, .inl (cy 1, 122, .inl mm_now_f))] sz) := by
  refine Met.ofW (cc := cX11_person) (maxL := 4) (ret := (some .int)) (by decide) rfl ?_
  intro p e s m args below meth c s₁ B hml hv
  obtain ⟨rfl, hsz, hP, hKA, hD0⟩ := hv
  have hx := B.exec
  have hb := B.bytes
  have hr := B.returns
  have hts := atoms_spec (ws := wsX11_person) B.pre
  have hown : s.vm.findClass RX11 = some m.cls := findClass_of_methodNamed B.named
  have hlocks := B.notSynchronized
  subst hsz
  have hK := hKA.1
  have hD := hD0.self (sz := s.heap.size)
  generalize hAe : va_A [(mm, .inr (11, [.ref mm_now, .ref mm_kept, .ref mm_isKept, .ref mm_refused, .int mm_lineFrom, .int mm_lineTo, .ref mm_stands, .ref mm_far, .ref mm_queue, .int mm_queued, .ref mm_meets, .ref mm_bytes, .int (nI bl), .int (nI ta), .int (nI tl), .int mm_token, .int mm_value, .ref mm_next, .int (nI tk)])), (mm_refused, .inl (cy 1, 3, .inl mm_refused_f)), (mm_now, .inl (cy 1, 122, .inl mm_now_f))] s.heap.size = A at hD ⊢
  have hA : ∀ q : Nat, s.heap.size ≤ q → A q := fun q h => by rw [← hAe]; exact Or.inr h
  have hS : va_S A s.heap s.heap [] := va_S.rf
  have hP : va_P D vwCl [(mm, .inr (11, [.ref mm_now, .ref mm_kept, .ref mm_isKept, .ref mm_refused, .int mm_lineFrom, .int mm_lineTo, .ref mm_stands, .ref mm_far, .ref mm_queue, .int mm_queued, .ref mm_meets, .ref mm_bytes, .int (nI bl), .int (nI ta), .int (nI tl), .int mm_token, .int mm_value, .ref mm_next, .int (nI tk)])), (mm_refused, .inl (cy 1, 3, .inl mm_refused_f)), (mm_now, .inl (cy 1, 122, .inl mm_now_f))] s.heap := hP
  have hl := lv_entry ([.ref mm, .int px, .int py, .int pz]) (n := 4) (Nat.le_of_ble_eq_true rfl)
  rw [lg_entry_eq]
  generalize (lg_sl ([.ref mm, .int px, .int py, .int pz]) ++ List.replicate (4 - (lg_sl ([.ref mm, .int px, .int py, .int pz])).length) Slot.unset).toArray = ls at hl ⊢
  have hl : lv_has ls 4 [(0, .ref mm), (1, .int px), (2, .int py), (3, .int pz)] := hl
  refine qW (fun QF hQF => ?_)
  have z0_ := hts (.constantLong RX11 79 5) (by decide +kernel)
  have z1_ := hts (.constantLong RX11 81 9) (by decide +kernel)
  have z2_ := hts (.fieldLink RX11 7 "HeardSeenModel" "now" "[I") (by decide +kernel)
  have zi11_ : ∀ w ∈ u_ws RX11 TX11 19, w ∈ wsX11_person := by decide +kernel
  obtain ⟨mW, mH, mS, mP, hF⟩ := hN
  obtain ⟨hW2, hW6, hH2, hH6, hSe, hS4, hS6, hP5⟩ := hF.rng
  refine lv_iload_n hx hb dX11_person_0 rfl (lv_at hl 1 rfl) ?_
  refine lv_i2l hx hb dX11_person_1 rfl ?_
  refine lv_lconst (v := 0) hx hb dX11_person_2 (by decide) ?_
  refine lv_ldc2 hx hb hown z0_ dX11_person_3 ?_
  refine rd_i (va_runS (As := [.long px.toInt64, .long 0, .long 5]) (rest := []) ⟨hx, hb, hml, hown, hts⟩ (n_X11_in l D cy px.toInt64 (0) (5) _ ) (va_cwS 3 hts gX11_person_X11_in rfl rfl rfl (by decide +kernel) ⟨Nat.le_of_ble_eq_true rfl, Nat.le_of_ble_eq_true rfl⟩) (pS hKA pE (dE (A := A))) rfl rfl hl.1 rfl (lv_room (Nat.le_of_ble_eq_true rfl)) dX11_person_6 ⟨Nat.le_of_ble_eq_true rfl, Nat.le_of_ble_eq_true rfl⟩) hP hS hA (fun r1 H locs hwr1 hP hS => ?_)
  have hwr1 : (r1 = 1 ∧ ((0) ≤ px.toInt64 ∧ px.toInt64 ≤ (5))) ∨ (r1 = 0 ∧ (¬ ((0) ≤ px.toInt64 ∧ px.toInt64 ≤ (5)))) := hwr1
  refine lv_if_eq (tgt := 32) hx hb dX11_person_9 (by decide) (fun c2 => ?_) (fun c2 => ?_)
  · skip
    have hq3 := z_b0 hwr1 c2
    refine lv_aload_n hx hb dX11_person_32 rfl (lv_at hl 0 rfl) ?_
    refine lv_bipush (v := (-2)) hx hb dX11_person_33 (by decide) ?_
    refine wr_i (wr := [(mm_now, .inl (cy 1, 122, .inl mm_now_f))]) (va_runV (As := [.int (-2)]) (rest := []) ⟨hx, hb, hml, hown, hts⟩ (n_X11_bad l D cy mm mm_now mm_kept mm_isKept mm_refused mm_lineFrom mm_lineTo mm_stands mm_far mm_queue mm_queued mm_meets mm_bytes bl ta tl mm_token mm_value mm_next tk mm_refused_f (-2) _ ) (cwV 1 hts gX11_person_X11_bad rfl rfl rfl (by decide +kernel) ⟨Nat.le_of_ble_eq_true rfl, Nat.le_of_ble_eq_true rfl⟩) (pV (ci := 11) (k := 0) hKA (hP.sub (ws' := [(mm, .inr (11, [.ref mm_now, .ref mm_kept, .ref mm_isKept, .ref mm_refused, .int mm_lineFrom, .int mm_lineTo, .ref mm_stands, .ref mm_far, .ref mm_queue, .int mm_queued, .ref mm_meets, .ref mm_bytes, .int (nI bl), .int (nI ta), .int (nI tl), .int mm_token, .int mm_value, .ref mm_next, .int (nI tk)])), (mm_refused, .inl (cy 1, 3, .inl mm_refused_f))]) [0, 1] rfl) (hD.sub (ws' := [(mm, .inr (11, [.ref mm_now, .ref mm_kept, .ref mm_isKept, .ref mm_refused, .int mm_lineFrom, .int mm_lineTo, .ref mm_stands, .ref mm_far, .ref mm_queue, .int mm_queued, .ref mm_meets, .ref mm_bytes, .int (nI bl), .int (nI ta), .int (nI tl), .int mm_token, .int mm_value, .ref mm_next, .int (nI tk)])), (mm_refused, .inl (cy 1, 3, .inl mm_refused_f))]) [0, 1] (by decide) rfl) rfl rfl) rfl rfl hl.1 rfl (lv_room (Nat.le_of_ble_eq_true rfl)) dX11_person_35 ⟨Nat.le_of_ble_eq_true rfl, Nat.le_of_ble_eq_true rfl⟩) hP hD hS hA [0, 1] [2] rfl rfl (by decide +kernel) (by decide +kernel) (fun r4 ur4 H locs hwr4 hP hD hS => ?_)
    obtain ⟨z5, rfl⟩ : ∃ z, z = ur4 := ⟨_, rfl⟩
    have hP : va_P D vwCl [(mm_now, .inl (cy 1, 122, .inl mm_now_f)), (mm, .inr (11, [.ref mm_now, .ref mm_kept, .ref mm_isKept, .ref mm_refused, .int mm_lineFrom, .int mm_lineTo, .ref mm_stands, .ref mm_far, .ref mm_queue, .int mm_queued, .ref mm_meets, .ref mm_bytes, .int (nI bl), .int (nI ta), .int (nI tl), .int mm_token, .int mm_value, .ref mm_next, .int (nI tk)])), (mm_refused, .inl (cy 1, 3, .inl z5))] H := hP
    have hD : va_D A [(mm_now, .inl (cy 1, 122, .inl mm_now_f)), (mm, .inr (11, [.ref mm_now, .ref mm_kept, .ref mm_isKept, .ref mm_refused, .int mm_lineFrom, .int mm_lineTo, .ref mm_stands, .ref mm_far, .ref mm_queue, .int mm_queued, .ref mm_meets, .ref mm_bytes, .int (nI bl), .int (nI ta), .int (nI tl), .int mm_token, .int mm_value, .ref mm_next, .int (nI tk)])), (mm_refused, .inl (cy 1, 3, .inl z5))] := hD
    have hwr4 : r4 = (-2) := hwr4
    subst hwr4
    subst hQF
    have hP9 := hP.sub (ws' := [(mm, .inr (11, [.ref mm_now, .ref mm_kept, .ref mm_isKept, .ref mm_refused, .int mm_lineFrom, .int mm_lineTo, .ref mm_stands, .ref mm_far, .ref mm_queue, .int mm_queued, .ref mm_meets, .ref mm_bytes, .int (nI bl), .int (nI ta), .int (nI tl), .int mm_token, .int mm_value, .ref mm_next, .int (nI tk)])), (mm_refused, .inl (cy 1, 3, .inl z5)), (mm_now, .inl (cy 1, 122, .inl mm_now_f))]) [1, 2, 0] rfl
    have hD9 := hD.sub (ws' := [(mm, .inr (11, [.ref mm_now, .ref mm_kept, .ref mm_isKept, .ref mm_refused, .int mm_lineFrom, .int mm_lineTo, .ref mm_stands, .ref mm_far, .ref mm_queue, .int mm_queued, .ref mm_meets, .ref mm_bytes, .int (nI bl), .int (nI ta), .int (nI tl), .int mm_token, .int mm_value, .ref mm_next, .int (nI tk)])), (mm_refused, .inl (cy 1, 3, .inl z5)), (mm_now, .inl (cy 1, 122, .inl mm_now_f))]) [1, 2, 0] (by decide) rfl
    exact W.iret (v := (-2)) hx hb hr (fun t ht hW => ⟨⟨(-2), (z5, mm_now_f), rfl, ⟨_, _, _, _, hF⟩, by rw [ht]; exact hP9, hD9⟩, hS.F ht⟩) hS.2.2 dX11_person_38
  · skip
    obtain ⟨hp6, hp7⟩ := z_b1 hwr1 c2
    obtain ⟨j8, gj8, hj8, ej8⟩ := z_rng (lo := 0) (hi := 5) (by decide) (by decide) hp6 hp7
    refine lv_aload_n hx hb dX11_person_12 rfl (lv_at hl 0 rfl) ?_
    refine lv_iload_n hx hb dX11_person_13 rfl (lv_at hl 2 rfl) ?_
    refine rd_i (va_runV (As := [.int py]) (rest := []) ⟨hx, hb, hml, hown, hts⟩ (n_X11_isSquare l D cy mW mH mS mP mm mm_now mm_kept mm_isKept mm_refused mm_lineFrom mm_lineTo mm_stands mm_far mm_queue mm_queued mm_meets mm_bytes bl ta tl mm_token mm_value mm_next tk mm_now_f py _ (by first | assumption | omega)) (cwV 1 hts gX11_person_X11_isSquare rfl rfl rfl (by decide +kernel) ⟨Nat.le_of_ble_eq_true rfl, Nat.le_of_ble_eq_true rfl⟩) (pV (ci := 11) (k := 0) hKA (hP.sub (ws' := [(mm, .inr (11, [.ref mm_now, .ref mm_kept, .ref mm_isKept, .ref mm_refused, .int mm_lineFrom, .int mm_lineTo, .ref mm_stands, .ref mm_far, .ref mm_queue, .int mm_queued, .ref mm_meets, .ref mm_bytes, .int (nI bl), .int (nI ta), .int (nI tl), .int mm_token, .int mm_value, .ref mm_next, .int (nI tk)])), (mm_now, .inl (cy 1, 122, .inl mm_now_f))]) [0, 2] rfl) (hD.sub (ws' := [(mm, .inr (11, [.ref mm_now, .ref mm_kept, .ref mm_isKept, .ref mm_refused, .int mm_lineFrom, .int mm_lineTo, .ref mm_stands, .ref mm_far, .ref mm_queue, .int mm_queued, .ref mm_meets, .ref mm_bytes, .int (nI bl), .int (nI ta), .int (nI tl), .int mm_token, .int mm_value, .ref mm_next, .int (nI tk)])), (mm_now, .inl (cy 1, 122, .inl mm_now_f))]) [0, 2] (by decide) rfl) rfl rfl) rfl rfl hl.1 rfl (lv_room (Nat.le_of_ble_eq_true rfl)) dX11_person_14 ⟨Nat.le_of_ble_eq_true rfl, Nat.le_of_ble_eq_true rfl⟩) hP hS hA (fun r9 H locs hwr9 hP hS => ?_)
    have hwr9 : (r9 = 1 ∧ (∃ j : Nat, j < mS ∧ py = nI j)) ∨ (r9 = 0 ∧ True) := hwr9
    refine lv_if_eq (tgt := 32) hx hb dX11_person_17 (by decide) (fun c10 => ?_) (fun c10 => ?_)
    · skip
      refine lv_aload_n hx hb dX11_person_32 rfl (lv_at hl 0 rfl) ?_
      refine lv_bipush (v := (-2)) hx hb dX11_person_33 (by decide) ?_
      refine wr_i (wr := [(mm_now, .inl (cy 1, 122, .inl mm_now_f))]) (va_runV (As := [.int (-2)]) (rest := []) ⟨hx, hb, hml, hown, hts⟩ (n_X11_bad l D cy mm mm_now mm_kept mm_isKept mm_refused mm_lineFrom mm_lineTo mm_stands mm_far mm_queue mm_queued mm_meets mm_bytes bl ta tl mm_token mm_value mm_next tk mm_refused_f (-2) _ ) (cwV 1 hts gX11_person_X11_bad rfl rfl rfl (by decide +kernel) ⟨Nat.le_of_ble_eq_true rfl, Nat.le_of_ble_eq_true rfl⟩) (pV (ci := 11) (k := 0) hKA (hP.sub (ws' := [(mm, .inr (11, [.ref mm_now, .ref mm_kept, .ref mm_isKept, .ref mm_refused, .int mm_lineFrom, .int mm_lineTo, .ref mm_stands, .ref mm_far, .ref mm_queue, .int mm_queued, .ref mm_meets, .ref mm_bytes, .int (nI bl), .int (nI ta), .int (nI tl), .int mm_token, .int mm_value, .ref mm_next, .int (nI tk)])), (mm_refused, .inl (cy 1, 3, .inl mm_refused_f))]) [0, 1] rfl) (hD.sub (ws' := [(mm, .inr (11, [.ref mm_now, .ref mm_kept, .ref mm_isKept, .ref mm_refused, .int mm_lineFrom, .int mm_lineTo, .ref mm_stands, .ref mm_far, .ref mm_queue, .int mm_queued, .ref mm_meets, .ref mm_bytes, .int (nI bl), .int (nI ta), .int (nI tl), .int mm_token, .int mm_value, .ref mm_next, .int (nI tk)])), (mm_refused, .inl (cy 1, 3, .inl mm_refused_f))]) [0, 1] (by decide) rfl) rfl rfl) rfl rfl hl.1 rfl (lv_room (Nat.le_of_ble_eq_true rfl)) dX11_person_35 ⟨Nat.le_of_ble_eq_true rfl, Nat.le_of_ble_eq_true rfl⟩) hP hD hS hA [0, 1] [2] rfl rfl (by decide +kernel) (by decide +kernel) (fun r11 ur11 H locs hwr11 hP hD hS => ?_)
      obtain ⟨z12, rfl⟩ : ∃ z, z = ur11 := ⟨_, rfl⟩
      have hP : va_P D vwCl [(mm_now, .inl (cy 1, 122, .inl mm_now_f)), (mm, .inr (11, [.ref mm_now, .ref mm_kept, .ref mm_isKept, .ref mm_refused, .int mm_lineFrom, .int mm_lineTo, .ref mm_stands, .ref mm_far, .ref mm_queue, .int mm_queued, .ref mm_meets, .ref mm_bytes, .int (nI bl), .int (nI ta), .int (nI tl), .int mm_token, .int mm_value, .ref mm_next, .int (nI tk)])), (mm_refused, .inl (cy 1, 3, .inl z12))] H := hP
      have hD : va_D A [(mm_now, .inl (cy 1, 122, .inl mm_now_f)), (mm, .inr (11, [.ref mm_now, .ref mm_kept, .ref mm_isKept, .ref mm_refused, .int mm_lineFrom, .int mm_lineTo, .ref mm_stands, .ref mm_far, .ref mm_queue, .int mm_queued, .ref mm_meets, .ref mm_bytes, .int (nI bl), .int (nI ta), .int (nI tl), .int mm_token, .int mm_value, .ref mm_next, .int (nI tk)])), (mm_refused, .inl (cy 1, 3, .inl z12))] := hD
      have hwr11 : r11 = (-2) := hwr11
      subst hwr11
      subst hQF
      have hP9 := hP.sub (ws' := [(mm, .inr (11, [.ref mm_now, .ref mm_kept, .ref mm_isKept, .ref mm_refused, .int mm_lineFrom, .int mm_lineTo, .ref mm_stands, .ref mm_far, .ref mm_queue, .int mm_queued, .ref mm_meets, .ref mm_bytes, .int (nI bl), .int (nI ta), .int (nI tl), .int mm_token, .int mm_value, .ref mm_next, .int (nI tk)])), (mm_refused, .inl (cy 1, 3, .inl z12)), (mm_now, .inl (cy 1, 122, .inl mm_now_f))]) [1, 2, 0] rfl
      have hD9 := hD.sub (ws' := [(mm, .inr (11, [.ref mm_now, .ref mm_kept, .ref mm_isKept, .ref mm_refused, .int mm_lineFrom, .int mm_lineTo, .ref mm_stands, .ref mm_far, .ref mm_queue, .int mm_queued, .ref mm_meets, .ref mm_bytes, .int (nI bl), .int (nI ta), .int (nI tl), .int mm_token, .int mm_value, .ref mm_next, .int (nI tk)])), (mm_refused, .inl (cy 1, 3, .inl z12)), (mm_now, .inl (cy 1, 122, .inl mm_now_f))]) [1, 2, 0] (by decide) rfl
      exact W.iret (v := (-2)) hx hb hr (fun t ht hW => ⟨⟨(-2), (z12, mm_now_f), rfl, ⟨_, _, _, _, hF⟩, by rw [ht]; exact hP9, hD9⟩, hS.F ht⟩) hS.2.2 dX11_person_38
    · skip
      have hp13 := z_b1 hwr9 c10
      obtain ⟨j14, hj14, ej14⟩ := hp13
      refine lv_iload_n hx hb dX11_person_20 rfl (lv_at hl 3 rfl) ?_
      refine lv_i2l hx hb dX11_person_21 rfl ?_
      refine lv_lconst (v := 0) hx hb dX11_person_22 (by decide) ?_
      refine lv_ldc2 hx hb hown z1_ dX11_person_23 ?_
      refine rd_i (va_runS (As := [.long pz.toInt64, .long 0, .long 9]) (rest := []) ⟨hx, hb, hml, hown, hts⟩ (n_X11_in l D cy pz.toInt64 (0) (9) _ ) (va_cwS 3 hts gX11_person_X11_in rfl rfl rfl (by decide +kernel) ⟨Nat.le_of_ble_eq_true rfl, Nat.le_of_ble_eq_true rfl⟩) (pS hKA pE (dE (A := A))) rfl rfl hl.1 rfl (lv_room (Nat.le_of_ble_eq_true rfl)) dX11_person_26 ⟨Nat.le_of_ble_eq_true rfl, Nat.le_of_ble_eq_true rfl⟩) hP hS hA (fun r15 H locs hwr15 hP hS => ?_)
      have hwr15 : (r15 = 1 ∧ ((0) ≤ pz.toInt64 ∧ pz.toInt64 ≤ (9))) ∨ (r15 = 0 ∧ (¬ ((0) ≤ pz.toInt64 ∧ pz.toInt64 ≤ (9)))) := hwr15
      refine lv_if_ne (tgt := 39) hx hb dX11_person_29 (by decide) (fun c16 => ?_) (fun c16 => ?_)
      · skip
        obtain ⟨hp17, hp18⟩ := z_b1 hwr15 c16
        obtain ⟨j19, gj19, hj19, ej19⟩ := z_rng (lo := 0) (hi := 9) (by decide) (by decide) hp17 hp18
        refine lv_aload_n hx hb dX11_person_39 rfl (lv_at hl 0 rfl) ?_
        refine lv_iload_n hx hb dX11_person_40 rfl (lv_at hl 2 rfl) ?_
        refine W.eq (g2 := F0 m 41 ls [.int (nI j14), .ref mm]) (congrArg (fun v9 : Int32 => F0 m 41 ls [.int v9, .ref mm]) ej14) ?_
        refine lv_iconst (v := (-1)) hx hb dX11_person_41 (by decide) ?_
        refine rd_i (va_runV (As := [.int (nI j14), .int (-1)]) (rest := []) ⟨hx, hb, hml, hown, hts⟩ (n_X11_isFree l D cy mW mH mS mP mm mm_now mm_kept mm_isKept mm_refused mm_lineFrom mm_lineTo mm_stands mm_far mm_queue mm_queued mm_meets mm_bytes bl ta tl mm_token mm_value mm_next tk mm_now_f j14 (-1) _ (by first | assumption | omega) (by first | assumption | omega)) (cwV 2 hts gX11_person_X11_isFree rfl rfl rfl (by decide +kernel) ⟨Nat.le_of_ble_eq_true rfl, Nat.le_of_ble_eq_true rfl⟩) (pV (ci := 11) (k := 0) hKA (hP.sub (ws' := [(mm, .inr (11, [.ref mm_now, .ref mm_kept, .ref mm_isKept, .ref mm_refused, .int mm_lineFrom, .int mm_lineTo, .ref mm_stands, .ref mm_far, .ref mm_queue, .int mm_queued, .ref mm_meets, .ref mm_bytes, .int (nI bl), .int (nI ta), .int (nI tl), .int mm_token, .int mm_value, .ref mm_next, .int (nI tk)])), (mm_now, .inl (cy 1, 122, .inl mm_now_f))]) [0, 2] rfl) (hD.sub (ws' := [(mm, .inr (11, [.ref mm_now, .ref mm_kept, .ref mm_isKept, .ref mm_refused, .int mm_lineFrom, .int mm_lineTo, .ref mm_stands, .ref mm_far, .ref mm_queue, .int mm_queued, .ref mm_meets, .ref mm_bytes, .int (nI bl), .int (nI ta), .int (nI tl), .int mm_token, .int mm_value, .ref mm_next, .int (nI tk)])), (mm_now, .inl (cy 1, 122, .inl mm_now_f))]) [0, 2] (by decide) rfl) rfl rfl) rfl rfl hl.1 rfl (lv_room (Nat.le_of_ble_eq_true rfl)) dX11_person_42 ⟨Nat.le_of_ble_eq_true rfl, Nat.le_of_ble_eq_true rfl⟩) hP hS hA (fun r20 H locs hwr20 hP hS => ?_)
        have hwr20 : (r20 = 1 ∧ True) ∨ (r20 = 0 ∧ True) := hwr20
        refine lv_if_ne (tgt := 55) hx hb dX11_person_45 (by decide) (fun c21 => ?_) (fun c21 => ?_)
        · skip
          refine lv_aload_n hx hb dX11_person_55 rfl (lv_at hl 0 rfl) ?_
          refine rd_i (va_runV (As := []) (rest := []) ⟨hx, hb, hml, hown, hts⟩ (n_X11_people l D cy mW mH mS mP mm mm_now mm_kept mm_isKept mm_refused mm_lineFrom mm_lineTo mm_stands mm_far mm_queue mm_queued mm_meets mm_bytes bl ta tl mm_token mm_value mm_next tk mm_now_f _ (by first | assumption | omega)) (cwV 0 hts gX11_person_X11_people rfl rfl rfl (by decide +kernel) ⟨Nat.le_of_ble_eq_true rfl, Nat.le_of_ble_eq_true rfl⟩) (pV (ci := 11) (k := 0) hKA (hP.sub (ws' := [(mm, .inr (11, [.ref mm_now, .ref mm_kept, .ref mm_isKept, .ref mm_refused, .int mm_lineFrom, .int mm_lineTo, .ref mm_stands, .ref mm_far, .ref mm_queue, .int mm_queued, .ref mm_meets, .ref mm_bytes, .int (nI bl), .int (nI ta), .int (nI tl), .int mm_token, .int mm_value, .ref mm_next, .int (nI tk)])), (mm_now, .inl (cy 1, 122, .inl mm_now_f))]) [0, 2] rfl) (hD.sub (ws' := [(mm, .inr (11, [.ref mm_now, .ref mm_kept, .ref mm_isKept, .ref mm_refused, .int mm_lineFrom, .int mm_lineTo, .ref mm_stands, .ref mm_far, .ref mm_queue, .int mm_queued, .ref mm_meets, .ref mm_bytes, .int (nI bl), .int (nI ta), .int (nI tl), .int mm_token, .int mm_value, .ref mm_next, .int (nI tk)])), (mm_now, .inl (cy 1, 122, .inl mm_now_f))]) [0, 2] (by decide) rfl) rfl rfl) rfl rfl hl.1 rfl (lv_room (Nat.le_of_ble_eq_true rfl)) dX11_person_56 ⟨Nat.le_of_ble_eq_true rfl, Nat.le_of_ble_eq_true rfl⟩) hP hS hA (fun r22 H locs hwr22 hP hS => ?_)
          have hwr22 : r22 = nI mP := hwr22
          subst hwr22
          refine lv_iconst (v := 5) hx hb dX11_person_59 (by decide) ?_
          refine lv_icmp_ne (tgt := 68) hx hb dX11_person_60 (by decide) (fun c23 => ?_) (fun c23 => ?_)
          · skip
            have hp4 := ne5 (n := 5) rfl (by assumption) hP5
            refine lv_aload_n hx hb dX11_person_68 rfl (lv_at hl 0 rfl) ?_
            refine va_get (D := D) (ci := 11) (v := .ref mm_now) (C := RX11) (T := TX11) (N := 19) hx hb hts zi11_ hown hK hP 0 rfl rfl 0 (by decide) z2_ (fun _ h9 => h9) rfl dX11_person_69 ?_
            refine lv_iload_n hx hb dX11_person_72 rfl (lv_at hl 1 rfl) ?_
            refine W.eq (g2 := F0 m 73 ls [.int (nI j8), .ref mm_now]) (congrArg (fun v9 : Int32 => F0 m 73 ls [.int v9, .ref mm_now]) ej8) ?_
            refine lv_iload_n hx hb dX11_person_73 rfl (lv_at hl 2 rfl) ?_
            refine W.eq (g2 := F0 m 74 ls [.int (nI j14), .int (nI j8), .ref mm_now]) (congrArg (fun v9 : Int32 => F0 m 74 ls [.int v9, .int (nI j8), .ref mm_now]) ej14) ?_
            refine lv_iload_n hx hb dX11_person_74 rfl (lv_at hl 3 rfl) ?_
            refine W.eq (g2 := F0 m 75 ls [.int (nI j19), .int (nI j14), .int (nI j8), .ref mm_now]) (congrArg (fun v9 : Int32 => F0 m 75 ls [.int v9, .int (nI j14), .int (nI j8), .ref mm_now]) ej19) ?_
            refine wr_v (wr := [(mm, .inr (11, [.ref mm_now, .ref mm_kept, .ref mm_isKept, .ref mm_refused, .int mm_lineFrom, .int mm_lineTo, .ref mm_stands, .ref mm_far, .ref mm_queue, .int mm_queued, .ref mm_meets, .ref mm_bytes, .int (nI bl), .int (nI ta), .int (nI tl), .int mm_token, .int mm_value, .ref mm_next, .int (nI tk)])), (mm_refused, .inl (cy 1, 3, .inl mm_refused_f))]) (va_runS (As := [.ref mm_now, .int (nI j8), .int (nI j14), .int (nI j19)]) (rest := []) ⟨hx, hb, hml, hown, hts⟩ (n_X11_layPerson l D cy mW mH mS mP mm_now mm_now_f j8 j14 j19 _ (by first | assumption | omega) (by first | assumption | omega) (by first | assumption | omega) (by first | assumption | omega) (by first | assumption | omega)) (va_cwS 4 hts gX11_person_X11_layPerson rfl rfl rfl (by decide +kernel) ⟨Nat.le_of_ble_eq_true rfl, Nat.le_of_ble_eq_true rfl⟩) (pS hKA (hP.sub (ws' := [(mm_now, .inl (cy 1, 122, .inl mm_now_f))]) [2] rfl) (hD.sub (ws' := [(mm_now, .inl (cy 1, 122, .inl mm_now_f))]) [2] (by decide) rfl)) rfl rfl hl.1 rfl (lv_room (Nat.le_of_ble_eq_true rfl)) dX11_person_75 ⟨Nat.le_of_ble_eq_true rfl, Nat.le_of_ble_eq_true rfl⟩) hP hD hS hA [2] [0, 1] rfl rfl (by decide +kernel) (by decide +kernel) (fun ur24 H locs hwr24 hP hD hS => ?_)
            obtain ⟨z25, rfl⟩ : ∃ z, z = ur24 := ⟨_, rfl⟩
            have hP : va_P D vwCl [(mm, .inr (11, [.ref mm_now, .ref mm_kept, .ref mm_isKept, .ref mm_refused, .int mm_lineFrom, .int mm_lineTo, .ref mm_stands, .ref mm_far, .ref mm_queue, .int mm_queued, .ref mm_meets, .ref mm_bytes, .int (nI bl), .int (nI ta), .int (nI tl), .int mm_token, .int mm_value, .ref mm_next, .int (nI tk)])), (mm_refused, .inl (cy 1, 3, .inl mm_refused_f)), (mm_now, .inl (cy 1, 122, .inl z25))] H := hP
            have hD : va_D A [(mm, .inr (11, [.ref mm_now, .ref mm_kept, .ref mm_isKept, .ref mm_refused, .int mm_lineFrom, .int mm_lineTo, .ref mm_stands, .ref mm_far, .ref mm_queue, .int mm_queued, .ref mm_meets, .ref mm_bytes, .int (nI bl), .int (nI ta), .int (nI tl), .int mm_token, .int mm_value, .ref mm_next, .int (nI tk)])), (mm_refused, .inl (cy 1, 3, .inl mm_refused_f)), (mm_now, .inl (cy 1, 122, .inl z25))] := hD
            have hwr24 : mV z25 mW mH mS (mP + 1) := hwr24
            have hv26 := hwr24
            refine lv_aload_n hx hb dX11_person_78 rfl (lv_at hl 0 rfl) ?_
            refine rd_i (va_runV (As := []) (rest := []) ⟨hx, hb, hml, hown, hts⟩ (n_X11_people l D cy mW mH mS (mP + 1) mm mm_now mm_kept mm_isKept mm_refused mm_lineFrom mm_lineTo mm_stands mm_far mm_queue mm_queued mm_meets mm_bytes bl ta tl mm_token mm_value mm_next tk z25 _ (by first | assumption | omega)) (cwV 0 hts gX11_person_X11_people rfl rfl rfl (by decide +kernel) ⟨Nat.le_of_ble_eq_true rfl, Nat.le_of_ble_eq_true rfl⟩) (pV (ci := 11) (k := 0) hKA (hP.sub (ws' := [(mm, .inr (11, [.ref mm_now, .ref mm_kept, .ref mm_isKept, .ref mm_refused, .int mm_lineFrom, .int mm_lineTo, .ref mm_stands, .ref mm_far, .ref mm_queue, .int mm_queued, .ref mm_meets, .ref mm_bytes, .int (nI bl), .int (nI ta), .int (nI tl), .int mm_token, .int mm_value, .ref mm_next, .int (nI tk)])), (mm_now, .inl (cy 1, 122, .inl z25))]) [0, 2] rfl) (hD.sub (ws' := [(mm, .inr (11, [.ref mm_now, .ref mm_kept, .ref mm_isKept, .ref mm_refused, .int mm_lineFrom, .int mm_lineTo, .ref mm_stands, .ref mm_far, .ref mm_queue, .int mm_queued, .ref mm_meets, .ref mm_bytes, .int (nI bl), .int (nI ta), .int (nI tl), .int mm_token, .int mm_value, .ref mm_next, .int (nI tk)])), (mm_now, .inl (cy 1, 122, .inl z25))]) [0, 2] (by decide) rfl) rfl rfl) rfl rfl hl.1 rfl (lv_room (Nat.le_of_ble_eq_true rfl)) dX11_person_79 ⟨Nat.le_of_ble_eq_true rfl, Nat.le_of_ble_eq_true rfl⟩) hP hS hA (fun r27 H locs hwr27 hP hS => ?_)
            have hwr27 : r27 = nI (mP + 1) := hwr27
            subst hwr27
            refine lv_iconst (v := 1) hx hb dX11_person_82 (by decide) ?_
            refine lv_isub hx hb dX11_person_83 ?_
            subst hQF
            have hP9 := hP
            have hD9 := hD
            exact W.iret (v := (nI (mP + 1)) - 1) hx hb hr (fun t ht hW => ⟨⟨(nI (mP + 1)) - 1, (mm_refused_f, z25), rfl, ⟨_, _, _, _, hv26⟩, by rw [ht]; exact hP9, hD9⟩, hS.F ht⟩) hS.2.2 dX11_person_84
          · skip
            refine lv_aload_n hx hb dX11_person_63 rfl (lv_at hl 0 rfl) ?_
            refine wr_i (wr := [(mm_now, .inl (cy 1, 122, .inl mm_now_f))]) (va_runV (As := []) (rest := []) ⟨hx, hb, hml, hown, hts⟩ (n_X11_full l D cy mm mm_now mm_kept mm_isKept mm_refused mm_lineFrom mm_lineTo mm_stands mm_far mm_queue mm_queued mm_meets mm_bytes bl ta tl mm_token mm_value mm_next tk mm_refused_f _ ) (cwV 0 hts gX11_person_X11_full rfl rfl rfl (by decide +kernel) ⟨Nat.le_of_ble_eq_true rfl, Nat.le_of_ble_eq_true rfl⟩) (pV (ci := 11) (k := 0) hKA (hP.sub (ws' := [(mm, .inr (11, [.ref mm_now, .ref mm_kept, .ref mm_isKept, .ref mm_refused, .int mm_lineFrom, .int mm_lineTo, .ref mm_stands, .ref mm_far, .ref mm_queue, .int mm_queued, .ref mm_meets, .ref mm_bytes, .int (nI bl), .int (nI ta), .int (nI tl), .int mm_token, .int mm_value, .ref mm_next, .int (nI tk)])), (mm_refused, .inl (cy 1, 3, .inl mm_refused_f))]) [0, 1] rfl) (hD.sub (ws' := [(mm, .inr (11, [.ref mm_now, .ref mm_kept, .ref mm_isKept, .ref mm_refused, .int mm_lineFrom, .int mm_lineTo, .ref mm_stands, .ref mm_far, .ref mm_queue, .int mm_queued, .ref mm_meets, .ref mm_bytes, .int (nI bl), .int (nI ta), .int (nI tl), .int mm_token, .int mm_value, .ref mm_next, .int (nI tk)])), (mm_refused, .inl (cy 1, 3, .inl mm_refused_f))]) [0, 1] (by decide) rfl) rfl rfl) rfl rfl hl.1 rfl (lv_room (Nat.le_of_ble_eq_true rfl)) dX11_person_64 ⟨Nat.le_of_ble_eq_true rfl, Nat.le_of_ble_eq_true rfl⟩) hP hD hS hA [0, 1] [2] rfl rfl (by decide +kernel) (by decide +kernel) (fun r28 ur28 H locs hwr28 hP hD hS => ?_)
            obtain ⟨z29, rfl⟩ : ∃ z, z = ur28 := ⟨_, rfl⟩
            have hP : va_P D vwCl [(mm_now, .inl (cy 1, 122, .inl mm_now_f)), (mm, .inr (11, [.ref mm_now, .ref mm_kept, .ref mm_isKept, .ref mm_refused, .int mm_lineFrom, .int mm_lineTo, .ref mm_stands, .ref mm_far, .ref mm_queue, .int mm_queued, .ref mm_meets, .ref mm_bytes, .int (nI bl), .int (nI ta), .int (nI tl), .int mm_token, .int mm_value, .ref mm_next, .int (nI tk)])), (mm_refused, .inl (cy 1, 3, .inl z29))] H := hP
            have hD : va_D A [(mm_now, .inl (cy 1, 122, .inl mm_now_f)), (mm, .inr (11, [.ref mm_now, .ref mm_kept, .ref mm_isKept, .ref mm_refused, .int mm_lineFrom, .int mm_lineTo, .ref mm_stands, .ref mm_far, .ref mm_queue, .int mm_queued, .ref mm_meets, .ref mm_bytes, .int (nI bl), .int (nI ta), .int (nI tl), .int mm_token, .int mm_value, .ref mm_next, .int (nI tk)])), (mm_refused, .inl (cy 1, 3, .inl z29))] := hD
            have hwr28 : r28 = -4 := hwr28
            subst hwr28
            subst hQF
            have hP9 := hP.sub (ws' := [(mm, .inr (11, [.ref mm_now, .ref mm_kept, .ref mm_isKept, .ref mm_refused, .int mm_lineFrom, .int mm_lineTo, .ref mm_stands, .ref mm_far, .ref mm_queue, .int mm_queued, .ref mm_meets, .ref mm_bytes, .int (nI bl), .int (nI ta), .int (nI tl), .int mm_token, .int mm_value, .ref mm_next, .int (nI tk)])), (mm_refused, .inl (cy 1, 3, .inl z29)), (mm_now, .inl (cy 1, 122, .inl mm_now_f))]) [1, 2, 0] rfl
            have hD9 := hD.sub (ws' := [(mm, .inr (11, [.ref mm_now, .ref mm_kept, .ref mm_isKept, .ref mm_refused, .int mm_lineFrom, .int mm_lineTo, .ref mm_stands, .ref mm_far, .ref mm_queue, .int mm_queued, .ref mm_meets, .ref mm_bytes, .int (nI bl), .int (nI ta), .int (nI tl), .int mm_token, .int mm_value, .ref mm_next, .int (nI tk)])), (mm_refused, .inl (cy 1, 3, .inl z29)), (mm_now, .inl (cy 1, 122, .inl mm_now_f))]) [1, 2, 0] (by decide) rfl
            exact W.iret (v := (-4)) hx hb hr (fun t ht hW => ⟨⟨(-4), (z29, mm_now_f), rfl, ⟨_, _, _, _, hF⟩, by rw [ht]; exact hP9, hD9⟩, hS.F ht⟩) hS.2.2 dX11_person_67
        · skip
          refine lv_aload_n hx hb dX11_person_48 rfl (lv_at hl 0 rfl) ?_
          refine lv_bipush (v := (-3)) hx hb dX11_person_49 (by decide) ?_
          refine wr_i (wr := [(mm_now, .inl (cy 1, 122, .inl mm_now_f))]) (va_runV (As := [.int (-3)]) (rest := []) ⟨hx, hb, hml, hown, hts⟩ (n_X11_no l D cy mm mm_now mm_kept mm_isKept mm_refused mm_lineFrom mm_lineTo mm_stands mm_far mm_queue mm_queued mm_meets mm_bytes bl ta tl mm_token mm_value mm_next tk mm_refused_f (-3) _ ) (cwV 1 hts gX11_person_X11_no rfl rfl rfl (by decide +kernel) ⟨Nat.le_of_ble_eq_true rfl, Nat.le_of_ble_eq_true rfl⟩) (pV (ci := 11) (k := 0) hKA (hP.sub (ws' := [(mm, .inr (11, [.ref mm_now, .ref mm_kept, .ref mm_isKept, .ref mm_refused, .int mm_lineFrom, .int mm_lineTo, .ref mm_stands, .ref mm_far, .ref mm_queue, .int mm_queued, .ref mm_meets, .ref mm_bytes, .int (nI bl), .int (nI ta), .int (nI tl), .int mm_token, .int mm_value, .ref mm_next, .int (nI tk)])), (mm_refused, .inl (cy 1, 3, .inl mm_refused_f))]) [0, 1] rfl) (hD.sub (ws' := [(mm, .inr (11, [.ref mm_now, .ref mm_kept, .ref mm_isKept, .ref mm_refused, .int mm_lineFrom, .int mm_lineTo, .ref mm_stands, .ref mm_far, .ref mm_queue, .int mm_queued, .ref mm_meets, .ref mm_bytes, .int (nI bl), .int (nI ta), .int (nI tl), .int mm_token, .int mm_value, .ref mm_next, .int (nI tk)])), (mm_refused, .inl (cy 1, 3, .inl mm_refused_f))]) [0, 1] (by decide) rfl) rfl rfl) rfl rfl hl.1 rfl (lv_room (Nat.le_of_ble_eq_true rfl)) dX11_person_51 ⟨Nat.le_of_ble_eq_true rfl, Nat.le_of_ble_eq_true rfl⟩) hP hD hS hA [0, 1] [2] rfl rfl (by decide +kernel) (by decide +kernel) (fun r30 ur30 H locs hwr30 hP hD hS => ?_)
          obtain ⟨z31, rfl⟩ : ∃ z, z = ur30 := ⟨_, rfl⟩
          have hP : va_P D vwCl [(mm_now, .inl (cy 1, 122, .inl mm_now_f)), (mm, .inr (11, [.ref mm_now, .ref mm_kept, .ref mm_isKept, .ref mm_refused, .int mm_lineFrom, .int mm_lineTo, .ref mm_stands, .ref mm_far, .ref mm_queue, .int mm_queued, .ref mm_meets, .ref mm_bytes, .int (nI bl), .int (nI ta), .int (nI tl), .int mm_token, .int mm_value, .ref mm_next, .int (nI tk)])), (mm_refused, .inl (cy 1, 3, .inl z31))] H := hP
          have hD : va_D A [(mm_now, .inl (cy 1, 122, .inl mm_now_f)), (mm, .inr (11, [.ref mm_now, .ref mm_kept, .ref mm_isKept, .ref mm_refused, .int mm_lineFrom, .int mm_lineTo, .ref mm_stands, .ref mm_far, .ref mm_queue, .int mm_queued, .ref mm_meets, .ref mm_bytes, .int (nI bl), .int (nI ta), .int (nI tl), .int mm_token, .int mm_value, .ref mm_next, .int (nI tk)])), (mm_refused, .inl (cy 1, 3, .inl z31))] := hD
          have hwr30 : r30 = (-3) := hwr30
          subst hwr30
          subst hQF
          have hP9 := hP.sub (ws' := [(mm, .inr (11, [.ref mm_now, .ref mm_kept, .ref mm_isKept, .ref mm_refused, .int mm_lineFrom, .int mm_lineTo, .ref mm_stands, .ref mm_far, .ref mm_queue, .int mm_queued, .ref mm_meets, .ref mm_bytes, .int (nI bl), .int (nI ta), .int (nI tl), .int mm_token, .int mm_value, .ref mm_next, .int (nI tk)])), (mm_refused, .inl (cy 1, 3, .inl z31)), (mm_now, .inl (cy 1, 122, .inl mm_now_f))]) [1, 2, 0] rfl
          have hD9 := hD.sub (ws' := [(mm, .inr (11, [.ref mm_now, .ref mm_kept, .ref mm_isKept, .ref mm_refused, .int mm_lineFrom, .int mm_lineTo, .ref mm_stands, .ref mm_far, .ref mm_queue, .int mm_queued, .ref mm_meets, .ref mm_bytes, .int (nI bl), .int (nI ta), .int (nI tl), .int mm_token, .int mm_value, .ref mm_next, .int (nI tk)])), (mm_refused, .inl (cy 1, 3, .inl z31)), (mm_now, .inl (cy 1, 122, .inl mm_now_f))]) [1, 2, 0] (by decide) rfl
          exact W.iret (v := (-3)) hx hb hr (fun t ht hW => ⟨⟨(-3), (z31, mm_now_f), rfl, ⟨_, _, _, _, hF⟩, by rw [ht]; exact hP9, hD9⟩, hS.F ht⟩) hS.2.2 dX11_person_54
      · skip
        have hq32 := z_b0 hwr15 c16
        refine lv_aload_n hx hb dX11_person_32 rfl (lv_at hl 0 rfl) ?_
        refine lv_bipush (v := (-2)) hx hb dX11_person_33 (by decide) ?_
        refine wr_i (wr := [(mm_now, .inl (cy 1, 122, .inl mm_now_f))]) (va_runV (As := [.int (-2)]) (rest := []) ⟨hx, hb, hml, hown, hts⟩ (n_X11_bad l D cy mm mm_now mm_kept mm_isKept mm_refused mm_lineFrom mm_lineTo mm_stands mm_far mm_queue mm_queued mm_meets mm_bytes bl ta tl mm_token mm_value mm_next tk mm_refused_f (-2) _ ) (cwV 1 hts gX11_person_X11_bad rfl rfl rfl (by decide +kernel) ⟨Nat.le_of_ble_eq_true rfl, Nat.le_of_ble_eq_true rfl⟩) (pV (ci := 11) (k := 0) hKA (hP.sub (ws' := [(mm, .inr (11, [.ref mm_now, .ref mm_kept, .ref mm_isKept, .ref mm_refused, .int mm_lineFrom, .int mm_lineTo, .ref mm_stands, .ref mm_far, .ref mm_queue, .int mm_queued, .ref mm_meets, .ref mm_bytes, .int (nI bl), .int (nI ta), .int (nI tl), .int mm_token, .int mm_value, .ref mm_next, .int (nI tk)])), (mm_refused, .inl (cy 1, 3, .inl mm_refused_f))]) [0, 1] rfl) (hD.sub (ws' := [(mm, .inr (11, [.ref mm_now, .ref mm_kept, .ref mm_isKept, .ref mm_refused, .int mm_lineFrom, .int mm_lineTo, .ref mm_stands, .ref mm_far, .ref mm_queue, .int mm_queued, .ref mm_meets, .ref mm_bytes, .int (nI bl), .int (nI ta), .int (nI tl), .int mm_token, .int mm_value, .ref mm_next, .int (nI tk)])), (mm_refused, .inl (cy 1, 3, .inl mm_refused_f))]) [0, 1] (by decide) rfl) rfl rfl) rfl rfl hl.1 rfl (lv_room (Nat.le_of_ble_eq_true rfl)) dX11_person_35 ⟨Nat.le_of_ble_eq_true rfl, Nat.le_of_ble_eq_true rfl⟩) hP hD hS hA [0, 1] [2] rfl rfl (by decide +kernel) (by decide +kernel) (fun r33 ur33 H locs hwr33 hP hD hS => ?_)
        obtain ⟨z34, rfl⟩ : ∃ z, z = ur33 := ⟨_, rfl⟩
        have hP : va_P D vwCl [(mm_now, .inl (cy 1, 122, .inl mm_now_f)), (mm, .inr (11, [.ref mm_now, .ref mm_kept, .ref mm_isKept, .ref mm_refused, .int mm_lineFrom, .int mm_lineTo, .ref mm_stands, .ref mm_far, .ref mm_queue, .int mm_queued, .ref mm_meets, .ref mm_bytes, .int (nI bl), .int (nI ta), .int (nI tl), .int mm_token, .int mm_value, .ref mm_next, .int (nI tk)])), (mm_refused, .inl (cy 1, 3, .inl z34))] H := hP
        have hD : va_D A [(mm_now, .inl (cy 1, 122, .inl mm_now_f)), (mm, .inr (11, [.ref mm_now, .ref mm_kept, .ref mm_isKept, .ref mm_refused, .int mm_lineFrom, .int mm_lineTo, .ref mm_stands, .ref mm_far, .ref mm_queue, .int mm_queued, .ref mm_meets, .ref mm_bytes, .int (nI bl), .int (nI ta), .int (nI tl), .int mm_token, .int mm_value, .ref mm_next, .int (nI tk)])), (mm_refused, .inl (cy 1, 3, .inl z34))] := hD
        have hwr33 : r33 = (-2) := hwr33
        subst hwr33
        subst hQF
        have hP9 := hP.sub (ws' := [(mm, .inr (11, [.ref mm_now, .ref mm_kept, .ref mm_isKept, .ref mm_refused, .int mm_lineFrom, .int mm_lineTo, .ref mm_stands, .ref mm_far, .ref mm_queue, .int mm_queued, .ref mm_meets, .ref mm_bytes, .int (nI bl), .int (nI ta), .int (nI tl), .int mm_token, .int mm_value, .ref mm_next, .int (nI tk)])), (mm_refused, .inl (cy 1, 3, .inl z34)), (mm_now, .inl (cy 1, 122, .inl mm_now_f))]) [1, 2, 0] rfl
        have hD9 := hD.sub (ws' := [(mm, .inr (11, [.ref mm_now, .ref mm_kept, .ref mm_isKept, .ref mm_refused, .int mm_lineFrom, .int mm_lineTo, .ref mm_stands, .ref mm_far, .ref mm_queue, .int mm_queued, .ref mm_meets, .ref mm_bytes, .int (nI bl), .int (nI ta), .int (nI tl), .int mm_token, .int mm_value, .ref mm_next, .int (nI tk)])), (mm_refused, .inl (cy 1, 3, .inl z34)), (mm_now, .inl (cy 1, 122, .inl mm_now_f))]) [1, 2, 0] (by decide) rfl
        exact W.iret (v := (-2)) hx hb hr (fun t ht hW => ⟨⟨(-2), (z34, mm_now_f), rfl, ⟨_, _, _, _, hF⟩, by rw [ht]; exact hP9, hD9⟩, hS.F ht⟩) hS.2.2 dX11_person_38

set_option maxHeartbeats 4000000 in
set_option maxRecDepth 100000 in
theorem n_X11_move (l : Launch) (D : va_G) (cy : Nat → ClassId) (mm : Nat) (mm_now : Nat) (mm_kept : Nat) (mm_isKept : Nat) (mm_refused : Nat) (mm_lineFrom : Int32) (mm_lineTo : Int32) (mm_stands : Nat) (mm_far : Nat) (mm_queue : Nat) (mm_queued : Int32) (mm_meets : Nat) (mm_bytes : Nat) (bl : Nat) (ta : Nat) (tl : Nat) (mm_token : Int32) (mm_value : Int32) (mm_next : Nat) (tk : Nat) (mm_now_f : Nat → Int32) (mm_refused_f : Nat → Int32) (px : Int32) (py : Int32) (sz : Nat) (hN : mN mm_now_f) : Met l yX11_move wsX11_move ({ frames := 2, cells := 0, slots := 0, locals := 46 }) (va_Pc [.ref mm, .int px, .int py] (kPre D cy [(mm, .inr (11, [.ref mm_now, .ref mm_kept, .ref mm_isKept, .ref mm_refused, .int mm_lineFrom, .int mm_lineTo, .ref mm_stands, .ref mm_far, .ref mm_queue, .int mm_queued, .ref mm_meets, .ref mm_bytes, .int (nI bl), .int (nI ta), .int (nI tl), .int mm_token, .int mm_value, .ref mm_next, .int (nI tk)])), (mm_now, .inl (cy 1, 122, .inl mm_now_f)), (mm_refused, .inl (cy 1, 3, .inl mm_refused_f))] sz)) (va_Qi (fun (r : Int32) (u : (Nat → Int32) × (Nat → Int32)) => mN u.1) (fun (u : (Nat → Int32) × (Nat → Int32)) t => va_P D vwCl ([(mm, .inr (11, [.ref mm_now, .ref mm_kept, .ref mm_isKept, .ref mm_refused, .int mm_lineFrom, .int mm_lineTo, .ref mm_stands, .ref mm_far, .ref mm_queue, .int mm_queued, .ref mm_meets, .ref mm_bytes, .int (nI bl), .int (nI ta), .int (nI tl), .int mm_token, .int mm_value, .ref mm_next, .int (nI tk)])), (mm_now, .inl (cy 1, 122, .inl u.1)), (mm_refused, .inl (cy 1, 3, .inl u.2))]) t.heap ∧ va_D (va_A [(mm, .inr (11, [.ref mm_now, .ref mm_kept, .ref mm_isKept, .ref mm_refused, .int mm_lineFrom, .int mm_lineTo, .ref mm_stands, .ref mm_far, .ref mm_queue, .int mm_queued, .ref mm_meets, .ref mm_bytes, .int (nI bl), .int (nI ta), .int (nI tl), .int mm_token, .int mm_value, .ref mm_next, .int (nI tk)])), (mm_now, .inl (cy 1, 122, .inl mm_now_f)), (mm_refused, .inl (cy 1, 3, .inl mm_refused_f))] sz) ([(mm, .inr (11, [.ref mm_now, .ref mm_kept, .ref mm_isKept, .ref mm_refused, .int mm_lineFrom, .int mm_lineTo, .ref mm_stands, .ref mm_far, .ref mm_queue, .int mm_queued, .ref mm_meets, .ref mm_bytes, .int (nI bl), .int (nI ta), .int (nI tl), .int mm_token, .int mm_value, .ref mm_next, .int (nI tk)])), (mm_now, .inl (cy 1, 122, .inl u.1)), (mm_refused, .inl (cy 1, 3, .inl u.2))])) (va_A [(mm, .inr (11, [.ref mm_now, .ref mm_kept, .ref mm_isKept, .ref mm_refused, .int mm_lineFrom, .int mm_lineTo, .ref mm_stands, .ref mm_far, .ref mm_queue, .int mm_queued, .ref mm_meets, .ref mm_bytes, .int (nI bl), .int (nI ta), .int (nI tl), .int mm_token, .int mm_value, .ref mm_next, .int (nI tk)])), (mm_now, .inl (cy 1, 122, .inl mm_now_f)), (mm_refused, .inl (cy 1, 3, .inl mm_refused_f))] sz)) 0 0 (va_A [(mm, .inr (11, [.ref mm_now, .ref mm_kept, .ref mm_isKept, .ref mm_refused, .int mm_lineFrom, .int mm_lineTo, .ref mm_stands, .ref mm_far, .ref mm_queue, .int mm_queued, .ref mm_meets, .ref mm_bytes, .int (nI bl), .int (nI ta), .int (nI tl), .int mm_token, .int mm_value, .ref mm_next, .int (nI tk)])), (mm_now, .inl (cy 1, 122, .inl mm_now_f)), (mm_refused, .inl (cy 1, 3, .inl mm_refused_f))] sz) := by
  refine Met.ofW (cc := cX11_move) (maxL := 4) (ret := (some .int)) (by decide) rfl ?_
  intro p e s m args below meth c s₁ B hml hv
  obtain ⟨rfl, hsz, hP, hKA, hD0⟩ := hv
  have hx := B.exec
  have hb := B.bytes
  have hr := B.returns
  have hts := atoms_spec (ws := wsX11_move) B.pre
  have hown : s.vm.findClass RX11 = some m.cls := findClass_of_methodNamed B.named
  have hlocks := B.notSynchronized
  subst hsz
  have hK := hKA.1
  have hD := hD0.self (sz := s.heap.size)
  generalize hAe : va_A [(mm, .inr (11, [.ref mm_now, .ref mm_kept, .ref mm_isKept, .ref mm_refused, .int mm_lineFrom, .int mm_lineTo, .ref mm_stands, .ref mm_far, .ref mm_queue, .int mm_queued, .ref mm_meets, .ref mm_bytes, .int (nI bl), .int (nI ta), .int (nI tl), .int mm_token, .int mm_value, .ref mm_next, .int (nI tk)])), (mm_now, .inl (cy 1, 122, .inl mm_now_f)), (mm_refused, .inl (cy 1, 3, .inl mm_refused_f))] s.heap.size = A at hD ⊢
  have hA : ∀ q : Nat, s.heap.size ≤ q → A q := fun q h => by rw [← hAe]; exact Or.inr h
  have hS : va_S A s.heap s.heap [] := va_S.rf
  have hP : va_P D vwCl [(mm, .inr (11, [.ref mm_now, .ref mm_kept, .ref mm_isKept, .ref mm_refused, .int mm_lineFrom, .int mm_lineTo, .ref mm_stands, .ref mm_far, .ref mm_queue, .int mm_queued, .ref mm_meets, .ref mm_bytes, .int (nI bl), .int (nI ta), .int (nI tl), .int mm_token, .int mm_value, .ref mm_next, .int (nI tk)])), (mm_now, .inl (cy 1, 122, .inl mm_now_f)), (mm_refused, .inl (cy 1, 3, .inl mm_refused_f))] s.heap := hP
  have hl := lv_entry ([.ref mm, .int px, .int py]) (n := 4) (Nat.le_of_ble_eq_true rfl)
  rw [lg_entry_eq]
  generalize (lg_sl ([.ref mm, .int px, .int py]) ++ List.replicate (4 - (lg_sl ([.ref mm, .int px, .int py])).length) Slot.unset).toArray = ls at hl ⊢
  have hl : lv_has ls 4 [(0, .ref mm), (1, .int px), (2, .int py)] := hl
  refine qW (fun QF hQF => ?_)
  obtain ⟨mW, mH, mS, mP, hF⟩ := hN
  obtain ⟨hW2, hW6, hH2, hH6, hSe, hS4, hS6, hP5⟩ := hF.rng
  refine lv_aload_n hx hb dX11_move_0 rfl (lv_at hl 0 rfl) ?_
  refine lv_iload_n hx hb dX11_move_1 rfl (lv_at hl 1 rfl) ?_
  refine rd_i (va_runV (As := [.int px]) (rest := []) ⟨hx, hb, hml, hown, hts⟩ (n_X11_isOne l D cy mW mH mS mP mm mm_now mm_kept mm_isKept mm_refused mm_lineFrom mm_lineTo mm_stands mm_far mm_queue mm_queued mm_meets mm_bytes bl ta tl mm_token mm_value mm_next tk mm_now_f px _ (by first | assumption | omega)) (cwV 1 hts gX11_move_X11_isOne rfl rfl rfl (by decide +kernel) ⟨Nat.le_of_ble_eq_true rfl, Nat.le_of_ble_eq_true rfl⟩) (pV (ci := 11) (k := 0) hKA (hP.sub (ws' := [(mm, .inr (11, [.ref mm_now, .ref mm_kept, .ref mm_isKept, .ref mm_refused, .int mm_lineFrom, .int mm_lineTo, .ref mm_stands, .ref mm_far, .ref mm_queue, .int mm_queued, .ref mm_meets, .ref mm_bytes, .int (nI bl), .int (nI ta), .int (nI tl), .int mm_token, .int mm_value, .ref mm_next, .int (nI tk)])), (mm_now, .inl (cy 1, 122, .inl mm_now_f))]) [0, 1] rfl) (hD.sub (ws' := [(mm, .inr (11, [.ref mm_now, .ref mm_kept, .ref mm_isKept, .ref mm_refused, .int mm_lineFrom, .int mm_lineTo, .ref mm_stands, .ref mm_far, .ref mm_queue, .int mm_queued, .ref mm_meets, .ref mm_bytes, .int (nI bl), .int (nI ta), .int (nI tl), .int mm_token, .int mm_value, .ref mm_next, .int (nI tk)])), (mm_now, .inl (cy 1, 122, .inl mm_now_f))]) [0, 1] (by decide) rfl) rfl rfl) rfl rfl hl.1 rfl (lv_room (Nat.le_of_ble_eq_true rfl)) dX11_move_2 ⟨Nat.le_of_ble_eq_true rfl, Nat.le_of_ble_eq_true rfl⟩) hP hS hA (fun r1 H locs hwr1 hP hS => ?_)
  have hwr1 : (r1 = 1 ∧ (∃ j : Nat, j < mP ∧ px = nI j)) ∨ (r1 = 0 ∧ True) := hwr1
  refine lv_if_eq (tgt := 16) hx hb dX11_move_5 (by decide) (fun c2 => ?_) (fun c2 => ?_)
  · skip
    refine lv_aload_n hx hb dX11_move_16 rfl (lv_at hl 0 rfl) ?_
    refine lv_bipush (v := (-10)) hx hb dX11_move_17 (by decide) ?_
    refine wr_i (wr := [(mm_now, .inl (cy 1, 122, .inl mm_now_f))]) (va_runV (As := [.int (-10)]) (rest := []) ⟨hx, hb, hml, hown, hts⟩ (n_X11_bad l D cy mm mm_now mm_kept mm_isKept mm_refused mm_lineFrom mm_lineTo mm_stands mm_far mm_queue mm_queued mm_meets mm_bytes bl ta tl mm_token mm_value mm_next tk mm_refused_f (-10) _ ) (cwV 1 hts gX11_move_X11_bad rfl rfl rfl (by decide +kernel) ⟨Nat.le_of_ble_eq_true rfl, Nat.le_of_ble_eq_true rfl⟩) (pV (ci := 11) (k := 0) hKA (hP.sub (ws' := [(mm, .inr (11, [.ref mm_now, .ref mm_kept, .ref mm_isKept, .ref mm_refused, .int mm_lineFrom, .int mm_lineTo, .ref mm_stands, .ref mm_far, .ref mm_queue, .int mm_queued, .ref mm_meets, .ref mm_bytes, .int (nI bl), .int (nI ta), .int (nI tl), .int mm_token, .int mm_value, .ref mm_next, .int (nI tk)])), (mm_refused, .inl (cy 1, 3, .inl mm_refused_f))]) [0, 2] rfl) (hD.sub (ws' := [(mm, .inr (11, [.ref mm_now, .ref mm_kept, .ref mm_isKept, .ref mm_refused, .int mm_lineFrom, .int mm_lineTo, .ref mm_stands, .ref mm_far, .ref mm_queue, .int mm_queued, .ref mm_meets, .ref mm_bytes, .int (nI bl), .int (nI ta), .int (nI tl), .int mm_token, .int mm_value, .ref mm_next, .int (nI tk)])), (mm_refused, .inl (cy 1, 3, .inl mm_refused_f))]) [0, 2] (by decide) rfl) rfl rfl) rfl rfl hl.1 rfl (lv_room (Nat.le_of_ble_eq_true rfl)) dX11_move_19 ⟨Nat.le_of_ble_eq_true rfl, Nat.le_of_ble_eq_true rfl⟩) hP hD hS hA [0, 2] [1] rfl rfl (by decide +kernel) (by decide +kernel) (fun r3 ur3 H locs hwr3 hP hD hS => ?_)
    obtain ⟨z4, rfl⟩ : ∃ z, z = ur3 := ⟨_, rfl⟩
    have hP : va_P D vwCl [(mm_now, .inl (cy 1, 122, .inl mm_now_f)), (mm, .inr (11, [.ref mm_now, .ref mm_kept, .ref mm_isKept, .ref mm_refused, .int mm_lineFrom, .int mm_lineTo, .ref mm_stands, .ref mm_far, .ref mm_queue, .int mm_queued, .ref mm_meets, .ref mm_bytes, .int (nI bl), .int (nI ta), .int (nI tl), .int mm_token, .int mm_value, .ref mm_next, .int (nI tk)])), (mm_refused, .inl (cy 1, 3, .inl z4))] H := hP
    have hD : va_D A [(mm_now, .inl (cy 1, 122, .inl mm_now_f)), (mm, .inr (11, [.ref mm_now, .ref mm_kept, .ref mm_isKept, .ref mm_refused, .int mm_lineFrom, .int mm_lineTo, .ref mm_stands, .ref mm_far, .ref mm_queue, .int mm_queued, .ref mm_meets, .ref mm_bytes, .int (nI bl), .int (nI ta), .int (nI tl), .int mm_token, .int mm_value, .ref mm_next, .int (nI tk)])), (mm_refused, .inl (cy 1, 3, .inl z4))] := hD
    have hwr3 : r3 = (-10) := hwr3
    subst hwr3
    subst hQF
    have hP9 := hP.sub (ws' := [(mm, .inr (11, [.ref mm_now, .ref mm_kept, .ref mm_isKept, .ref mm_refused, .int mm_lineFrom, .int mm_lineTo, .ref mm_stands, .ref mm_far, .ref mm_queue, .int mm_queued, .ref mm_meets, .ref mm_bytes, .int (nI bl), .int (nI ta), .int (nI tl), .int mm_token, .int mm_value, .ref mm_next, .int (nI tk)])), (mm_now, .inl (cy 1, 122, .inl mm_now_f)), (mm_refused, .inl (cy 1, 3, .inl z4))]) [1, 0, 2] rfl
    have hD9 := hD.sub (ws' := [(mm, .inr (11, [.ref mm_now, .ref mm_kept, .ref mm_isKept, .ref mm_refused, .int mm_lineFrom, .int mm_lineTo, .ref mm_stands, .ref mm_far, .ref mm_queue, .int mm_queued, .ref mm_meets, .ref mm_bytes, .int (nI bl), .int (nI ta), .int (nI tl), .int mm_token, .int mm_value, .ref mm_next, .int (nI tk)])), (mm_now, .inl (cy 1, 122, .inl mm_now_f)), (mm_refused, .inl (cy 1, 3, .inl z4))]) [1, 0, 2] (by decide) rfl
    exact W.iret (v := (-10)) hx hb hr (fun t ht hW => ⟨⟨(-10), (mm_now_f, z4), rfl, ⟨_, _, _, _, hF⟩, by rw [ht]; exact hP9, hD9⟩, hS.F ht⟩) hS.2.2 dX11_move_22
  · skip
    have hp5 := z_b1 hwr1 c2
    obtain ⟨j6, hj6, ej6⟩ := hp5
    refine lv_aload_n hx hb dX11_move_8 rfl (lv_at hl 0 rfl) ?_
    refine lv_iload_n hx hb dX11_move_9 rfl (lv_at hl 2 rfl) ?_
    refine rd_i (va_runV (As := [.int py]) (rest := []) ⟨hx, hb, hml, hown, hts⟩ (n_X11_isSquare l D cy mW mH mS mP mm mm_now mm_kept mm_isKept mm_refused mm_lineFrom mm_lineTo mm_stands mm_far mm_queue mm_queued mm_meets mm_bytes bl ta tl mm_token mm_value mm_next tk mm_now_f py _ (by first | assumption | omega)) (cwV 1 hts gX11_move_X11_isSquare rfl rfl rfl (by decide +kernel) ⟨Nat.le_of_ble_eq_true rfl, Nat.le_of_ble_eq_true rfl⟩) (pV (ci := 11) (k := 0) hKA (hP.sub (ws' := [(mm, .inr (11, [.ref mm_now, .ref mm_kept, .ref mm_isKept, .ref mm_refused, .int mm_lineFrom, .int mm_lineTo, .ref mm_stands, .ref mm_far, .ref mm_queue, .int mm_queued, .ref mm_meets, .ref mm_bytes, .int (nI bl), .int (nI ta), .int (nI tl), .int mm_token, .int mm_value, .ref mm_next, .int (nI tk)])), (mm_now, .inl (cy 1, 122, .inl mm_now_f))]) [0, 1] rfl) (hD.sub (ws' := [(mm, .inr (11, [.ref mm_now, .ref mm_kept, .ref mm_isKept, .ref mm_refused, .int mm_lineFrom, .int mm_lineTo, .ref mm_stands, .ref mm_far, .ref mm_queue, .int mm_queued, .ref mm_meets, .ref mm_bytes, .int (nI bl), .int (nI ta), .int (nI tl), .int mm_token, .int mm_value, .ref mm_next, .int (nI tk)])), (mm_now, .inl (cy 1, 122, .inl mm_now_f))]) [0, 1] (by decide) rfl) rfl rfl) rfl rfl hl.1 rfl (lv_room (Nat.le_of_ble_eq_true rfl)) dX11_move_10 ⟨Nat.le_of_ble_eq_true rfl, Nat.le_of_ble_eq_true rfl⟩) hP hS hA (fun r7 H locs hwr7 hP hS => ?_)
    have hwr7 : (r7 = 1 ∧ (∃ j : Nat, j < mS ∧ py = nI j)) ∨ (r7 = 0 ∧ True) := hwr7
    refine lv_if_ne (tgt := 23) hx hb dX11_move_13 (by decide) (fun c8 => ?_) (fun c8 => ?_)
    · skip
      have hp9 := z_b1 hwr7 c8
      obtain ⟨j10, hj10, ej10⟩ := hp9
      refine lv_aload_n hx hb dX11_move_23 rfl (lv_at hl 0 rfl) ?_
      refine lv_iload_n hx hb dX11_move_24 rfl (lv_at hl 2 rfl) ?_
      refine W.eq (g2 := F0 m 25 ls [.int (nI j10), .ref mm]) (congrArg (fun v9 : Int32 => F0 m 25 ls [.int v9, .ref mm]) ej10) ?_
      refine lv_iload_n hx hb dX11_move_25 rfl (lv_at hl 1 rfl) ?_
      refine W.eq (g2 := F0 m 26 ls [.int (nI j6), .int (nI j10), .ref mm]) (congrArg (fun v9 : Int32 => F0 m 26 ls [.int v9, .int (nI j10), .ref mm]) ej6) ?_
      refine rd_i (va_runV (As := [.int (nI j10), .int (nI j6)]) (rest := []) ⟨hx, hb, hml, hown, hts⟩ (n_X11_isFree l D cy mW mH mS mP mm mm_now mm_kept mm_isKept mm_refused mm_lineFrom mm_lineTo mm_stands mm_far mm_queue mm_queued mm_meets mm_bytes bl ta tl mm_token mm_value mm_next tk mm_now_f j10 (nI j6) _ (by first | assumption | omega) (by first | assumption | omega)) (cwV 2 hts gX11_move_X11_isFree rfl rfl rfl (by decide +kernel) ⟨Nat.le_of_ble_eq_true rfl, Nat.le_of_ble_eq_true rfl⟩) (pV (ci := 11) (k := 0) hKA (hP.sub (ws' := [(mm, .inr (11, [.ref mm_now, .ref mm_kept, .ref mm_isKept, .ref mm_refused, .int mm_lineFrom, .int mm_lineTo, .ref mm_stands, .ref mm_far, .ref mm_queue, .int mm_queued, .ref mm_meets, .ref mm_bytes, .int (nI bl), .int (nI ta), .int (nI tl), .int mm_token, .int mm_value, .ref mm_next, .int (nI tk)])), (mm_now, .inl (cy 1, 122, .inl mm_now_f))]) [0, 1] rfl) (hD.sub (ws' := [(mm, .inr (11, [.ref mm_now, .ref mm_kept, .ref mm_isKept, .ref mm_refused, .int mm_lineFrom, .int mm_lineTo, .ref mm_stands, .ref mm_far, .ref mm_queue, .int mm_queued, .ref mm_meets, .ref mm_bytes, .int (nI bl), .int (nI ta), .int (nI tl), .int mm_token, .int mm_value, .ref mm_next, .int (nI tk)])), (mm_now, .inl (cy 1, 122, .inl mm_now_f))]) [0, 1] (by decide) rfl) rfl rfl) rfl rfl hl.1 rfl (lv_room (Nat.le_of_ble_eq_true rfl)) dX11_move_26 ⟨Nat.le_of_ble_eq_true rfl, Nat.le_of_ble_eq_true rfl⟩) hP hS hA (fun r11 H locs hwr11 hP hS => ?_)
      have hwr11 : (r11 = 1 ∧ True) ∨ (r11 = 0 ∧ True) := hwr11
      refine lv_if_ne (tgt := 39) hx hb dX11_move_29 (by decide) (fun c12 => ?_) (fun c12 => ?_)
      · skip
        refine lv_aload_n hx hb dX11_move_39 rfl (lv_at hl 0 rfl) ?_
        refine lv_iload_n hx hb dX11_move_40 rfl (lv_at hl 1 rfl) ?_
        refine W.eq (g2 := F0 m 41 ls [.int (nI j6), .ref mm]) (congrArg (fun v9 : Int32 => F0 m 41 ls [.int v9, .ref mm]) ej6) ?_
        refine lv_iconst (v := 1) hx hb dX11_move_41 (by decide) ?_
        refine rd_i (va_runV (As := [.int (nI j6), .int 1]) (rest := []) ⟨hx, hb, hml, hown, hts⟩ (n_X11_of l D cy mW mH mS mP mm mm_now mm_kept mm_isKept mm_refused mm_lineFrom mm_lineTo mm_stands mm_far mm_queue mm_queued mm_meets mm_bytes bl ta tl mm_token mm_value mm_next tk mm_now_f j6 1 _ (by first | assumption | omega) (by first | assumption | omega) (by first | assumption | omega)) (cwV 2 hts gX11_move_X11_of rfl rfl rfl (by decide +kernel) ⟨Nat.le_of_ble_eq_true rfl, Nat.le_of_ble_eq_true rfl⟩) (pV (ci := 11) (k := 0) hKA (hP.sub (ws' := [(mm, .inr (11, [.ref mm_now, .ref mm_kept, .ref mm_isKept, .ref mm_refused, .int mm_lineFrom, .int mm_lineTo, .ref mm_stands, .ref mm_far, .ref mm_queue, .int mm_queued, .ref mm_meets, .ref mm_bytes, .int (nI bl), .int (nI ta), .int (nI tl), .int mm_token, .int mm_value, .ref mm_next, .int (nI tk)])), (mm_now, .inl (cy 1, 122, .inl mm_now_f))]) [0, 1] rfl) (hD.sub (ws' := [(mm, .inr (11, [.ref mm_now, .ref mm_kept, .ref mm_isKept, .ref mm_refused, .int mm_lineFrom, .int mm_lineTo, .ref mm_stands, .ref mm_far, .ref mm_queue, .int mm_queued, .ref mm_meets, .ref mm_bytes, .int (nI bl), .int (nI ta), .int (nI tl), .int mm_token, .int mm_value, .ref mm_next, .int (nI tk)])), (mm_now, .inl (cy 1, 122, .inl mm_now_f))]) [0, 1] (by decide) rfl) rfl rfl) rfl rfl hl.1 rfl (lv_room (Nat.le_of_ble_eq_true rfl)) dX11_move_42 ⟨Nat.le_of_ble_eq_true rfl, Nat.le_of_ble_eq_true rfl⟩) hP hS hA (fun r13 H locs hwr13 hP hS => ?_)
        have hwr13 : r13 = mm_now_f (5 + 3 * j6 + 1) := hwr13
        subst hwr13
        refine lv_topi (fun x14 ex14 => ?_)
        refine lv_istore_n (lv' := [(3, .int x14), (0, .ref mm), (1, .int px), (2, .int py)]) hx hb dX11_move_45 rfl hl (by decide) rfl (fun ls hl => ?_)
        refine lv_aload_n hx hb dX11_move_46 rfl (lv_at hl 1 rfl) ?_
        refine lv_iload_n hx hb dX11_move_47 rfl (lv_at hl 2 rfl) ?_
        refine W.eq (g2 := F0 m 48 ls [.int (nI j6), .ref mm]) (congrArg (fun v9 : Int32 => F0 m 48 ls [.int v9, .ref mm]) ej6) ?_
        refine lv_iload_n hx hb dX11_move_48 rfl (lv_at hl 3 rfl) ?_
        refine W.eq (g2 := F0 m 49 ls [.int (nI j10), .int (nI j6), .ref mm]) (congrArg (fun v9 : Int32 => F0 m 49 ls [.int v9, .int (nI j6), .ref mm]) ej10) ?_
        refine wr_v (wr := [(mm_refused, .inl (cy 1, 3, .inl mm_refused_f))]) (va_runV (As := [.int (nI j6), .int (nI j10)]) (rest := []) ⟨hx, hb, hml, hown, hts⟩ (n_X11_stand l D cy mW mH mS mP mm mm_now mm_kept mm_isKept mm_refused mm_lineFrom mm_lineTo mm_stands mm_far mm_queue mm_queued mm_meets mm_bytes bl ta tl mm_token mm_value mm_next tk mm_now_f j6 j10 _ (by first | assumption | omega) (by first | assumption | omega) (by first | assumption | omega)) (cwV 2 hts gX11_move_X11_stand rfl rfl rfl (by decide +kernel) ⟨Nat.le_of_ble_eq_true rfl, Nat.le_of_ble_eq_true rfl⟩) (pV (ci := 11) (k := 0) hKA (hP.sub (ws' := [(mm, .inr (11, [.ref mm_now, .ref mm_kept, .ref mm_isKept, .ref mm_refused, .int mm_lineFrom, .int mm_lineTo, .ref mm_stands, .ref mm_far, .ref mm_queue, .int mm_queued, .ref mm_meets, .ref mm_bytes, .int (nI bl), .int (nI ta), .int (nI tl), .int mm_token, .int mm_value, .ref mm_next, .int (nI tk)])), (mm_now, .inl (cy 1, 122, .inl mm_now_f))]) [0, 1] rfl) (hD.sub (ws' := [(mm, .inr (11, [.ref mm_now, .ref mm_kept, .ref mm_isKept, .ref mm_refused, .int mm_lineFrom, .int mm_lineTo, .ref mm_stands, .ref mm_far, .ref mm_queue, .int mm_queued, .ref mm_meets, .ref mm_bytes, .int (nI bl), .int (nI ta), .int (nI tl), .int mm_token, .int mm_value, .ref mm_next, .int (nI tk)])), (mm_now, .inl (cy 1, 122, .inl mm_now_f))]) [0, 1] (by decide) rfl) rfl rfl) rfl rfl hl.1 rfl (lv_room (Nat.le_of_ble_eq_true rfl)) dX11_move_49 ⟨Nat.le_of_ble_eq_true rfl, Nat.le_of_ble_eq_true rfl⟩) hP hD hS hA [0, 1] [2] rfl rfl (by decide +kernel) (by decide +kernel) (fun ur15 H locs hwr15 hP hD hS => ?_)
        obtain ⟨z16, rfl⟩ : ∃ z, z = ur15 := ⟨_, rfl⟩
        have hP : va_P D vwCl [(mm_refused, .inl (cy 1, 3, .inl mm_refused_f)), (mm, .inr (11, [.ref mm_now, .ref mm_kept, .ref mm_isKept, .ref mm_refused, .int mm_lineFrom, .int mm_lineTo, .ref mm_stands, .ref mm_far, .ref mm_queue, .int mm_queued, .ref mm_meets, .ref mm_bytes, .int (nI bl), .int (nI ta), .int (nI tl), .int mm_token, .int mm_value, .ref mm_next, .int (nI tk)])), (mm_now, .inl (cy 1, 122, .inl z16))] H := hP
        have hD : va_D A [(mm_refused, .inl (cy 1, 3, .inl mm_refused_f)), (mm, .inr (11, [.ref mm_now, .ref mm_kept, .ref mm_isKept, .ref mm_refused, .int mm_lineFrom, .int mm_lineTo, .ref mm_stands, .ref mm_far, .ref mm_queue, .int mm_queued, .ref mm_meets, .ref mm_bytes, .int (nI bl), .int (nI ta), .int (nI tl), .int mm_token, .int mm_value, .ref mm_next, .int (nI tk)])), (mm_now, .inl (cy 1, 122, .inl z16))] := hD
        have hwr15 : mV z16 mW mH mS mP := hwr15
        have hv17 := hwr15
        refine lv_iload_n hx hb dX11_move_52 rfl (lv_at hl 0 rfl) ?_
        subst hQF
        have hP9 := hP.sub (ws' := [(mm, .inr (11, [.ref mm_now, .ref mm_kept, .ref mm_isKept, .ref mm_refused, .int mm_lineFrom, .int mm_lineTo, .ref mm_stands, .ref mm_far, .ref mm_queue, .int mm_queued, .ref mm_meets, .ref mm_bytes, .int (nI bl), .int (nI ta), .int (nI tl), .int mm_token, .int mm_value, .ref mm_next, .int (nI tk)])), (mm_now, .inl (cy 1, 122, .inl z16)), (mm_refused, .inl (cy 1, 3, .inl mm_refused_f))]) [1, 2, 0] rfl
        have hD9 := hD.sub (ws' := [(mm, .inr (11, [.ref mm_now, .ref mm_kept, .ref mm_isKept, .ref mm_refused, .int mm_lineFrom, .int mm_lineTo, .ref mm_stands, .ref mm_far, .ref mm_queue, .int mm_queued, .ref mm_meets, .ref mm_bytes, .int (nI bl), .int (nI ta), .int (nI tl), .int mm_token, .int mm_value, .ref mm_next, .int (nI tk)])), (mm_now, .inl (cy 1, 122, .inl z16)), (mm_refused, .inl (cy 1, 3, .inl mm_refused_f))]) [1, 2, 0] (by decide) rfl
        exact W.iret (v := x14) hx hb hr (fun t ht hW => ⟨⟨x14, (z16, mm_refused_f), rfl, ⟨_, _, _, _, hv17⟩, by rw [ht]; exact hP9, hD9⟩, hS.F ht⟩) hS.2.2 dX11_move_53
      · skip
        refine lv_aload_n hx hb dX11_move_32 rfl (lv_at hl 0 rfl) ?_
        refine lv_bipush (v := (-20)) hx hb dX11_move_33 (by decide) ?_
        refine wr_i (wr := [(mm_now, .inl (cy 1, 122, .inl mm_now_f))]) (va_runV (As := [.int (-20)]) (rest := []) ⟨hx, hb, hml, hown, hts⟩ (n_X11_no l D cy mm mm_now mm_kept mm_isKept mm_refused mm_lineFrom mm_lineTo mm_stands mm_far mm_queue mm_queued mm_meets mm_bytes bl ta tl mm_token mm_value mm_next tk mm_refused_f (-20) _ ) (cwV 1 hts gX11_move_X11_no rfl rfl rfl (by decide +kernel) ⟨Nat.le_of_ble_eq_true rfl, Nat.le_of_ble_eq_true rfl⟩) (pV (ci := 11) (k := 0) hKA (hP.sub (ws' := [(mm, .inr (11, [.ref mm_now, .ref mm_kept, .ref mm_isKept, .ref mm_refused, .int mm_lineFrom, .int mm_lineTo, .ref mm_stands, .ref mm_far, .ref mm_queue, .int mm_queued, .ref mm_meets, .ref mm_bytes, .int (nI bl), .int (nI ta), .int (nI tl), .int mm_token, .int mm_value, .ref mm_next, .int (nI tk)])), (mm_refused, .inl (cy 1, 3, .inl mm_refused_f))]) [0, 2] rfl) (hD.sub (ws' := [(mm, .inr (11, [.ref mm_now, .ref mm_kept, .ref mm_isKept, .ref mm_refused, .int mm_lineFrom, .int mm_lineTo, .ref mm_stands, .ref mm_far, .ref mm_queue, .int mm_queued, .ref mm_meets, .ref mm_bytes, .int (nI bl), .int (nI ta), .int (nI tl), .int mm_token, .int mm_value, .ref mm_next, .int (nI tk)])), (mm_refused, .inl (cy 1, 3, .inl mm_refused_f))]) [0, 2] (by decide) rfl) rfl rfl) rfl rfl hl.1 rfl (lv_room (Nat.le_of_ble_eq_true rfl)) dX11_move_35 ⟨Nat.le_of_ble_eq_true rfl, Nat.le_of_ble_eq_true rfl⟩) hP hD hS hA [0, 2] [1] rfl rfl (by decide +kernel) (by decide +kernel) (fun r18 ur18 H locs hwr18 hP hD hS => ?_)
        obtain ⟨z19, rfl⟩ : ∃ z, z = ur18 := ⟨_, rfl⟩
        have hP : va_P D vwCl [(mm_now, .inl (cy 1, 122, .inl mm_now_f)), (mm, .inr (11, [.ref mm_now, .ref mm_kept, .ref mm_isKept, .ref mm_refused, .int mm_lineFrom, .int mm_lineTo, .ref mm_stands, .ref mm_far, .ref mm_queue, .int mm_queued, .ref mm_meets, .ref mm_bytes, .int (nI bl), .int (nI ta), .int (nI tl), .int mm_token, .int mm_value, .ref mm_next, .int (nI tk)])), (mm_refused, .inl (cy 1, 3, .inl z19))] H := hP
        have hD : va_D A [(mm_now, .inl (cy 1, 122, .inl mm_now_f)), (mm, .inr (11, [.ref mm_now, .ref mm_kept, .ref mm_isKept, .ref mm_refused, .int mm_lineFrom, .int mm_lineTo, .ref mm_stands, .ref mm_far, .ref mm_queue, .int mm_queued, .ref mm_meets, .ref mm_bytes, .int (nI bl), .int (nI ta), .int (nI tl), .int mm_token, .int mm_value, .ref mm_next, .int (nI tk)])), (mm_refused, .inl (cy 1, 3, .inl z19))] := hD
        have hwr18 : r18 = (-20) := hwr18
        subst hwr18
        subst hQF
        have hP9 := hP.sub (ws' := [(mm, .inr (11, [.ref mm_now, .ref mm_kept, .ref mm_isKept, .ref mm_refused, .int mm_lineFrom, .int mm_lineTo, .ref mm_stands, .ref mm_far, .ref mm_queue, .int mm_queued, .ref mm_meets, .ref mm_bytes, .int (nI bl), .int (nI ta), .int (nI tl), .int mm_token, .int mm_value, .ref mm_next, .int (nI tk)])), (mm_now, .inl (cy 1, 122, .inl mm_now_f)), (mm_refused, .inl (cy 1, 3, .inl z19))]) [1, 0, 2] rfl
        have hD9 := hD.sub (ws' := [(mm, .inr (11, [.ref mm_now, .ref mm_kept, .ref mm_isKept, .ref mm_refused, .int mm_lineFrom, .int mm_lineTo, .ref mm_stands, .ref mm_far, .ref mm_queue, .int mm_queued, .ref mm_meets, .ref mm_bytes, .int (nI bl), .int (nI ta), .int (nI tl), .int mm_token, .int mm_value, .ref mm_next, .int (nI tk)])), (mm_now, .inl (cy 1, 122, .inl mm_now_f)), (mm_refused, .inl (cy 1, 3, .inl z19))]) [1, 0, 2] (by decide) rfl
        exact W.iret (v := (-20)) hx hb hr (fun t ht hW => ⟨⟨(-20), (mm_now_f, z19), rfl, ⟨_, _, _, _, hF⟩, by rw [ht]; exact hP9, hD9⟩, hS.F ht⟩) hS.2.2 dX11_move_38
    · skip
      refine lv_aload_n hx hb dX11_move_16 rfl (lv_at hl 0 rfl) ?_
      refine lv_bipush (v := (-10)) hx hb dX11_move_17 (by decide) ?_
      refine wr_i (wr := [(mm_now, .inl (cy 1, 122, .inl mm_now_f))]) (va_runV (As := [.int (-10)]) (rest := []) ⟨hx, hb, hml, hown, hts⟩ (n_X11_bad l D cy mm mm_now mm_kept mm_isKept mm_refused mm_lineFrom mm_lineTo mm_stands mm_far mm_queue mm_queued mm_meets mm_bytes bl ta tl mm_token mm_value mm_next tk mm_refused_f (-10) _ ) (cwV 1 hts gX11_move_X11_bad rfl rfl rfl (by decide +kernel) ⟨Nat.le_of_ble_eq_true rfl, Nat.le_of_ble_eq_true rfl⟩) (pV (ci := 11) (k := 0) hKA (hP.sub (ws' := [(mm, .inr (11, [.ref mm_now, .ref mm_kept, .ref mm_isKept, .ref mm_refused, .int mm_lineFrom, .int mm_lineTo, .ref mm_stands, .ref mm_far, .ref mm_queue, .int mm_queued, .ref mm_meets, .ref mm_bytes, .int (nI bl), .int (nI ta), .int (nI tl), .int mm_token, .int mm_value, .ref mm_next, .int (nI tk)])), (mm_refused, .inl (cy 1, 3, .inl mm_refused_f))]) [0, 2] rfl) (hD.sub (ws' := [(mm, .inr (11, [.ref mm_now, .ref mm_kept, .ref mm_isKept, .ref mm_refused, .int mm_lineFrom, .int mm_lineTo, .ref mm_stands, .ref mm_far, .ref mm_queue, .int mm_queued, .ref mm_meets, .ref mm_bytes, .int (nI bl), .int (nI ta), .int (nI tl), .int mm_token, .int mm_value, .ref mm_next, .int (nI tk)])), (mm_refused, .inl (cy 1, 3, .inl mm_refused_f))]) [0, 2] (by decide) rfl) rfl rfl) rfl rfl hl.1 rfl (lv_room (Nat.le_of_ble_eq_true rfl)) dX11_move_19 ⟨Nat.le_of_ble_eq_true rfl, Nat.le_of_ble_eq_true rfl⟩) hP hD hS hA [0, 2] [1] rfl rfl (by decide +kernel) (by decide +kernel) (fun r20 ur20 H locs hwr20 hP hD hS => ?_)
      obtain ⟨z21, rfl⟩ : ∃ z, z = ur20 := ⟨_, rfl⟩
      have hP : va_P D vwCl [(mm_now, .inl (cy 1, 122, .inl mm_now_f)), (mm, .inr (11, [.ref mm_now, .ref mm_kept, .ref mm_isKept, .ref mm_refused, .int mm_lineFrom, .int mm_lineTo, .ref mm_stands, .ref mm_far, .ref mm_queue, .int mm_queued, .ref mm_meets, .ref mm_bytes, .int (nI bl), .int (nI ta), .int (nI tl), .int mm_token, .int mm_value, .ref mm_next, .int (nI tk)])), (mm_refused, .inl (cy 1, 3, .inl z21))] H := hP
      have hD : va_D A [(mm_now, .inl (cy 1, 122, .inl mm_now_f)), (mm, .inr (11, [.ref mm_now, .ref mm_kept, .ref mm_isKept, .ref mm_refused, .int mm_lineFrom, .int mm_lineTo, .ref mm_stands, .ref mm_far, .ref mm_queue, .int mm_queued, .ref mm_meets, .ref mm_bytes, .int (nI bl), .int (nI ta), .int (nI tl), .int mm_token, .int mm_value, .ref mm_next, .int (nI tk)])), (mm_refused, .inl (cy 1, 3, .inl z21))] := hD
      have hwr20 : r20 = (-10) := hwr20
      subst hwr20
      subst hQF
      have hP9 := hP.sub (ws' := [(mm, .inr (11, [.ref mm_now, .ref mm_kept, .ref mm_isKept, .ref mm_refused, .int mm_lineFrom, .int mm_lineTo, .ref mm_stands, .ref mm_far, .ref mm_queue, .int mm_queued, .ref mm_meets, .ref mm_bytes, .int (nI bl), .int (nI ta), .int (nI tl), .int mm_token, .int mm_value, .ref mm_next, .int (nI tk)])), (mm_now, .inl (cy 1, 122, .inl mm_now_f)), (mm_refused, .inl (cy 1, 3, .inl z21))]) [1, 0, 2] rfl
      have hD9 := hD.sub (ws' := [(mm, .inr (11, [.ref mm_now, .ref mm_kept, .ref mm_isKept, .ref mm_refused, .int mm_lineFrom, .int mm_lineTo, .ref mm_stands, .ref mm_far, .ref mm_queue, .int mm_queued, .ref mm_meets, .ref mm_bytes, .int (nI bl), .int (nI ta), .int (nI tl), .int mm_token, .int mm_value, .ref mm_next, .int (nI tk)])), (mm_now, .inl (cy 1, 122, .inl mm_now_f)), (mm_refused, .inl (cy 1, 3, .inl z21))]) [1, 0, 2] (by decide) rfl
      exact W.iret (v := (-10)) hx hb hr (fun t ht hW => ⟨⟨(-10), (mm_now_f, z21), rfl, ⟨_, _, _, _, hF⟩, by rw [ht]; exact hP9, hD9⟩, hS.F ht⟩) hS.2.2 dX11_move_22

set_option maxHeartbeats 4000000 in
set_option maxRecDepth 100000 in
theorem n_X11_tell (l : Launch) (D : va_G) (cy : Nat → ClassId) (mm : Nat) (mm_now : Nat) (mm_kept : Nat) (mm_isKept : Nat) (mm_refused : Nat) (mm_lineFrom : Int32) (mm_lineTo : Int32) (mm_stands : Nat) (mm_far : Nat) (mm_queue : Nat) (mm_queued : Int32) (mm_meets : Nat) (mm_bytes : Nat) (bl : Nat) (ta : Nat) (tl : Nat) (mm_token : Int32) (mm_value : Int32) (mm_next : Nat) (tk : Nat) (mm_now_f : Nat → Int32) (mm_refused_f : Nat → Int32) (px : Int32) (py : Int32) (sz : Nat) (hN : mN mm_now_f) : Met l yX11_tell wsX11_tell ({ frames := 2, cells := 0, slots := 0, locals := 46 }) (va_Pc [.ref mm, .int px, .int py] (kPre D cy [(mm, .inr (11, [.ref mm_now, .ref mm_kept, .ref mm_isKept, .ref mm_refused, .int mm_lineFrom, .int mm_lineTo, .ref mm_stands, .ref mm_far, .ref mm_queue, .int mm_queued, .ref mm_meets, .ref mm_bytes, .int (nI bl), .int (nI ta), .int (nI tl), .int mm_token, .int mm_value, .ref mm_next, .int (nI tk)])), (mm_now, .inl (cy 1, 122, .inl mm_now_f)), (mm_refused, .inl (cy 1, 3, .inl mm_refused_f))] sz)) (va_Qi (fun (r : Int32) (u : (Nat → Int32) × (Nat → Int32)) => mN u.1) (fun (u : (Nat → Int32) × (Nat → Int32)) t => va_P D vwCl ([(mm, .inr (11, [.ref mm_now, .ref mm_kept, .ref mm_isKept, .ref mm_refused, .int mm_lineFrom, .int mm_lineTo, .ref mm_stands, .ref mm_far, .ref mm_queue, .int mm_queued, .ref mm_meets, .ref mm_bytes, .int (nI bl), .int (nI ta), .int (nI tl), .int mm_token, .int mm_value, .ref mm_next, .int (nI tk)])), (mm_now, .inl (cy 1, 122, .inl u.1)), (mm_refused, .inl (cy 1, 3, .inl u.2))]) t.heap ∧ va_D (va_A [(mm, .inr (11, [.ref mm_now, .ref mm_kept, .ref mm_isKept, .ref mm_refused, .int mm_lineFrom, .int mm_lineTo, .ref mm_stands, .ref mm_far, .ref mm_queue, .int mm_queued, .ref mm_meets, .ref mm_bytes, .int (nI bl), .int (nI ta), .int (nI tl), .int mm_token, .int mm_value, .ref mm_next, .int (nI tk)])), (mm_now, .inl (cy 1, 122, .inl mm_now_f)), (mm_refused, .inl (cy 1, 3, .inl mm_refused_f))] sz) ([(mm, .inr (11, [.ref mm_now, .ref mm_kept, .ref mm_isKept, .ref mm_refused, .int mm_lineFrom, .int mm_lineTo, .ref mm_stands, .ref mm_far, .ref mm_queue, .int mm_queued, .ref mm_meets, .ref mm_bytes, .int (nI bl), .int (nI ta), .int (nI tl), .int mm_token, .int mm_value, .ref mm_next, .int (nI tk)])), (mm_now, .inl (cy 1, 122, .inl u.1)), (mm_refused, .inl (cy 1, 3, .inl u.2))])) (va_A [(mm, .inr (11, [.ref mm_now, .ref mm_kept, .ref mm_isKept, .ref mm_refused, .int mm_lineFrom, .int mm_lineTo, .ref mm_stands, .ref mm_far, .ref mm_queue, .int mm_queued, .ref mm_meets, .ref mm_bytes, .int (nI bl), .int (nI ta), .int (nI tl), .int mm_token, .int mm_value, .ref mm_next, .int (nI tk)])), (mm_now, .inl (cy 1, 122, .inl mm_now_f)), (mm_refused, .inl (cy 1, 3, .inl mm_refused_f))] sz)) 0 0 (va_A [(mm, .inr (11, [.ref mm_now, .ref mm_kept, .ref mm_isKept, .ref mm_refused, .int mm_lineFrom, .int mm_lineTo, .ref mm_stands, .ref mm_far, .ref mm_queue, .int mm_queued, .ref mm_meets, .ref mm_bytes, .int (nI bl), .int (nI ta), .int (nI tl), .int mm_token, .int mm_value, .ref mm_next, .int (nI tk)])), (mm_now, .inl (cy 1, 122, .inl mm_now_f)), (mm_refused, .inl (cy 1, 3, .inl mm_refused_f))] sz) := by
  refine Met.ofW (cc := cX11_tell) (maxL := 4) (ret := (some .int)) (by decide) rfl ?_
  intro p e s m args below meth c s₁ B hml hv
  obtain ⟨rfl, hsz, hP, hKA, hD0⟩ := hv
  have hx := B.exec
  have hb := B.bytes
  have hr := B.returns
  have hts := atoms_spec (ws := wsX11_tell) B.pre
  have hown : s.vm.findClass RX11 = some m.cls := findClass_of_methodNamed B.named
  have hlocks := B.notSynchronized
  subst hsz
  have hK := hKA.1
  have hD := hD0.self (sz := s.heap.size)
  generalize hAe : va_A [(mm, .inr (11, [.ref mm_now, .ref mm_kept, .ref mm_isKept, .ref mm_refused, .int mm_lineFrom, .int mm_lineTo, .ref mm_stands, .ref mm_far, .ref mm_queue, .int mm_queued, .ref mm_meets, .ref mm_bytes, .int (nI bl), .int (nI ta), .int (nI tl), .int mm_token, .int mm_value, .ref mm_next, .int (nI tk)])), (mm_now, .inl (cy 1, 122, .inl mm_now_f)), (mm_refused, .inl (cy 1, 3, .inl mm_refused_f))] s.heap.size = A at hD ⊢
  have hA : ∀ q : Nat, s.heap.size ≤ q → A q := fun q h => by rw [← hAe]; exact Or.inr h
  have hS : va_S A s.heap s.heap [] := va_S.rf
  have hP : va_P D vwCl [(mm, .inr (11, [.ref mm_now, .ref mm_kept, .ref mm_isKept, .ref mm_refused, .int mm_lineFrom, .int mm_lineTo, .ref mm_stands, .ref mm_far, .ref mm_queue, .int mm_queued, .ref mm_meets, .ref mm_bytes, .int (nI bl), .int (nI ta), .int (nI tl), .int mm_token, .int mm_value, .ref mm_next, .int (nI tk)])), (mm_now, .inl (cy 1, 122, .inl mm_now_f)), (mm_refused, .inl (cy 1, 3, .inl mm_refused_f))] s.heap := hP
  have hl := lv_entry ([.ref mm, .int px, .int py]) (n := 4) (Nat.le_of_ble_eq_true rfl)
  rw [lg_entry_eq]
  generalize (lg_sl ([.ref mm, .int px, .int py]) ++ List.replicate (4 - (lg_sl ([.ref mm, .int px, .int py])).length) Slot.unset).toArray = ls at hl ⊢
  have hl : lv_has ls 4 [(0, .ref mm), (1, .int px), (2, .int py)] := hl
  refine qW (fun QF hQF => ?_)
  have z0_ := hts (.fieldLink RX11 7 "HeardSeenModel" "now" "[I") (by decide +kernel)
  have zi11_ : ∀ w ∈ u_ws RX11 TX11 19, w ∈ wsX11_tell := by decide +kernel
  obtain ⟨mW, mH, mS, mP, hF⟩ := hN
  obtain ⟨hW2, hW6, hH2, hH6, hSe, hS4, hS6, hP5⟩ := hF.rng
  refine lv_aload_n hx hb dX11_tell_0 rfl (lv_at hl 0 rfl) ?_
  refine lv_iload_n hx hb dX11_tell_1 rfl (lv_at hl 1 rfl) ?_
  refine rd_i (va_runV (As := [.int px]) (rest := []) ⟨hx, hb, hml, hown, hts⟩ (n_X11_isOne l D cy mW mH mS mP mm mm_now mm_kept mm_isKept mm_refused mm_lineFrom mm_lineTo mm_stands mm_far mm_queue mm_queued mm_meets mm_bytes bl ta tl mm_token mm_value mm_next tk mm_now_f px _ (by first | assumption | omega)) (cwV 1 hts gX11_tell_X11_isOne rfl rfl rfl (by decide +kernel) ⟨Nat.le_of_ble_eq_true rfl, Nat.le_of_ble_eq_true rfl⟩) (pV (ci := 11) (k := 0) hKA (hP.sub (ws' := [(mm, .inr (11, [.ref mm_now, .ref mm_kept, .ref mm_isKept, .ref mm_refused, .int mm_lineFrom, .int mm_lineTo, .ref mm_stands, .ref mm_far, .ref mm_queue, .int mm_queued, .ref mm_meets, .ref mm_bytes, .int (nI bl), .int (nI ta), .int (nI tl), .int mm_token, .int mm_value, .ref mm_next, .int (nI tk)])), (mm_now, .inl (cy 1, 122, .inl mm_now_f))]) [0, 1] rfl) (hD.sub (ws' := [(mm, .inr (11, [.ref mm_now, .ref mm_kept, .ref mm_isKept, .ref mm_refused, .int mm_lineFrom, .int mm_lineTo, .ref mm_stands, .ref mm_far, .ref mm_queue, .int mm_queued, .ref mm_meets, .ref mm_bytes, .int (nI bl), .int (nI ta), .int (nI tl), .int mm_token, .int mm_value, .ref mm_next, .int (nI tk)])), (mm_now, .inl (cy 1, 122, .inl mm_now_f))]) [0, 1] (by decide) rfl) rfl rfl) rfl rfl hl.1 rfl (lv_room (Nat.le_of_ble_eq_true rfl)) dX11_tell_2 ⟨Nat.le_of_ble_eq_true rfl, Nat.le_of_ble_eq_true rfl⟩) hP hS hA (fun r1 H locs hwr1 hP hS => ?_)
  have hwr1 : (r1 = 1 ∧ (∃ j : Nat, j < mP ∧ px = nI j)) ∨ (r1 = 0 ∧ True) := hwr1
  refine lv_if_eq (tgt := 21) hx hb dX11_tell_5 (by decide) (fun c2 => ?_) (fun c2 => ?_)
  · skip
    refine lv_aload_n hx hb dX11_tell_21 rfl (lv_at hl 0 rfl) ?_
    refine lv_bipush (v := (-2)) hx hb dX11_tell_22 (by decide) ?_
    refine wr_i (wr := [(mm_now, .inl (cy 1, 122, .inl mm_now_f))]) (va_runV (As := [.int (-2)]) (rest := []) ⟨hx, hb, hml, hown, hts⟩ (n_X11_bad l D cy mm mm_now mm_kept mm_isKept mm_refused mm_lineFrom mm_lineTo mm_stands mm_far mm_queue mm_queued mm_meets mm_bytes bl ta tl mm_token mm_value mm_next tk mm_refused_f (-2) _ ) (cwV 1 hts gX11_tell_X11_bad rfl rfl rfl (by decide +kernel) ⟨Nat.le_of_ble_eq_true rfl, Nat.le_of_ble_eq_true rfl⟩) (pV (ci := 11) (k := 0) hKA (hP.sub (ws' := [(mm, .inr (11, [.ref mm_now, .ref mm_kept, .ref mm_isKept, .ref mm_refused, .int mm_lineFrom, .int mm_lineTo, .ref mm_stands, .ref mm_far, .ref mm_queue, .int mm_queued, .ref mm_meets, .ref mm_bytes, .int (nI bl), .int (nI ta), .int (nI tl), .int mm_token, .int mm_value, .ref mm_next, .int (nI tk)])), (mm_refused, .inl (cy 1, 3, .inl mm_refused_f))]) [0, 2] rfl) (hD.sub (ws' := [(mm, .inr (11, [.ref mm_now, .ref mm_kept, .ref mm_isKept, .ref mm_refused, .int mm_lineFrom, .int mm_lineTo, .ref mm_stands, .ref mm_far, .ref mm_queue, .int mm_queued, .ref mm_meets, .ref mm_bytes, .int (nI bl), .int (nI ta), .int (nI tl), .int mm_token, .int mm_value, .ref mm_next, .int (nI tk)])), (mm_refused, .inl (cy 1, 3, .inl mm_refused_f))]) [0, 2] (by decide) rfl) rfl rfl) rfl rfl hl.1 rfl (lv_room (Nat.le_of_ble_eq_true rfl)) dX11_tell_24 ⟨Nat.le_of_ble_eq_true rfl, Nat.le_of_ble_eq_true rfl⟩) hP hD hS hA [0, 2] [1] rfl rfl (by decide +kernel) (by decide +kernel) (fun r3 ur3 H locs hwr3 hP hD hS => ?_)
    obtain ⟨z4, rfl⟩ : ∃ z, z = ur3 := ⟨_, rfl⟩
    have hP : va_P D vwCl [(mm_now, .inl (cy 1, 122, .inl mm_now_f)), (mm, .inr (11, [.ref mm_now, .ref mm_kept, .ref mm_isKept, .ref mm_refused, .int mm_lineFrom, .int mm_lineTo, .ref mm_stands, .ref mm_far, .ref mm_queue, .int mm_queued, .ref mm_meets, .ref mm_bytes, .int (nI bl), .int (nI ta), .int (nI tl), .int mm_token, .int mm_value, .ref mm_next, .int (nI tk)])), (mm_refused, .inl (cy 1, 3, .inl z4))] H := hP
    have hD : va_D A [(mm_now, .inl (cy 1, 122, .inl mm_now_f)), (mm, .inr (11, [.ref mm_now, .ref mm_kept, .ref mm_isKept, .ref mm_refused, .int mm_lineFrom, .int mm_lineTo, .ref mm_stands, .ref mm_far, .ref mm_queue, .int mm_queued, .ref mm_meets, .ref mm_bytes, .int (nI bl), .int (nI ta), .int (nI tl), .int mm_token, .int mm_value, .ref mm_next, .int (nI tk)])), (mm_refused, .inl (cy 1, 3, .inl z4))] := hD
    have hwr3 : r3 = (-2) := hwr3
    subst hwr3
    subst hQF
    have hP9 := hP.sub (ws' := [(mm, .inr (11, [.ref mm_now, .ref mm_kept, .ref mm_isKept, .ref mm_refused, .int mm_lineFrom, .int mm_lineTo, .ref mm_stands, .ref mm_far, .ref mm_queue, .int mm_queued, .ref mm_meets, .ref mm_bytes, .int (nI bl), .int (nI ta), .int (nI tl), .int mm_token, .int mm_value, .ref mm_next, .int (nI tk)])), (mm_now, .inl (cy 1, 122, .inl mm_now_f)), (mm_refused, .inl (cy 1, 3, .inl z4))]) [1, 0, 2] rfl
    have hD9 := hD.sub (ws' := [(mm, .inr (11, [.ref mm_now, .ref mm_kept, .ref mm_isKept, .ref mm_refused, .int mm_lineFrom, .int mm_lineTo, .ref mm_stands, .ref mm_far, .ref mm_queue, .int mm_queued, .ref mm_meets, .ref mm_bytes, .int (nI bl), .int (nI ta), .int (nI tl), .int mm_token, .int mm_value, .ref mm_next, .int (nI tk)])), (mm_now, .inl (cy 1, 122, .inl mm_now_f)), (mm_refused, .inl (cy 1, 3, .inl z4))]) [1, 0, 2] (by decide) rfl
    exact W.iret (v := (-2)) hx hb hr (fun t ht hW => ⟨⟨(-2), (mm_now_f, z4), rfl, ⟨_, _, _, _, hF⟩, by rw [ht]; exact hP9, hD9⟩, hS.F ht⟩) hS.2.2 dX11_tell_27
  · skip
    have hp5 := z_b1 hwr1 c2
    obtain ⟨j6, hj6, ej6⟩ := hp5
    refine lv_aload_n hx hb dX11_tell_8 rfl (lv_at hl 0 rfl) ?_
    refine lv_iload_n hx hb dX11_tell_9 rfl (lv_at hl 2 rfl) ?_
    refine rd_i (va_runV (As := [.int py]) (rest := []) ⟨hx, hb, hml, hown, hts⟩ (n_X11_isOne l D cy mW mH mS mP mm mm_now mm_kept mm_isKept mm_refused mm_lineFrom mm_lineTo mm_stands mm_far mm_queue mm_queued mm_meets mm_bytes bl ta tl mm_token mm_value mm_next tk mm_now_f py _ (by first | assumption | omega)) (cwV 1 hts gX11_tell_X11_isOne rfl rfl rfl (by decide +kernel) ⟨Nat.le_of_ble_eq_true rfl, Nat.le_of_ble_eq_true rfl⟩) (pV (ci := 11) (k := 0) hKA (hP.sub (ws' := [(mm, .inr (11, [.ref mm_now, .ref mm_kept, .ref mm_isKept, .ref mm_refused, .int mm_lineFrom, .int mm_lineTo, .ref mm_stands, .ref mm_far, .ref mm_queue, .int mm_queued, .ref mm_meets, .ref mm_bytes, .int (nI bl), .int (nI ta), .int (nI tl), .int mm_token, .int mm_value, .ref mm_next, .int (nI tk)])), (mm_now, .inl (cy 1, 122, .inl mm_now_f))]) [0, 1] rfl) (hD.sub (ws' := [(mm, .inr (11, [.ref mm_now, .ref mm_kept, .ref mm_isKept, .ref mm_refused, .int mm_lineFrom, .int mm_lineTo, .ref mm_stands, .ref mm_far, .ref mm_queue, .int mm_queued, .ref mm_meets, .ref mm_bytes, .int (nI bl), .int (nI ta), .int (nI tl), .int mm_token, .int mm_value, .ref mm_next, .int (nI tk)])), (mm_now, .inl (cy 1, 122, .inl mm_now_f))]) [0, 1] (by decide) rfl) rfl rfl) rfl rfl hl.1 rfl (lv_room (Nat.le_of_ble_eq_true rfl)) dX11_tell_10 ⟨Nat.le_of_ble_eq_true rfl, Nat.le_of_ble_eq_true rfl⟩) hP hS hA (fun r7 H locs hwr7 hP hS => ?_)
    have hwr7 : (r7 = 1 ∧ (∃ j : Nat, j < mP ∧ py = nI j)) ∨ (r7 = 0 ∧ True) := hwr7
    refine lv_if_eq (tgt := 21) hx hb dX11_tell_13 (by decide) (fun c8 => ?_) (fun c8 => ?_)
    · skip
      refine lv_aload_n hx hb dX11_tell_21 rfl (lv_at hl 0 rfl) ?_
      refine lv_bipush (v := (-2)) hx hb dX11_tell_22 (by decide) ?_
      refine wr_i (wr := [(mm_now, .inl (cy 1, 122, .inl mm_now_f))]) (va_runV (As := [.int (-2)]) (rest := []) ⟨hx, hb, hml, hown, hts⟩ (n_X11_bad l D cy mm mm_now mm_kept mm_isKept mm_refused mm_lineFrom mm_lineTo mm_stands mm_far mm_queue mm_queued mm_meets mm_bytes bl ta tl mm_token mm_value mm_next tk mm_refused_f (-2) _ ) (cwV 1 hts gX11_tell_X11_bad rfl rfl rfl (by decide +kernel) ⟨Nat.le_of_ble_eq_true rfl, Nat.le_of_ble_eq_true rfl⟩) (pV (ci := 11) (k := 0) hKA (hP.sub (ws' := [(mm, .inr (11, [.ref mm_now, .ref mm_kept, .ref mm_isKept, .ref mm_refused, .int mm_lineFrom, .int mm_lineTo, .ref mm_stands, .ref mm_far, .ref mm_queue, .int mm_queued, .ref mm_meets, .ref mm_bytes, .int (nI bl), .int (nI ta), .int (nI tl), .int mm_token, .int mm_value, .ref mm_next, .int (nI tk)])), (mm_refused, .inl (cy 1, 3, .inl mm_refused_f))]) [0, 2] rfl) (hD.sub (ws' := [(mm, .inr (11, [.ref mm_now, .ref mm_kept, .ref mm_isKept, .ref mm_refused, .int mm_lineFrom, .int mm_lineTo, .ref mm_stands, .ref mm_far, .ref mm_queue, .int mm_queued, .ref mm_meets, .ref mm_bytes, .int (nI bl), .int (nI ta), .int (nI tl), .int mm_token, .int mm_value, .ref mm_next, .int (nI tk)])), (mm_refused, .inl (cy 1, 3, .inl mm_refused_f))]) [0, 2] (by decide) rfl) rfl rfl) rfl rfl hl.1 rfl (lv_room (Nat.le_of_ble_eq_true rfl)) dX11_tell_24 ⟨Nat.le_of_ble_eq_true rfl, Nat.le_of_ble_eq_true rfl⟩) hP hD hS hA [0, 2] [1] rfl rfl (by decide +kernel) (by decide +kernel) (fun r9 ur9 H locs hwr9 hP hD hS => ?_)
      obtain ⟨z10, rfl⟩ : ∃ z, z = ur9 := ⟨_, rfl⟩
      have hP : va_P D vwCl [(mm_now, .inl (cy 1, 122, .inl mm_now_f)), (mm, .inr (11, [.ref mm_now, .ref mm_kept, .ref mm_isKept, .ref mm_refused, .int mm_lineFrom, .int mm_lineTo, .ref mm_stands, .ref mm_far, .ref mm_queue, .int mm_queued, .ref mm_meets, .ref mm_bytes, .int (nI bl), .int (nI ta), .int (nI tl), .int mm_token, .int mm_value, .ref mm_next, .int (nI tk)])), (mm_refused, .inl (cy 1, 3, .inl z10))] H := hP
      have hD : va_D A [(mm_now, .inl (cy 1, 122, .inl mm_now_f)), (mm, .inr (11, [.ref mm_now, .ref mm_kept, .ref mm_isKept, .ref mm_refused, .int mm_lineFrom, .int mm_lineTo, .ref mm_stands, .ref mm_far, .ref mm_queue, .int mm_queued, .ref mm_meets, .ref mm_bytes, .int (nI bl), .int (nI ta), .int (nI tl), .int mm_token, .int mm_value, .ref mm_next, .int (nI tk)])), (mm_refused, .inl (cy 1, 3, .inl z10))] := hD
      have hwr9 : r9 = (-2) := hwr9
      subst hwr9
      subst hQF
      have hP9 := hP.sub (ws' := [(mm, .inr (11, [.ref mm_now, .ref mm_kept, .ref mm_isKept, .ref mm_refused, .int mm_lineFrom, .int mm_lineTo, .ref mm_stands, .ref mm_far, .ref mm_queue, .int mm_queued, .ref mm_meets, .ref mm_bytes, .int (nI bl), .int (nI ta), .int (nI tl), .int mm_token, .int mm_value, .ref mm_next, .int (nI tk)])), (mm_now, .inl (cy 1, 122, .inl mm_now_f)), (mm_refused, .inl (cy 1, 3, .inl z10))]) [1, 0, 2] rfl
      have hD9 := hD.sub (ws' := [(mm, .inr (11, [.ref mm_now, .ref mm_kept, .ref mm_isKept, .ref mm_refused, .int mm_lineFrom, .int mm_lineTo, .ref mm_stands, .ref mm_far, .ref mm_queue, .int mm_queued, .ref mm_meets, .ref mm_bytes, .int (nI bl), .int (nI ta), .int (nI tl), .int mm_token, .int mm_value, .ref mm_next, .int (nI tk)])), (mm_now, .inl (cy 1, 122, .inl mm_now_f)), (mm_refused, .inl (cy 1, 3, .inl z10))]) [1, 0, 2] (by decide) rfl
      exact W.iret (v := (-2)) hx hb hr (fun t ht hW => ⟨⟨(-2), (mm_now_f, z10), rfl, ⟨_, _, _, _, hF⟩, by rw [ht]; exact hP9, hD9⟩, hS.F ht⟩) hS.2.2 dX11_tell_27
    · skip
      have hp11 := z_b1 hwr7 c8
      obtain ⟨j12, hj12, ej12⟩ := hp11
      refine lv_iload_n hx hb dX11_tell_16 rfl (lv_at hl 1 rfl) ?_
      refine W.eq (g2 := F0 m 17 ls [.int (nI j6)]) (congrArg (fun v9 : Int32 => F0 m 17 ls [.int v9]) ej6) ?_
      refine lv_iload_n hx hb dX11_tell_17 rfl (lv_at hl 2 rfl) ?_
      refine W.eq (g2 := F0 m 18 ls [.int (nI j12), .int (nI j6)]) (congrArg (fun v9 : Int32 => F0 m 18 ls [.int v9, .int (nI j6)]) ej12) ?_
      refine lv_icmp_ne (tgt := 28) hx hb dX11_tell_18 (by decide) (fun c13 => ?_) (fun c13 => ?_)
      · skip
        refine lv_aload_n hx hb dX11_tell_28 rfl (lv_at hl 0 rfl) ?_
        refine va_get (D := D) (ci := 11) (v := .ref mm_now) (C := RX11) (T := TX11) (N := 19) hx hb hts zi11_ hown hK hP 0 rfl rfl 0 (by decide) z0_ (fun _ h9 => h9) rfl dX11_tell_29 ?_
        refine lv_bipush (v := 92) hx hb dX11_tell_32 (by decide) ?_
        refine my_iald hx hb hK hP 1 1 rfl rfl (by rw [vp_in_iff]; decide +kernel) (k := 92) (by decide +kernel) dX11_tell_34 ?_
        obtain ⟨jk, ejk, hjk⟩ := mV.get hF (92) 6 (by omega) (by omega) (by unfold mHi; (repeat' split) <;> omega)
        refine W.eq (g2 := F0 m 35 ls [.int (nI jk)]) (congrArg (fun v9 : Int32 => F0 m 35 ls [.int v9]) ejk) ?_
        refine lv_istore_n (lv' := [(3, .int (nI jk)), (0, .ref mm), (1, .int px), (2, .int py)]) hx hb dX11_tell_35 rfl hl (by decide) rfl (fun ls hl => ?_)
        refine lv_iload_n hx hb dX11_tell_36 rfl (lv_at hl 0 rfl) ?_
        refine lv_bipush (v := 6) hx hb dX11_tell_37 (by decide) ?_
        refine lv_icmp_ne (tgt := 47) hx hb dX11_tell_39 (by decide) (fun c14 => ?_) (fun c14 => ?_)
        · skip
          have hk6 := ne5 (n := 6) rfl (by assumption) hjk
          refine lv_aload_n hx hb dX11_tell_47 rfl (lv_at hl 1 rfl) ?_
          refine va_get (D := D) (ci := 11) (v := .ref mm_now) (C := RX11) (T := TX11) (N := 19) hx hb hts zi11_ hown hK hP 0 rfl rfl 0 (by decide) z0_ (fun _ h9 => h9) rfl dX11_tell_48 ?_
          refine lv_bipush (v := 93) hx hb dX11_tell_51 (by decide) ?_
          refine lv_iconst (v := 2) hx hb dX11_tell_53 (by decide) ?_
          refine lv_iload_n hx hb dX11_tell_54 rfl (lv_at hl 0 rfl) ?_
          refine lv_imul hx hb dX11_tell_55 ?_
          refine lv_topi (fun x15 ex15 => ?_)
          obtain rfl : x15 = nI (2 * jk) := by rw [ex15]; exact pk_mul _ _
          refine lv_iadd hx hb dX11_tell_56 ?_
          refine lv_topi (fun x16 ex16 => ?_)
          obtain rfl : x16 = nI (93 + (2 * jk)) := by rw [ex16]; exact nI_add _ _
          refine lv_iload_n hx hb dX11_tell_57 rfl (lv_at hl 2 rfl) ?_
          refine W.eq (g2 := F0 m 58 ls [.int (nI j6), .int (nI (93 + (2 * jk))), .ref mm_now]) (congrArg (fun v9 : Int32 => F0 m 58 ls [.int v9, .int (nI (93 + (2 * jk))), .ref mm_now]) ej6) ?_
          refine my_iast hx hb hK hP hD hS 1 1 rfl rfl (by first | exact in_ge (N := 122) (by decide) (by omega) (by assumption) | exact vp_in_nI (by omega) (by omega)) (nI_clamp (by omega)) dX11_tell_58 (fun H locs hP hD hS => ?_)
          have hP : va_P D vwCl [(mm, .inr (11, [.ref mm_now, .ref mm_kept, .ref mm_isKept, .ref mm_refused, .int mm_lineFrom, .int mm_lineTo, .ref mm_stands, .ref mm_far, .ref mm_queue, .int mm_queued, .ref mm_meets, .ref mm_bytes, .int (nI bl), .int (nI ta), .int (nI tl), .int mm_token, .int mm_value, .ref mm_next, .int (nI tk)])), (mm_now, .inl (cy 1, 122, .inl (upd mm_now_f (93 + (2 * jk)) (nI j6)))), (mm_refused, .inl (cy 1, 3, .inl mm_refused_f))] H := hP
          have hD : va_D A [(mm, .inr (11, [.ref mm_now, .ref mm_kept, .ref mm_isKept, .ref mm_refused, .int mm_lineFrom, .int mm_lineTo, .ref mm_stands, .ref mm_far, .ref mm_queue, .int mm_queued, .ref mm_meets, .ref mm_bytes, .int (nI bl), .int (nI ta), .int (nI tl), .int mm_token, .int mm_value, .ref mm_next, .int (nI tk)])), (mm_now, .inl (cy 1, 122, .inl (upd mm_now_f (93 + (2 * jk)) (nI j6)))), (mm_refused, .inl (cy 1, 3, .inl mm_refused_f))] := hD
          obtain ⟨f17, ef17⟩ : ∃ y : Nat → Int32, y = upd mm_now_f (93 + (2 * jk)) (nI j6) := ⟨_, rfl⟩
          rw [← ef17] at hP hD
          have hf17 : mV f17 mW mH mS mP := by rw [ef17]; exact mV.put hF (93 + (2 * jk)) j6 rfl (by omega) (by unfold mHi; (repeat' split) <;> omega)
          have hP : va_P D vwCl [(mm, .inr (11, [.ref mm_now, .ref mm_kept, .ref mm_isKept, .ref mm_refused, .int mm_lineFrom, .int mm_lineTo, .ref mm_stands, .ref mm_far, .ref mm_queue, .int mm_queued, .ref mm_meets, .ref mm_bytes, .int (nI bl), .int (nI ta), .int (nI tl), .int mm_token, .int mm_value, .ref mm_next, .int (nI tk)])), (mm_now, .inl (cy 1, 122, .inl f17)), (mm_refused, .inl (cy 1, 3, .inl mm_refused_f))] H := hP
          have hD : va_D A [(mm, .inr (11, [.ref mm_now, .ref mm_kept, .ref mm_isKept, .ref mm_refused, .int mm_lineFrom, .int mm_lineTo, .ref mm_stands, .ref mm_far, .ref mm_queue, .int mm_queued, .ref mm_meets, .ref mm_bytes, .int (nI bl), .int (nI ta), .int (nI tl), .int mm_token, .int mm_value, .ref mm_next, .int (nI tk)])), (mm_now, .inl (cy 1, 122, .inl f17)), (mm_refused, .inl (cy 1, 3, .inl mm_refused_f))] := hD
          refine lv_aload_n hx hb dX11_tell_59 rfl (lv_at hl 1 rfl) ?_
          refine va_get (D := D) (ci := 11) (v := .ref mm_now) (C := RX11) (T := TX11) (N := 19) hx hb hts zi11_ hown hK hP 0 rfl rfl 0 (by decide) z0_ (fun _ h9 => h9) rfl dX11_tell_60 ?_
          refine lv_bipush (v := 93) hx hb dX11_tell_63 (by decide) ?_
          refine lv_iconst (v := 2) hx hb dX11_tell_65 (by decide) ?_
          refine lv_iload_n hx hb dX11_tell_66 rfl (lv_at hl 0 rfl) ?_
          refine lv_imul hx hb dX11_tell_67 ?_
          refine lv_topi (fun x18 ex18 => ?_)
          obtain rfl : x18 = nI (2 * jk) := by rw [ex18]; exact pk_mul _ _
          refine lv_iadd hx hb dX11_tell_68 ?_
          refine lv_topi (fun x19 ex19 => ?_)
          obtain rfl : x19 = nI (93 + (2 * jk)) := by rw [ex19]; exact nI_add _ _
          refine lv_iconst (v := 1) hx hb dX11_tell_69 (by decide) ?_
          refine lv_iadd hx hb dX11_tell_70 ?_
          refine lv_topi (fun x20 ex20 => ?_)
          obtain rfl : x20 = nI ((93 + (2 * jk)) + 1) := by rw [ex20]; exact nI_add _ _
          refine lv_iload_n hx hb dX11_tell_71 rfl (lv_at hl 3 rfl) ?_
          refine W.eq (g2 := F0 m 72 ls [.int (nI j12), .int (nI ((93 + (2 * jk)) + 1)), .ref mm_now]) (congrArg (fun v9 : Int32 => F0 m 72 ls [.int v9, .int (nI ((93 + (2 * jk)) + 1)), .ref mm_now]) ej12) ?_
          refine my_iast hx hb hK hP hD hS 1 1 rfl rfl (by first | exact in_ge (N := 122) (by decide) (by omega) (by assumption) | exact vp_in_nI (by omega) (by omega)) (nI_clamp (by omega)) dX11_tell_72 (fun H locs hP hD hS => ?_)
          have hP : va_P D vwCl [(mm, .inr (11, [.ref mm_now, .ref mm_kept, .ref mm_isKept, .ref mm_refused, .int mm_lineFrom, .int mm_lineTo, .ref mm_stands, .ref mm_far, .ref mm_queue, .int mm_queued, .ref mm_meets, .ref mm_bytes, .int (nI bl), .int (nI ta), .int (nI tl), .int mm_token, .int mm_value, .ref mm_next, .int (nI tk)])), (mm_now, .inl (cy 1, 122, .inl (upd f17 ((93 + (2 * jk)) + 1) (nI j12)))), (mm_refused, .inl (cy 1, 3, .inl mm_refused_f))] H := hP
          have hD : va_D A [(mm, .inr (11, [.ref mm_now, .ref mm_kept, .ref mm_isKept, .ref mm_refused, .int mm_lineFrom, .int mm_lineTo, .ref mm_stands, .ref mm_far, .ref mm_queue, .int mm_queued, .ref mm_meets, .ref mm_bytes, .int (nI bl), .int (nI ta), .int (nI tl), .int mm_token, .int mm_value, .ref mm_next, .int (nI tk)])), (mm_now, .inl (cy 1, 122, .inl (upd f17 ((93 + (2 * jk)) + 1) (nI j12)))), (mm_refused, .inl (cy 1, 3, .inl mm_refused_f))] := hD
          obtain ⟨f21, ef21⟩ : ∃ y : Nat → Int32, y = upd f17 ((93 + (2 * jk)) + 1) (nI j12) := ⟨_, rfl⟩
          rw [← ef21] at hP hD
          have hf21 : mV f21 mW mH mS mP := by rw [ef21]; exact mV.put hf17 ((93 + (2 * jk)) + 1) j12 rfl (by omega) (by unfold mHi; (repeat' split) <;> omega)
          have hP : va_P D vwCl [(mm, .inr (11, [.ref mm_now, .ref mm_kept, .ref mm_isKept, .ref mm_refused, .int mm_lineFrom, .int mm_lineTo, .ref mm_stands, .ref mm_far, .ref mm_queue, .int mm_queued, .ref mm_meets, .ref mm_bytes, .int (nI bl), .int (nI ta), .int (nI tl), .int mm_token, .int mm_value, .ref mm_next, .int (nI tk)])), (mm_now, .inl (cy 1, 122, .inl f21)), (mm_refused, .inl (cy 1, 3, .inl mm_refused_f))] H := hP
          have hD : va_D A [(mm, .inr (11, [.ref mm_now, .ref mm_kept, .ref mm_isKept, .ref mm_refused, .int mm_lineFrom, .int mm_lineTo, .ref mm_stands, .ref mm_far, .ref mm_queue, .int mm_queued, .ref mm_meets, .ref mm_bytes, .int (nI bl), .int (nI ta), .int (nI tl), .int mm_token, .int mm_value, .ref mm_next, .int (nI tk)])), (mm_now, .inl (cy 1, 122, .inl f21)), (mm_refused, .inl (cy 1, 3, .inl mm_refused_f))] := hD
          refine lv_aload_n hx hb dX11_tell_73 rfl (lv_at hl 1 rfl) ?_
          refine va_get (D := D) (ci := 11) (v := .ref mm_now) (C := RX11) (T := TX11) (N := 19) hx hb hts zi11_ hown hK hP 0 rfl rfl 0 (by decide) z0_ (fun _ h9 => h9) rfl dX11_tell_74 ?_
          refine lv_bipush (v := 92) hx hb dX11_tell_77 (by decide) ?_
          refine lv_dup2_11 hx hb dX11_tell_79 rfl rfl ?_
          refine my_iald hx hb hK hP 1 1 rfl rfl (by rw [vp_in_iff]; decide +kernel) (k := 92) (by decide +kernel) dX11_tell_80 ?_
          refine W.eq (g2 := F0 m 81 ls [.int (nI jk), .int 92, .ref mm_now]) (congrArg (fun v9 : Int32 => F0 m 81 ls [.int v9, .int 92, .ref mm_now]) (show _ = nI jk by rw [ef21, ur_ne _ _ (by omega), ef17, ur_ne _ _ (by omega)]; exact ejk)) ?_
          refine lv_iconst (v := 1) hx hb dX11_tell_81 (by decide) ?_
          refine lv_iadd hx hb dX11_tell_82 ?_
          refine lv_topi (fun x22 ex22 => ?_)
          obtain rfl : x22 = nI (jk + 1) := by rw [ex22]; exact nI_add _ _
          refine my_iast hx hb hK hP hD hS 1 1 rfl rfl (by rw [vp_in_iff]; decide +kernel) (k := 92) (by decide +kernel) dX11_tell_83 (fun H locs hP hD hS => ?_)
          have hP : va_P D vwCl [(mm, .inr (11, [.ref mm_now, .ref mm_kept, .ref mm_isKept, .ref mm_refused, .int mm_lineFrom, .int mm_lineTo, .ref mm_stands, .ref mm_far, .ref mm_queue, .int mm_queued, .ref mm_meets, .ref mm_bytes, .int (nI bl), .int (nI ta), .int (nI tl), .int mm_token, .int mm_value, .ref mm_next, .int (nI tk)])), (mm_now, .inl (cy 1, 122, .inl (upd f21 92 (nI (jk + 1))))), (mm_refused, .inl (cy 1, 3, .inl mm_refused_f))] H := hP
          have hD : va_D A [(mm, .inr (11, [.ref mm_now, .ref mm_kept, .ref mm_isKept, .ref mm_refused, .int mm_lineFrom, .int mm_lineTo, .ref mm_stands, .ref mm_far, .ref mm_queue, .int mm_queued, .ref mm_meets, .ref mm_bytes, .int (nI bl), .int (nI ta), .int (nI tl), .int mm_token, .int mm_value, .ref mm_next, .int (nI tk)])), (mm_now, .inl (cy 1, 122, .inl (upd f21 92 (nI (jk + 1))))), (mm_refused, .inl (cy 1, 3, .inl mm_refused_f))] := hD
          obtain ⟨f23, ef23⟩ : ∃ y : Nat → Int32, y = upd f21 92 (nI (jk + 1)) := ⟨_, rfl⟩
          rw [← ef23] at hP hD
          have hf23 : mV f23 mW mH mS mP := by rw [ef23]; exact mV.put hf21 92 (jk + 1) rfl (by omega) (by unfold mHi; (repeat' split) <;> omega)
          have hP : va_P D vwCl [(mm, .inr (11, [.ref mm_now, .ref mm_kept, .ref mm_isKept, .ref mm_refused, .int mm_lineFrom, .int mm_lineTo, .ref mm_stands, .ref mm_far, .ref mm_queue, .int mm_queued, .ref mm_meets, .ref mm_bytes, .int (nI bl), .int (nI ta), .int (nI tl), .int mm_token, .int mm_value, .ref mm_next, .int (nI tk)])), (mm_now, .inl (cy 1, 122, .inl f23)), (mm_refused, .inl (cy 1, 3, .inl mm_refused_f))] H := hP
          have hD : va_D A [(mm, .inr (11, [.ref mm_now, .ref mm_kept, .ref mm_isKept, .ref mm_refused, .int mm_lineFrom, .int mm_lineTo, .ref mm_stands, .ref mm_far, .ref mm_queue, .int mm_queued, .ref mm_meets, .ref mm_bytes, .int (nI bl), .int (nI ta), .int (nI tl), .int mm_token, .int mm_value, .ref mm_next, .int (nI tk)])), (mm_now, .inl (cy 1, 122, .inl f23)), (mm_refused, .inl (cy 1, 3, .inl mm_refused_f))] := hD
          refine lv_iload_n hx hb dX11_tell_84 rfl (lv_at hl 0 rfl) ?_
          subst hQF
          have hP9 := hP
          have hD9 := hD
          exact W.iret (v := nI jk) hx hb hr (fun t ht hW => ⟨⟨nI jk, (f23, mm_refused_f), rfl, ⟨_, _, _, _, hf23⟩, by rw [ht]; exact hP9, hD9⟩, hS.F ht⟩) hS.2.2 dX11_tell_85
        · skip
          refine lv_aload_n hx hb dX11_tell_42 rfl (lv_at hl 1 rfl) ?_
          refine wr_i (wr := [(mm_now, .inl (cy 1, 122, .inl mm_now_f))]) (va_runV (As := []) (rest := []) ⟨hx, hb, hml, hown, hts⟩ (n_X11_full l D cy mm mm_now mm_kept mm_isKept mm_refused mm_lineFrom mm_lineTo mm_stands mm_far mm_queue mm_queued mm_meets mm_bytes bl ta tl mm_token mm_value mm_next tk mm_refused_f _ ) (cwV 0 hts gX11_tell_X11_full rfl rfl rfl (by decide +kernel) ⟨Nat.le_of_ble_eq_true rfl, Nat.le_of_ble_eq_true rfl⟩) (pV (ci := 11) (k := 0) hKA (hP.sub (ws' := [(mm, .inr (11, [.ref mm_now, .ref mm_kept, .ref mm_isKept, .ref mm_refused, .int mm_lineFrom, .int mm_lineTo, .ref mm_stands, .ref mm_far, .ref mm_queue, .int mm_queued, .ref mm_meets, .ref mm_bytes, .int (nI bl), .int (nI ta), .int (nI tl), .int mm_token, .int mm_value, .ref mm_next, .int (nI tk)])), (mm_refused, .inl (cy 1, 3, .inl mm_refused_f))]) [0, 2] rfl) (hD.sub (ws' := [(mm, .inr (11, [.ref mm_now, .ref mm_kept, .ref mm_isKept, .ref mm_refused, .int mm_lineFrom, .int mm_lineTo, .ref mm_stands, .ref mm_far, .ref mm_queue, .int mm_queued, .ref mm_meets, .ref mm_bytes, .int (nI bl), .int (nI ta), .int (nI tl), .int mm_token, .int mm_value, .ref mm_next, .int (nI tk)])), (mm_refused, .inl (cy 1, 3, .inl mm_refused_f))]) [0, 2] (by decide) rfl) rfl rfl) rfl rfl hl.1 rfl (lv_room (Nat.le_of_ble_eq_true rfl)) dX11_tell_43 ⟨Nat.le_of_ble_eq_true rfl, Nat.le_of_ble_eq_true rfl⟩) hP hD hS hA [0, 2] [1] rfl rfl (by decide +kernel) (by decide +kernel) (fun r24 ur24 H locs hwr24 hP hD hS => ?_)
          obtain ⟨z25, rfl⟩ : ∃ z, z = ur24 := ⟨_, rfl⟩
          have hP : va_P D vwCl [(mm_now, .inl (cy 1, 122, .inl mm_now_f)), (mm, .inr (11, [.ref mm_now, .ref mm_kept, .ref mm_isKept, .ref mm_refused, .int mm_lineFrom, .int mm_lineTo, .ref mm_stands, .ref mm_far, .ref mm_queue, .int mm_queued, .ref mm_meets, .ref mm_bytes, .int (nI bl), .int (nI ta), .int (nI tl), .int mm_token, .int mm_value, .ref mm_next, .int (nI tk)])), (mm_refused, .inl (cy 1, 3, .inl z25))] H := hP
          have hD : va_D A [(mm_now, .inl (cy 1, 122, .inl mm_now_f)), (mm, .inr (11, [.ref mm_now, .ref mm_kept, .ref mm_isKept, .ref mm_refused, .int mm_lineFrom, .int mm_lineTo, .ref mm_stands, .ref mm_far, .ref mm_queue, .int mm_queued, .ref mm_meets, .ref mm_bytes, .int (nI bl), .int (nI ta), .int (nI tl), .int mm_token, .int mm_value, .ref mm_next, .int (nI tk)])), (mm_refused, .inl (cy 1, 3, .inl z25))] := hD
          have hwr24 : r24 = -4 := hwr24
          subst hwr24
          subst hQF
          have hP9 := hP.sub (ws' := [(mm, .inr (11, [.ref mm_now, .ref mm_kept, .ref mm_isKept, .ref mm_refused, .int mm_lineFrom, .int mm_lineTo, .ref mm_stands, .ref mm_far, .ref mm_queue, .int mm_queued, .ref mm_meets, .ref mm_bytes, .int (nI bl), .int (nI ta), .int (nI tl), .int mm_token, .int mm_value, .ref mm_next, .int (nI tk)])), (mm_now, .inl (cy 1, 122, .inl mm_now_f)), (mm_refused, .inl (cy 1, 3, .inl z25))]) [1, 0, 2] rfl
          have hD9 := hD.sub (ws' := [(mm, .inr (11, [.ref mm_now, .ref mm_kept, .ref mm_isKept, .ref mm_refused, .int mm_lineFrom, .int mm_lineTo, .ref mm_stands, .ref mm_far, .ref mm_queue, .int mm_queued, .ref mm_meets, .ref mm_bytes, .int (nI bl), .int (nI ta), .int (nI tl), .int mm_token, .int mm_value, .ref mm_next, .int (nI tk)])), (mm_now, .inl (cy 1, 122, .inl mm_now_f)), (mm_refused, .inl (cy 1, 3, .inl z25))]) [1, 0, 2] (by decide) rfl
          exact W.iret (v := (-4)) hx hb hr (fun t ht hW => ⟨⟨(-4), (mm_now_f, z25), rfl, ⟨_, _, _, _, hF⟩, by rw [ht]; exact hP9, hD9⟩, hS.F ht⟩) hS.2.2 dX11_tell_46
      · skip
        refine lv_aload_n hx hb dX11_tell_21 rfl (lv_at hl 0 rfl) ?_
        refine lv_bipush (v := (-2)) hx hb dX11_tell_22 (by decide) ?_
        refine wr_i (wr := [(mm_now, .inl (cy 1, 122, .inl mm_now_f))]) (va_runV (As := [.int (-2)]) (rest := []) ⟨hx, hb, hml, hown, hts⟩ (n_X11_bad l D cy mm mm_now mm_kept mm_isKept mm_refused mm_lineFrom mm_lineTo mm_stands mm_far mm_queue mm_queued mm_meets mm_bytes bl ta tl mm_token mm_value mm_next tk mm_refused_f (-2) _ ) (cwV 1 hts gX11_tell_X11_bad rfl rfl rfl (by decide +kernel) ⟨Nat.le_of_ble_eq_true rfl, Nat.le_of_ble_eq_true rfl⟩) (pV (ci := 11) (k := 0) hKA (hP.sub (ws' := [(mm, .inr (11, [.ref mm_now, .ref mm_kept, .ref mm_isKept, .ref mm_refused, .int mm_lineFrom, .int mm_lineTo, .ref mm_stands, .ref mm_far, .ref mm_queue, .int mm_queued, .ref mm_meets, .ref mm_bytes, .int (nI bl), .int (nI ta), .int (nI tl), .int mm_token, .int mm_value, .ref mm_next, .int (nI tk)])), (mm_refused, .inl (cy 1, 3, .inl mm_refused_f))]) [0, 2] rfl) (hD.sub (ws' := [(mm, .inr (11, [.ref mm_now, .ref mm_kept, .ref mm_isKept, .ref mm_refused, .int mm_lineFrom, .int mm_lineTo, .ref mm_stands, .ref mm_far, .ref mm_queue, .int mm_queued, .ref mm_meets, .ref mm_bytes, .int (nI bl), .int (nI ta), .int (nI tl), .int mm_token, .int mm_value, .ref mm_next, .int (nI tk)])), (mm_refused, .inl (cy 1, 3, .inl mm_refused_f))]) [0, 2] (by decide) rfl) rfl rfl) rfl rfl hl.1 rfl (lv_room (Nat.le_of_ble_eq_true rfl)) dX11_tell_24 ⟨Nat.le_of_ble_eq_true rfl, Nat.le_of_ble_eq_true rfl⟩) hP hD hS hA [0, 2] [1] rfl rfl (by decide +kernel) (by decide +kernel) (fun r26 ur26 H locs hwr26 hP hD hS => ?_)
        obtain ⟨z27, rfl⟩ : ∃ z, z = ur26 := ⟨_, rfl⟩
        have hP : va_P D vwCl [(mm_now, .inl (cy 1, 122, .inl mm_now_f)), (mm, .inr (11, [.ref mm_now, .ref mm_kept, .ref mm_isKept, .ref mm_refused, .int mm_lineFrom, .int mm_lineTo, .ref mm_stands, .ref mm_far, .ref mm_queue, .int mm_queued, .ref mm_meets, .ref mm_bytes, .int (nI bl), .int (nI ta), .int (nI tl), .int mm_token, .int mm_value, .ref mm_next, .int (nI tk)])), (mm_refused, .inl (cy 1, 3, .inl z27))] H := hP
        have hD : va_D A [(mm_now, .inl (cy 1, 122, .inl mm_now_f)), (mm, .inr (11, [.ref mm_now, .ref mm_kept, .ref mm_isKept, .ref mm_refused, .int mm_lineFrom, .int mm_lineTo, .ref mm_stands, .ref mm_far, .ref mm_queue, .int mm_queued, .ref mm_meets, .ref mm_bytes, .int (nI bl), .int (nI ta), .int (nI tl), .int mm_token, .int mm_value, .ref mm_next, .int (nI tk)])), (mm_refused, .inl (cy 1, 3, .inl z27))] := hD
        have hwr26 : r26 = (-2) := hwr26
        subst hwr26
        subst hQF
        have hP9 := hP.sub (ws' := [(mm, .inr (11, [.ref mm_now, .ref mm_kept, .ref mm_isKept, .ref mm_refused, .int mm_lineFrom, .int mm_lineTo, .ref mm_stands, .ref mm_far, .ref mm_queue, .int mm_queued, .ref mm_meets, .ref mm_bytes, .int (nI bl), .int (nI ta), .int (nI tl), .int mm_token, .int mm_value, .ref mm_next, .int (nI tk)])), (mm_now, .inl (cy 1, 122, .inl mm_now_f)), (mm_refused, .inl (cy 1, 3, .inl z27))]) [1, 0, 2] rfl
        have hD9 := hD.sub (ws' := [(mm, .inr (11, [.ref mm_now, .ref mm_kept, .ref mm_isKept, .ref mm_refused, .int mm_lineFrom, .int mm_lineTo, .ref mm_stands, .ref mm_far, .ref mm_queue, .int mm_queued, .ref mm_meets, .ref mm_bytes, .int (nI bl), .int (nI ta), .int (nI tl), .int mm_token, .int mm_value, .ref mm_next, .int (nI tk)])), (mm_now, .inl (cy 1, 122, .inl mm_now_f)), (mm_refused, .inl (cy 1, 3, .inl z27))]) [1, 0, 2] (by decide) rfl
        exact W.iret (v := (-2)) hx hb hr (fun t ht hW => ⟨⟨(-2), (mm_now_f, z27), rfl, ⟨_, _, _, _, hF⟩, by rw [ht]; exact hP9, hD9⟩, hS.F ht⟩) hS.2.2 dX11_tell_27

set_option maxHeartbeats 4000000 in
set_option maxRecDepth 100000 in
theorem n_X11_report (l : Launch) (D : va_G) (cy : Nat → ClassId) (mm : Nat) (mm_now : Nat) (mm_kept : Nat) (mm_isKept : Nat) (mm_refused : Nat) (mm_lineFrom : Int32) (mm_lineTo : Int32) (mm_stands : Nat) (mm_far : Nat) (mm_queue : Nat) (mm_queued : Int32) (mm_meets : Nat) (mm_bytes : Nat) (bl : Nat) (ta : Nat) (tl : Nat) (mm_token : Int32) (mm_value : Int32) (mm_next : Nat) (tk : Nat) (mm_now_f : Nat → Int32) (mm_refused_f : Nat → Int32) (px : Int32) (py : Int32) (sz : Nat) (hN : mN mm_now_f) : Met l yX11_report wsX11_report ({ frames := 2, cells := 0, slots := 0, locals := 46 }) (va_Pc [.ref mm, .int px, .int py] (kPre D cy [(mm, .inr (11, [.ref mm_now, .ref mm_kept, .ref mm_isKept, .ref mm_refused, .int mm_lineFrom, .int mm_lineTo, .ref mm_stands, .ref mm_far, .ref mm_queue, .int mm_queued, .ref mm_meets, .ref mm_bytes, .int (nI bl), .int (nI ta), .int (nI tl), .int mm_token, .int mm_value, .ref mm_next, .int (nI tk)])), (mm_now, .inl (cy 1, 122, .inl mm_now_f)), (mm_refused, .inl (cy 1, 3, .inl mm_refused_f))] sz)) (va_Qi (fun (r : Int32) (u : (Nat → Int32) × (Nat → Int32)) => mN u.1) (fun (u : (Nat → Int32) × (Nat → Int32)) t => va_P D vwCl ([(mm, .inr (11, [.ref mm_now, .ref mm_kept, .ref mm_isKept, .ref mm_refused, .int mm_lineFrom, .int mm_lineTo, .ref mm_stands, .ref mm_far, .ref mm_queue, .int mm_queued, .ref mm_meets, .ref mm_bytes, .int (nI bl), .int (nI ta), .int (nI tl), .int mm_token, .int mm_value, .ref mm_next, .int (nI tk)])), (mm_now, .inl (cy 1, 122, .inl u.1)), (mm_refused, .inl (cy 1, 3, .inl u.2))]) t.heap ∧ va_D (va_A [(mm, .inr (11, [.ref mm_now, .ref mm_kept, .ref mm_isKept, .ref mm_refused, .int mm_lineFrom, .int mm_lineTo, .ref mm_stands, .ref mm_far, .ref mm_queue, .int mm_queued, .ref mm_meets, .ref mm_bytes, .int (nI bl), .int (nI ta), .int (nI tl), .int mm_token, .int mm_value, .ref mm_next, .int (nI tk)])), (mm_now, .inl (cy 1, 122, .inl mm_now_f)), (mm_refused, .inl (cy 1, 3, .inl mm_refused_f))] sz) ([(mm, .inr (11, [.ref mm_now, .ref mm_kept, .ref mm_isKept, .ref mm_refused, .int mm_lineFrom, .int mm_lineTo, .ref mm_stands, .ref mm_far, .ref mm_queue, .int mm_queued, .ref mm_meets, .ref mm_bytes, .int (nI bl), .int (nI ta), .int (nI tl), .int mm_token, .int mm_value, .ref mm_next, .int (nI tk)])), (mm_now, .inl (cy 1, 122, .inl u.1)), (mm_refused, .inl (cy 1, 3, .inl u.2))])) (va_A [(mm, .inr (11, [.ref mm_now, .ref mm_kept, .ref mm_isKept, .ref mm_refused, .int mm_lineFrom, .int mm_lineTo, .ref mm_stands, .ref mm_far, .ref mm_queue, .int mm_queued, .ref mm_meets, .ref mm_bytes, .int (nI bl), .int (nI ta), .int (nI tl), .int mm_token, .int mm_value, .ref mm_next, .int (nI tk)])), (mm_now, .inl (cy 1, 122, .inl mm_now_f)), (mm_refused, .inl (cy 1, 3, .inl mm_refused_f))] sz)) 0 0 (va_A [(mm, .inr (11, [.ref mm_now, .ref mm_kept, .ref mm_isKept, .ref mm_refused, .int mm_lineFrom, .int mm_lineTo, .ref mm_stands, .ref mm_far, .ref mm_queue, .int mm_queued, .ref mm_meets, .ref mm_bytes, .int (nI bl), .int (nI ta), .int (nI tl), .int mm_token, .int mm_value, .ref mm_next, .int (nI tk)])), (mm_now, .inl (cy 1, 122, .inl mm_now_f)), (mm_refused, .inl (cy 1, 3, .inl mm_refused_f))] sz) := by
  refine Met.ofW (cc := cX11_report) (maxL := 4) (ret := (some .int)) (by decide) rfl ?_
  intro p e s m args below meth c s₁ B hml hv
  obtain ⟨rfl, hsz, hP, hKA, hD0⟩ := hv
  have hx := B.exec
  have hb := B.bytes
  have hr := B.returns
  have hts := atoms_spec (ws := wsX11_report) B.pre
  have hown : s.vm.findClass RX11 = some m.cls := findClass_of_methodNamed B.named
  have hlocks := B.notSynchronized
  subst hsz
  have hK := hKA.1
  have hD := hD0.self (sz := s.heap.size)
  generalize hAe : va_A [(mm, .inr (11, [.ref mm_now, .ref mm_kept, .ref mm_isKept, .ref mm_refused, .int mm_lineFrom, .int mm_lineTo, .ref mm_stands, .ref mm_far, .ref mm_queue, .int mm_queued, .ref mm_meets, .ref mm_bytes, .int (nI bl), .int (nI ta), .int (nI tl), .int mm_token, .int mm_value, .ref mm_next, .int (nI tk)])), (mm_now, .inl (cy 1, 122, .inl mm_now_f)), (mm_refused, .inl (cy 1, 3, .inl mm_refused_f))] s.heap.size = A at hD ⊢
  have hA : ∀ q : Nat, s.heap.size ≤ q → A q := fun q h => by rw [← hAe]; exact Or.inr h
  have hS : va_S A s.heap s.heap [] := va_S.rf
  have hP : va_P D vwCl [(mm, .inr (11, [.ref mm_now, .ref mm_kept, .ref mm_isKept, .ref mm_refused, .int mm_lineFrom, .int mm_lineTo, .ref mm_stands, .ref mm_far, .ref mm_queue, .int mm_queued, .ref mm_meets, .ref mm_bytes, .int (nI bl), .int (nI ta), .int (nI tl), .int mm_token, .int mm_value, .ref mm_next, .int (nI tk)])), (mm_now, .inl (cy 1, 122, .inl mm_now_f)), (mm_refused, .inl (cy 1, 3, .inl mm_refused_f))] s.heap := hP
  have hl := lv_entry ([.ref mm, .int px, .int py]) (n := 4) (Nat.le_of_ble_eq_true rfl)
  rw [lg_entry_eq]
  generalize (lg_sl ([.ref mm, .int px, .int py]) ++ List.replicate (4 - (lg_sl ([.ref mm, .int px, .int py])).length) Slot.unset).toArray = ls at hl ⊢
  have hl : lv_has ls 4 [(0, .ref mm), (1, .int px), (2, .int py)] := hl
  refine qW (fun QF hQF => ?_)
  have z0_ := hts (.constantLong RX11 105 3) (by decide +kernel)
  have z1_ := hts (.fieldLink RX11 7 "HeardSeenModel" "now" "[I") (by decide +kernel)
  have zi11_ : ∀ w ∈ u_ws RX11 TX11 19, w ∈ wsX11_report := by decide +kernel
  obtain ⟨mW, mH, mS, mP, hF⟩ := hN
  obtain ⟨hW2, hW6, hH2, hH6, hSe, hS4, hS6, hP5⟩ := hF.rng
  refine lv_aload_n hx hb dX11_report_0 rfl (lv_at hl 0 rfl) ?_
  refine lv_iload_n hx hb dX11_report_1 rfl (lv_at hl 1 rfl) ?_
  refine rd_i (va_runV (As := [.int px]) (rest := []) ⟨hx, hb, hml, hown, hts⟩ (n_X11_isOne l D cy mW mH mS mP mm mm_now mm_kept mm_isKept mm_refused mm_lineFrom mm_lineTo mm_stands mm_far mm_queue mm_queued mm_meets mm_bytes bl ta tl mm_token mm_value mm_next tk mm_now_f px _ (by first | assumption | omega)) (cwV 1 hts gX11_report_X11_isOne rfl rfl rfl (by decide +kernel) ⟨Nat.le_of_ble_eq_true rfl, Nat.le_of_ble_eq_true rfl⟩) (pV (ci := 11) (k := 0) hKA (hP.sub (ws' := [(mm, .inr (11, [.ref mm_now, .ref mm_kept, .ref mm_isKept, .ref mm_refused, .int mm_lineFrom, .int mm_lineTo, .ref mm_stands, .ref mm_far, .ref mm_queue, .int mm_queued, .ref mm_meets, .ref mm_bytes, .int (nI bl), .int (nI ta), .int (nI tl), .int mm_token, .int mm_value, .ref mm_next, .int (nI tk)])), (mm_now, .inl (cy 1, 122, .inl mm_now_f))]) [0, 1] rfl) (hD.sub (ws' := [(mm, .inr (11, [.ref mm_now, .ref mm_kept, .ref mm_isKept, .ref mm_refused, .int mm_lineFrom, .int mm_lineTo, .ref mm_stands, .ref mm_far, .ref mm_queue, .int mm_queued, .ref mm_meets, .ref mm_bytes, .int (nI bl), .int (nI ta), .int (nI tl), .int mm_token, .int mm_value, .ref mm_next, .int (nI tk)])), (mm_now, .inl (cy 1, 122, .inl mm_now_f))]) [0, 1] (by decide) rfl) rfl rfl) rfl rfl hl.1 rfl (lv_room (Nat.le_of_ble_eq_true rfl)) dX11_report_2 ⟨Nat.le_of_ble_eq_true rfl, Nat.le_of_ble_eq_true rfl⟩) hP hS hA (fun r1 H locs hwr1 hP hS => ?_)
  have hwr1 : (r1 = 1 ∧ (∃ j : Nat, j < mP ∧ px = nI j)) ∨ (r1 = 0 ∧ True) := hwr1
  refine lv_if_eq (tgt := 20) hx hb dX11_report_5 (by decide) (fun c2 => ?_) (fun c2 => ?_)
  · skip
    refine lv_aload_n hx hb dX11_report_20 rfl (lv_at hl 0 rfl) ?_
    refine lv_bipush (v := (-2)) hx hb dX11_report_21 (by decide) ?_
    refine wr_i (wr := [(mm_now, .inl (cy 1, 122, .inl mm_now_f))]) (va_runV (As := [.int (-2)]) (rest := []) ⟨hx, hb, hml, hown, hts⟩ (n_X11_bad l D cy mm mm_now mm_kept mm_isKept mm_refused mm_lineFrom mm_lineTo mm_stands mm_far mm_queue mm_queued mm_meets mm_bytes bl ta tl mm_token mm_value mm_next tk mm_refused_f (-2) _ ) (cwV 1 hts gX11_report_X11_bad rfl rfl rfl (by decide +kernel) ⟨Nat.le_of_ble_eq_true rfl, Nat.le_of_ble_eq_true rfl⟩) (pV (ci := 11) (k := 0) hKA (hP.sub (ws' := [(mm, .inr (11, [.ref mm_now, .ref mm_kept, .ref mm_isKept, .ref mm_refused, .int mm_lineFrom, .int mm_lineTo, .ref mm_stands, .ref mm_far, .ref mm_queue, .int mm_queued, .ref mm_meets, .ref mm_bytes, .int (nI bl), .int (nI ta), .int (nI tl), .int mm_token, .int mm_value, .ref mm_next, .int (nI tk)])), (mm_refused, .inl (cy 1, 3, .inl mm_refused_f))]) [0, 2] rfl) (hD.sub (ws' := [(mm, .inr (11, [.ref mm_now, .ref mm_kept, .ref mm_isKept, .ref mm_refused, .int mm_lineFrom, .int mm_lineTo, .ref mm_stands, .ref mm_far, .ref mm_queue, .int mm_queued, .ref mm_meets, .ref mm_bytes, .int (nI bl), .int (nI ta), .int (nI tl), .int mm_token, .int mm_value, .ref mm_next, .int (nI tk)])), (mm_refused, .inl (cy 1, 3, .inl mm_refused_f))]) [0, 2] (by decide) rfl) rfl rfl) rfl rfl hl.1 rfl (lv_room (Nat.le_of_ble_eq_true rfl)) dX11_report_23 ⟨Nat.le_of_ble_eq_true rfl, Nat.le_of_ble_eq_true rfl⟩) hP hD hS hA [0, 2] [1] rfl rfl (by decide +kernel) (by decide +kernel) (fun r3 ur3 H locs hwr3 hP hD hS => ?_)
    obtain ⟨z4, rfl⟩ : ∃ z, z = ur3 := ⟨_, rfl⟩
    have hP : va_P D vwCl [(mm_now, .inl (cy 1, 122, .inl mm_now_f)), (mm, .inr (11, [.ref mm_now, .ref mm_kept, .ref mm_isKept, .ref mm_refused, .int mm_lineFrom, .int mm_lineTo, .ref mm_stands, .ref mm_far, .ref mm_queue, .int mm_queued, .ref mm_meets, .ref mm_bytes, .int (nI bl), .int (nI ta), .int (nI tl), .int mm_token, .int mm_value, .ref mm_next, .int (nI tk)])), (mm_refused, .inl (cy 1, 3, .inl z4))] H := hP
    have hD : va_D A [(mm_now, .inl (cy 1, 122, .inl mm_now_f)), (mm, .inr (11, [.ref mm_now, .ref mm_kept, .ref mm_isKept, .ref mm_refused, .int mm_lineFrom, .int mm_lineTo, .ref mm_stands, .ref mm_far, .ref mm_queue, .int mm_queued, .ref mm_meets, .ref mm_bytes, .int (nI bl), .int (nI ta), .int (nI tl), .int mm_token, .int mm_value, .ref mm_next, .int (nI tk)])), (mm_refused, .inl (cy 1, 3, .inl z4))] := hD
    have hwr3 : r3 = (-2) := hwr3
    subst hwr3
    subst hQF
    have hP9 := hP.sub (ws' := [(mm, .inr (11, [.ref mm_now, .ref mm_kept, .ref mm_isKept, .ref mm_refused, .int mm_lineFrom, .int mm_lineTo, .ref mm_stands, .ref mm_far, .ref mm_queue, .int mm_queued, .ref mm_meets, .ref mm_bytes, .int (nI bl), .int (nI ta), .int (nI tl), .int mm_token, .int mm_value, .ref mm_next, .int (nI tk)])), (mm_now, .inl (cy 1, 122, .inl mm_now_f)), (mm_refused, .inl (cy 1, 3, .inl z4))]) [1, 0, 2] rfl
    have hD9 := hD.sub (ws' := [(mm, .inr (11, [.ref mm_now, .ref mm_kept, .ref mm_isKept, .ref mm_refused, .int mm_lineFrom, .int mm_lineTo, .ref mm_stands, .ref mm_far, .ref mm_queue, .int mm_queued, .ref mm_meets, .ref mm_bytes, .int (nI bl), .int (nI ta), .int (nI tl), .int mm_token, .int mm_value, .ref mm_next, .int (nI tk)])), (mm_now, .inl (cy 1, 122, .inl mm_now_f)), (mm_refused, .inl (cy 1, 3, .inl z4))]) [1, 0, 2] (by decide) rfl
    exact W.iret (v := (-2)) hx hb hr (fun t ht hW => ⟨⟨(-2), (mm_now_f, z4), rfl, ⟨_, _, _, _, hF⟩, by rw [ht]; exact hP9, hD9⟩, hS.F ht⟩) hS.2.2 dX11_report_26
  · skip
    have hp5 := z_b1 hwr1 c2
    obtain ⟨j6, hj6, ej6⟩ := hp5
    refine lv_iload_n hx hb dX11_report_8 rfl (lv_at hl 2 rfl) ?_
    refine lv_i2l hx hb dX11_report_9 rfl ?_
    refine lv_lconst (v := 0) hx hb dX11_report_10 (by decide) ?_
    refine lv_ldc2 hx hb hown z0_ dX11_report_11 ?_
    refine rd_i (va_runS (As := [.long py.toInt64, .long 0, .long 3]) (rest := []) ⟨hx, hb, hml, hown, hts⟩ (n_X11_in l D cy py.toInt64 (0) (3) _ ) (va_cwS 3 hts gX11_report_X11_in rfl rfl rfl (by decide +kernel) ⟨Nat.le_of_ble_eq_true rfl, Nat.le_of_ble_eq_true rfl⟩) (pS hKA pE (dE (A := A))) rfl rfl hl.1 rfl (lv_room (Nat.le_of_ble_eq_true rfl)) dX11_report_14 ⟨Nat.le_of_ble_eq_true rfl, Nat.le_of_ble_eq_true rfl⟩) hP hS hA (fun r7 H locs hwr7 hP hS => ?_)
    have hwr7 : (r7 = 1 ∧ ((0) ≤ py.toInt64 ∧ py.toInt64 ≤ (3))) ∨ (r7 = 0 ∧ (¬ ((0) ≤ py.toInt64 ∧ py.toInt64 ≤ (3)))) := hwr7
    refine lv_if_ne (tgt := 27) hx hb dX11_report_17 (by decide) (fun c8 => ?_) (fun c8 => ?_)
    · skip
      obtain ⟨hp9, hp10⟩ := z_b1 hwr7 c8
      obtain ⟨j11, gj11, hj11, ej11⟩ := z_rng (lo := 0) (hi := 3) (by decide) (by decide) hp9 hp10
      refine lv_aload_n hx hb dX11_report_27 rfl (lv_at hl 0 rfl) ?_
      refine va_get (D := D) (ci := 11) (v := .ref mm_now) (C := RX11) (T := TX11) (N := 19) hx hb hts zi11_ hown hK hP 0 rfl rfl 0 (by decide) z1_ (fun _ h9 => h9) rfl dX11_report_28 ?_
      refine lv_bipush (v := 105) hx hb dX11_report_31 (by decide) ?_
      refine my_iald hx hb hK hP 1 1 rfl rfl (by rw [vp_in_iff]; decide +kernel) (k := 105) (by decide +kernel) dX11_report_33 ?_
      obtain ⟨jk, ejk, hjk⟩ := mV.get hF (105) 8 (by omega) (by omega) (by unfold mHi; (repeat' split) <;> omega)
      refine W.eq (g2 := F0 m 34 ls [.int (nI jk)]) (congrArg (fun v9 : Int32 => F0 m 34 ls [.int v9]) ejk) ?_
      refine lv_istore_n (lv' := [(3, .int (nI jk)), (0, .ref mm), (1, .int px), (2, .int py)]) hx hb dX11_report_34 rfl hl (by decide) rfl (fun ls hl => ?_)
      refine lv_iload_n hx hb dX11_report_35 rfl (lv_at hl 0 rfl) ?_
      refine lv_bipush (v := 8) hx hb dX11_report_36 (by decide) ?_
      refine lv_icmp_ne (tgt := 46) hx hb dX11_report_38 (by decide) (fun c12 => ?_) (fun c12 => ?_)
      · skip
        have hk8 := ne5 (n := 8) rfl (by assumption) hjk
        refine lv_aload_n hx hb dX11_report_46 rfl (lv_at hl 1 rfl) ?_
        refine va_get (D := D) (ci := 11) (v := .ref mm_now) (C := RX11) (T := TX11) (N := 19) hx hb hts zi11_ hown hK hP 0 rfl rfl 0 (by decide) z1_ (fun _ h9 => h9) rfl dX11_report_47 ?_
        refine lv_bipush (v := 106) hx hb dX11_report_50 (by decide) ?_
        refine lv_iconst (v := 2) hx hb dX11_report_52 (by decide) ?_
        refine lv_iload_n hx hb dX11_report_53 rfl (lv_at hl 0 rfl) ?_
        refine lv_imul hx hb dX11_report_54 ?_
        refine lv_topi (fun x13 ex13 => ?_)
        obtain rfl : x13 = nI (2 * jk) := by rw [ex13]; exact pk_mul _ _
        refine lv_iadd hx hb dX11_report_55 ?_
        refine lv_topi (fun x14 ex14 => ?_)
        obtain rfl : x14 = nI (106 + (2 * jk)) := by rw [ex14]; exact nI_add _ _
        refine lv_iload_n hx hb dX11_report_56 rfl (lv_at hl 2 rfl) ?_
        refine W.eq (g2 := F0 m 57 ls [.int (nI j6), .int (nI (106 + (2 * jk))), .ref mm_now]) (congrArg (fun v9 : Int32 => F0 m 57 ls [.int v9, .int (nI (106 + (2 * jk))), .ref mm_now]) ej6) ?_
        refine my_iast hx hb hK hP hD hS 1 1 rfl rfl (by first | exact in_ge (N := 122) (by decide) (by omega) (by assumption) | exact vp_in_nI (by omega) (by omega)) (nI_clamp (by omega)) dX11_report_57 (fun H locs hP hD hS => ?_)
        have hP : va_P D vwCl [(mm, .inr (11, [.ref mm_now, .ref mm_kept, .ref mm_isKept, .ref mm_refused, .int mm_lineFrom, .int mm_lineTo, .ref mm_stands, .ref mm_far, .ref mm_queue, .int mm_queued, .ref mm_meets, .ref mm_bytes, .int (nI bl), .int (nI ta), .int (nI tl), .int mm_token, .int mm_value, .ref mm_next, .int (nI tk)])), (mm_now, .inl (cy 1, 122, .inl (upd mm_now_f (106 + (2 * jk)) (nI j6)))), (mm_refused, .inl (cy 1, 3, .inl mm_refused_f))] H := hP
        have hD : va_D A [(mm, .inr (11, [.ref mm_now, .ref mm_kept, .ref mm_isKept, .ref mm_refused, .int mm_lineFrom, .int mm_lineTo, .ref mm_stands, .ref mm_far, .ref mm_queue, .int mm_queued, .ref mm_meets, .ref mm_bytes, .int (nI bl), .int (nI ta), .int (nI tl), .int mm_token, .int mm_value, .ref mm_next, .int (nI tk)])), (mm_now, .inl (cy 1, 122, .inl (upd mm_now_f (106 + (2 * jk)) (nI j6)))), (mm_refused, .inl (cy 1, 3, .inl mm_refused_f))] := hD
        obtain ⟨f15, ef15⟩ : ∃ y : Nat → Int32, y = upd mm_now_f (106 + (2 * jk)) (nI j6) := ⟨_, rfl⟩
        rw [← ef15] at hP hD
        have hf15 : mV f15 mW mH mS mP := by rw [ef15]; exact mV.put hF (106 + (2 * jk)) j6 rfl (by omega) (by unfold mHi; (repeat' split) <;> omega)
        have hP : va_P D vwCl [(mm, .inr (11, [.ref mm_now, .ref mm_kept, .ref mm_isKept, .ref mm_refused, .int mm_lineFrom, .int mm_lineTo, .ref mm_stands, .ref mm_far, .ref mm_queue, .int mm_queued, .ref mm_meets, .ref mm_bytes, .int (nI bl), .int (nI ta), .int (nI tl), .int mm_token, .int mm_value, .ref mm_next, .int (nI tk)])), (mm_now, .inl (cy 1, 122, .inl f15)), (mm_refused, .inl (cy 1, 3, .inl mm_refused_f))] H := hP
        have hD : va_D A [(mm, .inr (11, [.ref mm_now, .ref mm_kept, .ref mm_isKept, .ref mm_refused, .int mm_lineFrom, .int mm_lineTo, .ref mm_stands, .ref mm_far, .ref mm_queue, .int mm_queued, .ref mm_meets, .ref mm_bytes, .int (nI bl), .int (nI ta), .int (nI tl), .int mm_token, .int mm_value, .ref mm_next, .int (nI tk)])), (mm_now, .inl (cy 1, 122, .inl f15)), (mm_refused, .inl (cy 1, 3, .inl mm_refused_f))] := hD
        refine lv_aload_n hx hb dX11_report_58 rfl (lv_at hl 1 rfl) ?_
        refine va_get (D := D) (ci := 11) (v := .ref mm_now) (C := RX11) (T := TX11) (N := 19) hx hb hts zi11_ hown hK hP 0 rfl rfl 0 (by decide) z1_ (fun _ h9 => h9) rfl dX11_report_59 ?_
        refine lv_bipush (v := 106) hx hb dX11_report_62 (by decide) ?_
        refine lv_iconst (v := 2) hx hb dX11_report_64 (by decide) ?_
        refine lv_iload_n hx hb dX11_report_65 rfl (lv_at hl 0 rfl) ?_
        refine lv_imul hx hb dX11_report_66 ?_
        refine lv_topi (fun x16 ex16 => ?_)
        obtain rfl : x16 = nI (2 * jk) := by rw [ex16]; exact pk_mul _ _
        refine lv_iadd hx hb dX11_report_67 ?_
        refine lv_topi (fun x17 ex17 => ?_)
        obtain rfl : x17 = nI (106 + (2 * jk)) := by rw [ex17]; exact nI_add _ _
        refine lv_iconst (v := 1) hx hb dX11_report_68 (by decide) ?_
        refine lv_iadd hx hb dX11_report_69 ?_
        refine lv_topi (fun x18 ex18 => ?_)
        obtain rfl : x18 = nI ((106 + (2 * jk)) + 1) := by rw [ex18]; exact nI_add _ _
        refine lv_iload_n hx hb dX11_report_70 rfl (lv_at hl 3 rfl) ?_
        refine W.eq (g2 := F0 m 71 ls [.int (nI j11), .int (nI ((106 + (2 * jk)) + 1)), .ref mm_now]) (congrArg (fun v9 : Int32 => F0 m 71 ls [.int v9, .int (nI ((106 + (2 * jk)) + 1)), .ref mm_now]) ej11) ?_
        refine my_iast hx hb hK hP hD hS 1 1 rfl rfl (by first | exact in_ge (N := 122) (by decide) (by omega) (by assumption) | exact vp_in_nI (by omega) (by omega)) (nI_clamp (by omega)) dX11_report_71 (fun H locs hP hD hS => ?_)
        have hP : va_P D vwCl [(mm, .inr (11, [.ref mm_now, .ref mm_kept, .ref mm_isKept, .ref mm_refused, .int mm_lineFrom, .int mm_lineTo, .ref mm_stands, .ref mm_far, .ref mm_queue, .int mm_queued, .ref mm_meets, .ref mm_bytes, .int (nI bl), .int (nI ta), .int (nI tl), .int mm_token, .int mm_value, .ref mm_next, .int (nI tk)])), (mm_now, .inl (cy 1, 122, .inl (upd f15 ((106 + (2 * jk)) + 1) (nI j11)))), (mm_refused, .inl (cy 1, 3, .inl mm_refused_f))] H := hP
        have hD : va_D A [(mm, .inr (11, [.ref mm_now, .ref mm_kept, .ref mm_isKept, .ref mm_refused, .int mm_lineFrom, .int mm_lineTo, .ref mm_stands, .ref mm_far, .ref mm_queue, .int mm_queued, .ref mm_meets, .ref mm_bytes, .int (nI bl), .int (nI ta), .int (nI tl), .int mm_token, .int mm_value, .ref mm_next, .int (nI tk)])), (mm_now, .inl (cy 1, 122, .inl (upd f15 ((106 + (2 * jk)) + 1) (nI j11)))), (mm_refused, .inl (cy 1, 3, .inl mm_refused_f))] := hD
        obtain ⟨f19, ef19⟩ : ∃ y : Nat → Int32, y = upd f15 ((106 + (2 * jk)) + 1) (nI j11) := ⟨_, rfl⟩
        rw [← ef19] at hP hD
        have hf19 : mV f19 mW mH mS mP := by rw [ef19]; exact mV.put hf15 ((106 + (2 * jk)) + 1) j11 rfl (by omega) (by unfold mHi; (repeat' split) <;> omega)
        have hP : va_P D vwCl [(mm, .inr (11, [.ref mm_now, .ref mm_kept, .ref mm_isKept, .ref mm_refused, .int mm_lineFrom, .int mm_lineTo, .ref mm_stands, .ref mm_far, .ref mm_queue, .int mm_queued, .ref mm_meets, .ref mm_bytes, .int (nI bl), .int (nI ta), .int (nI tl), .int mm_token, .int mm_value, .ref mm_next, .int (nI tk)])), (mm_now, .inl (cy 1, 122, .inl f19)), (mm_refused, .inl (cy 1, 3, .inl mm_refused_f))] H := hP
        have hD : va_D A [(mm, .inr (11, [.ref mm_now, .ref mm_kept, .ref mm_isKept, .ref mm_refused, .int mm_lineFrom, .int mm_lineTo, .ref mm_stands, .ref mm_far, .ref mm_queue, .int mm_queued, .ref mm_meets, .ref mm_bytes, .int (nI bl), .int (nI ta), .int (nI tl), .int mm_token, .int mm_value, .ref mm_next, .int (nI tk)])), (mm_now, .inl (cy 1, 122, .inl f19)), (mm_refused, .inl (cy 1, 3, .inl mm_refused_f))] := hD
        refine lv_aload_n hx hb dX11_report_72 rfl (lv_at hl 1 rfl) ?_
        refine va_get (D := D) (ci := 11) (v := .ref mm_now) (C := RX11) (T := TX11) (N := 19) hx hb hts zi11_ hown hK hP 0 rfl rfl 0 (by decide) z1_ (fun _ h9 => h9) rfl dX11_report_73 ?_
        refine lv_bipush (v := 105) hx hb dX11_report_76 (by decide) ?_
        refine lv_dup2_11 hx hb dX11_report_78 rfl rfl ?_
        refine my_iald hx hb hK hP 1 1 rfl rfl (by rw [vp_in_iff]; decide +kernel) (k := 105) (by decide +kernel) dX11_report_79 ?_
        refine W.eq (g2 := F0 m 80 ls [.int (nI jk), .int 105, .ref mm_now]) (congrArg (fun v9 : Int32 => F0 m 80 ls [.int v9, .int 105, .ref mm_now]) (show _ = nI jk by rw [ef19, ur_ne _ _ (by omega), ef15, ur_ne _ _ (by omega)]; exact ejk)) ?_
        refine lv_iconst (v := 1) hx hb dX11_report_80 (by decide) ?_
        refine lv_iadd hx hb dX11_report_81 ?_
        refine lv_topi (fun x20 ex20 => ?_)
        obtain rfl : x20 = nI (jk + 1) := by rw [ex20]; exact nI_add _ _
        refine my_iast hx hb hK hP hD hS 1 1 rfl rfl (by rw [vp_in_iff]; decide +kernel) (k := 105) (by decide +kernel) dX11_report_82 (fun H locs hP hD hS => ?_)
        have hP : va_P D vwCl [(mm, .inr (11, [.ref mm_now, .ref mm_kept, .ref mm_isKept, .ref mm_refused, .int mm_lineFrom, .int mm_lineTo, .ref mm_stands, .ref mm_far, .ref mm_queue, .int mm_queued, .ref mm_meets, .ref mm_bytes, .int (nI bl), .int (nI ta), .int (nI tl), .int mm_token, .int mm_value, .ref mm_next, .int (nI tk)])), (mm_now, .inl (cy 1, 122, .inl (upd f19 105 (nI (jk + 1))))), (mm_refused, .inl (cy 1, 3, .inl mm_refused_f))] H := hP
        have hD : va_D A [(mm, .inr (11, [.ref mm_now, .ref mm_kept, .ref mm_isKept, .ref mm_refused, .int mm_lineFrom, .int mm_lineTo, .ref mm_stands, .ref mm_far, .ref mm_queue, .int mm_queued, .ref mm_meets, .ref mm_bytes, .int (nI bl), .int (nI ta), .int (nI tl), .int mm_token, .int mm_value, .ref mm_next, .int (nI tk)])), (mm_now, .inl (cy 1, 122, .inl (upd f19 105 (nI (jk + 1))))), (mm_refused, .inl (cy 1, 3, .inl mm_refused_f))] := hD
        obtain ⟨f21, ef21⟩ : ∃ y : Nat → Int32, y = upd f19 105 (nI (jk + 1)) := ⟨_, rfl⟩
        rw [← ef21] at hP hD
        have hf21 : mV f21 mW mH mS mP := by rw [ef21]; exact mV.put hf19 105 (jk + 1) rfl (by omega) (by unfold mHi; (repeat' split) <;> omega)
        have hP : va_P D vwCl [(mm, .inr (11, [.ref mm_now, .ref mm_kept, .ref mm_isKept, .ref mm_refused, .int mm_lineFrom, .int mm_lineTo, .ref mm_stands, .ref mm_far, .ref mm_queue, .int mm_queued, .ref mm_meets, .ref mm_bytes, .int (nI bl), .int (nI ta), .int (nI tl), .int mm_token, .int mm_value, .ref mm_next, .int (nI tk)])), (mm_now, .inl (cy 1, 122, .inl f21)), (mm_refused, .inl (cy 1, 3, .inl mm_refused_f))] H := hP
        have hD : va_D A [(mm, .inr (11, [.ref mm_now, .ref mm_kept, .ref mm_isKept, .ref mm_refused, .int mm_lineFrom, .int mm_lineTo, .ref mm_stands, .ref mm_far, .ref mm_queue, .int mm_queued, .ref mm_meets, .ref mm_bytes, .int (nI bl), .int (nI ta), .int (nI tl), .int mm_token, .int mm_value, .ref mm_next, .int (nI tk)])), (mm_now, .inl (cy 1, 122, .inl f21)), (mm_refused, .inl (cy 1, 3, .inl mm_refused_f))] := hD
        refine lv_iload_n hx hb dX11_report_83 rfl (lv_at hl 0 rfl) ?_
        subst hQF
        have hP9 := hP
        have hD9 := hD
        exact W.iret (v := nI jk) hx hb hr (fun t ht hW => ⟨⟨nI jk, (f21, mm_refused_f), rfl, ⟨_, _, _, _, hf21⟩, by rw [ht]; exact hP9, hD9⟩, hS.F ht⟩) hS.2.2 dX11_report_84
      · skip
        refine lv_aload_n hx hb dX11_report_41 rfl (lv_at hl 1 rfl) ?_
        refine wr_i (wr := [(mm_now, .inl (cy 1, 122, .inl mm_now_f))]) (va_runV (As := []) (rest := []) ⟨hx, hb, hml, hown, hts⟩ (n_X11_full l D cy mm mm_now mm_kept mm_isKept mm_refused mm_lineFrom mm_lineTo mm_stands mm_far mm_queue mm_queued mm_meets mm_bytes bl ta tl mm_token mm_value mm_next tk mm_refused_f _ ) (cwV 0 hts gX11_report_X11_full rfl rfl rfl (by decide +kernel) ⟨Nat.le_of_ble_eq_true rfl, Nat.le_of_ble_eq_true rfl⟩) (pV (ci := 11) (k := 0) hKA (hP.sub (ws' := [(mm, .inr (11, [.ref mm_now, .ref mm_kept, .ref mm_isKept, .ref mm_refused, .int mm_lineFrom, .int mm_lineTo, .ref mm_stands, .ref mm_far, .ref mm_queue, .int mm_queued, .ref mm_meets, .ref mm_bytes, .int (nI bl), .int (nI ta), .int (nI tl), .int mm_token, .int mm_value, .ref mm_next, .int (nI tk)])), (mm_refused, .inl (cy 1, 3, .inl mm_refused_f))]) [0, 2] rfl) (hD.sub (ws' := [(mm, .inr (11, [.ref mm_now, .ref mm_kept, .ref mm_isKept, .ref mm_refused, .int mm_lineFrom, .int mm_lineTo, .ref mm_stands, .ref mm_far, .ref mm_queue, .int mm_queued, .ref mm_meets, .ref mm_bytes, .int (nI bl), .int (nI ta), .int (nI tl), .int mm_token, .int mm_value, .ref mm_next, .int (nI tk)])), (mm_refused, .inl (cy 1, 3, .inl mm_refused_f))]) [0, 2] (by decide) rfl) rfl rfl) rfl rfl hl.1 rfl (lv_room (Nat.le_of_ble_eq_true rfl)) dX11_report_42 ⟨Nat.le_of_ble_eq_true rfl, Nat.le_of_ble_eq_true rfl⟩) hP hD hS hA [0, 2] [1] rfl rfl (by decide +kernel) (by decide +kernel) (fun r22 ur22 H locs hwr22 hP hD hS => ?_)
        obtain ⟨z23, rfl⟩ : ∃ z, z = ur22 := ⟨_, rfl⟩
        have hP : va_P D vwCl [(mm_now, .inl (cy 1, 122, .inl mm_now_f)), (mm, .inr (11, [.ref mm_now, .ref mm_kept, .ref mm_isKept, .ref mm_refused, .int mm_lineFrom, .int mm_lineTo, .ref mm_stands, .ref mm_far, .ref mm_queue, .int mm_queued, .ref mm_meets, .ref mm_bytes, .int (nI bl), .int (nI ta), .int (nI tl), .int mm_token, .int mm_value, .ref mm_next, .int (nI tk)])), (mm_refused, .inl (cy 1, 3, .inl z23))] H := hP
        have hD : va_D A [(mm_now, .inl (cy 1, 122, .inl mm_now_f)), (mm, .inr (11, [.ref mm_now, .ref mm_kept, .ref mm_isKept, .ref mm_refused, .int mm_lineFrom, .int mm_lineTo, .ref mm_stands, .ref mm_far, .ref mm_queue, .int mm_queued, .ref mm_meets, .ref mm_bytes, .int (nI bl), .int (nI ta), .int (nI tl), .int mm_token, .int mm_value, .ref mm_next, .int (nI tk)])), (mm_refused, .inl (cy 1, 3, .inl z23))] := hD
        have hwr22 : r22 = -4 := hwr22
        subst hwr22
        subst hQF
        have hP9 := hP.sub (ws' := [(mm, .inr (11, [.ref mm_now, .ref mm_kept, .ref mm_isKept, .ref mm_refused, .int mm_lineFrom, .int mm_lineTo, .ref mm_stands, .ref mm_far, .ref mm_queue, .int mm_queued, .ref mm_meets, .ref mm_bytes, .int (nI bl), .int (nI ta), .int (nI tl), .int mm_token, .int mm_value, .ref mm_next, .int (nI tk)])), (mm_now, .inl (cy 1, 122, .inl mm_now_f)), (mm_refused, .inl (cy 1, 3, .inl z23))]) [1, 0, 2] rfl
        have hD9 := hD.sub (ws' := [(mm, .inr (11, [.ref mm_now, .ref mm_kept, .ref mm_isKept, .ref mm_refused, .int mm_lineFrom, .int mm_lineTo, .ref mm_stands, .ref mm_far, .ref mm_queue, .int mm_queued, .ref mm_meets, .ref mm_bytes, .int (nI bl), .int (nI ta), .int (nI tl), .int mm_token, .int mm_value, .ref mm_next, .int (nI tk)])), (mm_now, .inl (cy 1, 122, .inl mm_now_f)), (mm_refused, .inl (cy 1, 3, .inl z23))]) [1, 0, 2] (by decide) rfl
        exact W.iret (v := (-4)) hx hb hr (fun t ht hW => ⟨⟨(-4), (mm_now_f, z23), rfl, ⟨_, _, _, _, hF⟩, by rw [ht]; exact hP9, hD9⟩, hS.F ht⟩) hS.2.2 dX11_report_45
    · skip
      have hq24 := z_b0 hwr7 c8
      refine lv_aload_n hx hb dX11_report_20 rfl (lv_at hl 0 rfl) ?_
      refine lv_bipush (v := (-2)) hx hb dX11_report_21 (by decide) ?_
      refine wr_i (wr := [(mm_now, .inl (cy 1, 122, .inl mm_now_f))]) (va_runV (As := [.int (-2)]) (rest := []) ⟨hx, hb, hml, hown, hts⟩ (n_X11_bad l D cy mm mm_now mm_kept mm_isKept mm_refused mm_lineFrom mm_lineTo mm_stands mm_far mm_queue mm_queued mm_meets mm_bytes bl ta tl mm_token mm_value mm_next tk mm_refused_f (-2) _ ) (cwV 1 hts gX11_report_X11_bad rfl rfl rfl (by decide +kernel) ⟨Nat.le_of_ble_eq_true rfl, Nat.le_of_ble_eq_true rfl⟩) (pV (ci := 11) (k := 0) hKA (hP.sub (ws' := [(mm, .inr (11, [.ref mm_now, .ref mm_kept, .ref mm_isKept, .ref mm_refused, .int mm_lineFrom, .int mm_lineTo, .ref mm_stands, .ref mm_far, .ref mm_queue, .int mm_queued, .ref mm_meets, .ref mm_bytes, .int (nI bl), .int (nI ta), .int (nI tl), .int mm_token, .int mm_value, .ref mm_next, .int (nI tk)])), (mm_refused, .inl (cy 1, 3, .inl mm_refused_f))]) [0, 2] rfl) (hD.sub (ws' := [(mm, .inr (11, [.ref mm_now, .ref mm_kept, .ref mm_isKept, .ref mm_refused, .int mm_lineFrom, .int mm_lineTo, .ref mm_stands, .ref mm_far, .ref mm_queue, .int mm_queued, .ref mm_meets, .ref mm_bytes, .int (nI bl), .int (nI ta), .int (nI tl), .int mm_token, .int mm_value, .ref mm_next, .int (nI tk)])), (mm_refused, .inl (cy 1, 3, .inl mm_refused_f))]) [0, 2] (by decide) rfl) rfl rfl) rfl rfl hl.1 rfl (lv_room (Nat.le_of_ble_eq_true rfl)) dX11_report_23 ⟨Nat.le_of_ble_eq_true rfl, Nat.le_of_ble_eq_true rfl⟩) hP hD hS hA [0, 2] [1] rfl rfl (by decide +kernel) (by decide +kernel) (fun r25 ur25 H locs hwr25 hP hD hS => ?_)
      obtain ⟨z26, rfl⟩ : ∃ z, z = ur25 := ⟨_, rfl⟩
      have hP : va_P D vwCl [(mm_now, .inl (cy 1, 122, .inl mm_now_f)), (mm, .inr (11, [.ref mm_now, .ref mm_kept, .ref mm_isKept, .ref mm_refused, .int mm_lineFrom, .int mm_lineTo, .ref mm_stands, .ref mm_far, .ref mm_queue, .int mm_queued, .ref mm_meets, .ref mm_bytes, .int (nI bl), .int (nI ta), .int (nI tl), .int mm_token, .int mm_value, .ref mm_next, .int (nI tk)])), (mm_refused, .inl (cy 1, 3, .inl z26))] H := hP
      have hD : va_D A [(mm_now, .inl (cy 1, 122, .inl mm_now_f)), (mm, .inr (11, [.ref mm_now, .ref mm_kept, .ref mm_isKept, .ref mm_refused, .int mm_lineFrom, .int mm_lineTo, .ref mm_stands, .ref mm_far, .ref mm_queue, .int mm_queued, .ref mm_meets, .ref mm_bytes, .int (nI bl), .int (nI ta), .int (nI tl), .int mm_token, .int mm_value, .ref mm_next, .int (nI tk)])), (mm_refused, .inl (cy 1, 3, .inl z26))] := hD
      have hwr25 : r25 = (-2) := hwr25
      subst hwr25
      subst hQF
      have hP9 := hP.sub (ws' := [(mm, .inr (11, [.ref mm_now, .ref mm_kept, .ref mm_isKept, .ref mm_refused, .int mm_lineFrom, .int mm_lineTo, .ref mm_stands, .ref mm_far, .ref mm_queue, .int mm_queued, .ref mm_meets, .ref mm_bytes, .int (nI bl), .int (nI ta), .int (nI tl), .int mm_token, .int mm_value, .ref mm_next, .int (nI tk)])), (mm_now, .inl (cy 1, 122, .inl mm_now_f)), (mm_refused, .inl (cy 1, 3, .inl z26))]) [1, 0, 2] rfl
      have hD9 := hD.sub (ws' := [(mm, .inr (11, [.ref mm_now, .ref mm_kept, .ref mm_isKept, .ref mm_refused, .int mm_lineFrom, .int mm_lineTo, .ref mm_stands, .ref mm_far, .ref mm_queue, .int mm_queued, .ref mm_meets, .ref mm_bytes, .int (nI bl), .int (nI ta), .int (nI tl), .int mm_token, .int mm_value, .ref mm_next, .int (nI tk)])), (mm_now, .inl (cy 1, 122, .inl mm_now_f)), (mm_refused, .inl (cy 1, 3, .inl z26))]) [1, 0, 2] (by decide) rfl
      exact W.iret (v := (-2)) hx hb hr (fun t ht hW => ⟨⟨(-2), (mm_now_f, z26), rfl, ⟨_, _, _, _, hF⟩, by rw [ht]; exact hP9, hD9⟩, hS.F ht⟩) hS.2.2 dX11_report_26

set_option maxHeartbeats 4000000 in
set_option maxRecDepth 100000 in
theorem n_X11_clears (l : Launch) (D : va_G) (cy : Nat → ClassId) (mm : Nat) (mm_now : Nat) (mm_kept : Nat) (mm_isKept : Nat) (mm_refused : Nat) (mm_lineFrom : Int32) (mm_lineTo : Int32) (mm_stands : Nat) (mm_far : Nat) (mm_queue : Nat) (mm_queued : Int32) (mm_meets : Nat) (mm_bytes : Nat) (bl : Nat) (ta : Nat) (tl : Nat) (mm_token : Int32) (mm_value : Int32) (mm_next : Nat) (tk : Nat) (mm_now_f : Nat → Int32) (mm_refused_f : Nat → Int32) (px : Int32) (sz : Nat) (hN : mN mm_now_f) : Met l yX11_clears wsX11_clears ({ frames := 1, cells := 0, slots := 0, locals := 25 }) (va_Pc [.ref mm, .int px] (kPre D cy [(mm, .inr (11, [.ref mm_now, .ref mm_kept, .ref mm_isKept, .ref mm_refused, .int mm_lineFrom, .int mm_lineTo, .ref mm_stands, .ref mm_far, .ref mm_queue, .int mm_queued, .ref mm_meets, .ref mm_bytes, .int (nI bl), .int (nI ta), .int (nI tl), .int mm_token, .int mm_value, .ref mm_next, .int (nI tk)])), (mm_now, .inl (cy 1, 122, .inl mm_now_f)), (mm_refused, .inl (cy 1, 3, .inl mm_refused_f))] sz)) (va_Qi (fun (r : Int32) (u : (Nat → Int32) × (Nat → Int32)) => mN u.1) (fun (u : (Nat → Int32) × (Nat → Int32)) t => va_P D vwCl ([(mm, .inr (11, [.ref mm_now, .ref mm_kept, .ref mm_isKept, .ref mm_refused, .int mm_lineFrom, .int mm_lineTo, .ref mm_stands, .ref mm_far, .ref mm_queue, .int mm_queued, .ref mm_meets, .ref mm_bytes, .int (nI bl), .int (nI ta), .int (nI tl), .int mm_token, .int mm_value, .ref mm_next, .int (nI tk)])), (mm_now, .inl (cy 1, 122, .inl u.1)), (mm_refused, .inl (cy 1, 3, .inl u.2))]) t.heap ∧ va_D (va_A [(mm, .inr (11, [.ref mm_now, .ref mm_kept, .ref mm_isKept, .ref mm_refused, .int mm_lineFrom, .int mm_lineTo, .ref mm_stands, .ref mm_far, .ref mm_queue, .int mm_queued, .ref mm_meets, .ref mm_bytes, .int (nI bl), .int (nI ta), .int (nI tl), .int mm_token, .int mm_value, .ref mm_next, .int (nI tk)])), (mm_now, .inl (cy 1, 122, .inl mm_now_f)), (mm_refused, .inl (cy 1, 3, .inl mm_refused_f))] sz) ([(mm, .inr (11, [.ref mm_now, .ref mm_kept, .ref mm_isKept, .ref mm_refused, .int mm_lineFrom, .int mm_lineTo, .ref mm_stands, .ref mm_far, .ref mm_queue, .int mm_queued, .ref mm_meets, .ref mm_bytes, .int (nI bl), .int (nI ta), .int (nI tl), .int mm_token, .int mm_value, .ref mm_next, .int (nI tk)])), (mm_now, .inl (cy 1, 122, .inl u.1)), (mm_refused, .inl (cy 1, 3, .inl u.2))])) (va_A [(mm, .inr (11, [.ref mm_now, .ref mm_kept, .ref mm_isKept, .ref mm_refused, .int mm_lineFrom, .int mm_lineTo, .ref mm_stands, .ref mm_far, .ref mm_queue, .int mm_queued, .ref mm_meets, .ref mm_bytes, .int (nI bl), .int (nI ta), .int (nI tl), .int mm_token, .int mm_value, .ref mm_next, .int (nI tk)])), (mm_now, .inl (cy 1, 122, .inl mm_now_f)), (mm_refused, .inl (cy 1, 3, .inl mm_refused_f))] sz)) 0 0 (va_A [(mm, .inr (11, [.ref mm_now, .ref mm_kept, .ref mm_isKept, .ref mm_refused, .int mm_lineFrom, .int mm_lineTo, .ref mm_stands, .ref mm_far, .ref mm_queue, .int mm_queued, .ref mm_meets, .ref mm_bytes, .int (nI bl), .int (nI ta), .int (nI tl), .int mm_token, .int mm_value, .ref mm_next, .int (nI tk)])), (mm_now, .inl (cy 1, 122, .inl mm_now_f)), (mm_refused, .inl (cy 1, 3, .inl mm_refused_f))] sz) := by
  refine Met.ofW (cc := cX11_clears) (maxL := 4) (ret := (some .int)) (by decide) rfl ?_
  intro p e s m args below meth c s₁ B hml hv
  obtain ⟨rfl, hsz, hP, hKA, hD0⟩ := hv
  have hx := B.exec
  have hb := B.bytes
  have hr := B.returns
  have hts := atoms_spec (ws := wsX11_clears) B.pre
  have hown : s.vm.findClass RX11 = some m.cls := findClass_of_methodNamed B.named
  have hlocks := B.notSynchronized
  subst hsz
  have hK := hKA.1
  have hD := hD0.self (sz := s.heap.size)
  generalize hAe : va_A [(mm, .inr (11, [.ref mm_now, .ref mm_kept, .ref mm_isKept, .ref mm_refused, .int mm_lineFrom, .int mm_lineTo, .ref mm_stands, .ref mm_far, .ref mm_queue, .int mm_queued, .ref mm_meets, .ref mm_bytes, .int (nI bl), .int (nI ta), .int (nI tl), .int mm_token, .int mm_value, .ref mm_next, .int (nI tk)])), (mm_now, .inl (cy 1, 122, .inl mm_now_f)), (mm_refused, .inl (cy 1, 3, .inl mm_refused_f))] s.heap.size = A at hD ⊢
  have hA : ∀ q : Nat, s.heap.size ≤ q → A q := fun q h => by rw [← hAe]; exact Or.inr h
  have hS : va_S A s.heap s.heap [] := va_S.rf
  have hP : va_P D vwCl [(mm, .inr (11, [.ref mm_now, .ref mm_kept, .ref mm_isKept, .ref mm_refused, .int mm_lineFrom, .int mm_lineTo, .ref mm_stands, .ref mm_far, .ref mm_queue, .int mm_queued, .ref mm_meets, .ref mm_bytes, .int (nI bl), .int (nI ta), .int (nI tl), .int mm_token, .int mm_value, .ref mm_next, .int (nI tk)])), (mm_now, .inl (cy 1, 122, .inl mm_now_f)), (mm_refused, .inl (cy 1, 3, .inl mm_refused_f))] s.heap := hP
  have hl := lv_entry ([.ref mm, .int px]) (n := 4) (Nat.le_of_ble_eq_true rfl)
  rw [lg_entry_eq]
  generalize (lg_sl ([.ref mm, .int px]) ++ List.replicate (4 - (lg_sl ([.ref mm, .int px])).length) Slot.unset).toArray = ls at hl ⊢
  have hl : lv_has ls 4 [(0, .ref mm), (1, .int px)] := hl
  refine qW (fun QF hQF => ?_)
  have z0_ := hts (.fieldLink RX11 7 "HeardSeenModel" "now" "[I") (by decide +kernel)
  have zi11_ : ∀ w ∈ u_ws RX11 TX11 19, w ∈ wsX11_clears := by decide +kernel
  obtain ⟨mW, mH, mS, mP, hF⟩ := hN
  obtain ⟨hW2, hW6, hH2, hH6, hSe, hS4, hS6, hP5⟩ := hF.rng
  refine lv_iload_n hx hb dX11_clears_0 rfl (lv_at hl 1 rfl) ?_
  refine lv_i2l hx hb dX11_clears_1 rfl ?_
  refine lv_lconst (v := 0) hx hb dX11_clears_2 (by decide) ?_
  refine lv_lconst (v := 1) hx hb dX11_clears_3 (by decide) ?_
  refine rd_i (va_runS (As := [.long px.toInt64, .long 0, .long 1]) (rest := []) ⟨hx, hb, hml, hown, hts⟩ (n_X11_in l D cy px.toInt64 (0) (1) _ ) (va_cwS 3 hts gX11_clears_X11_in rfl rfl rfl (by decide +kernel) ⟨Nat.le_of_ble_eq_true rfl, Nat.le_of_ble_eq_true rfl⟩) (pS hKA pE (dE (A := A))) rfl rfl hl.1 rfl (lv_room (Nat.le_of_ble_eq_true rfl)) dX11_clears_4 ⟨Nat.le_of_ble_eq_true rfl, Nat.le_of_ble_eq_true rfl⟩) hP hS hA (fun r1 H locs hwr1 hP hS => ?_)
  have hwr1 : (r1 = 1 ∧ ((0) ≤ px.toInt64 ∧ px.toInt64 ≤ (1))) ∨ (r1 = 0 ∧ (¬ ((0) ≤ px.toInt64 ∧ px.toInt64 ≤ (1)))) := hwr1
  refine lv_if_ne (tgt := 17) hx hb dX11_clears_7 (by decide) (fun c2 => ?_) (fun c2 => ?_)
  · skip
    obtain ⟨hp3, hp4⟩ := z_b1 hwr1 c2
    obtain ⟨j5, gj5, hj5, ej5⟩ := z_rng (lo := 0) (hi := 1) (by decide) (by decide) hp3 hp4
    refine lv_iload_n hx hb dX11_clears_17 rfl (lv_at hl 1 rfl) ?_
    refine W.eq (g2 := F0 m 18 ls [.int (nI j5)]) (congrArg (fun v9 : Int32 => F0 m 18 ls [.int v9]) ej5) ?_
    refine lv_if_ne (tgt := 26) hx hb dX11_clears_18 (by decide) (fun c6 => ?_) (fun c6 => ?_)
    · skip
      refine lv_bipush (v := 105) hx hb dX11_clears_26 (by decide) ?_
      refine lv_istore_n (lv' := [(2, .int 105), (0, .ref mm), (1, .int px)]) hx hb dX11_clears_28 rfl hl (by decide) rfl (fun ls hl => ?_)
      refine lv_aload_n hx hb dX11_clears_29 rfl (lv_at hl 1 rfl) ?_
      refine va_get (D := D) (ci := 11) (v := .ref mm_now) (C := RX11) (T := TX11) (N := 19) hx hb hts zi11_ hown hK hP 0 rfl rfl 0 (by decide) z0_ (fun _ h9 => h9) rfl dX11_clears_30 ?_
      refine lv_iload_n hx hb dX11_clears_33 rfl (lv_at hl 0 rfl) ?_
      refine my_iald hx hb hK hP 1 1 rfl rfl (by rw [vp_in_iff]; decide +kernel) (k := 105) (by decide +kernel) dX11_clears_34 ?_
      refine lv_topi (fun x7 ex7 => ?_)
      refine lv_istore_n (lv' := [(3, .int x7), (2, .int 105), (0, .ref mm), (1, .int px)]) hx hb dX11_clears_35 rfl hl (by decide) rfl (fun ls hl => ?_)
      refine lv_aload_n hx hb dX11_clears_36 rfl (lv_at hl 2 rfl) ?_
      refine va_get (D := D) (ci := 11) (v := .ref mm_now) (C := RX11) (T := TX11) (N := 19) hx hb hts zi11_ hown hK hP 0 rfl rfl 0 (by decide) z0_ (fun _ h9 => h9) rfl dX11_clears_37 ?_
      refine lv_iload_n hx hb dX11_clears_40 rfl (lv_at hl 1 rfl) ?_
      refine lv_iconst (v := 0) hx hb dX11_clears_41 (by decide) ?_
      refine my_iast hx hb hK hP hD hS 1 1 rfl rfl (by rw [vp_in_iff]; decide +kernel) (k := 105) (by decide +kernel) dX11_clears_42 (fun H locs hP hD hS => ?_)
      have hP : va_P D vwCl [(mm, .inr (11, [.ref mm_now, .ref mm_kept, .ref mm_isKept, .ref mm_refused, .int mm_lineFrom, .int mm_lineTo, .ref mm_stands, .ref mm_far, .ref mm_queue, .int mm_queued, .ref mm_meets, .ref mm_bytes, .int (nI bl), .int (nI ta), .int (nI tl), .int mm_token, .int mm_value, .ref mm_next, .int (nI tk)])), (mm_now, .inl (cy 1, 122, .inl (upd mm_now_f 105 0))), (mm_refused, .inl (cy 1, 3, .inl mm_refused_f))] H := hP
      have hD : va_D A [(mm, .inr (11, [.ref mm_now, .ref mm_kept, .ref mm_isKept, .ref mm_refused, .int mm_lineFrom, .int mm_lineTo, .ref mm_stands, .ref mm_far, .ref mm_queue, .int mm_queued, .ref mm_meets, .ref mm_bytes, .int (nI bl), .int (nI ta), .int (nI tl), .int mm_token, .int mm_value, .ref mm_next, .int (nI tk)])), (mm_now, .inl (cy 1, 122, .inl (upd mm_now_f 105 0))), (mm_refused, .inl (cy 1, 3, .inl mm_refused_f))] := hD
      obtain ⟨f8, ef8⟩ : ∃ y : Nat → Int32, y = upd mm_now_f 105 0 := ⟨_, rfl⟩
      rw [← ef8] at hP hD
      have hf8 : mV f8 mW mH mS mP := by rw [ef8]; exact mV.put hF 105 0 rfl (by omega) (by unfold mHi; (repeat' split) <;> omega)
      have hP : va_P D vwCl [(mm, .inr (11, [.ref mm_now, .ref mm_kept, .ref mm_isKept, .ref mm_refused, .int mm_lineFrom, .int mm_lineTo, .ref mm_stands, .ref mm_far, .ref mm_queue, .int mm_queued, .ref mm_meets, .ref mm_bytes, .int (nI bl), .int (nI ta), .int (nI tl), .int mm_token, .int mm_value, .ref mm_next, .int (nI tk)])), (mm_now, .inl (cy 1, 122, .inl f8)), (mm_refused, .inl (cy 1, 3, .inl mm_refused_f))] H := hP
      have hD : va_D A [(mm, .inr (11, [.ref mm_now, .ref mm_kept, .ref mm_isKept, .ref mm_refused, .int mm_lineFrom, .int mm_lineTo, .ref mm_stands, .ref mm_far, .ref mm_queue, .int mm_queued, .ref mm_meets, .ref mm_bytes, .int (nI bl), .int (nI ta), .int (nI tl), .int mm_token, .int mm_value, .ref mm_next, .int (nI tk)])), (mm_now, .inl (cy 1, 122, .inl f8)), (mm_refused, .inl (cy 1, 3, .inl mm_refused_f))] := hD
      refine lv_iload_n hx hb dX11_clears_43 rfl (lv_at hl 0 rfl) ?_
      subst hQF
      have hP9 := hP
      have hD9 := hD
      exact W.iret (v := x7) hx hb hr (fun t ht hW => ⟨⟨x7, (f8, mm_refused_f), rfl, ⟨_, _, _, _, hf8⟩, by rw [ht]; exact hP9, hD9⟩, hS.F ht⟩) hS.2.2 dX11_clears_44
    · skip
      refine lv_bipush (v := 92) hx hb dX11_clears_21 (by decide) ?_
      refine lv_goto (tgt := 28) hx hb dX11_clears_23 (by decide) ?_
      refine lv_istore_n (lv' := [(2, .int 92), (0, .ref mm), (1, .int px)]) hx hb dX11_clears_28 rfl hl (by decide) rfl (fun ls hl => ?_)
      refine lv_aload_n hx hb dX11_clears_29 rfl (lv_at hl 1 rfl) ?_
      refine va_get (D := D) (ci := 11) (v := .ref mm_now) (C := RX11) (T := TX11) (N := 19) hx hb hts zi11_ hown hK hP 0 rfl rfl 0 (by decide) z0_ (fun _ h9 => h9) rfl dX11_clears_30 ?_
      refine lv_iload_n hx hb dX11_clears_33 rfl (lv_at hl 0 rfl) ?_
      refine my_iald hx hb hK hP 1 1 rfl rfl (by rw [vp_in_iff]; decide +kernel) (k := 92) (by decide +kernel) dX11_clears_34 ?_
      refine lv_topi (fun x9 ex9 => ?_)
      refine lv_istore_n (lv' := [(3, .int x9), (2, .int 92), (0, .ref mm), (1, .int px)]) hx hb dX11_clears_35 rfl hl (by decide) rfl (fun ls hl => ?_)
      refine lv_aload_n hx hb dX11_clears_36 rfl (lv_at hl 2 rfl) ?_
      refine va_get (D := D) (ci := 11) (v := .ref mm_now) (C := RX11) (T := TX11) (N := 19) hx hb hts zi11_ hown hK hP 0 rfl rfl 0 (by decide) z0_ (fun _ h9 => h9) rfl dX11_clears_37 ?_
      refine lv_iload_n hx hb dX11_clears_40 rfl (lv_at hl 1 rfl) ?_
      refine lv_iconst (v := 0) hx hb dX11_clears_41 (by decide) ?_
      refine my_iast hx hb hK hP hD hS 1 1 rfl rfl (by rw [vp_in_iff]; decide +kernel) (k := 92) (by decide +kernel) dX11_clears_42 (fun H locs hP hD hS => ?_)
      have hP : va_P D vwCl [(mm, .inr (11, [.ref mm_now, .ref mm_kept, .ref mm_isKept, .ref mm_refused, .int mm_lineFrom, .int mm_lineTo, .ref mm_stands, .ref mm_far, .ref mm_queue, .int mm_queued, .ref mm_meets, .ref mm_bytes, .int (nI bl), .int (nI ta), .int (nI tl), .int mm_token, .int mm_value, .ref mm_next, .int (nI tk)])), (mm_now, .inl (cy 1, 122, .inl (upd mm_now_f 92 0))), (mm_refused, .inl (cy 1, 3, .inl mm_refused_f))] H := hP
      have hD : va_D A [(mm, .inr (11, [.ref mm_now, .ref mm_kept, .ref mm_isKept, .ref mm_refused, .int mm_lineFrom, .int mm_lineTo, .ref mm_stands, .ref mm_far, .ref mm_queue, .int mm_queued, .ref mm_meets, .ref mm_bytes, .int (nI bl), .int (nI ta), .int (nI tl), .int mm_token, .int mm_value, .ref mm_next, .int (nI tk)])), (mm_now, .inl (cy 1, 122, .inl (upd mm_now_f 92 0))), (mm_refused, .inl (cy 1, 3, .inl mm_refused_f))] := hD
      obtain ⟨f10, ef10⟩ : ∃ y : Nat → Int32, y = upd mm_now_f 92 0 := ⟨_, rfl⟩
      rw [← ef10] at hP hD
      have hf10 : mV f10 mW mH mS mP := by rw [ef10]; exact mV.put hF 92 0 rfl (by omega) (by unfold mHi; (repeat' split) <;> omega)
      have hP : va_P D vwCl [(mm, .inr (11, [.ref mm_now, .ref mm_kept, .ref mm_isKept, .ref mm_refused, .int mm_lineFrom, .int mm_lineTo, .ref mm_stands, .ref mm_far, .ref mm_queue, .int mm_queued, .ref mm_meets, .ref mm_bytes, .int (nI bl), .int (nI ta), .int (nI tl), .int mm_token, .int mm_value, .ref mm_next, .int (nI tk)])), (mm_now, .inl (cy 1, 122, .inl f10)), (mm_refused, .inl (cy 1, 3, .inl mm_refused_f))] H := hP
      have hD : va_D A [(mm, .inr (11, [.ref mm_now, .ref mm_kept, .ref mm_isKept, .ref mm_refused, .int mm_lineFrom, .int mm_lineTo, .ref mm_stands, .ref mm_far, .ref mm_queue, .int mm_queued, .ref mm_meets, .ref mm_bytes, .int (nI bl), .int (nI ta), .int (nI tl), .int mm_token, .int mm_value, .ref mm_next, .int (nI tk)])), (mm_now, .inl (cy 1, 122, .inl f10)), (mm_refused, .inl (cy 1, 3, .inl mm_refused_f))] := hD
      refine lv_iload_n hx hb dX11_clears_43 rfl (lv_at hl 0 rfl) ?_
      subst hQF
      have hP9 := hP
      have hD9 := hD
      exact W.iret (v := x9) hx hb hr (fun t ht hW => ⟨⟨x9, (f10, mm_refused_f), rfl, ⟨_, _, _, _, hf10⟩, by rw [ht]; exact hP9, hD9⟩, hS.F ht⟩) hS.2.2 dX11_clears_44
  · skip
    have hq11 := z_b0 hwr1 c2
    refine lv_aload_n hx hb dX11_clears_10 rfl (lv_at hl 0 rfl) ?_
    refine lv_bipush (v := (-2)) hx hb dX11_clears_11 (by decide) ?_
    refine wr_i (wr := [(mm_now, .inl (cy 1, 122, .inl mm_now_f))]) (va_runV (As := [.int (-2)]) (rest := []) ⟨hx, hb, hml, hown, hts⟩ (n_X11_bad l D cy mm mm_now mm_kept mm_isKept mm_refused mm_lineFrom mm_lineTo mm_stands mm_far mm_queue mm_queued mm_meets mm_bytes bl ta tl mm_token mm_value mm_next tk mm_refused_f (-2) _ ) (cwV 1 hts gX11_clears_X11_bad rfl rfl rfl (by decide +kernel) ⟨Nat.le_of_ble_eq_true rfl, Nat.le_of_ble_eq_true rfl⟩) (pV (ci := 11) (k := 0) hKA (hP.sub (ws' := [(mm, .inr (11, [.ref mm_now, .ref mm_kept, .ref mm_isKept, .ref mm_refused, .int mm_lineFrom, .int mm_lineTo, .ref mm_stands, .ref mm_far, .ref mm_queue, .int mm_queued, .ref mm_meets, .ref mm_bytes, .int (nI bl), .int (nI ta), .int (nI tl), .int mm_token, .int mm_value, .ref mm_next, .int (nI tk)])), (mm_refused, .inl (cy 1, 3, .inl mm_refused_f))]) [0, 2] rfl) (hD.sub (ws' := [(mm, .inr (11, [.ref mm_now, .ref mm_kept, .ref mm_isKept, .ref mm_refused, .int mm_lineFrom, .int mm_lineTo, .ref mm_stands, .ref mm_far, .ref mm_queue, .int mm_queued, .ref mm_meets, .ref mm_bytes, .int (nI bl), .int (nI ta), .int (nI tl), .int mm_token, .int mm_value, .ref mm_next, .int (nI tk)])), (mm_refused, .inl (cy 1, 3, .inl mm_refused_f))]) [0, 2] (by decide) rfl) rfl rfl) rfl rfl hl.1 rfl (lv_room (Nat.le_of_ble_eq_true rfl)) dX11_clears_13 ⟨Nat.le_of_ble_eq_true rfl, Nat.le_of_ble_eq_true rfl⟩) hP hD hS hA [0, 2] [1] rfl rfl (by decide +kernel) (by decide +kernel) (fun r12 ur12 H locs hwr12 hP hD hS => ?_)
    obtain ⟨z13, rfl⟩ : ∃ z, z = ur12 := ⟨_, rfl⟩
    have hP : va_P D vwCl [(mm_now, .inl (cy 1, 122, .inl mm_now_f)), (mm, .inr (11, [.ref mm_now, .ref mm_kept, .ref mm_isKept, .ref mm_refused, .int mm_lineFrom, .int mm_lineTo, .ref mm_stands, .ref mm_far, .ref mm_queue, .int mm_queued, .ref mm_meets, .ref mm_bytes, .int (nI bl), .int (nI ta), .int (nI tl), .int mm_token, .int mm_value, .ref mm_next, .int (nI tk)])), (mm_refused, .inl (cy 1, 3, .inl z13))] H := hP
    have hD : va_D A [(mm_now, .inl (cy 1, 122, .inl mm_now_f)), (mm, .inr (11, [.ref mm_now, .ref mm_kept, .ref mm_isKept, .ref mm_refused, .int mm_lineFrom, .int mm_lineTo, .ref mm_stands, .ref mm_far, .ref mm_queue, .int mm_queued, .ref mm_meets, .ref mm_bytes, .int (nI bl), .int (nI ta), .int (nI tl), .int mm_token, .int mm_value, .ref mm_next, .int (nI tk)])), (mm_refused, .inl (cy 1, 3, .inl z13))] := hD
    have hwr12 : r12 = (-2) := hwr12
    subst hwr12
    subst hQF
    have hP9 := hP.sub (ws' := [(mm, .inr (11, [.ref mm_now, .ref mm_kept, .ref mm_isKept, .ref mm_refused, .int mm_lineFrom, .int mm_lineTo, .ref mm_stands, .ref mm_far, .ref mm_queue, .int mm_queued, .ref mm_meets, .ref mm_bytes, .int (nI bl), .int (nI ta), .int (nI tl), .int mm_token, .int mm_value, .ref mm_next, .int (nI tk)])), (mm_now, .inl (cy 1, 122, .inl mm_now_f)), (mm_refused, .inl (cy 1, 3, .inl z13))]) [1, 0, 2] rfl
    have hD9 := hD.sub (ws' := [(mm, .inr (11, [.ref mm_now, .ref mm_kept, .ref mm_isKept, .ref mm_refused, .int mm_lineFrom, .int mm_lineTo, .ref mm_stands, .ref mm_far, .ref mm_queue, .int mm_queued, .ref mm_meets, .ref mm_bytes, .int (nI bl), .int (nI ta), .int (nI tl), .int mm_token, .int mm_value, .ref mm_next, .int (nI tk)])), (mm_now, .inl (cy 1, 122, .inl mm_now_f)), (mm_refused, .inl (cy 1, 3, .inl z13))]) [1, 0, 2] (by decide) rfl
    exact W.iret (v := (-2)) hx hb hr (fun t ht hW => ⟨⟨(-2), (mm_now_f, z13), rfl, ⟨_, _, _, _, hF⟩, by rw [ht]; exact hP9, hD9⟩, hS.F ht⟩) hS.2.2 dX11_clears_16

set_option maxHeartbeats 4000000 in
set_option maxRecDepth 100000 in
theorem n_X11_clear (l : Launch) (D : va_G) (cy : Nat → ClassId) (mm : Nat) (mm_now : Nat) (mm_kept : Nat) (mm_isKept : Nat) (mm_refused : Nat) (mm_lineFrom : Int32) (mm_lineTo : Int32) (mm_stands : Nat) (mm_far : Nat) (mm_queue : Nat) (mm_queued : Int32) (mm_meets : Nat) (mm_bytes : Nat) (bl : Nat) (ta : Nat) (tl : Nat) (mm_token : Int32) (mm_value : Int32) (mm_next : Nat) (tk : Nat) (mm_now_f : Nat → Int32) (mm_refused_f : Nat → Int32) (px : Int32) (py : Int32) (sz : Nat) (hN : mN mm_now_f) : Met l yX11_clear wsX11_clear ({ frames := 4, cells := 0, slots := 0, locals := 95 }) (va_Pc [.ref mm, .int px, .int py] (kPre D cy [(mm, .inr (11, [.ref mm_now, .ref mm_kept, .ref mm_isKept, .ref mm_refused, .int mm_lineFrom, .int mm_lineTo, .ref mm_stands, .ref mm_far, .ref mm_queue, .int mm_queued, .ref mm_meets, .ref mm_bytes, .int (nI bl), .int (nI ta), .int (nI tl), .int mm_token, .int mm_value, .ref mm_next, .int (nI tk)])), (mm_now, .inl (cy 1, 122, .inl mm_now_f)), (mm_refused, .inl (cy 1, 3, .inl mm_refused_f))] sz)) (va_Qi (fun (r : Int32) (u : Int32 × Int32 × (Nat → Int32)) => True) (fun (u : Int32 × Int32 × (Nat → Int32)) t => va_P D vwCl ([(mm, .inr (11, [.ref mm_now, .ref mm_kept, .ref mm_isKept, .ref mm_refused, .int u.1, .int u.2.1, .ref mm_stands, .ref mm_far, .ref mm_queue, .int mm_queued, .ref mm_meets, .ref mm_bytes, .int (nI bl), .int (nI ta), .int (nI tl), .int mm_token, .int mm_value, .ref mm_next, .int (nI tk)])), (mm_now, .inl (cy 1, 122, .inl mm_now_f)), (mm_refused, .inl (cy 1, 3, .inl u.2.2))]) t.heap ∧ va_D (va_A [(mm, .inr (11, [.ref mm_now, .ref mm_kept, .ref mm_isKept, .ref mm_refused, .int mm_lineFrom, .int mm_lineTo, .ref mm_stands, .ref mm_far, .ref mm_queue, .int mm_queued, .ref mm_meets, .ref mm_bytes, .int (nI bl), .int (nI ta), .int (nI tl), .int mm_token, .int mm_value, .ref mm_next, .int (nI tk)])), (mm_now, .inl (cy 1, 122, .inl mm_now_f)), (mm_refused, .inl (cy 1, 3, .inl mm_refused_f))] sz) ([(mm, .inr (11, [.ref mm_now, .ref mm_kept, .ref mm_isKept, .ref mm_refused, .int u.1, .int u.2.1, .ref mm_stands, .ref mm_far, .ref mm_queue, .int mm_queued, .ref mm_meets, .ref mm_bytes, .int (nI bl), .int (nI ta), .int (nI tl), .int mm_token, .int mm_value, .ref mm_next, .int (nI tk)])), (mm_now, .inl (cy 1, 122, .inl mm_now_f)), (mm_refused, .inl (cy 1, 3, .inl u.2.2))])) (va_A [(mm, .inr (11, [.ref mm_now, .ref mm_kept, .ref mm_isKept, .ref mm_refused, .int mm_lineFrom, .int mm_lineTo, .ref mm_stands, .ref mm_far, .ref mm_queue, .int mm_queued, .ref mm_meets, .ref mm_bytes, .int (nI bl), .int (nI ta), .int (nI tl), .int mm_token, .int mm_value, .ref mm_next, .int (nI tk)])), (mm_now, .inl (cy 1, 122, .inl mm_now_f)), (mm_refused, .inl (cy 1, 3, .inl mm_refused_f))] sz)) 0 0 (va_A [(mm, .inr (11, [.ref mm_now, .ref mm_kept, .ref mm_isKept, .ref mm_refused, .int mm_lineFrom, .int mm_lineTo, .ref mm_stands, .ref mm_far, .ref mm_queue, .int mm_queued, .ref mm_meets, .ref mm_bytes, .int (nI bl), .int (nI ta), .int (nI tl), .int mm_token, .int mm_value, .ref mm_next, .int (nI tk)])), (mm_now, .inl (cy 1, 122, .inl mm_now_f)), (mm_refused, .inl (cy 1, 3, .inl mm_refused_f))] sz) := by
  refine Met.ofW (cc := cX11_clear) (maxL := 3) (ret := (some .int)) (by decide) rfl ?_
  intro p e s m args below meth c s₁ B hml hv
  obtain ⟨rfl, hsz, hP, hKA, hD0⟩ := hv
  have hx := B.exec
  have hb := B.bytes
  have hr := B.returns
  have hts := atoms_spec (ws := wsX11_clear) B.pre
  have hown : s.vm.findClass RX11 = some m.cls := findClass_of_methodNamed B.named
  have hlocks := B.notSynchronized
  subst hsz
  have hK := hKA.1
  have hD := hD0.self (sz := s.heap.size)
  generalize hAe : va_A [(mm, .inr (11, [.ref mm_now, .ref mm_kept, .ref mm_isKept, .ref mm_refused, .int mm_lineFrom, .int mm_lineTo, .ref mm_stands, .ref mm_far, .ref mm_queue, .int mm_queued, .ref mm_meets, .ref mm_bytes, .int (nI bl), .int (nI ta), .int (nI tl), .int mm_token, .int mm_value, .ref mm_next, .int (nI tk)])), (mm_now, .inl (cy 1, 122, .inl mm_now_f)), (mm_refused, .inl (cy 1, 3, .inl mm_refused_f))] s.heap.size = A at hD ⊢
  have hA : ∀ q : Nat, s.heap.size ≤ q → A q := fun q h => by rw [← hAe]; exact Or.inr h
  have hS : va_S A s.heap s.heap [] := va_S.rf
  have hP : va_P D vwCl [(mm, .inr (11, [.ref mm_now, .ref mm_kept, .ref mm_isKept, .ref mm_refused, .int mm_lineFrom, .int mm_lineTo, .ref mm_stands, .ref mm_far, .ref mm_queue, .int mm_queued, .ref mm_meets, .ref mm_bytes, .int (nI bl), .int (nI ta), .int (nI tl), .int mm_token, .int mm_value, .ref mm_next, .int (nI tk)])), (mm_now, .inl (cy 1, 122, .inl mm_now_f)), (mm_refused, .inl (cy 1, 3, .inl mm_refused_f))] s.heap := hP
  have hl := lv_entry ([.ref mm, .int px, .int py]) (n := 3) (Nat.le_of_ble_eq_true rfl)
  rw [lg_entry_eq]
  generalize (lg_sl ([.ref mm, .int px, .int py]) ++ List.replicate (3 - (lg_sl ([.ref mm, .int px, .int py])).length) Slot.unset).toArray = ls at hl ⊢
  have hl : lv_has ls 3 [(0, .ref mm), (1, .int px), (2, .int py)] := hl
  refine qW (fun QF hQF => ?_)
  obtain ⟨mW, mH, mS, mP, hF⟩ := hN
  obtain ⟨hW2, hW6, hH2, hH6, hSe, hS4, hS6, hP5⟩ := hF.rng
  refine lv_aload_n hx hb dX11_clear_0 rfl (lv_at hl 0 rfl) ?_
  refine lv_iload_n hx hb dX11_clear_1 rfl (lv_at hl 1 rfl) ?_
  refine rd_i (va_runV (As := [.int px]) (rest := []) ⟨hx, hb, hml, hown, hts⟩ (n_X11_isSquare l D cy mW mH mS mP mm mm_now mm_kept mm_isKept mm_refused mm_lineFrom mm_lineTo mm_stands mm_far mm_queue mm_queued mm_meets mm_bytes bl ta tl mm_token mm_value mm_next tk mm_now_f px _ (by first | assumption | omega)) (cwV 1 hts gX11_clear_X11_isSquare rfl rfl rfl (by decide +kernel) ⟨Nat.le_of_ble_eq_true rfl, Nat.le_of_ble_eq_true rfl⟩) (pV (ci := 11) (k := 0) hKA (hP.sub (ws' := [(mm, .inr (11, [.ref mm_now, .ref mm_kept, .ref mm_isKept, .ref mm_refused, .int mm_lineFrom, .int mm_lineTo, .ref mm_stands, .ref mm_far, .ref mm_queue, .int mm_queued, .ref mm_meets, .ref mm_bytes, .int (nI bl), .int (nI ta), .int (nI tl), .int mm_token, .int mm_value, .ref mm_next, .int (nI tk)])), (mm_now, .inl (cy 1, 122, .inl mm_now_f))]) [0, 1] rfl) (hD.sub (ws' := [(mm, .inr (11, [.ref mm_now, .ref mm_kept, .ref mm_isKept, .ref mm_refused, .int mm_lineFrom, .int mm_lineTo, .ref mm_stands, .ref mm_far, .ref mm_queue, .int mm_queued, .ref mm_meets, .ref mm_bytes, .int (nI bl), .int (nI ta), .int (nI tl), .int mm_token, .int mm_value, .ref mm_next, .int (nI tk)])), (mm_now, .inl (cy 1, 122, .inl mm_now_f))]) [0, 1] (by decide) rfl) rfl rfl) rfl rfl hl.1 rfl (lv_room (Nat.le_of_ble_eq_true rfl)) dX11_clear_2 ⟨Nat.le_of_ble_eq_true rfl, Nat.le_of_ble_eq_true rfl⟩) hP hS hA (fun r1 H locs hwr1 hP hS => ?_)
  have hwr1 : (r1 = 1 ∧ (∃ j : Nat, j < mS ∧ px = nI j)) ∨ (r1 = 0 ∧ True) := hwr1
  refine lv_if_eq (tgt := 16) hx hb dX11_clear_5 (by decide) (fun c2 => ?_) (fun c2 => ?_)
  · skip
    refine lv_aload_n hx hb dX11_clear_16 rfl (lv_at hl 0 rfl) ?_
    refine lv_bipush (v := (-2)) hx hb dX11_clear_17 (by decide) ?_
    refine wr_i (wr := [(mm_now, .inl (cy 1, 122, .inl mm_now_f))]) (va_runV (As := [.int (-2)]) (rest := []) ⟨hx, hb, hml, hown, hts⟩ (n_X11_bad l D cy mm mm_now mm_kept mm_isKept mm_refused mm_lineFrom mm_lineTo mm_stands mm_far mm_queue mm_queued mm_meets mm_bytes bl ta tl mm_token mm_value mm_next tk mm_refused_f (-2) _ ) (cwV 1 hts gX11_clear_X11_bad rfl rfl rfl (by decide +kernel) ⟨Nat.le_of_ble_eq_true rfl, Nat.le_of_ble_eq_true rfl⟩) (pV (ci := 11) (k := 0) hKA (hP.sub (ws' := [(mm, .inr (11, [.ref mm_now, .ref mm_kept, .ref mm_isKept, .ref mm_refused, .int mm_lineFrom, .int mm_lineTo, .ref mm_stands, .ref mm_far, .ref mm_queue, .int mm_queued, .ref mm_meets, .ref mm_bytes, .int (nI bl), .int (nI ta), .int (nI tl), .int mm_token, .int mm_value, .ref mm_next, .int (nI tk)])), (mm_refused, .inl (cy 1, 3, .inl mm_refused_f))]) [0, 2] rfl) (hD.sub (ws' := [(mm, .inr (11, [.ref mm_now, .ref mm_kept, .ref mm_isKept, .ref mm_refused, .int mm_lineFrom, .int mm_lineTo, .ref mm_stands, .ref mm_far, .ref mm_queue, .int mm_queued, .ref mm_meets, .ref mm_bytes, .int (nI bl), .int (nI ta), .int (nI tl), .int mm_token, .int mm_value, .ref mm_next, .int (nI tk)])), (mm_refused, .inl (cy 1, 3, .inl mm_refused_f))]) [0, 2] (by decide) rfl) rfl rfl) rfl rfl hl.1 rfl (lv_room (Nat.le_of_ble_eq_true rfl)) dX11_clear_19 ⟨Nat.le_of_ble_eq_true rfl, Nat.le_of_ble_eq_true rfl⟩) hP hD hS hA [0, 2] [1] rfl rfl (by decide +kernel) (by decide +kernel) (fun r3 ur3 H locs hwr3 hP hD hS => ?_)
    obtain ⟨z4, rfl⟩ : ∃ z, z = ur3 := ⟨_, rfl⟩
    have hP : va_P D vwCl [(mm_now, .inl (cy 1, 122, .inl mm_now_f)), (mm, .inr (11, [.ref mm_now, .ref mm_kept, .ref mm_isKept, .ref mm_refused, .int mm_lineFrom, .int mm_lineTo, .ref mm_stands, .ref mm_far, .ref mm_queue, .int mm_queued, .ref mm_meets, .ref mm_bytes, .int (nI bl), .int (nI ta), .int (nI tl), .int mm_token, .int mm_value, .ref mm_next, .int (nI tk)])), (mm_refused, .inl (cy 1, 3, .inl z4))] H := hP
    have hD : va_D A [(mm_now, .inl (cy 1, 122, .inl mm_now_f)), (mm, .inr (11, [.ref mm_now, .ref mm_kept, .ref mm_isKept, .ref mm_refused, .int mm_lineFrom, .int mm_lineTo, .ref mm_stands, .ref mm_far, .ref mm_queue, .int mm_queued, .ref mm_meets, .ref mm_bytes, .int (nI bl), .int (nI ta), .int (nI tl), .int mm_token, .int mm_value, .ref mm_next, .int (nI tk)])), (mm_refused, .inl (cy 1, 3, .inl z4))] := hD
    have hwr3 : r3 = (-2) := hwr3
    subst hwr3
    subst hQF
    have hP9 := hP.sub (ws' := [(mm, .inr (11, [.ref mm_now, .ref mm_kept, .ref mm_isKept, .ref mm_refused, .int mm_lineFrom, .int mm_lineTo, .ref mm_stands, .ref mm_far, .ref mm_queue, .int mm_queued, .ref mm_meets, .ref mm_bytes, .int (nI bl), .int (nI ta), .int (nI tl), .int mm_token, .int mm_value, .ref mm_next, .int (nI tk)])), (mm_now, .inl (cy 1, 122, .inl mm_now_f)), (mm_refused, .inl (cy 1, 3, .inl z4))]) [1, 0, 2] rfl
    have hD9 := hD.sub (ws' := [(mm, .inr (11, [.ref mm_now, .ref mm_kept, .ref mm_isKept, .ref mm_refused, .int mm_lineFrom, .int mm_lineTo, .ref mm_stands, .ref mm_far, .ref mm_queue, .int mm_queued, .ref mm_meets, .ref mm_bytes, .int (nI bl), .int (nI ta), .int (nI tl), .int mm_token, .int mm_value, .ref mm_next, .int (nI tk)])), (mm_now, .inl (cy 1, 122, .inl mm_now_f)), (mm_refused, .inl (cy 1, 3, .inl z4))]) [1, 0, 2] (by decide) rfl
    exact W.iret (v := (-2)) hx hb hr (fun t ht hW => ⟨⟨(-2), (mm_lineFrom, mm_lineTo, z4), rfl, trivial, by rw [ht]; exact hP9, hD9⟩, hS.F ht⟩) hS.2.2 dX11_clear_22
  · skip
    have hp5 := z_b1 hwr1 c2
    obtain ⟨j6, hj6, ej6⟩ := hp5
    refine lv_aload_n hx hb dX11_clear_8 rfl (lv_at hl 0 rfl) ?_
    refine lv_iload_n hx hb dX11_clear_9 rfl (lv_at hl 2 rfl) ?_
    refine rd_i (va_runV (As := [.int py]) (rest := []) ⟨hx, hb, hml, hown, hts⟩ (n_X11_isSquare l D cy mW mH mS mP mm mm_now mm_kept mm_isKept mm_refused mm_lineFrom mm_lineTo mm_stands mm_far mm_queue mm_queued mm_meets mm_bytes bl ta tl mm_token mm_value mm_next tk mm_now_f py _ (by first | assumption | omega)) (cwV 1 hts gX11_clear_X11_isSquare rfl rfl rfl (by decide +kernel) ⟨Nat.le_of_ble_eq_true rfl, Nat.le_of_ble_eq_true rfl⟩) (pV (ci := 11) (k := 0) hKA (hP.sub (ws' := [(mm, .inr (11, [.ref mm_now, .ref mm_kept, .ref mm_isKept, .ref mm_refused, .int mm_lineFrom, .int mm_lineTo, .ref mm_stands, .ref mm_far, .ref mm_queue, .int mm_queued, .ref mm_meets, .ref mm_bytes, .int (nI bl), .int (nI ta), .int (nI tl), .int mm_token, .int mm_value, .ref mm_next, .int (nI tk)])), (mm_now, .inl (cy 1, 122, .inl mm_now_f))]) [0, 1] rfl) (hD.sub (ws' := [(mm, .inr (11, [.ref mm_now, .ref mm_kept, .ref mm_isKept, .ref mm_refused, .int mm_lineFrom, .int mm_lineTo, .ref mm_stands, .ref mm_far, .ref mm_queue, .int mm_queued, .ref mm_meets, .ref mm_bytes, .int (nI bl), .int (nI ta), .int (nI tl), .int mm_token, .int mm_value, .ref mm_next, .int (nI tk)])), (mm_now, .inl (cy 1, 122, .inl mm_now_f))]) [0, 1] (by decide) rfl) rfl rfl) rfl rfl hl.1 rfl (lv_room (Nat.le_of_ble_eq_true rfl)) dX11_clear_10 ⟨Nat.le_of_ble_eq_true rfl, Nat.le_of_ble_eq_true rfl⟩) hP hS hA (fun r7 H locs hwr7 hP hS => ?_)
    have hwr7 : (r7 = 1 ∧ (∃ j : Nat, j < mS ∧ py = nI j)) ∨ (r7 = 0 ∧ True) := hwr7
    refine lv_if_ne (tgt := 23) hx hb dX11_clear_13 (by decide) (fun c8 => ?_) (fun c8 => ?_)
    · skip
      have hp9 := z_b1 hwr7 c8
      obtain ⟨j10, hj10, ej10⟩ := hp9
      refine lv_aload_n hx hb dX11_clear_23 rfl (lv_at hl 0 rfl) ?_
      refine lv_iload_n hx hb dX11_clear_24 rfl (lv_at hl 1 rfl) ?_
      refine W.eq (g2 := F0 m 25 ls [.int (nI j6), .ref mm]) (congrArg (fun v9 : Int32 => F0 m 25 ls [.int v9, .ref mm]) ej6) ?_
      refine lv_iload_n hx hb dX11_clear_25 rfl (lv_at hl 2 rfl) ?_
      refine W.eq (g2 := F0 m 26 ls [.int (nI j10), .int (nI j6), .ref mm]) (congrArg (fun v9 : Int32 => F0 m 26 ls [.int v9, .int (nI j6), .ref mm]) ej10) ?_
      refine wr_i (wr := [(mm_refused, .inl (cy 1, 3, .inl mm_refused_f))]) (va_runV (As := [.int (nI j6), .int (nI j10)]) (rest := []) ⟨hx, hb, hml, hown, hts⟩ (n_X11_isClear l D cy mW mH mS mP mm mm_now mm_kept mm_isKept mm_refused mm_lineFrom mm_lineTo mm_stands mm_far mm_queue mm_queued mm_meets mm_bytes bl ta tl mm_token mm_value mm_next tk mm_now_f (nI j6) (nI j10) _ (by first | assumption | omega)) (cwV 2 hts gX11_clear_X11_isClear rfl rfl rfl (by decide +kernel) ⟨Nat.le_of_ble_eq_true rfl, Nat.le_of_ble_eq_true rfl⟩) (pV (ci := 11) (k := 0) hKA (hP.sub (ws' := [(mm, .inr (11, [.ref mm_now, .ref mm_kept, .ref mm_isKept, .ref mm_refused, .int mm_lineFrom, .int mm_lineTo, .ref mm_stands, .ref mm_far, .ref mm_queue, .int mm_queued, .ref mm_meets, .ref mm_bytes, .int (nI bl), .int (nI ta), .int (nI tl), .int mm_token, .int mm_value, .ref mm_next, .int (nI tk)])), (mm_now, .inl (cy 1, 122, .inl mm_now_f))]) [0, 1] rfl) (hD.sub (ws' := [(mm, .inr (11, [.ref mm_now, .ref mm_kept, .ref mm_isKept, .ref mm_refused, .int mm_lineFrom, .int mm_lineTo, .ref mm_stands, .ref mm_far, .ref mm_queue, .int mm_queued, .ref mm_meets, .ref mm_bytes, .int (nI bl), .int (nI ta), .int (nI tl), .int mm_token, .int mm_value, .ref mm_next, .int (nI tk)])), (mm_now, .inl (cy 1, 122, .inl mm_now_f))]) [0, 1] (by decide) rfl) rfl rfl) rfl rfl hl.1 rfl (lv_room (Nat.le_of_ble_eq_true rfl)) dX11_clear_26 ⟨Nat.le_of_ble_eq_true rfl, Nat.le_of_ble_eq_true rfl⟩) hP hD hS hA [0, 1] [2] rfl rfl (by decide +kernel) (by decide +kernel) (fun r11 ur11 H locs hwr11 hP hD hS => ?_)
      obtain ⟨z12, z13⟩ := ur11
      have hP : va_P D vwCl [(mm_refused, .inl (cy 1, 3, .inl mm_refused_f)), (mm, .inr (11, [.ref mm_now, .ref mm_kept, .ref mm_isKept, .ref mm_refused, .int z12, .int z13, .ref mm_stands, .ref mm_far, .ref mm_queue, .int mm_queued, .ref mm_meets, .ref mm_bytes, .int (nI bl), .int (nI ta), .int (nI tl), .int mm_token, .int mm_value, .ref mm_next, .int (nI tk)])), (mm_now, .inl (cy 1, 122, .inl mm_now_f))] H := hP
      have hD : va_D A [(mm_refused, .inl (cy 1, 3, .inl mm_refused_f)), (mm, .inr (11, [.ref mm_now, .ref mm_kept, .ref mm_isKept, .ref mm_refused, .int z12, .int z13, .ref mm_stands, .ref mm_far, .ref mm_queue, .int mm_queued, .ref mm_meets, .ref mm_bytes, .int (nI bl), .int (nI ta), .int (nI tl), .int mm_token, .int mm_value, .ref mm_next, .int (nI tk)])), (mm_now, .inl (cy 1, 122, .inl mm_now_f))] := hD
      have hwr11 : (r11 = 1 ∧ True) ∨ (r11 = 0 ∧ True) := hwr11
      refine lv_if_eq (tgt := 36) hx hb dX11_clear_29 (by decide) (fun c14 => ?_) (fun c14 => ?_)
      · skip
        refine lv_iconst (v := 0) hx hb dX11_clear_36 (by decide) ?_
        subst hQF
        have hP9 := hP.sub (ws' := [(mm, .inr (11, [.ref mm_now, .ref mm_kept, .ref mm_isKept, .ref mm_refused, .int z12, .int z13, .ref mm_stands, .ref mm_far, .ref mm_queue, .int mm_queued, .ref mm_meets, .ref mm_bytes, .int (nI bl), .int (nI ta), .int (nI tl), .int mm_token, .int mm_value, .ref mm_next, .int (nI tk)])), (mm_now, .inl (cy 1, 122, .inl mm_now_f)), (mm_refused, .inl (cy 1, 3, .inl mm_refused_f))]) [1, 2, 0] rfl
        have hD9 := hD.sub (ws' := [(mm, .inr (11, [.ref mm_now, .ref mm_kept, .ref mm_isKept, .ref mm_refused, .int z12, .int z13, .ref mm_stands, .ref mm_far, .ref mm_queue, .int mm_queued, .ref mm_meets, .ref mm_bytes, .int (nI bl), .int (nI ta), .int (nI tl), .int mm_token, .int mm_value, .ref mm_next, .int (nI tk)])), (mm_now, .inl (cy 1, 122, .inl mm_now_f)), (mm_refused, .inl (cy 1, 3, .inl mm_refused_f))]) [1, 2, 0] (by decide) rfl
        exact W.iret (v := 0) hx hb hr (fun t ht hW => ⟨⟨0, (z12, z13, mm_refused_f), rfl, trivial, by rw [ht]; exact hP9, hD9⟩, hS.F ht⟩) hS.2.2 dX11_clear_37
      · skip
        refine lv_iconst (v := 1) hx hb dX11_clear_32 (by decide) ?_
        refine lv_goto (tgt := 37) hx hb dX11_clear_33 (by decide) ?_
        subst hQF
        have hP9 := hP.sub (ws' := [(mm, .inr (11, [.ref mm_now, .ref mm_kept, .ref mm_isKept, .ref mm_refused, .int z12, .int z13, .ref mm_stands, .ref mm_far, .ref mm_queue, .int mm_queued, .ref mm_meets, .ref mm_bytes, .int (nI bl), .int (nI ta), .int (nI tl), .int mm_token, .int mm_value, .ref mm_next, .int (nI tk)])), (mm_now, .inl (cy 1, 122, .inl mm_now_f)), (mm_refused, .inl (cy 1, 3, .inl mm_refused_f))]) [1, 2, 0] rfl
        have hD9 := hD.sub (ws' := [(mm, .inr (11, [.ref mm_now, .ref mm_kept, .ref mm_isKept, .ref mm_refused, .int z12, .int z13, .ref mm_stands, .ref mm_far, .ref mm_queue, .int mm_queued, .ref mm_meets, .ref mm_bytes, .int (nI bl), .int (nI ta), .int (nI tl), .int mm_token, .int mm_value, .ref mm_next, .int (nI tk)])), (mm_now, .inl (cy 1, 122, .inl mm_now_f)), (mm_refused, .inl (cy 1, 3, .inl mm_refused_f))]) [1, 2, 0] (by decide) rfl
        exact W.iret (v := 1) hx hb hr (fun t ht hW => ⟨⟨1, (z12, z13, mm_refused_f), rfl, trivial, by rw [ht]; exact hP9, hD9⟩, hS.F ht⟩) hS.2.2 dX11_clear_37
    · skip
      refine lv_aload_n hx hb dX11_clear_16 rfl (lv_at hl 0 rfl) ?_
      refine lv_bipush (v := (-2)) hx hb dX11_clear_17 (by decide) ?_
      refine wr_i (wr := [(mm_now, .inl (cy 1, 122, .inl mm_now_f))]) (va_runV (As := [.int (-2)]) (rest := []) ⟨hx, hb, hml, hown, hts⟩ (n_X11_bad l D cy mm mm_now mm_kept mm_isKept mm_refused mm_lineFrom mm_lineTo mm_stands mm_far mm_queue mm_queued mm_meets mm_bytes bl ta tl mm_token mm_value mm_next tk mm_refused_f (-2) _ ) (cwV 1 hts gX11_clear_X11_bad rfl rfl rfl (by decide +kernel) ⟨Nat.le_of_ble_eq_true rfl, Nat.le_of_ble_eq_true rfl⟩) (pV (ci := 11) (k := 0) hKA (hP.sub (ws' := [(mm, .inr (11, [.ref mm_now, .ref mm_kept, .ref mm_isKept, .ref mm_refused, .int mm_lineFrom, .int mm_lineTo, .ref mm_stands, .ref mm_far, .ref mm_queue, .int mm_queued, .ref mm_meets, .ref mm_bytes, .int (nI bl), .int (nI ta), .int (nI tl), .int mm_token, .int mm_value, .ref mm_next, .int (nI tk)])), (mm_refused, .inl (cy 1, 3, .inl mm_refused_f))]) [0, 2] rfl) (hD.sub (ws' := [(mm, .inr (11, [.ref mm_now, .ref mm_kept, .ref mm_isKept, .ref mm_refused, .int mm_lineFrom, .int mm_lineTo, .ref mm_stands, .ref mm_far, .ref mm_queue, .int mm_queued, .ref mm_meets, .ref mm_bytes, .int (nI bl), .int (nI ta), .int (nI tl), .int mm_token, .int mm_value, .ref mm_next, .int (nI tk)])), (mm_refused, .inl (cy 1, 3, .inl mm_refused_f))]) [0, 2] (by decide) rfl) rfl rfl) rfl rfl hl.1 rfl (lv_room (Nat.le_of_ble_eq_true rfl)) dX11_clear_19 ⟨Nat.le_of_ble_eq_true rfl, Nat.le_of_ble_eq_true rfl⟩) hP hD hS hA [0, 2] [1] rfl rfl (by decide +kernel) (by decide +kernel) (fun r15 ur15 H locs hwr15 hP hD hS => ?_)
      obtain ⟨z16, rfl⟩ : ∃ z, z = ur15 := ⟨_, rfl⟩
      have hP : va_P D vwCl [(mm_now, .inl (cy 1, 122, .inl mm_now_f)), (mm, .inr (11, [.ref mm_now, .ref mm_kept, .ref mm_isKept, .ref mm_refused, .int mm_lineFrom, .int mm_lineTo, .ref mm_stands, .ref mm_far, .ref mm_queue, .int mm_queued, .ref mm_meets, .ref mm_bytes, .int (nI bl), .int (nI ta), .int (nI tl), .int mm_token, .int mm_value, .ref mm_next, .int (nI tk)])), (mm_refused, .inl (cy 1, 3, .inl z16))] H := hP
      have hD : va_D A [(mm_now, .inl (cy 1, 122, .inl mm_now_f)), (mm, .inr (11, [.ref mm_now, .ref mm_kept, .ref mm_isKept, .ref mm_refused, .int mm_lineFrom, .int mm_lineTo, .ref mm_stands, .ref mm_far, .ref mm_queue, .int mm_queued, .ref mm_meets, .ref mm_bytes, .int (nI bl), .int (nI ta), .int (nI tl), .int mm_token, .int mm_value, .ref mm_next, .int (nI tk)])), (mm_refused, .inl (cy 1, 3, .inl z16))] := hD
      have hwr15 : r15 = (-2) := hwr15
      subst hwr15
      subst hQF
      have hP9 := hP.sub (ws' := [(mm, .inr (11, [.ref mm_now, .ref mm_kept, .ref mm_isKept, .ref mm_refused, .int mm_lineFrom, .int mm_lineTo, .ref mm_stands, .ref mm_far, .ref mm_queue, .int mm_queued, .ref mm_meets, .ref mm_bytes, .int (nI bl), .int (nI ta), .int (nI tl), .int mm_token, .int mm_value, .ref mm_next, .int (nI tk)])), (mm_now, .inl (cy 1, 122, .inl mm_now_f)), (mm_refused, .inl (cy 1, 3, .inl z16))]) [1, 0, 2] rfl
      have hD9 := hD.sub (ws' := [(mm, .inr (11, [.ref mm_now, .ref mm_kept, .ref mm_isKept, .ref mm_refused, .int mm_lineFrom, .int mm_lineTo, .ref mm_stands, .ref mm_far, .ref mm_queue, .int mm_queued, .ref mm_meets, .ref mm_bytes, .int (nI bl), .int (nI ta), .int (nI tl), .int mm_token, .int mm_value, .ref mm_next, .int (nI tk)])), (mm_now, .inl (cy 1, 122, .inl mm_now_f)), (mm_refused, .inl (cy 1, 3, .inl z16))]) [1, 0, 2] (by decide) rfl
      exact W.iret (v := (-2)) hx hb hr (fun t ht hW => ⟨⟨(-2), (mm_lineFrom, mm_lineTo, z16), rfl, trivial, by rw [ht]; exact hP9, hD9⟩, hS.F ht⟩) hS.2.2 dX11_clear_22

set_option maxHeartbeats 4000000 in
set_option maxRecDepth 100000 in
theorem n_X11_knows (l : Launch) (D : va_G) (cy : Nat → ClassId) (mm : Nat) (mm_now : Nat) (mm_kept : Nat) (mm_isKept : Nat) (mm_refused : Nat) (mm_lineFrom : Int32) (mm_lineTo : Int32) (mm_stands : Nat) (mm_far : Nat) (mm_queue : Nat) (mm_queued : Int32) (mm_meets : Nat) (mm_bytes : Nat) (bl : Nat) (ta : Nat) (tl : Nat) (mm_token : Int32) (mm_value : Int32) (mm_next : Nat) (tk : Nat) (mm_now_f : Nat → Int32) (mm_refused_f : Nat → Int32) (px : Int32) (py : Int32) (pz : Int32) (sz : Nat) (hN : mN mm_now_f) : Met l yX11_knows wsX11_knows ({ frames := 6, cells := 0, slots := 0, locals := 134 }) (va_Pc [.ref mm, .int px, .int py, .int pz] (kPre D cy [(mm, .inr (11, [.ref mm_now, .ref mm_kept, .ref mm_isKept, .ref mm_refused, .int mm_lineFrom, .int mm_lineTo, .ref mm_stands, .ref mm_far, .ref mm_queue, .int mm_queued, .ref mm_meets, .ref mm_bytes, .int (nI bl), .int (nI ta), .int (nI tl), .int mm_token, .int mm_value, .ref mm_next, .int (nI tk)])), (mm_now, .inl (cy 1, 122, .inl mm_now_f)), (mm_refused, .inl (cy 1, 3, .inl mm_refused_f))] sz)) (va_Qi (fun (r : Int32) (u : Int32 × Int32 × (Nat → Int32)) => True) (fun (u : Int32 × Int32 × (Nat → Int32)) t => va_P D vwCl ([(mm, .inr (11, [.ref mm_now, .ref mm_kept, .ref mm_isKept, .ref mm_refused, .int u.1, .int u.2.1, .ref mm_stands, .ref mm_far, .ref mm_queue, .int mm_queued, .ref mm_meets, .ref mm_bytes, .int (nI bl), .int (nI ta), .int (nI tl), .int mm_token, .int mm_value, .ref mm_next, .int (nI tk)])), (mm_now, .inl (cy 1, 122, .inl mm_now_f)), (mm_refused, .inl (cy 1, 3, .inl u.2.2))]) t.heap ∧ va_D (va_A [(mm, .inr (11, [.ref mm_now, .ref mm_kept, .ref mm_isKept, .ref mm_refused, .int mm_lineFrom, .int mm_lineTo, .ref mm_stands, .ref mm_far, .ref mm_queue, .int mm_queued, .ref mm_meets, .ref mm_bytes, .int (nI bl), .int (nI ta), .int (nI tl), .int mm_token, .int mm_value, .ref mm_next, .int (nI tk)])), (mm_now, .inl (cy 1, 122, .inl mm_now_f)), (mm_refused, .inl (cy 1, 3, .inl mm_refused_f))] sz) ([(mm, .inr (11, [.ref mm_now, .ref mm_kept, .ref mm_isKept, .ref mm_refused, .int u.1, .int u.2.1, .ref mm_stands, .ref mm_far, .ref mm_queue, .int mm_queued, .ref mm_meets, .ref mm_bytes, .int (nI bl), .int (nI ta), .int (nI tl), .int mm_token, .int mm_value, .ref mm_next, .int (nI tk)])), (mm_now, .inl (cy 1, 122, .inl mm_now_f)), (mm_refused, .inl (cy 1, 3, .inl u.2.2))])) (va_A [(mm, .inr (11, [.ref mm_now, .ref mm_kept, .ref mm_isKept, .ref mm_refused, .int mm_lineFrom, .int mm_lineTo, .ref mm_stands, .ref mm_far, .ref mm_queue, .int mm_queued, .ref mm_meets, .ref mm_bytes, .int (nI bl), .int (nI ta), .int (nI tl), .int mm_token, .int mm_value, .ref mm_next, .int (nI tk)])), (mm_now, .inl (cy 1, 122, .inl mm_now_f)), (mm_refused, .inl (cy 1, 3, .inl mm_refused_f))] sz)) 0 0 (va_A [(mm, .inr (11, [.ref mm_now, .ref mm_kept, .ref mm_isKept, .ref mm_refused, .int mm_lineFrom, .int mm_lineTo, .ref mm_stands, .ref mm_far, .ref mm_queue, .int mm_queued, .ref mm_meets, .ref mm_bytes, .int (nI bl), .int (nI ta), .int (nI tl), .int mm_token, .int mm_value, .ref mm_next, .int (nI tk)])), (mm_now, .inl (cy 1, 122, .inl mm_now_f)), (mm_refused, .inl (cy 1, 3, .inl mm_refused_f))] sz) := by
  refine Met.ofW (cc := cX11_knows) (maxL := 5) (ret := (some .int)) (by decide) rfl ?_
  intro p e s m args below meth c s₁ B hml hv
  obtain ⟨rfl, hsz, hP, hKA, hD0⟩ := hv
  have hx := B.exec
  have hb := B.bytes
  have hr := B.returns
  have hts := atoms_spec (ws := wsX11_knows) B.pre
  have hown : s.vm.findClass RX11 = some m.cls := findClass_of_methodNamed B.named
  have hlocks := B.notSynchronized
  subst hsz
  have hK := hKA.1
  have hD := hD0.self (sz := s.heap.size)
  generalize hAe : va_A [(mm, .inr (11, [.ref mm_now, .ref mm_kept, .ref mm_isKept, .ref mm_refused, .int mm_lineFrom, .int mm_lineTo, .ref mm_stands, .ref mm_far, .ref mm_queue, .int mm_queued, .ref mm_meets, .ref mm_bytes, .int (nI bl), .int (nI ta), .int (nI tl), .int mm_token, .int mm_value, .ref mm_next, .int (nI tk)])), (mm_now, .inl (cy 1, 122, .inl mm_now_f)), (mm_refused, .inl (cy 1, 3, .inl mm_refused_f))] s.heap.size = A at hD ⊢
  have hA : ∀ q : Nat, s.heap.size ≤ q → A q := fun q h => by rw [← hAe]; exact Or.inr h
  have hS : va_S A s.heap s.heap [] := va_S.rf
  have hP : va_P D vwCl [(mm, .inr (11, [.ref mm_now, .ref mm_kept, .ref mm_isKept, .ref mm_refused, .int mm_lineFrom, .int mm_lineTo, .ref mm_stands, .ref mm_far, .ref mm_queue, .int mm_queued, .ref mm_meets, .ref mm_bytes, .int (nI bl), .int (nI ta), .int (nI tl), .int mm_token, .int mm_value, .ref mm_next, .int (nI tk)])), (mm_now, .inl (cy 1, 122, .inl mm_now_f)), (mm_refused, .inl (cy 1, 3, .inl mm_refused_f))] s.heap := hP
  have hl := lv_entry ([.ref mm, .int px, .int py, .int pz]) (n := 5) (Nat.le_of_ble_eq_true rfl)
  rw [lg_entry_eq]
  generalize (lg_sl ([.ref mm, .int px, .int py, .int pz]) ++ List.replicate (5 - (lg_sl ([.ref mm, .int px, .int py, .int pz])).length) Slot.unset).toArray = ls at hl ⊢
  have hl : lv_has ls 5 [(0, .ref mm), (1, .int px), (2, .int py), (3, .int pz)] := hl
  refine qW (fun QF hQF => ?_)
  obtain ⟨mW, mH, mS, mP, hF⟩ := hN
  obtain ⟨hW2, hW6, hH2, hH6, hSe, hS4, hS6, hP5⟩ := hF.rng
  refine lv_aload_n hx hb dX11_knows_0 rfl (lv_at hl 0 rfl) ?_
  refine lv_iload_n hx hb dX11_knows_1 rfl (lv_at hl 1 rfl) ?_
  refine rd_i (va_runV (As := [.int px]) (rest := []) ⟨hx, hb, hml, hown, hts⟩ (n_X11_isOne l D cy mW mH mS mP mm mm_now mm_kept mm_isKept mm_refused mm_lineFrom mm_lineTo mm_stands mm_far mm_queue mm_queued mm_meets mm_bytes bl ta tl mm_token mm_value mm_next tk mm_now_f px _ (by first | assumption | omega)) (cwV 1 hts gX11_knows_X11_isOne rfl rfl rfl (by decide +kernel) ⟨Nat.le_of_ble_eq_true rfl, Nat.le_of_ble_eq_true rfl⟩) (pV (ci := 11) (k := 0) hKA (hP.sub (ws' := [(mm, .inr (11, [.ref mm_now, .ref mm_kept, .ref mm_isKept, .ref mm_refused, .int mm_lineFrom, .int mm_lineTo, .ref mm_stands, .ref mm_far, .ref mm_queue, .int mm_queued, .ref mm_meets, .ref mm_bytes, .int (nI bl), .int (nI ta), .int (nI tl), .int mm_token, .int mm_value, .ref mm_next, .int (nI tk)])), (mm_now, .inl (cy 1, 122, .inl mm_now_f))]) [0, 1] rfl) (hD.sub (ws' := [(mm, .inr (11, [.ref mm_now, .ref mm_kept, .ref mm_isKept, .ref mm_refused, .int mm_lineFrom, .int mm_lineTo, .ref mm_stands, .ref mm_far, .ref mm_queue, .int mm_queued, .ref mm_meets, .ref mm_bytes, .int (nI bl), .int (nI ta), .int (nI tl), .int mm_token, .int mm_value, .ref mm_next, .int (nI tk)])), (mm_now, .inl (cy 1, 122, .inl mm_now_f))]) [0, 1] (by decide) rfl) rfl rfl) rfl rfl hl.1 rfl (lv_room (Nat.le_of_ble_eq_true rfl)) dX11_knows_2 ⟨Nat.le_of_ble_eq_true rfl, Nat.le_of_ble_eq_true rfl⟩) hP hS hA (fun r1 H locs hwr1 hP hS => ?_)
  have hwr1 : (r1 = 1 ∧ (∃ j : Nat, j < mP ∧ px = nI j)) ∨ (r1 = 0 ∧ True) := hwr1
  refine lv_if_eq (tgt := 31) hx hb dX11_knows_5 (by decide) (fun c2 => ?_) (fun c2 => ?_)
  · skip
    refine lv_aload_n hx hb dX11_knows_31 rfl (lv_at hl 0 rfl) ?_
    refine lv_bipush (v := (-2)) hx hb dX11_knows_32 (by decide) ?_
    refine wr_i (wr := [(mm_now, .inl (cy 1, 122, .inl mm_now_f))]) (va_runV (As := [.int (-2)]) (rest := []) ⟨hx, hb, hml, hown, hts⟩ (n_X11_bad l D cy mm mm_now mm_kept mm_isKept mm_refused mm_lineFrom mm_lineTo mm_stands mm_far mm_queue mm_queued mm_meets mm_bytes bl ta tl mm_token mm_value mm_next tk mm_refused_f (-2) _ ) (cwV 1 hts gX11_knows_X11_bad rfl rfl rfl (by decide +kernel) ⟨Nat.le_of_ble_eq_true rfl, Nat.le_of_ble_eq_true rfl⟩) (pV (ci := 11) (k := 0) hKA (hP.sub (ws' := [(mm, .inr (11, [.ref mm_now, .ref mm_kept, .ref mm_isKept, .ref mm_refused, .int mm_lineFrom, .int mm_lineTo, .ref mm_stands, .ref mm_far, .ref mm_queue, .int mm_queued, .ref mm_meets, .ref mm_bytes, .int (nI bl), .int (nI ta), .int (nI tl), .int mm_token, .int mm_value, .ref mm_next, .int (nI tk)])), (mm_refused, .inl (cy 1, 3, .inl mm_refused_f))]) [0, 2] rfl) (hD.sub (ws' := [(mm, .inr (11, [.ref mm_now, .ref mm_kept, .ref mm_isKept, .ref mm_refused, .int mm_lineFrom, .int mm_lineTo, .ref mm_stands, .ref mm_far, .ref mm_queue, .int mm_queued, .ref mm_meets, .ref mm_bytes, .int (nI bl), .int (nI ta), .int (nI tl), .int mm_token, .int mm_value, .ref mm_next, .int (nI tk)])), (mm_refused, .inl (cy 1, 3, .inl mm_refused_f))]) [0, 2] (by decide) rfl) rfl rfl) rfl rfl hl.1 rfl (lv_room (Nat.le_of_ble_eq_true rfl)) dX11_knows_34 ⟨Nat.le_of_ble_eq_true rfl, Nat.le_of_ble_eq_true rfl⟩) hP hD hS hA [0, 2] [1] rfl rfl (by decide +kernel) (by decide +kernel) (fun r3 ur3 H locs hwr3 hP hD hS => ?_)
    obtain ⟨z4, rfl⟩ : ∃ z, z = ur3 := ⟨_, rfl⟩
    have hP : va_P D vwCl [(mm_now, .inl (cy 1, 122, .inl mm_now_f)), (mm, .inr (11, [.ref mm_now, .ref mm_kept, .ref mm_isKept, .ref mm_refused, .int mm_lineFrom, .int mm_lineTo, .ref mm_stands, .ref mm_far, .ref mm_queue, .int mm_queued, .ref mm_meets, .ref mm_bytes, .int (nI bl), .int (nI ta), .int (nI tl), .int mm_token, .int mm_value, .ref mm_next, .int (nI tk)])), (mm_refused, .inl (cy 1, 3, .inl z4))] H := hP
    have hD : va_D A [(mm_now, .inl (cy 1, 122, .inl mm_now_f)), (mm, .inr (11, [.ref mm_now, .ref mm_kept, .ref mm_isKept, .ref mm_refused, .int mm_lineFrom, .int mm_lineTo, .ref mm_stands, .ref mm_far, .ref mm_queue, .int mm_queued, .ref mm_meets, .ref mm_bytes, .int (nI bl), .int (nI ta), .int (nI tl), .int mm_token, .int mm_value, .ref mm_next, .int (nI tk)])), (mm_refused, .inl (cy 1, 3, .inl z4))] := hD
    have hwr3 : r3 = (-2) := hwr3
    subst hwr3
    subst hQF
    have hP9 := hP.sub (ws' := [(mm, .inr (11, [.ref mm_now, .ref mm_kept, .ref mm_isKept, .ref mm_refused, .int mm_lineFrom, .int mm_lineTo, .ref mm_stands, .ref mm_far, .ref mm_queue, .int mm_queued, .ref mm_meets, .ref mm_bytes, .int (nI bl), .int (nI ta), .int (nI tl), .int mm_token, .int mm_value, .ref mm_next, .int (nI tk)])), (mm_now, .inl (cy 1, 122, .inl mm_now_f)), (mm_refused, .inl (cy 1, 3, .inl z4))]) [1, 0, 2] rfl
    have hD9 := hD.sub (ws' := [(mm, .inr (11, [.ref mm_now, .ref mm_kept, .ref mm_isKept, .ref mm_refused, .int mm_lineFrom, .int mm_lineTo, .ref mm_stands, .ref mm_far, .ref mm_queue, .int mm_queued, .ref mm_meets, .ref mm_bytes, .int (nI bl), .int (nI ta), .int (nI tl), .int mm_token, .int mm_value, .ref mm_next, .int (nI tk)])), (mm_now, .inl (cy 1, 122, .inl mm_now_f)), (mm_refused, .inl (cy 1, 3, .inl z4))]) [1, 0, 2] (by decide) rfl
    exact W.iret (v := (-2)) hx hb hr (fun t ht hW => ⟨⟨(-2), (mm_lineFrom, mm_lineTo, z4), rfl, trivial, by rw [ht]; exact hP9, hD9⟩, hS.F ht⟩) hS.2.2 dX11_knows_37
  · skip
    have hp5 := z_b1 hwr1 c2
    obtain ⟨j6, hj6, ej6⟩ := hp5
    refine lv_aload_n hx hb dX11_knows_8 rfl (lv_at hl 0 rfl) ?_
    refine lv_iload_n hx hb dX11_knows_9 rfl (lv_at hl 2 rfl) ?_
    refine rd_i (va_runV (As := [.int py]) (rest := []) ⟨hx, hb, hml, hown, hts⟩ (n_X11_isOne l D cy mW mH mS mP mm mm_now mm_kept mm_isKept mm_refused mm_lineFrom mm_lineTo mm_stands mm_far mm_queue mm_queued mm_meets mm_bytes bl ta tl mm_token mm_value mm_next tk mm_now_f py _ (by first | assumption | omega)) (cwV 1 hts gX11_knows_X11_isOne rfl rfl rfl (by decide +kernel) ⟨Nat.le_of_ble_eq_true rfl, Nat.le_of_ble_eq_true rfl⟩) (pV (ci := 11) (k := 0) hKA (hP.sub (ws' := [(mm, .inr (11, [.ref mm_now, .ref mm_kept, .ref mm_isKept, .ref mm_refused, .int mm_lineFrom, .int mm_lineTo, .ref mm_stands, .ref mm_far, .ref mm_queue, .int mm_queued, .ref mm_meets, .ref mm_bytes, .int (nI bl), .int (nI ta), .int (nI tl), .int mm_token, .int mm_value, .ref mm_next, .int (nI tk)])), (mm_now, .inl (cy 1, 122, .inl mm_now_f))]) [0, 1] rfl) (hD.sub (ws' := [(mm, .inr (11, [.ref mm_now, .ref mm_kept, .ref mm_isKept, .ref mm_refused, .int mm_lineFrom, .int mm_lineTo, .ref mm_stands, .ref mm_far, .ref mm_queue, .int mm_queued, .ref mm_meets, .ref mm_bytes, .int (nI bl), .int (nI ta), .int (nI tl), .int mm_token, .int mm_value, .ref mm_next, .int (nI tk)])), (mm_now, .inl (cy 1, 122, .inl mm_now_f))]) [0, 1] (by decide) rfl) rfl rfl) rfl rfl hl.1 rfl (lv_room (Nat.le_of_ble_eq_true rfl)) dX11_knows_10 ⟨Nat.le_of_ble_eq_true rfl, Nat.le_of_ble_eq_true rfl⟩) hP hS hA (fun r7 H locs hwr7 hP hS => ?_)
    have hwr7 : (r7 = 1 ∧ (∃ j : Nat, j < mP ∧ py = nI j)) ∨ (r7 = 0 ∧ True) := hwr7
    refine lv_if_eq (tgt := 31) hx hb dX11_knows_13 (by decide) (fun c8 => ?_) (fun c8 => ?_)
    · skip
      refine lv_aload_n hx hb dX11_knows_31 rfl (lv_at hl 0 rfl) ?_
      refine lv_bipush (v := (-2)) hx hb dX11_knows_32 (by decide) ?_
      refine wr_i (wr := [(mm_now, .inl (cy 1, 122, .inl mm_now_f))]) (va_runV (As := [.int (-2)]) (rest := []) ⟨hx, hb, hml, hown, hts⟩ (n_X11_bad l D cy mm mm_now mm_kept mm_isKept mm_refused mm_lineFrom mm_lineTo mm_stands mm_far mm_queue mm_queued mm_meets mm_bytes bl ta tl mm_token mm_value mm_next tk mm_refused_f (-2) _ ) (cwV 1 hts gX11_knows_X11_bad rfl rfl rfl (by decide +kernel) ⟨Nat.le_of_ble_eq_true rfl, Nat.le_of_ble_eq_true rfl⟩) (pV (ci := 11) (k := 0) hKA (hP.sub (ws' := [(mm, .inr (11, [.ref mm_now, .ref mm_kept, .ref mm_isKept, .ref mm_refused, .int mm_lineFrom, .int mm_lineTo, .ref mm_stands, .ref mm_far, .ref mm_queue, .int mm_queued, .ref mm_meets, .ref mm_bytes, .int (nI bl), .int (nI ta), .int (nI tl), .int mm_token, .int mm_value, .ref mm_next, .int (nI tk)])), (mm_refused, .inl (cy 1, 3, .inl mm_refused_f))]) [0, 2] rfl) (hD.sub (ws' := [(mm, .inr (11, [.ref mm_now, .ref mm_kept, .ref mm_isKept, .ref mm_refused, .int mm_lineFrom, .int mm_lineTo, .ref mm_stands, .ref mm_far, .ref mm_queue, .int mm_queued, .ref mm_meets, .ref mm_bytes, .int (nI bl), .int (nI ta), .int (nI tl), .int mm_token, .int mm_value, .ref mm_next, .int (nI tk)])), (mm_refused, .inl (cy 1, 3, .inl mm_refused_f))]) [0, 2] (by decide) rfl) rfl rfl) rfl rfl hl.1 rfl (lv_room (Nat.le_of_ble_eq_true rfl)) dX11_knows_34 ⟨Nat.le_of_ble_eq_true rfl, Nat.le_of_ble_eq_true rfl⟩) hP hD hS hA [0, 2] [1] rfl rfl (by decide +kernel) (by decide +kernel) (fun r9 ur9 H locs hwr9 hP hD hS => ?_)
      obtain ⟨z10, rfl⟩ : ∃ z, z = ur9 := ⟨_, rfl⟩
      have hP : va_P D vwCl [(mm_now, .inl (cy 1, 122, .inl mm_now_f)), (mm, .inr (11, [.ref mm_now, .ref mm_kept, .ref mm_isKept, .ref mm_refused, .int mm_lineFrom, .int mm_lineTo, .ref mm_stands, .ref mm_far, .ref mm_queue, .int mm_queued, .ref mm_meets, .ref mm_bytes, .int (nI bl), .int (nI ta), .int (nI tl), .int mm_token, .int mm_value, .ref mm_next, .int (nI tk)])), (mm_refused, .inl (cy 1, 3, .inl z10))] H := hP
      have hD : va_D A [(mm_now, .inl (cy 1, 122, .inl mm_now_f)), (mm, .inr (11, [.ref mm_now, .ref mm_kept, .ref mm_isKept, .ref mm_refused, .int mm_lineFrom, .int mm_lineTo, .ref mm_stands, .ref mm_far, .ref mm_queue, .int mm_queued, .ref mm_meets, .ref mm_bytes, .int (nI bl), .int (nI ta), .int (nI tl), .int mm_token, .int mm_value, .ref mm_next, .int (nI tk)])), (mm_refused, .inl (cy 1, 3, .inl z10))] := hD
      have hwr9 : r9 = (-2) := hwr9
      subst hwr9
      subst hQF
      have hP9 := hP.sub (ws' := [(mm, .inr (11, [.ref mm_now, .ref mm_kept, .ref mm_isKept, .ref mm_refused, .int mm_lineFrom, .int mm_lineTo, .ref mm_stands, .ref mm_far, .ref mm_queue, .int mm_queued, .ref mm_meets, .ref mm_bytes, .int (nI bl), .int (nI ta), .int (nI tl), .int mm_token, .int mm_value, .ref mm_next, .int (nI tk)])), (mm_now, .inl (cy 1, 122, .inl mm_now_f)), (mm_refused, .inl (cy 1, 3, .inl z10))]) [1, 0, 2] rfl
      have hD9 := hD.sub (ws' := [(mm, .inr (11, [.ref mm_now, .ref mm_kept, .ref mm_isKept, .ref mm_refused, .int mm_lineFrom, .int mm_lineTo, .ref mm_stands, .ref mm_far, .ref mm_queue, .int mm_queued, .ref mm_meets, .ref mm_bytes, .int (nI bl), .int (nI ta), .int (nI tl), .int mm_token, .int mm_value, .ref mm_next, .int (nI tk)])), (mm_now, .inl (cy 1, 122, .inl mm_now_f)), (mm_refused, .inl (cy 1, 3, .inl z10))]) [1, 0, 2] (by decide) rfl
      exact W.iret (v := (-2)) hx hb hr (fun t ht hW => ⟨⟨(-2), (mm_lineFrom, mm_lineTo, z10), rfl, trivial, by rw [ht]; exact hP9, hD9⟩, hS.F ht⟩) hS.2.2 dX11_knows_37
    · skip
      have hp11 := z_b1 hwr7 c8
      obtain ⟨j12, hj12, ej12⟩ := hp11
      refine lv_iload_n hx hb dX11_knows_16 rfl (lv_at hl 1 rfl) ?_
      refine W.eq (g2 := F0 m 17 ls [.int (nI j6)]) (congrArg (fun v9 : Int32 => F0 m 17 ls [.int v9]) ej6) ?_
      refine lv_iload_n hx hb dX11_knows_17 rfl (lv_at hl 2 rfl) ?_
      refine W.eq (g2 := F0 m 18 ls [.int (nI j12), .int (nI j6)]) (congrArg (fun v9 : Int32 => F0 m 18 ls [.int v9, .int (nI j6)]) ej12) ?_
      refine lv_icmp_eq (tgt := 31) hx hb dX11_knows_18 (by decide) (fun c13 => ?_) (fun c13 => ?_)
      · skip
        refine lv_aload_n hx hb dX11_knows_31 rfl (lv_at hl 0 rfl) ?_
        refine lv_bipush (v := (-2)) hx hb dX11_knows_32 (by decide) ?_
        refine wr_i (wr := [(mm_now, .inl (cy 1, 122, .inl mm_now_f))]) (va_runV (As := [.int (-2)]) (rest := []) ⟨hx, hb, hml, hown, hts⟩ (n_X11_bad l D cy mm mm_now mm_kept mm_isKept mm_refused mm_lineFrom mm_lineTo mm_stands mm_far mm_queue mm_queued mm_meets mm_bytes bl ta tl mm_token mm_value mm_next tk mm_refused_f (-2) _ ) (cwV 1 hts gX11_knows_X11_bad rfl rfl rfl (by decide +kernel) ⟨Nat.le_of_ble_eq_true rfl, Nat.le_of_ble_eq_true rfl⟩) (pV (ci := 11) (k := 0) hKA (hP.sub (ws' := [(mm, .inr (11, [.ref mm_now, .ref mm_kept, .ref mm_isKept, .ref mm_refused, .int mm_lineFrom, .int mm_lineTo, .ref mm_stands, .ref mm_far, .ref mm_queue, .int mm_queued, .ref mm_meets, .ref mm_bytes, .int (nI bl), .int (nI ta), .int (nI tl), .int mm_token, .int mm_value, .ref mm_next, .int (nI tk)])), (mm_refused, .inl (cy 1, 3, .inl mm_refused_f))]) [0, 2] rfl) (hD.sub (ws' := [(mm, .inr (11, [.ref mm_now, .ref mm_kept, .ref mm_isKept, .ref mm_refused, .int mm_lineFrom, .int mm_lineTo, .ref mm_stands, .ref mm_far, .ref mm_queue, .int mm_queued, .ref mm_meets, .ref mm_bytes, .int (nI bl), .int (nI ta), .int (nI tl), .int mm_token, .int mm_value, .ref mm_next, .int (nI tk)])), (mm_refused, .inl (cy 1, 3, .inl mm_refused_f))]) [0, 2] (by decide) rfl) rfl rfl) rfl rfl hl.1 rfl (lv_room (Nat.le_of_ble_eq_true rfl)) dX11_knows_34 ⟨Nat.le_of_ble_eq_true rfl, Nat.le_of_ble_eq_true rfl⟩) hP hD hS hA [0, 2] [1] rfl rfl (by decide +kernel) (by decide +kernel) (fun r14 ur14 H locs hwr14 hP hD hS => ?_)
        obtain ⟨z15, rfl⟩ : ∃ z, z = ur14 := ⟨_, rfl⟩
        have hP : va_P D vwCl [(mm_now, .inl (cy 1, 122, .inl mm_now_f)), (mm, .inr (11, [.ref mm_now, .ref mm_kept, .ref mm_isKept, .ref mm_refused, .int mm_lineFrom, .int mm_lineTo, .ref mm_stands, .ref mm_far, .ref mm_queue, .int mm_queued, .ref mm_meets, .ref mm_bytes, .int (nI bl), .int (nI ta), .int (nI tl), .int mm_token, .int mm_value, .ref mm_next, .int (nI tk)])), (mm_refused, .inl (cy 1, 3, .inl z15))] H := hP
        have hD : va_D A [(mm_now, .inl (cy 1, 122, .inl mm_now_f)), (mm, .inr (11, [.ref mm_now, .ref mm_kept, .ref mm_isKept, .ref mm_refused, .int mm_lineFrom, .int mm_lineTo, .ref mm_stands, .ref mm_far, .ref mm_queue, .int mm_queued, .ref mm_meets, .ref mm_bytes, .int (nI bl), .int (nI ta), .int (nI tl), .int mm_token, .int mm_value, .ref mm_next, .int (nI tk)])), (mm_refused, .inl (cy 1, 3, .inl z15))] := hD
        have hwr14 : r14 = (-2) := hwr14
        subst hwr14
        subst hQF
        have hP9 := hP.sub (ws' := [(mm, .inr (11, [.ref mm_now, .ref mm_kept, .ref mm_isKept, .ref mm_refused, .int mm_lineFrom, .int mm_lineTo, .ref mm_stands, .ref mm_far, .ref mm_queue, .int mm_queued, .ref mm_meets, .ref mm_bytes, .int (nI bl), .int (nI ta), .int (nI tl), .int mm_token, .int mm_value, .ref mm_next, .int (nI tk)])), (mm_now, .inl (cy 1, 122, .inl mm_now_f)), (mm_refused, .inl (cy 1, 3, .inl z15))]) [1, 0, 2] rfl
        have hD9 := hD.sub (ws' := [(mm, .inr (11, [.ref mm_now, .ref mm_kept, .ref mm_isKept, .ref mm_refused, .int mm_lineFrom, .int mm_lineTo, .ref mm_stands, .ref mm_far, .ref mm_queue, .int mm_queued, .ref mm_meets, .ref mm_bytes, .int (nI bl), .int (nI ta), .int (nI tl), .int mm_token, .int mm_value, .ref mm_next, .int (nI tk)])), (mm_now, .inl (cy 1, 122, .inl mm_now_f)), (mm_refused, .inl (cy 1, 3, .inl z15))]) [1, 0, 2] (by decide) rfl
        exact W.iret (v := (-2)) hx hb hr (fun t ht hW => ⟨⟨(-2), (mm_lineFrom, mm_lineTo, z15), rfl, trivial, by rw [ht]; exact hP9, hD9⟩, hS.F ht⟩) hS.2.2 dX11_knows_37
      · skip
        refine lv_iload_n hx hb dX11_knows_21 rfl (lv_at hl 3 rfl) ?_
        refine lv_i2l hx hb dX11_knows_22 rfl ?_
        refine lv_lconst (v := 0) hx hb dX11_knows_23 (by decide) ?_
        refine lv_lconst (v := 1) hx hb dX11_knows_24 (by decide) ?_
        refine rd_i (va_runS (As := [.long pz.toInt64, .long 0, .long 1]) (rest := []) ⟨hx, hb, hml, hown, hts⟩ (n_X11_in l D cy pz.toInt64 (0) (1) _ ) (va_cwS 3 hts gX11_knows_X11_in rfl rfl rfl (by decide +kernel) ⟨Nat.le_of_ble_eq_true rfl, Nat.le_of_ble_eq_true rfl⟩) (pS hKA pE (dE (A := A))) rfl rfl hl.1 rfl (lv_room (Nat.le_of_ble_eq_true rfl)) dX11_knows_25 ⟨Nat.le_of_ble_eq_true rfl, Nat.le_of_ble_eq_true rfl⟩) hP hS hA (fun r16 H locs hwr16 hP hS => ?_)
        have hwr16 : (r16 = 1 ∧ ((0) ≤ pz.toInt64 ∧ pz.toInt64 ≤ (1))) ∨ (r16 = 0 ∧ (¬ ((0) ≤ pz.toInt64 ∧ pz.toInt64 ≤ (1)))) := hwr16
        refine lv_if_ne (tgt := 38) hx hb dX11_knows_28 (by decide) (fun c17 => ?_) (fun c17 => ?_)
        · skip
          obtain ⟨hp18, hp19⟩ := z_b1 hwr16 c17
          obtain ⟨j20, gj20, hj20, ej20⟩ := z_rng (lo := 0) (hi := 1) (by decide) (by decide) hp18 hp19
          refine lv_iload_n hx hb dX11_knows_38 rfl (lv_at hl 3 rfl) ?_
          refine W.eq (g2 := F0 m 39 ls [.int (nI j20)]) (congrArg (fun v9 : Int32 => F0 m 39 ls [.int v9]) ej20) ?_
          have j57 : ∀ (s1_57 : Int32) (u_mm_4_57 : Int32) (u_mm_5_57 : Int32) (bs1_57 : s1_57 = 1 ∨ s1_57 = 0) (H : Heap) (locs : List Loc), va_P D vwCl [(mm, .inr (11, [.ref mm_now, .ref mm_kept, .ref mm_isKept, .ref mm_refused, .int u_mm_4_57, .int u_mm_5_57, .ref mm_stands, .ref mm_far, .ref mm_queue, .int mm_queued, .ref mm_meets, .ref mm_bytes, .int (nI bl), .int (nI ta), .int (nI tl), .int mm_token, .int mm_value, .ref mm_next, .int (nI tk)])), (mm_now, .inl (cy 1, 122, .inl mm_now_f)), (mm_refused, .inl (cy 1, 3, .inl mm_refused_f))] H → va_D A [(mm, .inr (11, [.ref mm_now, .ref mm_kept, .ref mm_isKept, .ref mm_refused, .int u_mm_4_57, .int u_mm_5_57, .ref mm_stands, .ref mm_far, .ref mm_queue, .int mm_queued, .ref mm_meets, .ref mm_bytes, .int (nI bl), .int (nI ta), .int (nI tl), .int mm_token, .int mm_value, .ref mm_next, .int (nI tk)])), (mm_now, .inl (cy 1, 122, .inl mm_now_f)), (mm_refused, .inl (cy 1, 3, .inl mm_refused_f))] → va_S A s.heap H locs → ∀ ls : Array Slot, lv_has ls 5 [(0, .ref mm), (1, .int px), (2, .int py), (3, .int pz)] → W p l e (headSpec wsX11_knows ({ frames := 6, cells := 0, slots := 0, locals := 134 })).room s m [.ref mm, .int px, .int py, .int pz].toArray below meth c H locs 0 0 QF (F0 m 57 ls [.int s1_57]) := by
            intro s1_57 u_mm_4_57 u_mm_5_57 bs1_57 H locs hP hD hS ls hl
            refine lv_istore (lv' := [(4, .int s1_57), (0, .ref mm), (1, .int px), (2, .int py), (3, .int pz)]) hx hb dX11_knows_57 hl (by decide) rfl (fun ls hl => ?_)
            refine lv_iload hx hb dX11_knows_59 (lv_at hl 0 rfl) ?_
            refine lv_if_eq (tgt := 68) hx hb dX11_knows_61 (by decide) (fun c21 => ?_) (fun c21 => ?_)
            · skip
              refine lv_iconst (v := 0) hx hb dX11_knows_68 (by decide) ?_
              subst hQF
              have hP9 := hP
              have hD9 := hD
              exact W.iret (v := 0) hx hb hr (fun t ht hW => ⟨⟨0, (u_mm_4_57, u_mm_5_57, mm_refused_f), rfl, trivial, by rw [ht]; exact hP9, hD9⟩, hS.F ht⟩) hS.2.2 dX11_knows_69
            · skip
              refine lv_iconst (v := 1) hx hb dX11_knows_64 (by decide) ?_
              refine lv_goto (tgt := 69) hx hb dX11_knows_65 (by decide) ?_
              subst hQF
              have hP9 := hP
              have hD9 := hD
              exact W.iret (v := 1) hx hb hr (fun t ht hW => ⟨⟨1, (u_mm_4_57, u_mm_5_57, mm_refused_f), rfl, trivial, by rw [ht]; exact hP9, hD9⟩, hS.F ht⟩) hS.2.2 dX11_knows_69
          refine lv_if_ne (tgt := 51) hx hb dX11_knows_39 (by decide) (fun c22 => ?_) (fun c22 => ?_)
          · skip
            refine lv_aload_n hx hb dX11_knows_51 rfl (lv_at hl 0 rfl) ?_
            refine lv_iload_n hx hb dX11_knows_52 rfl (lv_at hl 1 rfl) ?_
            refine W.eq (g2 := F0 m 53 ls [.int (nI j6), .ref mm]) (congrArg (fun v9 : Int32 => F0 m 53 ls [.int v9, .ref mm]) ej6) ?_
            refine lv_iload_n hx hb dX11_knows_53 rfl (lv_at hl 2 rfl) ?_
            refine W.eq (g2 := F0 m 54 ls [.int (nI j12), .int (nI j6), .ref mm]) (congrArg (fun v9 : Int32 => F0 m 54 ls [.int v9, .int (nI j6), .ref mm]) ej12) ?_
            refine rd_i (va_runV (As := [.int (nI j6), .int (nI j12)]) (rest := []) ⟨hx, hb, hml, hown, hts⟩ (n_X11_hears l D cy mW mH mS mP mm mm_now mm_kept mm_isKept mm_refused mm_lineFrom mm_lineTo mm_stands mm_far mm_queue mm_queued mm_meets mm_bytes bl ta tl mm_token mm_value mm_next tk mm_now_f j6 j12 _ (by first | assumption | omega) (by first | assumption | omega) (by first | assumption | omega)) (cwV 2 hts gX11_knows_X11_hears rfl rfl rfl (by decide +kernel) ⟨Nat.le_of_ble_eq_true rfl, Nat.le_of_ble_eq_true rfl⟩) (pV (ci := 11) (k := 0) hKA (hP.sub (ws' := [(mm, .inr (11, [.ref mm_now, .ref mm_kept, .ref mm_isKept, .ref mm_refused, .int mm_lineFrom, .int mm_lineTo, .ref mm_stands, .ref mm_far, .ref mm_queue, .int mm_queued, .ref mm_meets, .ref mm_bytes, .int (nI bl), .int (nI ta), .int (nI tl), .int mm_token, .int mm_value, .ref mm_next, .int (nI tk)])), (mm_now, .inl (cy 1, 122, .inl mm_now_f))]) [0, 1] rfl) (hD.sub (ws' := [(mm, .inr (11, [.ref mm_now, .ref mm_kept, .ref mm_isKept, .ref mm_refused, .int mm_lineFrom, .int mm_lineTo, .ref mm_stands, .ref mm_far, .ref mm_queue, .int mm_queued, .ref mm_meets, .ref mm_bytes, .int (nI bl), .int (nI ta), .int (nI tl), .int mm_token, .int mm_value, .ref mm_next, .int (nI tk)])), (mm_now, .inl (cy 1, 122, .inl mm_now_f))]) [0, 1] (by decide) rfl) rfl rfl) rfl rfl hl.1 rfl (lv_room (Nat.le_of_ble_eq_true rfl)) dX11_knows_54 ⟨Nat.le_of_ble_eq_true rfl, Nat.le_of_ble_eq_true rfl⟩) hP hS hA (fun r23 H locs hwr23 hP hS => ?_)
            have hwr23 : (r23 = 1 ∧ True) ∨ (r23 = 0 ∧ True) := hwr23
            exact j57 r23 mm_lineFrom mm_lineTo (z_bo hwr23) _ _ hP hD hS ls hl
          · skip
            refine lv_aload_n hx hb dX11_knows_42 rfl (lv_at hl 0 rfl) ?_
            refine lv_iload_n hx hb dX11_knows_43 rfl (lv_at hl 1 rfl) ?_
            refine W.eq (g2 := F0 m 44 ls [.int (nI j6), .ref mm]) (congrArg (fun v9 : Int32 => F0 m 44 ls [.int v9, .ref mm]) ej6) ?_
            refine lv_iload_n hx hb dX11_knows_44 rfl (lv_at hl 2 rfl) ?_
            refine W.eq (g2 := F0 m 45 ls [.int (nI j12), .int (nI j6), .ref mm]) (congrArg (fun v9 : Int32 => F0 m 45 ls [.int v9, .int (nI j6), .ref mm]) ej12) ?_
            refine wr_i (wr := [(mm_refused, .inl (cy 1, 3, .inl mm_refused_f))]) (va_runV (As := [.int (nI j6), .int (nI j12)]) (rest := []) ⟨hx, hb, hml, hown, hts⟩ (n_X11_sees l D cy mW mH mS mP mm mm_now mm_kept mm_isKept mm_refused mm_lineFrom mm_lineTo mm_stands mm_far mm_queue mm_queued mm_meets mm_bytes bl ta tl mm_token mm_value mm_next tk mm_now_f j6 j12 _ (by first | assumption | omega) (by first | assumption | omega) (by first | assumption | omega)) (cwV 2 hts gX11_knows_X11_sees rfl rfl rfl (by decide +kernel) ⟨Nat.le_of_ble_eq_true rfl, Nat.le_of_ble_eq_true rfl⟩) (pV (ci := 11) (k := 0) hKA (hP.sub (ws' := [(mm, .inr (11, [.ref mm_now, .ref mm_kept, .ref mm_isKept, .ref mm_refused, .int mm_lineFrom, .int mm_lineTo, .ref mm_stands, .ref mm_far, .ref mm_queue, .int mm_queued, .ref mm_meets, .ref mm_bytes, .int (nI bl), .int (nI ta), .int (nI tl), .int mm_token, .int mm_value, .ref mm_next, .int (nI tk)])), (mm_now, .inl (cy 1, 122, .inl mm_now_f))]) [0, 1] rfl) (hD.sub (ws' := [(mm, .inr (11, [.ref mm_now, .ref mm_kept, .ref mm_isKept, .ref mm_refused, .int mm_lineFrom, .int mm_lineTo, .ref mm_stands, .ref mm_far, .ref mm_queue, .int mm_queued, .ref mm_meets, .ref mm_bytes, .int (nI bl), .int (nI ta), .int (nI tl), .int mm_token, .int mm_value, .ref mm_next, .int (nI tk)])), (mm_now, .inl (cy 1, 122, .inl mm_now_f))]) [0, 1] (by decide) rfl) rfl rfl) rfl rfl hl.1 rfl (lv_room (Nat.le_of_ble_eq_true rfl)) dX11_knows_45 ⟨Nat.le_of_ble_eq_true rfl, Nat.le_of_ble_eq_true rfl⟩) hP hD hS hA [0, 1] [2] rfl rfl (by decide +kernel) (by decide +kernel) (fun r24 ur24 H locs hwr24 hP hD hS => ?_)
            obtain ⟨z25, z26⟩ := ur24
            have hP : va_P D vwCl [(mm_refused, .inl (cy 1, 3, .inl mm_refused_f)), (mm, .inr (11, [.ref mm_now, .ref mm_kept, .ref mm_isKept, .ref mm_refused, .int z25, .int z26, .ref mm_stands, .ref mm_far, .ref mm_queue, .int mm_queued, .ref mm_meets, .ref mm_bytes, .int (nI bl), .int (nI ta), .int (nI tl), .int mm_token, .int mm_value, .ref mm_next, .int (nI tk)])), (mm_now, .inl (cy 1, 122, .inl mm_now_f))] H := hP
            have hD : va_D A [(mm_refused, .inl (cy 1, 3, .inl mm_refused_f)), (mm, .inr (11, [.ref mm_now, .ref mm_kept, .ref mm_isKept, .ref mm_refused, .int z25, .int z26, .ref mm_stands, .ref mm_far, .ref mm_queue, .int mm_queued, .ref mm_meets, .ref mm_bytes, .int (nI bl), .int (nI ta), .int (nI tl), .int mm_token, .int mm_value, .ref mm_next, .int (nI tk)])), (mm_now, .inl (cy 1, 122, .inl mm_now_f))] := hD
            have hwr24 : (r24 = 1 ∧ True) ∨ (r24 = 0 ∧ True) := hwr24
            refine lv_goto (tgt := 57) hx hb dX11_knows_48 (by decide) ?_
            exact j57 r24 z25 z26 (z_bo hwr24) _ _ (hP.sub (ws' := [(mm, .inr (11, [.ref mm_now, .ref mm_kept, .ref mm_isKept, .ref mm_refused, .int z25, .int z26, .ref mm_stands, .ref mm_far, .ref mm_queue, .int mm_queued, .ref mm_meets, .ref mm_bytes, .int (nI bl), .int (nI ta), .int (nI tl), .int mm_token, .int mm_value, .ref mm_next, .int (nI tk)])), (mm_now, .inl (cy 1, 122, .inl mm_now_f)), (mm_refused, .inl (cy 1, 3, .inl mm_refused_f))]) [1, 2, 0] rfl) (hD.sub (ws' := [(mm, .inr (11, [.ref mm_now, .ref mm_kept, .ref mm_isKept, .ref mm_refused, .int z25, .int z26, .ref mm_stands, .ref mm_far, .ref mm_queue, .int mm_queued, .ref mm_meets, .ref mm_bytes, .int (nI bl), .int (nI ta), .int (nI tl), .int mm_token, .int mm_value, .ref mm_next, .int (nI tk)])), (mm_now, .inl (cy 1, 122, .inl mm_now_f)), (mm_refused, .inl (cy 1, 3, .inl mm_refused_f))]) [1, 2, 0] (by decide) rfl) hS ls hl
        · skip
          have hq27 := z_b0 hwr16 c17
          refine lv_aload_n hx hb dX11_knows_31 rfl (lv_at hl 0 rfl) ?_
          refine lv_bipush (v := (-2)) hx hb dX11_knows_32 (by decide) ?_
          refine wr_i (wr := [(mm_now, .inl (cy 1, 122, .inl mm_now_f))]) (va_runV (As := [.int (-2)]) (rest := []) ⟨hx, hb, hml, hown, hts⟩ (n_X11_bad l D cy mm mm_now mm_kept mm_isKept mm_refused mm_lineFrom mm_lineTo mm_stands mm_far mm_queue mm_queued mm_meets mm_bytes bl ta tl mm_token mm_value mm_next tk mm_refused_f (-2) _ ) (cwV 1 hts gX11_knows_X11_bad rfl rfl rfl (by decide +kernel) ⟨Nat.le_of_ble_eq_true rfl, Nat.le_of_ble_eq_true rfl⟩) (pV (ci := 11) (k := 0) hKA (hP.sub (ws' := [(mm, .inr (11, [.ref mm_now, .ref mm_kept, .ref mm_isKept, .ref mm_refused, .int mm_lineFrom, .int mm_lineTo, .ref mm_stands, .ref mm_far, .ref mm_queue, .int mm_queued, .ref mm_meets, .ref mm_bytes, .int (nI bl), .int (nI ta), .int (nI tl), .int mm_token, .int mm_value, .ref mm_next, .int (nI tk)])), (mm_refused, .inl (cy 1, 3, .inl mm_refused_f))]) [0, 2] rfl) (hD.sub (ws' := [(mm, .inr (11, [.ref mm_now, .ref mm_kept, .ref mm_isKept, .ref mm_refused, .int mm_lineFrom, .int mm_lineTo, .ref mm_stands, .ref mm_far, .ref mm_queue, .int mm_queued, .ref mm_meets, .ref mm_bytes, .int (nI bl), .int (nI ta), .int (nI tl), .int mm_token, .int mm_value, .ref mm_next, .int (nI tk)])), (mm_refused, .inl (cy 1, 3, .inl mm_refused_f))]) [0, 2] (by decide) rfl) rfl rfl) rfl rfl hl.1 rfl (lv_room (Nat.le_of_ble_eq_true rfl)) dX11_knows_34 ⟨Nat.le_of_ble_eq_true rfl, Nat.le_of_ble_eq_true rfl⟩) hP hD hS hA [0, 2] [1] rfl rfl (by decide +kernel) (by decide +kernel) (fun r28 ur28 H locs hwr28 hP hD hS => ?_)
          obtain ⟨z29, rfl⟩ : ∃ z, z = ur28 := ⟨_, rfl⟩
          have hP : va_P D vwCl [(mm_now, .inl (cy 1, 122, .inl mm_now_f)), (mm, .inr (11, [.ref mm_now, .ref mm_kept, .ref mm_isKept, .ref mm_refused, .int mm_lineFrom, .int mm_lineTo, .ref mm_stands, .ref mm_far, .ref mm_queue, .int mm_queued, .ref mm_meets, .ref mm_bytes, .int (nI bl), .int (nI ta), .int (nI tl), .int mm_token, .int mm_value, .ref mm_next, .int (nI tk)])), (mm_refused, .inl (cy 1, 3, .inl z29))] H := hP
          have hD : va_D A [(mm_now, .inl (cy 1, 122, .inl mm_now_f)), (mm, .inr (11, [.ref mm_now, .ref mm_kept, .ref mm_isKept, .ref mm_refused, .int mm_lineFrom, .int mm_lineTo, .ref mm_stands, .ref mm_far, .ref mm_queue, .int mm_queued, .ref mm_meets, .ref mm_bytes, .int (nI bl), .int (nI ta), .int (nI tl), .int mm_token, .int mm_value, .ref mm_next, .int (nI tk)])), (mm_refused, .inl (cy 1, 3, .inl z29))] := hD
          have hwr28 : r28 = (-2) := hwr28
          subst hwr28
          subst hQF
          have hP9 := hP.sub (ws' := [(mm, .inr (11, [.ref mm_now, .ref mm_kept, .ref mm_isKept, .ref mm_refused, .int mm_lineFrom, .int mm_lineTo, .ref mm_stands, .ref mm_far, .ref mm_queue, .int mm_queued, .ref mm_meets, .ref mm_bytes, .int (nI bl), .int (nI ta), .int (nI tl), .int mm_token, .int mm_value, .ref mm_next, .int (nI tk)])), (mm_now, .inl (cy 1, 122, .inl mm_now_f)), (mm_refused, .inl (cy 1, 3, .inl z29))]) [1, 0, 2] rfl
          have hD9 := hD.sub (ws' := [(mm, .inr (11, [.ref mm_now, .ref mm_kept, .ref mm_isKept, .ref mm_refused, .int mm_lineFrom, .int mm_lineTo, .ref mm_stands, .ref mm_far, .ref mm_queue, .int mm_queued, .ref mm_meets, .ref mm_bytes, .int (nI bl), .int (nI ta), .int (nI tl), .int mm_token, .int mm_value, .ref mm_next, .int (nI tk)])), (mm_now, .inl (cy 1, 122, .inl mm_now_f)), (mm_refused, .inl (cy 1, 3, .inl z29))]) [1, 0, 2] (by decide) rfl
          exact W.iret (v := (-2)) hx hb hr (fun t ht hW => ⟨⟨(-2), (mm_lineFrom, mm_lineTo, z29), rfl, trivial, by rw [ht]; exact hP9, hD9⟩, hS.F ht⟩) hS.2.2 dX11_knows_37

set_option maxHeartbeats 4000000 in
set_option maxRecDepth 100000 in
theorem n_X11_where (l : Launch) (D : va_G) (cy : Nat → ClassId) (mm : Nat) (mm_now : Nat) (mm_kept : Nat) (mm_isKept : Nat) (mm_refused : Nat) (mm_lineFrom : Int32) (mm_lineTo : Int32) (mm_stands : Nat) (mm_far : Nat) (mm_queue : Nat) (mm_queued : Int32) (mm_meets : Nat) (mm_bytes : Nat) (bl : Nat) (ta : Nat) (tl : Nat) (mm_token : Int32) (mm_value : Int32) (mm_next : Nat) (tk : Nat) (mm_now_f : Nat → Int32) (mm_refused_f : Nat → Int32) (px : Int32) (sz : Nat) (hN : mN mm_now_f) : Met l yX11_where wsX11_where ({ frames := 2, cells := 0, slots := 0, locals := 46 }) (va_Pc [.ref mm, .int px] (kPre D cy [(mm, .inr (11, [.ref mm_now, .ref mm_kept, .ref mm_isKept, .ref mm_refused, .int mm_lineFrom, .int mm_lineTo, .ref mm_stands, .ref mm_far, .ref mm_queue, .int mm_queued, .ref mm_meets, .ref mm_bytes, .int (nI bl), .int (nI ta), .int (nI tl), .int mm_token, .int mm_value, .ref mm_next, .int (nI tk)])), (mm_now, .inl (cy 1, 122, .inl mm_now_f)), (mm_refused, .inl (cy 1, 3, .inl mm_refused_f))] sz)) (va_Qi (fun (r : Int32) (u : (Nat → Int32)) => True) (fun (u : (Nat → Int32)) t => va_P D vwCl ([(mm, .inr (11, [.ref mm_now, .ref mm_kept, .ref mm_isKept, .ref mm_refused, .int mm_lineFrom, .int mm_lineTo, .ref mm_stands, .ref mm_far, .ref mm_queue, .int mm_queued, .ref mm_meets, .ref mm_bytes, .int (nI bl), .int (nI ta), .int (nI tl), .int mm_token, .int mm_value, .ref mm_next, .int (nI tk)])), (mm_now, .inl (cy 1, 122, .inl mm_now_f)), (mm_refused, .inl (cy 1, 3, .inl u))]) t.heap ∧ va_D (va_A [(mm, .inr (11, [.ref mm_now, .ref mm_kept, .ref mm_isKept, .ref mm_refused, .int mm_lineFrom, .int mm_lineTo, .ref mm_stands, .ref mm_far, .ref mm_queue, .int mm_queued, .ref mm_meets, .ref mm_bytes, .int (nI bl), .int (nI ta), .int (nI tl), .int mm_token, .int mm_value, .ref mm_next, .int (nI tk)])), (mm_now, .inl (cy 1, 122, .inl mm_now_f)), (mm_refused, .inl (cy 1, 3, .inl mm_refused_f))] sz) ([(mm, .inr (11, [.ref mm_now, .ref mm_kept, .ref mm_isKept, .ref mm_refused, .int mm_lineFrom, .int mm_lineTo, .ref mm_stands, .ref mm_far, .ref mm_queue, .int mm_queued, .ref mm_meets, .ref mm_bytes, .int (nI bl), .int (nI ta), .int (nI tl), .int mm_token, .int mm_value, .ref mm_next, .int (nI tk)])), (mm_now, .inl (cy 1, 122, .inl mm_now_f)), (mm_refused, .inl (cy 1, 3, .inl u))])) (va_A [(mm, .inr (11, [.ref mm_now, .ref mm_kept, .ref mm_isKept, .ref mm_refused, .int mm_lineFrom, .int mm_lineTo, .ref mm_stands, .ref mm_far, .ref mm_queue, .int mm_queued, .ref mm_meets, .ref mm_bytes, .int (nI bl), .int (nI ta), .int (nI tl), .int mm_token, .int mm_value, .ref mm_next, .int (nI tk)])), (mm_now, .inl (cy 1, 122, .inl mm_now_f)), (mm_refused, .inl (cy 1, 3, .inl mm_refused_f))] sz)) 0 0 (va_A [(mm, .inr (11, [.ref mm_now, .ref mm_kept, .ref mm_isKept, .ref mm_refused, .int mm_lineFrom, .int mm_lineTo, .ref mm_stands, .ref mm_far, .ref mm_queue, .int mm_queued, .ref mm_meets, .ref mm_bytes, .int (nI bl), .int (nI ta), .int (nI tl), .int mm_token, .int mm_value, .ref mm_next, .int (nI tk)])), (mm_now, .inl (cy 1, 122, .inl mm_now_f)), (mm_refused, .inl (cy 1, 3, .inl mm_refused_f))] sz) := by
  refine Met.ofW (cc := cX11_where) (maxL := 2) (ret := (some .int)) (by decide) rfl ?_
  intro p e s m args below meth c s₁ B hml hv
  obtain ⟨rfl, hsz, hP, hKA, hD0⟩ := hv
  have hx := B.exec
  have hb := B.bytes
  have hr := B.returns
  have hts := atoms_spec (ws := wsX11_where) B.pre
  have hown : s.vm.findClass RX11 = some m.cls := findClass_of_methodNamed B.named
  have hlocks := B.notSynchronized
  subst hsz
  have hK := hKA.1
  have hD := hD0.self (sz := s.heap.size)
  generalize hAe : va_A [(mm, .inr (11, [.ref mm_now, .ref mm_kept, .ref mm_isKept, .ref mm_refused, .int mm_lineFrom, .int mm_lineTo, .ref mm_stands, .ref mm_far, .ref mm_queue, .int mm_queued, .ref mm_meets, .ref mm_bytes, .int (nI bl), .int (nI ta), .int (nI tl), .int mm_token, .int mm_value, .ref mm_next, .int (nI tk)])), (mm_now, .inl (cy 1, 122, .inl mm_now_f)), (mm_refused, .inl (cy 1, 3, .inl mm_refused_f))] s.heap.size = A at hD ⊢
  have hA : ∀ q : Nat, s.heap.size ≤ q → A q := fun q h => by rw [← hAe]; exact Or.inr h
  have hS : va_S A s.heap s.heap [] := va_S.rf
  have hP : va_P D vwCl [(mm, .inr (11, [.ref mm_now, .ref mm_kept, .ref mm_isKept, .ref mm_refused, .int mm_lineFrom, .int mm_lineTo, .ref mm_stands, .ref mm_far, .ref mm_queue, .int mm_queued, .ref mm_meets, .ref mm_bytes, .int (nI bl), .int (nI ta), .int (nI tl), .int mm_token, .int mm_value, .ref mm_next, .int (nI tk)])), (mm_now, .inl (cy 1, 122, .inl mm_now_f)), (mm_refused, .inl (cy 1, 3, .inl mm_refused_f))] s.heap := hP
  have hl := lv_entry ([.ref mm, .int px]) (n := 2) (Nat.le_of_ble_eq_true rfl)
  rw [lg_entry_eq]
  generalize (lg_sl ([.ref mm, .int px]) ++ List.replicate (2 - (lg_sl ([.ref mm, .int px])).length) Slot.unset).toArray = ls at hl ⊢
  have hl : lv_has ls 2 [(0, .ref mm), (1, .int px)] := hl
  refine qW (fun QF hQF => ?_)
  obtain ⟨mW, mH, mS, mP, hF⟩ := hN
  obtain ⟨hW2, hW6, hH2, hH6, hSe, hS4, hS6, hP5⟩ := hF.rng
  refine lv_aload_n hx hb dX11_where_0 rfl (lv_at hl 0 rfl) ?_
  refine lv_iload_n hx hb dX11_where_1 rfl (lv_at hl 1 rfl) ?_
  refine rd_i (va_runV (As := [.int px]) (rest := []) ⟨hx, hb, hml, hown, hts⟩ (n_X11_isOne l D cy mW mH mS mP mm mm_now mm_kept mm_isKept mm_refused mm_lineFrom mm_lineTo mm_stands mm_far mm_queue mm_queued mm_meets mm_bytes bl ta tl mm_token mm_value mm_next tk mm_now_f px _ (by first | assumption | omega)) (cwV 1 hts gX11_where_X11_isOne rfl rfl rfl (by decide +kernel) ⟨Nat.le_of_ble_eq_true rfl, Nat.le_of_ble_eq_true rfl⟩) (pV (ci := 11) (k := 0) hKA (hP.sub (ws' := [(mm, .inr (11, [.ref mm_now, .ref mm_kept, .ref mm_isKept, .ref mm_refused, .int mm_lineFrom, .int mm_lineTo, .ref mm_stands, .ref mm_far, .ref mm_queue, .int mm_queued, .ref mm_meets, .ref mm_bytes, .int (nI bl), .int (nI ta), .int (nI tl), .int mm_token, .int mm_value, .ref mm_next, .int (nI tk)])), (mm_now, .inl (cy 1, 122, .inl mm_now_f))]) [0, 1] rfl) (hD.sub (ws' := [(mm, .inr (11, [.ref mm_now, .ref mm_kept, .ref mm_isKept, .ref mm_refused, .int mm_lineFrom, .int mm_lineTo, .ref mm_stands, .ref mm_far, .ref mm_queue, .int mm_queued, .ref mm_meets, .ref mm_bytes, .int (nI bl), .int (nI ta), .int (nI tl), .int mm_token, .int mm_value, .ref mm_next, .int (nI tk)])), (mm_now, .inl (cy 1, 122, .inl mm_now_f))]) [0, 1] (by decide) rfl) rfl rfl) rfl rfl hl.1 rfl (lv_room (Nat.le_of_ble_eq_true rfl)) dX11_where_2 ⟨Nat.le_of_ble_eq_true rfl, Nat.le_of_ble_eq_true rfl⟩) hP hS hA (fun r1 H locs hwr1 hP hS => ?_)
  have hwr1 : (r1 = 1 ∧ (∃ j : Nat, j < mP ∧ px = nI j)) ∨ (r1 = 0 ∧ True) := hwr1
  refine lv_if_eq (tgt := 17) hx hb dX11_where_5 (by decide) (fun c2 => ?_) (fun c2 => ?_)
  · skip
    refine lv_aload_n hx hb dX11_where_17 rfl (lv_at hl 0 rfl) ?_
    refine lv_bipush (v := (-2)) hx hb dX11_where_18 (by decide) ?_
    refine wr_i (wr := [(mm_now, .inl (cy 1, 122, .inl mm_now_f))]) (va_runV (As := [.int (-2)]) (rest := []) ⟨hx, hb, hml, hown, hts⟩ (n_X11_bad l D cy mm mm_now mm_kept mm_isKept mm_refused mm_lineFrom mm_lineTo mm_stands mm_far mm_queue mm_queued mm_meets mm_bytes bl ta tl mm_token mm_value mm_next tk mm_refused_f (-2) _ ) (cwV 1 hts gX11_where_X11_bad rfl rfl rfl (by decide +kernel) ⟨Nat.le_of_ble_eq_true rfl, Nat.le_of_ble_eq_true rfl⟩) (pV (ci := 11) (k := 0) hKA (hP.sub (ws' := [(mm, .inr (11, [.ref mm_now, .ref mm_kept, .ref mm_isKept, .ref mm_refused, .int mm_lineFrom, .int mm_lineTo, .ref mm_stands, .ref mm_far, .ref mm_queue, .int mm_queued, .ref mm_meets, .ref mm_bytes, .int (nI bl), .int (nI ta), .int (nI tl), .int mm_token, .int mm_value, .ref mm_next, .int (nI tk)])), (mm_refused, .inl (cy 1, 3, .inl mm_refused_f))]) [0, 2] rfl) (hD.sub (ws' := [(mm, .inr (11, [.ref mm_now, .ref mm_kept, .ref mm_isKept, .ref mm_refused, .int mm_lineFrom, .int mm_lineTo, .ref mm_stands, .ref mm_far, .ref mm_queue, .int mm_queued, .ref mm_meets, .ref mm_bytes, .int (nI bl), .int (nI ta), .int (nI tl), .int mm_token, .int mm_value, .ref mm_next, .int (nI tk)])), (mm_refused, .inl (cy 1, 3, .inl mm_refused_f))]) [0, 2] (by decide) rfl) rfl rfl) rfl rfl hl.1 rfl (lv_room (Nat.le_of_ble_eq_true rfl)) dX11_where_20 ⟨Nat.le_of_ble_eq_true rfl, Nat.le_of_ble_eq_true rfl⟩) hP hD hS hA [0, 2] [1] rfl rfl (by decide +kernel) (by decide +kernel) (fun r3 ur3 H locs hwr3 hP hD hS => ?_)
    obtain ⟨z4, rfl⟩ : ∃ z, z = ur3 := ⟨_, rfl⟩
    have hP : va_P D vwCl [(mm_now, .inl (cy 1, 122, .inl mm_now_f)), (mm, .inr (11, [.ref mm_now, .ref mm_kept, .ref mm_isKept, .ref mm_refused, .int mm_lineFrom, .int mm_lineTo, .ref mm_stands, .ref mm_far, .ref mm_queue, .int mm_queued, .ref mm_meets, .ref mm_bytes, .int (nI bl), .int (nI ta), .int (nI tl), .int mm_token, .int mm_value, .ref mm_next, .int (nI tk)])), (mm_refused, .inl (cy 1, 3, .inl z4))] H := hP
    have hD : va_D A [(mm_now, .inl (cy 1, 122, .inl mm_now_f)), (mm, .inr (11, [.ref mm_now, .ref mm_kept, .ref mm_isKept, .ref mm_refused, .int mm_lineFrom, .int mm_lineTo, .ref mm_stands, .ref mm_far, .ref mm_queue, .int mm_queued, .ref mm_meets, .ref mm_bytes, .int (nI bl), .int (nI ta), .int (nI tl), .int mm_token, .int mm_value, .ref mm_next, .int (nI tk)])), (mm_refused, .inl (cy 1, 3, .inl z4))] := hD
    have hwr3 : r3 = (-2) := hwr3
    subst hwr3
    subst hQF
    have hP9 := hP.sub (ws' := [(mm, .inr (11, [.ref mm_now, .ref mm_kept, .ref mm_isKept, .ref mm_refused, .int mm_lineFrom, .int mm_lineTo, .ref mm_stands, .ref mm_far, .ref mm_queue, .int mm_queued, .ref mm_meets, .ref mm_bytes, .int (nI bl), .int (nI ta), .int (nI tl), .int mm_token, .int mm_value, .ref mm_next, .int (nI tk)])), (mm_now, .inl (cy 1, 122, .inl mm_now_f)), (mm_refused, .inl (cy 1, 3, .inl z4))]) [1, 0, 2] rfl
    have hD9 := hD.sub (ws' := [(mm, .inr (11, [.ref mm_now, .ref mm_kept, .ref mm_isKept, .ref mm_refused, .int mm_lineFrom, .int mm_lineTo, .ref mm_stands, .ref mm_far, .ref mm_queue, .int mm_queued, .ref mm_meets, .ref mm_bytes, .int (nI bl), .int (nI ta), .int (nI tl), .int mm_token, .int mm_value, .ref mm_next, .int (nI tk)])), (mm_now, .inl (cy 1, 122, .inl mm_now_f)), (mm_refused, .inl (cy 1, 3, .inl z4))]) [1, 0, 2] (by decide) rfl
    exact W.iret (v := (-2)) hx hb hr (fun t ht hW => ⟨⟨(-2), z4, rfl, trivial, by rw [ht]; exact hP9, hD9⟩, hS.F ht⟩) hS.2.2 dX11_where_23
  · skip
    have hp5 := z_b1 hwr1 c2
    obtain ⟨j6, hj6, ej6⟩ := hp5
    refine lv_aload_n hx hb dX11_where_8 rfl (lv_at hl 0 rfl) ?_
    refine lv_iload_n hx hb dX11_where_9 rfl (lv_at hl 1 rfl) ?_
    refine W.eq (g2 := F0 m 10 ls [.int (nI j6), .ref mm]) (congrArg (fun v9 : Int32 => F0 m 10 ls [.int v9, .ref mm]) ej6) ?_
    refine lv_iconst (v := 1) hx hb dX11_where_10 (by decide) ?_
    refine rd_i (va_runV (As := [.int (nI j6), .int 1]) (rest := []) ⟨hx, hb, hml, hown, hts⟩ (n_X11_of l D cy mW mH mS mP mm mm_now mm_kept mm_isKept mm_refused mm_lineFrom mm_lineTo mm_stands mm_far mm_queue mm_queued mm_meets mm_bytes bl ta tl mm_token mm_value mm_next tk mm_now_f j6 1 _ (by first | assumption | omega) (by first | assumption | omega) (by first | assumption | omega)) (cwV 2 hts gX11_where_X11_of rfl rfl rfl (by decide +kernel) ⟨Nat.le_of_ble_eq_true rfl, Nat.le_of_ble_eq_true rfl⟩) (pV (ci := 11) (k := 0) hKA (hP.sub (ws' := [(mm, .inr (11, [.ref mm_now, .ref mm_kept, .ref mm_isKept, .ref mm_refused, .int mm_lineFrom, .int mm_lineTo, .ref mm_stands, .ref mm_far, .ref mm_queue, .int mm_queued, .ref mm_meets, .ref mm_bytes, .int (nI bl), .int (nI ta), .int (nI tl), .int mm_token, .int mm_value, .ref mm_next, .int (nI tk)])), (mm_now, .inl (cy 1, 122, .inl mm_now_f))]) [0, 1] rfl) (hD.sub (ws' := [(mm, .inr (11, [.ref mm_now, .ref mm_kept, .ref mm_isKept, .ref mm_refused, .int mm_lineFrom, .int mm_lineTo, .ref mm_stands, .ref mm_far, .ref mm_queue, .int mm_queued, .ref mm_meets, .ref mm_bytes, .int (nI bl), .int (nI ta), .int (nI tl), .int mm_token, .int mm_value, .ref mm_next, .int (nI tk)])), (mm_now, .inl (cy 1, 122, .inl mm_now_f))]) [0, 1] (by decide) rfl) rfl rfl) rfl rfl hl.1 rfl (lv_room (Nat.le_of_ble_eq_true rfl)) dX11_where_11 ⟨Nat.le_of_ble_eq_true rfl, Nat.le_of_ble_eq_true rfl⟩) hP hS hA (fun r7 H locs hwr7 hP hS => ?_)
    have hwr7 : r7 = mm_now_f (5 + 3 * j6 + 1) := hwr7
    subst hwr7
    refine lv_goto (tgt := 23) hx hb dX11_where_14 (by decide) ?_
    refine lv_topi (fun x8 ex8 => ?_)
    subst hQF
    have hP9 := hP
    have hD9 := hD
    exact W.iret (v := x8) hx hb hr (fun t ht hW => ⟨⟨x8, mm_refused_f, rfl, trivial, by rw [ht]; exact hP9, hD9⟩, hS.F ht⟩) hS.2.2 dX11_where_23

set_option maxHeartbeats 4000000 in
set_option maxRecDepth 100000 in
theorem n_X11_may (l : Launch) (D : va_G) (cy : Nat → ClassId) (mm : Nat) (mm_now : Nat) (mm_kept : Nat) (mm_isKept : Nat) (mm_refused : Nat) (mm_lineFrom : Int32) (mm_lineTo : Int32) (mm_stands : Nat) (mm_far : Nat) (mm_queue : Nat) (mm_queued : Int32) (mm_meets : Nat) (mm_bytes : Nat) (bl : Nat) (ta : Nat) (tl : Nat) (mm_token : Int32) (mm_value : Int32) (mm_next : Nat) (tk : Nat) (mm_now_f : Nat → Int32) (sz : Nat) (hN : mN mm_now_f) : Met l yX11_may wsX11_may ({ frames := 8, cells := 0, slots := 0, locals := 180 }) (va_Pc [.ref mm] (kPre D cy [(mm, .inr (11, [.ref mm_now, .ref mm_kept, .ref mm_isKept, .ref mm_refused, .int mm_lineFrom, .int mm_lineTo, .ref mm_stands, .ref mm_far, .ref mm_queue, .int mm_queued, .ref mm_meets, .ref mm_bytes, .int (nI bl), .int (nI ta), .int (nI tl), .int mm_token, .int mm_value, .ref mm_next, .int (nI tk)])), (mm_now, .inl (cy 1, 122, .inl mm_now_f))] sz)) (va_Qi (fun (r : Int32) (u : Int32 × Int32) => True) (fun (u : Int32 × Int32) t => va_P D vwCl ([(mm, .inr (11, [.ref mm_now, .ref mm_kept, .ref mm_isKept, .ref mm_refused, .int u.1, .int u.2, .ref mm_stands, .ref mm_far, .ref mm_queue, .int mm_queued, .ref mm_meets, .ref mm_bytes, .int (nI bl), .int (nI ta), .int (nI tl), .int mm_token, .int mm_value, .ref mm_next, .int (nI tk)])), (mm_now, .inl (cy 1, 122, .inl mm_now_f))]) t.heap ∧ va_D (va_A [(mm, .inr (11, [.ref mm_now, .ref mm_kept, .ref mm_isKept, .ref mm_refused, .int mm_lineFrom, .int mm_lineTo, .ref mm_stands, .ref mm_far, .ref mm_queue, .int mm_queued, .ref mm_meets, .ref mm_bytes, .int (nI bl), .int (nI ta), .int (nI tl), .int mm_token, .int mm_value, .ref mm_next, .int (nI tk)])), (mm_now, .inl (cy 1, 122, .inl mm_now_f))] sz) ([(mm, .inr (11, [.ref mm_now, .ref mm_kept, .ref mm_isKept, .ref mm_refused, .int u.1, .int u.2, .ref mm_stands, .ref mm_far, .ref mm_queue, .int mm_queued, .ref mm_meets, .ref mm_bytes, .int (nI bl), .int (nI ta), .int (nI tl), .int mm_token, .int mm_value, .ref mm_next, .int (nI tk)])), (mm_now, .inl (cy 1, 122, .inl mm_now_f))])) (va_A [(mm, .inr (11, [.ref mm_now, .ref mm_kept, .ref mm_isKept, .ref mm_refused, .int mm_lineFrom, .int mm_lineTo, .ref mm_stands, .ref mm_far, .ref mm_queue, .int mm_queued, .ref mm_meets, .ref mm_bytes, .int (nI bl), .int (nI ta), .int (nI tl), .int mm_token, .int mm_value, .ref mm_next, .int (nI tk)])), (mm_now, .inl (cy 1, 122, .inl mm_now_f))] sz)) 0 0 (va_A [(mm, .inr (11, [.ref mm_now, .ref mm_kept, .ref mm_isKept, .ref mm_refused, .int mm_lineFrom, .int mm_lineTo, .ref mm_stands, .ref mm_far, .ref mm_queue, .int mm_queued, .ref mm_meets, .ref mm_bytes, .int (nI bl), .int (nI ta), .int (nI tl), .int mm_token, .int mm_value, .ref mm_next, .int (nI tk)])), (mm_now, .inl (cy 1, 122, .inl mm_now_f))] sz) := by
  refine Met.ofW (cc := cX11_may) (maxL := 1) (ret := (some .int)) (by decide) rfl ?_
  intro p e s m args below meth c s₁ B hml hv
  obtain ⟨rfl, hsz, hP, hKA, hD0⟩ := hv
  have hx := B.exec
  have hb := B.bytes
  have hr := B.returns
  have hts := atoms_spec (ws := wsX11_may) B.pre
  have hown : s.vm.findClass RX11 = some m.cls := findClass_of_methodNamed B.named
  have hlocks := B.notSynchronized
  subst hsz
  have hK := hKA.1
  have hD := hD0.self (sz := s.heap.size)
  generalize hAe : va_A [(mm, .inr (11, [.ref mm_now, .ref mm_kept, .ref mm_isKept, .ref mm_refused, .int mm_lineFrom, .int mm_lineTo, .ref mm_stands, .ref mm_far, .ref mm_queue, .int mm_queued, .ref mm_meets, .ref mm_bytes, .int (nI bl), .int (nI ta), .int (nI tl), .int mm_token, .int mm_value, .ref mm_next, .int (nI tk)])), (mm_now, .inl (cy 1, 122, .inl mm_now_f))] s.heap.size = A at hD ⊢
  have hA : ∀ q : Nat, s.heap.size ≤ q → A q := fun q h => by rw [← hAe]; exact Or.inr h
  have hS : va_S A s.heap s.heap [] := va_S.rf
  have hP : va_P D vwCl [(mm, .inr (11, [.ref mm_now, .ref mm_kept, .ref mm_isKept, .ref mm_refused, .int mm_lineFrom, .int mm_lineTo, .ref mm_stands, .ref mm_far, .ref mm_queue, .int mm_queued, .ref mm_meets, .ref mm_bytes, .int (nI bl), .int (nI ta), .int (nI tl), .int mm_token, .int mm_value, .ref mm_next, .int (nI tk)])), (mm_now, .inl (cy 1, 122, .inl mm_now_f))] s.heap := hP
  have hl := lv_entry ([.ref mm]) (n := 1) (Nat.le_of_ble_eq_true rfl)
  rw [lg_entry_eq]
  generalize (lg_sl ([.ref mm]) ++ List.replicate (1 - (lg_sl ([.ref mm])).length) Slot.unset).toArray = ls at hl ⊢
  have hl : lv_has ls 1 [(0, .ref mm)] := hl
  refine qW (fun QF hQF => ?_)
  obtain ⟨mW, mH, mS, mP, hF⟩ := hN
  obtain ⟨hW2, hW6, hH2, hH6, hSe, hS4, hS6, hP5⟩ := hF.rng
  refine lv_aload_n hx hb dX11_may_0 rfl (lv_at hl 0 rfl) ?_
  refine wr_i (wr := []) (va_runV (As := []) (rest := []) ⟨hx, hb, hml, hown, hts⟩ (n_X11_maySpeak l D cy mW mH mS mP mm mm_now mm_kept mm_isKept mm_refused mm_lineFrom mm_lineTo mm_stands mm_far mm_queue mm_queued mm_meets mm_bytes bl ta tl mm_token mm_value mm_next tk mm_now_f _ (by first | assumption | omega)) (cwV 0 hts gX11_may_X11_maySpeak rfl rfl rfl (by decide +kernel) ⟨Nat.le_of_ble_eq_true rfl, Nat.le_of_ble_eq_true rfl⟩) (pV (ci := 11) (k := 0) hKA (hP.sub (ws' := [(mm, .inr (11, [.ref mm_now, .ref mm_kept, .ref mm_isKept, .ref mm_refused, .int mm_lineFrom, .int mm_lineTo, .ref mm_stands, .ref mm_far, .ref mm_queue, .int mm_queued, .ref mm_meets, .ref mm_bytes, .int (nI bl), .int (nI ta), .int (nI tl), .int mm_token, .int mm_value, .ref mm_next, .int (nI tk)])), (mm_now, .inl (cy 1, 122, .inl mm_now_f))]) [0, 1] rfl) (hD.sub (ws' := [(mm, .inr (11, [.ref mm_now, .ref mm_kept, .ref mm_isKept, .ref mm_refused, .int mm_lineFrom, .int mm_lineTo, .ref mm_stands, .ref mm_far, .ref mm_queue, .int mm_queued, .ref mm_meets, .ref mm_bytes, .int (nI bl), .int (nI ta), .int (nI tl), .int mm_token, .int mm_value, .ref mm_next, .int (nI tk)])), (mm_now, .inl (cy 1, 122, .inl mm_now_f))]) [0, 1] (by decide) rfl) rfl rfl) rfl rfl hl.1 rfl (lv_room (Nat.le_of_ble_eq_true rfl)) dX11_may_1 ⟨Nat.le_of_ble_eq_true rfl, Nat.le_of_ble_eq_true rfl⟩) hP hD hS hA [0, 1] [] rfl rfl (by decide +kernel) (by decide +kernel) (fun r1 ur1 H locs hwr1 hP hD hS => ?_)
  obtain ⟨z2, z3⟩ := ur1
  have hP : va_P D vwCl [(mm, .inr (11, [.ref mm_now, .ref mm_kept, .ref mm_isKept, .ref mm_refused, .int z2, .int z3, .ref mm_stands, .ref mm_far, .ref mm_queue, .int mm_queued, .ref mm_meets, .ref mm_bytes, .int (nI bl), .int (nI ta), .int (nI tl), .int mm_token, .int mm_value, .ref mm_next, .int (nI tk)])), (mm_now, .inl (cy 1, 122, .inl mm_now_f))] H := hP
  have hD : va_D A [(mm, .inr (11, [.ref mm_now, .ref mm_kept, .ref mm_isKept, .ref mm_refused, .int z2, .int z3, .ref mm_stands, .ref mm_far, .ref mm_queue, .int mm_queued, .ref mm_meets, .ref mm_bytes, .int (nI bl), .int (nI ta), .int (nI tl), .int mm_token, .int mm_value, .ref mm_next, .int (nI tk)])), (mm_now, .inl (cy 1, 122, .inl mm_now_f))] := hD
  subst hQF
  have hP9 := hP
  have hD9 := hD
  exact W.iret (v := r1) hx hb hr (fun t ht hW => ⟨⟨r1, (z2, z3), rfl, trivial, by rw [ht]; exact hP9, hD9⟩, hS.F ht⟩) hS.2.2 dX11_may_4

set_option maxHeartbeats 4000000 in
set_option maxRecDepth 100000 in
theorem n_X11_judge (l : Launch) (D : va_G) (cy : Nat → ClassId) (mm : Nat) (mm_now : Nat) (mm_kept : Nat) (mm_isKept : Nat) (mm_refused : Nat) (mm_lineFrom : Int32) (mm_lineTo : Int32) (mm_stands : Nat) (mm_far : Nat) (mm_queue : Nat) (mm_queued : Int32) (mm_meets : Nat) (mm_bytes : Nat) (bl : Nat) (ta : Nat) (tl : Nat) (mm_token : Int32) (mm_value : Int32) (mm_next : Nat) (tk : Nat) (mm_now_f : Nat → Int32) (mm_refused_f : Nat → Int32) (px : Int32) (sz : Nat) (hN : mN mm_now_f) : Met l yX11_judge wsX11_judge ({ frames := 8, cells := 0, slots := 0, locals := 179 }) (va_Pc [.ref mm, .int px] (kPre D cy [(mm, .inr (11, [.ref mm_now, .ref mm_kept, .ref mm_isKept, .ref mm_refused, .int mm_lineFrom, .int mm_lineTo, .ref mm_stands, .ref mm_far, .ref mm_queue, .int mm_queued, .ref mm_meets, .ref mm_bytes, .int (nI bl), .int (nI ta), .int (nI tl), .int mm_token, .int mm_value, .ref mm_next, .int (nI tk)])), (mm_now, .inl (cy 1, 122, .inl mm_now_f)), (mm_refused, .inl (cy 1, 3, .inl mm_refused_f))] sz)) (va_Qi (fun (r : Int32) (u : Int32 × Int32 × (Nat → Int32)) => True) (fun (u : Int32 × Int32 × (Nat → Int32)) t => va_P D vwCl ([(mm, .inr (11, [.ref mm_now, .ref mm_kept, .ref mm_isKept, .ref mm_refused, .int u.1, .int u.2.1, .ref mm_stands, .ref mm_far, .ref mm_queue, .int mm_queued, .ref mm_meets, .ref mm_bytes, .int (nI bl), .int (nI ta), .int (nI tl), .int mm_token, .int mm_value, .ref mm_next, .int (nI tk)])), (mm_now, .inl (cy 1, 122, .inl mm_now_f)), (mm_refused, .inl (cy 1, 3, .inl u.2.2))]) t.heap ∧ va_D (va_A [(mm, .inr (11, [.ref mm_now, .ref mm_kept, .ref mm_isKept, .ref mm_refused, .int mm_lineFrom, .int mm_lineTo, .ref mm_stands, .ref mm_far, .ref mm_queue, .int mm_queued, .ref mm_meets, .ref mm_bytes, .int (nI bl), .int (nI ta), .int (nI tl), .int mm_token, .int mm_value, .ref mm_next, .int (nI tk)])), (mm_now, .inl (cy 1, 122, .inl mm_now_f)), (mm_refused, .inl (cy 1, 3, .inl mm_refused_f))] sz) ([(mm, .inr (11, [.ref mm_now, .ref mm_kept, .ref mm_isKept, .ref mm_refused, .int u.1, .int u.2.1, .ref mm_stands, .ref mm_far, .ref mm_queue, .int mm_queued, .ref mm_meets, .ref mm_bytes, .int (nI bl), .int (nI ta), .int (nI tl), .int mm_token, .int mm_value, .ref mm_next, .int (nI tk)])), (mm_now, .inl (cy 1, 122, .inl mm_now_f)), (mm_refused, .inl (cy 1, 3, .inl u.2.2))])) (va_A [(mm, .inr (11, [.ref mm_now, .ref mm_kept, .ref mm_isKept, .ref mm_refused, .int mm_lineFrom, .int mm_lineTo, .ref mm_stands, .ref mm_far, .ref mm_queue, .int mm_queued, .ref mm_meets, .ref mm_bytes, .int (nI bl), .int (nI ta), .int (nI tl), .int mm_token, .int mm_value, .ref mm_next, .int (nI tk)])), (mm_now, .inl (cy 1, 122, .inl mm_now_f)), (mm_refused, .inl (cy 1, 3, .inl mm_refused_f))] sz)) 0 0 (va_A [(mm, .inr (11, [.ref mm_now, .ref mm_kept, .ref mm_isKept, .ref mm_refused, .int mm_lineFrom, .int mm_lineTo, .ref mm_stands, .ref mm_far, .ref mm_queue, .int mm_queued, .ref mm_meets, .ref mm_bytes, .int (nI bl), .int (nI ta), .int (nI tl), .int mm_token, .int mm_value, .ref mm_next, .int (nI tk)])), (mm_now, .inl (cy 1, 122, .inl mm_now_f)), (mm_refused, .inl (cy 1, 3, .inl mm_refused_f))] sz) := by
  refine Met.ofW (cc := cX11_judge) (maxL := 2) (ret := (some .int)) (by decide) rfl ?_
  intro p e s m args below meth c s₁ B hml hv
  obtain ⟨rfl, hsz, hP, hKA, hD0⟩ := hv
  have hx := B.exec
  have hb := B.bytes
  have hr := B.returns
  have hts := atoms_spec (ws := wsX11_judge) B.pre
  have hown : s.vm.findClass RX11 = some m.cls := findClass_of_methodNamed B.named
  have hlocks := B.notSynchronized
  subst hsz
  have hK := hKA.1
  have hD := hD0.self (sz := s.heap.size)
  generalize hAe : va_A [(mm, .inr (11, [.ref mm_now, .ref mm_kept, .ref mm_isKept, .ref mm_refused, .int mm_lineFrom, .int mm_lineTo, .ref mm_stands, .ref mm_far, .ref mm_queue, .int mm_queued, .ref mm_meets, .ref mm_bytes, .int (nI bl), .int (nI ta), .int (nI tl), .int mm_token, .int mm_value, .ref mm_next, .int (nI tk)])), (mm_now, .inl (cy 1, 122, .inl mm_now_f)), (mm_refused, .inl (cy 1, 3, .inl mm_refused_f))] s.heap.size = A at hD ⊢
  have hA : ∀ q : Nat, s.heap.size ≤ q → A q := fun q h => by rw [← hAe]; exact Or.inr h
  have hS : va_S A s.heap s.heap [] := va_S.rf
  have hP : va_P D vwCl [(mm, .inr (11, [.ref mm_now, .ref mm_kept, .ref mm_isKept, .ref mm_refused, .int mm_lineFrom, .int mm_lineTo, .ref mm_stands, .ref mm_far, .ref mm_queue, .int mm_queued, .ref mm_meets, .ref mm_bytes, .int (nI bl), .int (nI ta), .int (nI tl), .int mm_token, .int mm_value, .ref mm_next, .int (nI tk)])), (mm_now, .inl (cy 1, 122, .inl mm_now_f)), (mm_refused, .inl (cy 1, 3, .inl mm_refused_f))] s.heap := hP
  have hl := lv_entry ([.ref mm, .int px]) (n := 2) (Nat.le_of_ble_eq_true rfl)
  rw [lg_entry_eq]
  generalize (lg_sl ([.ref mm, .int px]) ++ List.replicate (2 - (lg_sl ([.ref mm, .int px])).length) Slot.unset).toArray = ls at hl ⊢
  have hl : lv_has ls 2 [(0, .ref mm), (1, .int px)] := hl
  refine qW (fun QF hQF => ?_)
  obtain ⟨mW, mH, mS, mP, hF⟩ := hN
  obtain ⟨hW2, hW6, hH2, hH6, hSe, hS4, hS6, hP5⟩ := hF.rng
  refine lv_aload_n hx hb dX11_judge_0 rfl (lv_at hl 0 rfl) ?_
  refine lv_iload_n hx hb dX11_judge_1 rfl (lv_at hl 1 rfl) ?_
  refine rd_i (va_runV (As := [.int px]) (rest := []) ⟨hx, hb, hml, hown, hts⟩ (n_X11_isSet l D cy mW mH mS mP mm mm_now mm_kept mm_isKept mm_refused mm_lineFrom mm_lineTo mm_stands mm_far mm_queue mm_queued mm_meets mm_bytes bl ta tl mm_token mm_value mm_next tk mm_now_f px _ (by first | assumption | omega)) (cwV 1 hts gX11_judge_X11_isSet rfl rfl rfl (by decide +kernel) ⟨Nat.le_of_ble_eq_true rfl, Nat.le_of_ble_eq_true rfl⟩) (pV (ci := 11) (k := 0) hKA (hP.sub (ws' := [(mm, .inr (11, [.ref mm_now, .ref mm_kept, .ref mm_isKept, .ref mm_refused, .int mm_lineFrom, .int mm_lineTo, .ref mm_stands, .ref mm_far, .ref mm_queue, .int mm_queued, .ref mm_meets, .ref mm_bytes, .int (nI bl), .int (nI ta), .int (nI tl), .int mm_token, .int mm_value, .ref mm_next, .int (nI tk)])), (mm_now, .inl (cy 1, 122, .inl mm_now_f))]) [0, 1] rfl) (hD.sub (ws' := [(mm, .inr (11, [.ref mm_now, .ref mm_kept, .ref mm_isKept, .ref mm_refused, .int mm_lineFrom, .int mm_lineTo, .ref mm_stands, .ref mm_far, .ref mm_queue, .int mm_queued, .ref mm_meets, .ref mm_bytes, .int (nI bl), .int (nI ta), .int (nI tl), .int mm_token, .int mm_value, .ref mm_next, .int (nI tk)])), (mm_now, .inl (cy 1, 122, .inl mm_now_f))]) [0, 1] (by decide) rfl) rfl rfl) rfl rfl hl.1 rfl (lv_room (Nat.le_of_ble_eq_true rfl)) dX11_judge_2 ⟨Nat.le_of_ble_eq_true rfl, Nat.le_of_ble_eq_true rfl⟩) hP hS hA (fun r1 H locs hwr1 hP hS => ?_)
  have hwr1 : (r1 = 1 ∧ True) ∨ (r1 = 0 ∧ True) := hwr1
  refine lv_if_eq (tgt := 16) hx hb dX11_judge_5 (by decide) (fun c2 => ?_) (fun c2 => ?_)
  · skip
    refine lv_aload_n hx hb dX11_judge_16 rfl (lv_at hl 0 rfl) ?_
    refine lv_bipush (v := (-2)) hx hb dX11_judge_17 (by decide) ?_
    refine wr_i (wr := [(mm_now, .inl (cy 1, 122, .inl mm_now_f))]) (va_runV (As := [.int (-2)]) (rest := []) ⟨hx, hb, hml, hown, hts⟩ (n_X11_bad l D cy mm mm_now mm_kept mm_isKept mm_refused mm_lineFrom mm_lineTo mm_stands mm_far mm_queue mm_queued mm_meets mm_bytes bl ta tl mm_token mm_value mm_next tk mm_refused_f (-2) _ ) (cwV 1 hts gX11_judge_X11_bad rfl rfl rfl (by decide +kernel) ⟨Nat.le_of_ble_eq_true rfl, Nat.le_of_ble_eq_true rfl⟩) (pV (ci := 11) (k := 0) hKA (hP.sub (ws' := [(mm, .inr (11, [.ref mm_now, .ref mm_kept, .ref mm_isKept, .ref mm_refused, .int mm_lineFrom, .int mm_lineTo, .ref mm_stands, .ref mm_far, .ref mm_queue, .int mm_queued, .ref mm_meets, .ref mm_bytes, .int (nI bl), .int (nI ta), .int (nI tl), .int mm_token, .int mm_value, .ref mm_next, .int (nI tk)])), (mm_refused, .inl (cy 1, 3, .inl mm_refused_f))]) [0, 2] rfl) (hD.sub (ws' := [(mm, .inr (11, [.ref mm_now, .ref mm_kept, .ref mm_isKept, .ref mm_refused, .int mm_lineFrom, .int mm_lineTo, .ref mm_stands, .ref mm_far, .ref mm_queue, .int mm_queued, .ref mm_meets, .ref mm_bytes, .int (nI bl), .int (nI ta), .int (nI tl), .int mm_token, .int mm_value, .ref mm_next, .int (nI tk)])), (mm_refused, .inl (cy 1, 3, .inl mm_refused_f))]) [0, 2] (by decide) rfl) rfl rfl) rfl rfl hl.1 rfl (lv_room (Nat.le_of_ble_eq_true rfl)) dX11_judge_19 ⟨Nat.le_of_ble_eq_true rfl, Nat.le_of_ble_eq_true rfl⟩) hP hD hS hA [0, 2] [1] rfl rfl (by decide +kernel) (by decide +kernel) (fun r3 ur3 H locs hwr3 hP hD hS => ?_)
    obtain ⟨z4, rfl⟩ : ∃ z, z = ur3 := ⟨_, rfl⟩
    have hP : va_P D vwCl [(mm_now, .inl (cy 1, 122, .inl mm_now_f)), (mm, .inr (11, [.ref mm_now, .ref mm_kept, .ref mm_isKept, .ref mm_refused, .int mm_lineFrom, .int mm_lineTo, .ref mm_stands, .ref mm_far, .ref mm_queue, .int mm_queued, .ref mm_meets, .ref mm_bytes, .int (nI bl), .int (nI ta), .int (nI tl), .int mm_token, .int mm_value, .ref mm_next, .int (nI tk)])), (mm_refused, .inl (cy 1, 3, .inl z4))] H := hP
    have hD : va_D A [(mm_now, .inl (cy 1, 122, .inl mm_now_f)), (mm, .inr (11, [.ref mm_now, .ref mm_kept, .ref mm_isKept, .ref mm_refused, .int mm_lineFrom, .int mm_lineTo, .ref mm_stands, .ref mm_far, .ref mm_queue, .int mm_queued, .ref mm_meets, .ref mm_bytes, .int (nI bl), .int (nI ta), .int (nI tl), .int mm_token, .int mm_value, .ref mm_next, .int (nI tk)])), (mm_refused, .inl (cy 1, 3, .inl z4))] := hD
    have hwr3 : r3 = (-2) := hwr3
    subst hwr3
    subst hQF
    have hP9 := hP.sub (ws' := [(mm, .inr (11, [.ref mm_now, .ref mm_kept, .ref mm_isKept, .ref mm_refused, .int mm_lineFrom, .int mm_lineTo, .ref mm_stands, .ref mm_far, .ref mm_queue, .int mm_queued, .ref mm_meets, .ref mm_bytes, .int (nI bl), .int (nI ta), .int (nI tl), .int mm_token, .int mm_value, .ref mm_next, .int (nI tk)])), (mm_now, .inl (cy 1, 122, .inl mm_now_f)), (mm_refused, .inl (cy 1, 3, .inl z4))]) [1, 0, 2] rfl
    have hD9 := hD.sub (ws' := [(mm, .inr (11, [.ref mm_now, .ref mm_kept, .ref mm_isKept, .ref mm_refused, .int mm_lineFrom, .int mm_lineTo, .ref mm_stands, .ref mm_far, .ref mm_queue, .int mm_queued, .ref mm_meets, .ref mm_bytes, .int (nI bl), .int (nI ta), .int (nI tl), .int mm_token, .int mm_value, .ref mm_next, .int (nI tk)])), (mm_now, .inl (cy 1, 122, .inl mm_now_f)), (mm_refused, .inl (cy 1, 3, .inl z4))]) [1, 0, 2] (by decide) rfl
    exact W.iret (v := (-2)) hx hb hr (fun t ht hW => ⟨⟨(-2), (mm_lineFrom, mm_lineTo, z4), rfl, trivial, by rw [ht]; exact hP9, hD9⟩, hS.F ht⟩) hS.2.2 dX11_judge_22
  · skip
    refine lv_aload_n hx hb dX11_judge_8 rfl (lv_at hl 0 rfl) ?_
    refine lv_iload_n hx hb dX11_judge_9 rfl (lv_at hl 1 rfl) ?_
    refine wr_i (wr := [(mm_refused, .inl (cy 1, 3, .inl mm_refused_f))]) (va_runV (As := [.int px]) (rest := []) ⟨hx, hb, hml, hown, hts⟩ (n_X11_judged l D cy mW mH mS mP mm mm_now mm_kept mm_isKept mm_refused mm_lineFrom mm_lineTo mm_stands mm_far mm_queue mm_queued mm_meets mm_bytes bl ta tl mm_token mm_value mm_next tk mm_now_f px _ (by first | assumption | omega)) (cwV 1 hts gX11_judge_X11_judged rfl rfl rfl (by decide +kernel) ⟨Nat.le_of_ble_eq_true rfl, Nat.le_of_ble_eq_true rfl⟩) (pV (ci := 11) (k := 0) hKA (hP.sub (ws' := [(mm, .inr (11, [.ref mm_now, .ref mm_kept, .ref mm_isKept, .ref mm_refused, .int mm_lineFrom, .int mm_lineTo, .ref mm_stands, .ref mm_far, .ref mm_queue, .int mm_queued, .ref mm_meets, .ref mm_bytes, .int (nI bl), .int (nI ta), .int (nI tl), .int mm_token, .int mm_value, .ref mm_next, .int (nI tk)])), (mm_now, .inl (cy 1, 122, .inl mm_now_f))]) [0, 1] rfl) (hD.sub (ws' := [(mm, .inr (11, [.ref mm_now, .ref mm_kept, .ref mm_isKept, .ref mm_refused, .int mm_lineFrom, .int mm_lineTo, .ref mm_stands, .ref mm_far, .ref mm_queue, .int mm_queued, .ref mm_meets, .ref mm_bytes, .int (nI bl), .int (nI ta), .int (nI tl), .int mm_token, .int mm_value, .ref mm_next, .int (nI tk)])), (mm_now, .inl (cy 1, 122, .inl mm_now_f))]) [0, 1] (by decide) rfl) rfl rfl) rfl rfl hl.1 rfl (lv_room (Nat.le_of_ble_eq_true rfl)) dX11_judge_10 ⟨Nat.le_of_ble_eq_true rfl, Nat.le_of_ble_eq_true rfl⟩) hP hD hS hA [0, 1] [2] rfl rfl (by decide +kernel) (by decide +kernel) (fun r5 ur5 H locs hwr5 hP hD hS => ?_)
    obtain ⟨z6, z7⟩ := ur5
    have hP : va_P D vwCl [(mm_refused, .inl (cy 1, 3, .inl mm_refused_f)), (mm, .inr (11, [.ref mm_now, .ref mm_kept, .ref mm_isKept, .ref mm_refused, .int z6, .int z7, .ref mm_stands, .ref mm_far, .ref mm_queue, .int mm_queued, .ref mm_meets, .ref mm_bytes, .int (nI bl), .int (nI ta), .int (nI tl), .int mm_token, .int mm_value, .ref mm_next, .int (nI tk)])), (mm_now, .inl (cy 1, 122, .inl mm_now_f))] H := hP
    have hD : va_D A [(mm_refused, .inl (cy 1, 3, .inl mm_refused_f)), (mm, .inr (11, [.ref mm_now, .ref mm_kept, .ref mm_isKept, .ref mm_refused, .int z6, .int z7, .ref mm_stands, .ref mm_far, .ref mm_queue, .int mm_queued, .ref mm_meets, .ref mm_bytes, .int (nI bl), .int (nI ta), .int (nI tl), .int mm_token, .int mm_value, .ref mm_next, .int (nI tk)])), (mm_now, .inl (cy 1, 122, .inl mm_now_f))] := hD
    refine lv_goto (tgt := 22) hx hb dX11_judge_13 (by decide) ?_
    subst hQF
    have hP9 := hP.sub (ws' := [(mm, .inr (11, [.ref mm_now, .ref mm_kept, .ref mm_isKept, .ref mm_refused, .int z6, .int z7, .ref mm_stands, .ref mm_far, .ref mm_queue, .int mm_queued, .ref mm_meets, .ref mm_bytes, .int (nI bl), .int (nI ta), .int (nI tl), .int mm_token, .int mm_value, .ref mm_next, .int (nI tk)])), (mm_now, .inl (cy 1, 122, .inl mm_now_f)), (mm_refused, .inl (cy 1, 3, .inl mm_refused_f))]) [1, 2, 0] rfl
    have hD9 := hD.sub (ws' := [(mm, .inr (11, [.ref mm_now, .ref mm_kept, .ref mm_isKept, .ref mm_refused, .int z6, .int z7, .ref mm_stands, .ref mm_far, .ref mm_queue, .int mm_queued, .ref mm_meets, .ref mm_bytes, .int (nI bl), .int (nI ta), .int (nI tl), .int mm_token, .int mm_value, .ref mm_next, .int (nI tk)])), (mm_now, .inl (cy 1, 122, .inl mm_now_f)), (mm_refused, .inl (cy 1, 3, .inl mm_refused_f))]) [1, 2, 0] (by decide) rfl
    exact W.iret (v := r5) hx hb hr (fun t ht hW => ⟨⟨r5, (z6, z7, mm_refused_f), rfl, trivial, by rw [ht]; exact hP9, hD9⟩, hS.F ht⟩) hS.2.2 dX11_judge_22

set_option maxHeartbeats 4000000 in
set_option maxRecDepth 100000 in
theorem n_X11_told (l : Launch) (D : va_G) (cy : Nat → ClassId) (mm : Nat) (mm_now : Nat) (mm_kept : Nat) (mm_isKept : Nat) (mm_refused : Nat) (mm_lineFrom : Int32) (mm_lineTo : Int32) (mm_stands : Nat) (mm_far : Nat) (mm_queue : Nat) (mm_queued : Int32) (mm_meets : Nat) (mm_bytes : Nat) (bl : Nat) (ta : Nat) (tl : Nat) (mm_token : Int32) (mm_value : Int32) (mm_next : Nat) (tk : Nat) (mm_now_f : Nat → Int32) (mm_refused_f : Nat → Int32) (px : Int32) (sz : Nat) (hN : mN mm_now_f) : Met l yX11_told wsX11_told ({ frames := 9, cells := 0, slots := 0, locals := 206 }) (va_Pc [.ref mm, .int px] (kPre D cy [(mm, .inr (11, [.ref mm_now, .ref mm_kept, .ref mm_isKept, .ref mm_refused, .int mm_lineFrom, .int mm_lineTo, .ref mm_stands, .ref mm_far, .ref mm_queue, .int mm_queued, .ref mm_meets, .ref mm_bytes, .int (nI bl), .int (nI ta), .int (nI tl), .int mm_token, .int mm_value, .ref mm_next, .int (nI tk)])), (mm_now, .inl (cy 1, 122, .inl mm_now_f)), (mm_refused, .inl (cy 1, 3, .inl mm_refused_f))] sz)) (va_Qi (fun (r : Int32) (u : Int32 × Int32 × (Nat → Int32)) => True) (fun (u : Int32 × Int32 × (Nat → Int32)) t => va_P D vwCl ([(mm, .inr (11, [.ref mm_now, .ref mm_kept, .ref mm_isKept, .ref mm_refused, .int u.1, .int u.2.1, .ref mm_stands, .ref mm_far, .ref mm_queue, .int mm_queued, .ref mm_meets, .ref mm_bytes, .int (nI bl), .int (nI ta), .int (nI tl), .int mm_token, .int mm_value, .ref mm_next, .int (nI tk)])), (mm_now, .inl (cy 1, 122, .inl mm_now_f)), (mm_refused, .inl (cy 1, 3, .inl u.2.2))]) t.heap ∧ va_D (va_A [(mm, .inr (11, [.ref mm_now, .ref mm_kept, .ref mm_isKept, .ref mm_refused, .int mm_lineFrom, .int mm_lineTo, .ref mm_stands, .ref mm_far, .ref mm_queue, .int mm_queued, .ref mm_meets, .ref mm_bytes, .int (nI bl), .int (nI ta), .int (nI tl), .int mm_token, .int mm_value, .ref mm_next, .int (nI tk)])), (mm_now, .inl (cy 1, 122, .inl mm_now_f)), (mm_refused, .inl (cy 1, 3, .inl mm_refused_f))] sz) ([(mm, .inr (11, [.ref mm_now, .ref mm_kept, .ref mm_isKept, .ref mm_refused, .int u.1, .int u.2.1, .ref mm_stands, .ref mm_far, .ref mm_queue, .int mm_queued, .ref mm_meets, .ref mm_bytes, .int (nI bl), .int (nI ta), .int (nI tl), .int mm_token, .int mm_value, .ref mm_next, .int (nI tk)])), (mm_now, .inl (cy 1, 122, .inl mm_now_f)), (mm_refused, .inl (cy 1, 3, .inl u.2.2))])) (va_A [(mm, .inr (11, [.ref mm_now, .ref mm_kept, .ref mm_isKept, .ref mm_refused, .int mm_lineFrom, .int mm_lineTo, .ref mm_stands, .ref mm_far, .ref mm_queue, .int mm_queued, .ref mm_meets, .ref mm_bytes, .int (nI bl), .int (nI ta), .int (nI tl), .int mm_token, .int mm_value, .ref mm_next, .int (nI tk)])), (mm_now, .inl (cy 1, 122, .inl mm_now_f)), (mm_refused, .inl (cy 1, 3, .inl mm_refused_f))] sz)) 0 0 (va_A [(mm, .inr (11, [.ref mm_now, .ref mm_kept, .ref mm_isKept, .ref mm_refused, .int mm_lineFrom, .int mm_lineTo, .ref mm_stands, .ref mm_far, .ref mm_queue, .int mm_queued, .ref mm_meets, .ref mm_bytes, .int (nI bl), .int (nI ta), .int (nI tl), .int mm_token, .int mm_value, .ref mm_next, .int (nI tk)])), (mm_now, .inl (cy 1, 122, .inl mm_now_f)), (mm_refused, .inl (cy 1, 3, .inl mm_refused_f))] sz) := by
  refine Met.ofW (cc := cX11_told) (maxL := 2) (ret := (some .int)) (by decide) rfl ?_
  intro p e s m args below meth c s₁ B hml hv
  obtain ⟨rfl, hsz, hP, hKA, hD0⟩ := hv
  have hx := B.exec
  have hb := B.bytes
  have hr := B.returns
  have hts := atoms_spec (ws := wsX11_told) B.pre
  have hown : s.vm.findClass RX11 = some m.cls := findClass_of_methodNamed B.named
  have hlocks := B.notSynchronized
  subst hsz
  have hK := hKA.1
  have hD := hD0.self (sz := s.heap.size)
  generalize hAe : va_A [(mm, .inr (11, [.ref mm_now, .ref mm_kept, .ref mm_isKept, .ref mm_refused, .int mm_lineFrom, .int mm_lineTo, .ref mm_stands, .ref mm_far, .ref mm_queue, .int mm_queued, .ref mm_meets, .ref mm_bytes, .int (nI bl), .int (nI ta), .int (nI tl), .int mm_token, .int mm_value, .ref mm_next, .int (nI tk)])), (mm_now, .inl (cy 1, 122, .inl mm_now_f)), (mm_refused, .inl (cy 1, 3, .inl mm_refused_f))] s.heap.size = A at hD ⊢
  have hA : ∀ q : Nat, s.heap.size ≤ q → A q := fun q h => by rw [← hAe]; exact Or.inr h
  have hS : va_S A s.heap s.heap [] := va_S.rf
  have hP : va_P D vwCl [(mm, .inr (11, [.ref mm_now, .ref mm_kept, .ref mm_isKept, .ref mm_refused, .int mm_lineFrom, .int mm_lineTo, .ref mm_stands, .ref mm_far, .ref mm_queue, .int mm_queued, .ref mm_meets, .ref mm_bytes, .int (nI bl), .int (nI ta), .int (nI tl), .int mm_token, .int mm_value, .ref mm_next, .int (nI tk)])), (mm_now, .inl (cy 1, 122, .inl mm_now_f)), (mm_refused, .inl (cy 1, 3, .inl mm_refused_f))] s.heap := hP
  have hl := lv_entry ([.ref mm, .int px]) (n := 2) (Nat.le_of_ble_eq_true rfl)
  rw [lg_entry_eq]
  generalize (lg_sl ([.ref mm, .int px]) ++ List.replicate (2 - (lg_sl ([.ref mm, .int px])).length) Slot.unset).toArray = ls at hl ⊢
  have hl : lv_has ls 2 [(0, .ref mm), (1, .int px)] := hl
  refine qW (fun QF hQF => ?_)
  obtain ⟨mW, mH, mS, mP, hF⟩ := hN
  obtain ⟨hW2, hW6, hH2, hH6, hSe, hS4, hS6, hP5⟩ := hF.rng
  refine lv_aload_n hx hb dX11_told_0 rfl (lv_at hl 0 rfl) ?_
  refine lv_iload_n hx hb dX11_told_1 rfl (lv_at hl 1 rfl) ?_
  refine rd_i (va_runV (As := [.int px]) (rest := []) ⟨hx, hb, hml, hown, hts⟩ (n_X11_isSet l D cy mW mH mS mP mm mm_now mm_kept mm_isKept mm_refused mm_lineFrom mm_lineTo mm_stands mm_far mm_queue mm_queued mm_meets mm_bytes bl ta tl mm_token mm_value mm_next tk mm_now_f px _ (by first | assumption | omega)) (cwV 1 hts gX11_told_X11_isSet rfl rfl rfl (by decide +kernel) ⟨Nat.le_of_ble_eq_true rfl, Nat.le_of_ble_eq_true rfl⟩) (pV (ci := 11) (k := 0) hKA (hP.sub (ws' := [(mm, .inr (11, [.ref mm_now, .ref mm_kept, .ref mm_isKept, .ref mm_refused, .int mm_lineFrom, .int mm_lineTo, .ref mm_stands, .ref mm_far, .ref mm_queue, .int mm_queued, .ref mm_meets, .ref mm_bytes, .int (nI bl), .int (nI ta), .int (nI tl), .int mm_token, .int mm_value, .ref mm_next, .int (nI tk)])), (mm_now, .inl (cy 1, 122, .inl mm_now_f))]) [0, 1] rfl) (hD.sub (ws' := [(mm, .inr (11, [.ref mm_now, .ref mm_kept, .ref mm_isKept, .ref mm_refused, .int mm_lineFrom, .int mm_lineTo, .ref mm_stands, .ref mm_far, .ref mm_queue, .int mm_queued, .ref mm_meets, .ref mm_bytes, .int (nI bl), .int (nI ta), .int (nI tl), .int mm_token, .int mm_value, .ref mm_next, .int (nI tk)])), (mm_now, .inl (cy 1, 122, .inl mm_now_f))]) [0, 1] (by decide) rfl) rfl rfl) rfl rfl hl.1 rfl (lv_room (Nat.le_of_ble_eq_true rfl)) dX11_told_2 ⟨Nat.le_of_ble_eq_true rfl, Nat.le_of_ble_eq_true rfl⟩) hP hS hA (fun r1 H locs hwr1 hP hS => ?_)
  have hwr1 : (r1 = 1 ∧ True) ∨ (r1 = 0 ∧ True) := hwr1
  refine lv_if_ne (tgt := 15) hx hb dX11_told_5 (by decide) (fun c2 => ?_) (fun c2 => ?_)
  · skip
    refine lv_aload_n hx hb dX11_told_15 rfl (lv_at hl 0 rfl) ?_
    refine lv_iload_n hx hb dX11_told_16 rfl (lv_at hl 1 rfl) ?_
    refine wr_i (wr := [(mm_refused, .inl (cy 1, 3, .inl mm_refused_f))]) (va_runV (As := [.int px]) (rest := []) ⟨hx, hb, hml, hown, hts⟩ (n_X11_isTold l D cy mW mH mS mP mm mm_now mm_kept mm_isKept mm_refused mm_lineFrom mm_lineTo mm_stands mm_far mm_queue mm_queued mm_meets mm_bytes bl ta tl mm_token mm_value mm_next tk mm_now_f px _ (by first | assumption | omega)) (cwV 1 hts gX11_told_X11_isTold rfl rfl rfl (by decide +kernel) ⟨Nat.le_of_ble_eq_true rfl, Nat.le_of_ble_eq_true rfl⟩) (pV (ci := 11) (k := 0) hKA (hP.sub (ws' := [(mm, .inr (11, [.ref mm_now, .ref mm_kept, .ref mm_isKept, .ref mm_refused, .int mm_lineFrom, .int mm_lineTo, .ref mm_stands, .ref mm_far, .ref mm_queue, .int mm_queued, .ref mm_meets, .ref mm_bytes, .int (nI bl), .int (nI ta), .int (nI tl), .int mm_token, .int mm_value, .ref mm_next, .int (nI tk)])), (mm_now, .inl (cy 1, 122, .inl mm_now_f))]) [0, 1] rfl) (hD.sub (ws' := [(mm, .inr (11, [.ref mm_now, .ref mm_kept, .ref mm_isKept, .ref mm_refused, .int mm_lineFrom, .int mm_lineTo, .ref mm_stands, .ref mm_far, .ref mm_queue, .int mm_queued, .ref mm_meets, .ref mm_bytes, .int (nI bl), .int (nI ta), .int (nI tl), .int mm_token, .int mm_value, .ref mm_next, .int (nI tk)])), (mm_now, .inl (cy 1, 122, .inl mm_now_f))]) [0, 1] (by decide) rfl) rfl rfl) rfl rfl hl.1 rfl (lv_room (Nat.le_of_ble_eq_true rfl)) dX11_told_17 ⟨Nat.le_of_ble_eq_true rfl, Nat.le_of_ble_eq_true rfl⟩) hP hD hS hA [0, 1] [2] rfl rfl (by decide +kernel) (by decide +kernel) (fun r3 ur3 H locs hwr3 hP hD hS => ?_)
    obtain ⟨z4, z5⟩ := ur3
    have hP : va_P D vwCl [(mm_refused, .inl (cy 1, 3, .inl mm_refused_f)), (mm, .inr (11, [.ref mm_now, .ref mm_kept, .ref mm_isKept, .ref mm_refused, .int z4, .int z5, .ref mm_stands, .ref mm_far, .ref mm_queue, .int mm_queued, .ref mm_meets, .ref mm_bytes, .int (nI bl), .int (nI ta), .int (nI tl), .int mm_token, .int mm_value, .ref mm_next, .int (nI tk)])), (mm_now, .inl (cy 1, 122, .inl mm_now_f))] H := hP
    have hD : va_D A [(mm_refused, .inl (cy 1, 3, .inl mm_refused_f)), (mm, .inr (11, [.ref mm_now, .ref mm_kept, .ref mm_isKept, .ref mm_refused, .int z4, .int z5, .ref mm_stands, .ref mm_far, .ref mm_queue, .int mm_queued, .ref mm_meets, .ref mm_bytes, .int (nI bl), .int (nI ta), .int (nI tl), .int mm_token, .int mm_value, .ref mm_next, .int (nI tk)])), (mm_now, .inl (cy 1, 122, .inl mm_now_f))] := hD
    have hwr3 : (r3 = 1 ∧ True) ∨ (r3 = 0 ∧ True) := hwr3
    refine lv_if_eq (tgt := 27) hx hb dX11_told_20 (by decide) (fun c6 => ?_) (fun c6 => ?_)
    · skip
      refine lv_iconst (v := 0) hx hb dX11_told_27 (by decide) ?_
      subst hQF
      have hP9 := hP.sub (ws' := [(mm, .inr (11, [.ref mm_now, .ref mm_kept, .ref mm_isKept, .ref mm_refused, .int z4, .int z5, .ref mm_stands, .ref mm_far, .ref mm_queue, .int mm_queued, .ref mm_meets, .ref mm_bytes, .int (nI bl), .int (nI ta), .int (nI tl), .int mm_token, .int mm_value, .ref mm_next, .int (nI tk)])), (mm_now, .inl (cy 1, 122, .inl mm_now_f)), (mm_refused, .inl (cy 1, 3, .inl mm_refused_f))]) [1, 2, 0] rfl
      have hD9 := hD.sub (ws' := [(mm, .inr (11, [.ref mm_now, .ref mm_kept, .ref mm_isKept, .ref mm_refused, .int z4, .int z5, .ref mm_stands, .ref mm_far, .ref mm_queue, .int mm_queued, .ref mm_meets, .ref mm_bytes, .int (nI bl), .int (nI ta), .int (nI tl), .int mm_token, .int mm_value, .ref mm_next, .int (nI tk)])), (mm_now, .inl (cy 1, 122, .inl mm_now_f)), (mm_refused, .inl (cy 1, 3, .inl mm_refused_f))]) [1, 2, 0] (by decide) rfl
      exact W.iret (v := 0) hx hb hr (fun t ht hW => ⟨⟨0, (z4, z5, mm_refused_f), rfl, trivial, by rw [ht]; exact hP9, hD9⟩, hS.F ht⟩) hS.2.2 dX11_told_28
    · skip
      refine lv_iconst (v := 1) hx hb dX11_told_23 (by decide) ?_
      refine lv_goto (tgt := 28) hx hb dX11_told_24 (by decide) ?_
      subst hQF
      have hP9 := hP.sub (ws' := [(mm, .inr (11, [.ref mm_now, .ref mm_kept, .ref mm_isKept, .ref mm_refused, .int z4, .int z5, .ref mm_stands, .ref mm_far, .ref mm_queue, .int mm_queued, .ref mm_meets, .ref mm_bytes, .int (nI bl), .int (nI ta), .int (nI tl), .int mm_token, .int mm_value, .ref mm_next, .int (nI tk)])), (mm_now, .inl (cy 1, 122, .inl mm_now_f)), (mm_refused, .inl (cy 1, 3, .inl mm_refused_f))]) [1, 2, 0] rfl
      have hD9 := hD.sub (ws' := [(mm, .inr (11, [.ref mm_now, .ref mm_kept, .ref mm_isKept, .ref mm_refused, .int z4, .int z5, .ref mm_stands, .ref mm_far, .ref mm_queue, .int mm_queued, .ref mm_meets, .ref mm_bytes, .int (nI bl), .int (nI ta), .int (nI tl), .int mm_token, .int mm_value, .ref mm_next, .int (nI tk)])), (mm_now, .inl (cy 1, 122, .inl mm_now_f)), (mm_refused, .inl (cy 1, 3, .inl mm_refused_f))]) [1, 2, 0] (by decide) rfl
      exact W.iret (v := 1) hx hb hr (fun t ht hW => ⟨⟨1, (z4, z5, mm_refused_f), rfl, trivial, by rw [ht]; exact hP9, hD9⟩, hS.F ht⟩) hS.2.2 dX11_told_28
  · skip
    refine lv_aload_n hx hb dX11_told_8 rfl (lv_at hl 0 rfl) ?_
    refine lv_bipush (v := (-2)) hx hb dX11_told_9 (by decide) ?_
    refine wr_i (wr := [(mm_now, .inl (cy 1, 122, .inl mm_now_f))]) (va_runV (As := [.int (-2)]) (rest := []) ⟨hx, hb, hml, hown, hts⟩ (n_X11_bad l D cy mm mm_now mm_kept mm_isKept mm_refused mm_lineFrom mm_lineTo mm_stands mm_far mm_queue mm_queued mm_meets mm_bytes bl ta tl mm_token mm_value mm_next tk mm_refused_f (-2) _ ) (cwV 1 hts gX11_told_X11_bad rfl rfl rfl (by decide +kernel) ⟨Nat.le_of_ble_eq_true rfl, Nat.le_of_ble_eq_true rfl⟩) (pV (ci := 11) (k := 0) hKA (hP.sub (ws' := [(mm, .inr (11, [.ref mm_now, .ref mm_kept, .ref mm_isKept, .ref mm_refused, .int mm_lineFrom, .int mm_lineTo, .ref mm_stands, .ref mm_far, .ref mm_queue, .int mm_queued, .ref mm_meets, .ref mm_bytes, .int (nI bl), .int (nI ta), .int (nI tl), .int mm_token, .int mm_value, .ref mm_next, .int (nI tk)])), (mm_refused, .inl (cy 1, 3, .inl mm_refused_f))]) [0, 2] rfl) (hD.sub (ws' := [(mm, .inr (11, [.ref mm_now, .ref mm_kept, .ref mm_isKept, .ref mm_refused, .int mm_lineFrom, .int mm_lineTo, .ref mm_stands, .ref mm_far, .ref mm_queue, .int mm_queued, .ref mm_meets, .ref mm_bytes, .int (nI bl), .int (nI ta), .int (nI tl), .int mm_token, .int mm_value, .ref mm_next, .int (nI tk)])), (mm_refused, .inl (cy 1, 3, .inl mm_refused_f))]) [0, 2] (by decide) rfl) rfl rfl) rfl rfl hl.1 rfl (lv_room (Nat.le_of_ble_eq_true rfl)) dX11_told_11 ⟨Nat.le_of_ble_eq_true rfl, Nat.le_of_ble_eq_true rfl⟩) hP hD hS hA [0, 2] [1] rfl rfl (by decide +kernel) (by decide +kernel) (fun r7 ur7 H locs hwr7 hP hD hS => ?_)
    obtain ⟨z8, rfl⟩ : ∃ z, z = ur7 := ⟨_, rfl⟩
    have hP : va_P D vwCl [(mm_now, .inl (cy 1, 122, .inl mm_now_f)), (mm, .inr (11, [.ref mm_now, .ref mm_kept, .ref mm_isKept, .ref mm_refused, .int mm_lineFrom, .int mm_lineTo, .ref mm_stands, .ref mm_far, .ref mm_queue, .int mm_queued, .ref mm_meets, .ref mm_bytes, .int (nI bl), .int (nI ta), .int (nI tl), .int mm_token, .int mm_value, .ref mm_next, .int (nI tk)])), (mm_refused, .inl (cy 1, 3, .inl z8))] H := hP
    have hD : va_D A [(mm_now, .inl (cy 1, 122, .inl mm_now_f)), (mm, .inr (11, [.ref mm_now, .ref mm_kept, .ref mm_isKept, .ref mm_refused, .int mm_lineFrom, .int mm_lineTo, .ref mm_stands, .ref mm_far, .ref mm_queue, .int mm_queued, .ref mm_meets, .ref mm_bytes, .int (nI bl), .int (nI ta), .int (nI tl), .int mm_token, .int mm_value, .ref mm_next, .int (nI tk)])), (mm_refused, .inl (cy 1, 3, .inl z8))] := hD
    have hwr7 : r7 = (-2) := hwr7
    subst hwr7
    subst hQF
    have hP9 := hP.sub (ws' := [(mm, .inr (11, [.ref mm_now, .ref mm_kept, .ref mm_isKept, .ref mm_refused, .int mm_lineFrom, .int mm_lineTo, .ref mm_stands, .ref mm_far, .ref mm_queue, .int mm_queued, .ref mm_meets, .ref mm_bytes, .int (nI bl), .int (nI ta), .int (nI tl), .int mm_token, .int mm_value, .ref mm_next, .int (nI tk)])), (mm_now, .inl (cy 1, 122, .inl mm_now_f)), (mm_refused, .inl (cy 1, 3, .inl z8))]) [1, 0, 2] rfl
    have hD9 := hD.sub (ws' := [(mm, .inr (11, [.ref mm_now, .ref mm_kept, .ref mm_isKept, .ref mm_refused, .int mm_lineFrom, .int mm_lineTo, .ref mm_stands, .ref mm_far, .ref mm_queue, .int mm_queued, .ref mm_meets, .ref mm_bytes, .int (nI bl), .int (nI ta), .int (nI tl), .int mm_token, .int mm_value, .ref mm_next, .int (nI tk)])), (mm_now, .inl (cy 1, 122, .inl mm_now_f)), (mm_refused, .inl (cy 1, 3, .inl z8))]) [1, 0, 2] (by decide) rfl
    exact W.iret (v := (-2)) hx hb hr (fun t ht hW => ⟨⟨(-2), (mm_lineFrom, mm_lineTo, z8), rfl, trivial, by rw [ht]; exact hP9, hD9⟩, hS.F ht⟩) hS.2.2 dX11_told_14
