theorem dX11_in_0 : decode cX11_in 0 = .ok (.lload_n 0, 1) := by decide +kernel
theorem dX11_in_1 : decode cX11_in 1 = .ok (.lload_n 2, 1) := by decide +kernel
theorem dX11_in_2 : decode cX11_in 2 = .ok (.lcmp, 1) := by decide +kernel
theorem dX11_in_3 : decode cX11_in 3 = .ok (.ifCond .lt 14, 3) := by decide +kernel
theorem dX11_in_17 : decode cX11_in 17 = .ok (.iconst 0, 1) := by decide +kernel
theorem dX11_in_18 : decode cX11_in 18 = .ok (.ireturn, 1) := by decide +kernel
theorem dX11_in_6 : decode cX11_in 6 = .ok (.lload_n 0, 1) := by decide +kernel
theorem dX11_in_7 : decode cX11_in 7 = .ok (.lload 4, 2) := by decide +kernel
theorem dX11_in_9 : decode cX11_in 9 = .ok (.lcmp, 1) := by decide +kernel
theorem dX11_in_10 : decode cX11_in 10 = .ok (.ifCond .gt 7, 3) := by decide +kernel
theorem dX11_in_13 : decode cX11_in 13 = .ok (.iconst 1, 1) := by decide +kernel
theorem dX11_in_14 : decode cX11_in 14 = .ok (.goto 4, 3) := by decide +kernel
theorem dX11_bad_0 : decode cX11_bad 0 = .ok (.aload_n 0, 1) := by decide +kernel
theorem dX11_bad_1 : decode cX11_bad 1 = .ok (.getfield 20, 3) := by decide +kernel
theorem dX11_bad_4 : decode cX11_bad 4 = .ok (.iconst 0, 1) := by decide +kernel
theorem dX11_bad_5 : decode cX11_bad 5 = .ok (.dup2, 1) := by decide +kernel
theorem dX11_bad_6 : decode cX11_bad 6 = .ok (.iaload, 1) := by decide +kernel
theorem dX11_bad_7 : decode cX11_bad 7 = .ok (.iconst 1, 1) := by decide +kernel
theorem dX11_bad_8 : decode cX11_bad 8 = .ok (.iadd, 1) := by decide +kernel
theorem dX11_bad_9 : decode cX11_bad 9 = .ok (.iastore, 1) := by decide +kernel
theorem dX11_bad_10 : decode cX11_bad 10 = .ok (.iload_n 1, 1) := by decide +kernel
theorem dX11_bad_11 : decode cX11_bad 11 = .ok (.ireturn, 1) := by decide +kernel
theorem dX11_no_0 : decode cX11_no 0 = .ok (.aload_n 0, 1) := by decide +kernel
theorem dX11_no_1 : decode cX11_no 1 = .ok (.getfield 20, 3) := by decide +kernel
theorem dX11_no_4 : decode cX11_no 4 = .ok (.iconst 1, 1) := by decide +kernel
theorem dX11_no_5 : decode cX11_no 5 = .ok (.dup2, 1) := by decide +kernel
theorem dX11_no_6 : decode cX11_no 6 = .ok (.iaload, 1) := by decide +kernel
theorem dX11_no_7 : decode cX11_no 7 = .ok (.iconst 1, 1) := by decide +kernel
theorem dX11_no_8 : decode cX11_no 8 = .ok (.iadd, 1) := by decide +kernel
theorem dX11_no_9 : decode cX11_no 9 = .ok (.iastore, 1) := by decide +kernel
theorem dX11_no_10 : decode cX11_no 10 = .ok (.iload_n 1, 1) := by decide +kernel
theorem dX11_no_11 : decode cX11_no 11 = .ok (.ireturn, 1) := by decide +kernel
theorem dX11_full_0 : decode cX11_full 0 = .ok (.aload_n 0, 1) := by decide +kernel
theorem dX11_full_1 : decode cX11_full 1 = .ok (.getfield 20, 3) := by decide +kernel
theorem dX11_full_4 : decode cX11_full 4 = .ok (.iconst 2, 1) := by decide +kernel
theorem dX11_full_5 : decode cX11_full 5 = .ok (.dup2, 1) := by decide +kernel
theorem dX11_full_6 : decode cX11_full 6 = .ok (.iaload, 1) := by decide +kernel
theorem dX11_full_7 : decode cX11_full 7 = .ok (.iconst 1, 1) := by decide +kernel
theorem dX11_full_8 : decode cX11_full 8 = .ok (.iadd, 1) := by decide +kernel
theorem dX11_full_9 : decode cX11_full 9 = .ok (.iastore, 1) := by decide +kernel
theorem dX11_full_10 : decode cX11_full 10 = .ok (.bipush (-4), 2) := by decide +kernel
theorem dX11_full_12 : decode cX11_full 12 = .ok (.ireturn, 1) := by decide +kernel
theorem dX11_wide_0 : decode cX11_wide 0 = .ok (.aload_n 0, 1) := by decide +kernel
theorem dX11_wide_1 : decode cX11_wide 1 = .ok (.getfield 7, 3) := by decide +kernel
theorem dX11_wide_4 : decode cX11_wide 4 = .ok (.iconst 0, 1) := by decide +kernel
theorem dX11_wide_5 : decode cX11_wide 5 = .ok (.iaload, 1) := by decide +kernel
theorem dX11_wide_6 : decode cX11_wide 6 = .ok (.ireturn, 1) := by decide +kernel
theorem dX11_squares_0 : decode cX11_squares 0 = .ok (.aload_n 0, 1) := by decide +kernel
theorem dX11_squares_1 : decode cX11_squares 1 = .ok (.getfield 7, 3) := by decide +kernel
theorem dX11_squares_4 : decode cX11_squares 4 = .ok (.iconst 0, 1) := by decide +kernel
theorem dX11_squares_5 : decode cX11_squares 5 = .ok (.iaload, 1) := by decide +kernel
theorem dX11_squares_6 : decode cX11_squares 6 = .ok (.aload_n 0, 1) := by decide +kernel
theorem dX11_squares_7 : decode cX11_squares 7 = .ok (.getfield 7, 3) := by decide +kernel
theorem dX11_squares_10 : decode cX11_squares 10 = .ok (.iconst 1, 1) := by decide +kernel
theorem dX11_squares_11 : decode cX11_squares 11 = .ok (.iaload, 1) := by decide +kernel
theorem dX11_squares_12 : decode cX11_squares 12 = .ok (.imul, 1) := by decide +kernel
theorem dX11_squares_13 : decode cX11_squares 13 = .ok (.ireturn, 1) := by decide +kernel
theorem dX11_people_0 : decode cX11_people 0 = .ok (.aload_n 0, 1) := by decide +kernel
theorem dX11_people_1 : decode cX11_people 1 = .ok (.getfield 7, 3) := by decide +kernel
theorem dX11_people_4 : decode cX11_people 4 = .ok (.iconst 4, 1) := by decide +kernel
theorem dX11_people_5 : decode cX11_people 5 = .ok (.iaload, 1) := by decide +kernel
theorem dX11_people_6 : decode cX11_people 6 = .ok (.ireturn, 1) := by decide +kernel
theorem dX11_isSquare_0 : decode cX11_isSquare 0 = .ok (.iload_n 1, 1) := by decide +kernel
theorem dX11_isSquare_1 : decode cX11_isSquare 1 = .ok (.i2l, 1) := by decide +kernel
theorem dX11_isSquare_2 : decode cX11_isSquare 2 = .ok (.lconst 0, 1) := by decide +kernel
theorem dX11_isSquare_3 : decode cX11_isSquare 3 = .ok (.aload_n 0, 1) := by decide +kernel
set_option maxRecDepth 20000 in
theorem ggX11_isSquare_X11_squares : GoodIn wsX11_isSquare wsX11_squares := goodIn_r _ [5, 6, 10, 11, 12, 13, 14, 15, 16, 17, 18, 19, 20, 21, 22, 23, 24, 25, 26, 27, 28] (by decide +kernel) (by decide +kernel)
set_option maxRecDepth 20000 in
theorem gX11_isSquare_X11_squares : GoodIn wsX11_isSquare (wsV RX11 45 RX11 yX11_squares wsX11_squares) := goodIn_app (goodIn_of _ (by decide +kernel)) ggX11_isSquare_X11_squares
theorem dX11_isSquare_4 : decode cX11_isSquare 4 = .ok (.invokevirtual 45, 3) := by decide +kernel
theorem dX11_isSquare_7 : decode cX11_isSquare 7 = .ok (.iconst 1, 1) := by decide +kernel
theorem dX11_isSquare_8 : decode cX11_isSquare 8 = .ok (.isub, 1) := by decide +kernel
theorem dX11_isSquare_9 : decode cX11_isSquare 9 = .ok (.i2l, 1) := by decide +kernel
set_option maxRecDepth 20000 in
theorem ggX11_isSquare_X11_in : GoodIn wsX11_isSquare wsX11_in := goodIn_r _ [9] (by decide +kernel) (by decide +kernel)
set_option maxRecDepth 20000 in
theorem gX11_isSquare_X11_in : GoodIn wsX11_isSquare (va_wsS RX11 49 yX11_in wsX11_in) := goodIn_app (goodIn_of _ (by decide +kernel)) ggX11_isSquare_X11_in
theorem dX11_isSquare_10 : decode cX11_isSquare 10 = .ok (.invokestatic 49, 3) := by decide +kernel
theorem dX11_isSquare_13 : decode cX11_isSquare 13 = .ok (.ireturn, 1) := by decide +kernel
theorem dX11_isOne_0 : decode cX11_isOne 0 = .ok (.iload_n 1, 1) := by decide +kernel
theorem dX11_isOne_1 : decode cX11_isOne 1 = .ok (.i2l, 1) := by decide +kernel
theorem dX11_isOne_2 : decode cX11_isOne 2 = .ok (.lconst 0, 1) := by decide +kernel
theorem dX11_isOne_3 : decode cX11_isOne 3 = .ok (.aload_n 0, 1) := by decide +kernel
set_option maxRecDepth 20000 in
theorem ggX11_isOne_X11_people : GoodIn wsX11_isOne wsX11_people := goodIn_r _ [5, 6, 10, 11, 12, 13, 14, 15, 16, 17, 18, 19, 20, 21, 22, 23, 24, 25, 26, 27, 28] (by decide +kernel) (by decide +kernel)
set_option maxRecDepth 20000 in
theorem gX11_isOne_X11_people : GoodIn wsX11_isOne (wsV RX11 53 RX11 yX11_people wsX11_people) := goodIn_app (goodIn_of _ (by decide +kernel)) ggX11_isOne_X11_people
theorem dX11_isOne_4 : decode cX11_isOne 4 = .ok (.invokevirtual 53, 3) := by decide +kernel
theorem dX11_isOne_7 : decode cX11_isOne 7 = .ok (.iconst 1, 1) := by decide +kernel
theorem dX11_isOne_8 : decode cX11_isOne 8 = .ok (.isub, 1) := by decide +kernel
theorem dX11_isOne_9 : decode cX11_isOne 9 = .ok (.i2l, 1) := by decide +kernel
set_option maxRecDepth 20000 in
theorem ggX11_isOne_X11_in : GoodIn wsX11_isOne wsX11_in := goodIn_r _ [9] (by decide +kernel) (by decide +kernel)
set_option maxRecDepth 20000 in
theorem gX11_isOne_X11_in : GoodIn wsX11_isOne (va_wsS RX11 49 yX11_in wsX11_in) := goodIn_app (goodIn_of _ (by decide +kernel)) ggX11_isOne_X11_in
theorem dX11_isOne_10 : decode cX11_isOne 10 = .ok (.invokestatic 49, 3) := by decide +kernel
theorem dX11_isOne_13 : decode cX11_isOne 13 = .ok (.ireturn, 1) := by decide +kernel
theorem dX11_isSet_0 : decode cX11_isSet 0 = .ok (.iload_n 1, 1) := by decide +kernel
theorem dX11_isSet_1 : decode cX11_isSet 1 = .ok (.i2l, 1) := by decide +kernel
theorem dX11_isSet_2 : decode cX11_isSet 2 = .ok (.lconst 0, 1) := by decide +kernel
theorem dX11_isSet_3 : decode cX11_isSet 3 = .ok (.iconst 1, 1) := by decide +kernel
theorem dX11_isSet_4 : decode cX11_isSet 4 = .ok (.aload_n 0, 1) := by decide +kernel
set_option maxRecDepth 20000 in
theorem ggX11_isSet_X11_people : GoodIn wsX11_isSet wsX11_people := goodIn_r _ [5, 6, 10, 11, 12, 13, 14, 15, 16, 17, 18, 19, 20, 21, 22, 23, 24, 25, 26, 27, 28] (by decide +kernel) (by decide +kernel)
set_option maxRecDepth 20000 in
theorem gX11_isSet_X11_people : GoodIn wsX11_isSet (wsV RX11 53 RX11 yX11_people wsX11_people) := goodIn_app (goodIn_of _ (by decide +kernel)) ggX11_isSet_X11_people
theorem dX11_isSet_5 : decode cX11_isSet 5 = .ok (.invokevirtual 53, 3) := by decide +kernel
theorem dX11_isSet_8 : decode cX11_isSet 8 = .ok (.ishl, 1) := by decide +kernel
theorem dX11_isSet_9 : decode cX11_isSet 9 = .ok (.iconst 1, 1) := by decide +kernel
theorem dX11_isSet_10 : decode cX11_isSet 10 = .ok (.isub, 1) := by decide +kernel
theorem dX11_isSet_11 : decode cX11_isSet 11 = .ok (.i2l, 1) := by decide +kernel
set_option maxRecDepth 20000 in
theorem ggX11_isSet_X11_in : GoodIn wsX11_isSet wsX11_in := goodIn_r _ [9] (by decide +kernel) (by decide +kernel)
set_option maxRecDepth 20000 in
theorem gX11_isSet_X11_in : GoodIn wsX11_isSet (va_wsS RX11 49 yX11_in wsX11_in) := goodIn_app (goodIn_of _ (by decide +kernel)) ggX11_isSet_X11_in
theorem dX11_isSet_12 : decode cX11_isSet 12 = .ok (.invokestatic 49, 3) := by decide +kernel
theorem dX11_isSet_15 : decode cX11_isSet 15 = .ok (.ireturn, 1) := by decide +kernel
theorem dX11_of_0 : decode cX11_of 0 = .ok (.aload_n 0, 1) := by decide +kernel
theorem dX11_of_1 : decode cX11_of 1 = .ok (.getfield 7, 3) := by decide +kernel
theorem dX11_of_4 : decode cX11_of 4 = .ok (.iconst 5, 1) := by decide +kernel
theorem dX11_of_5 : decode cX11_of 5 = .ok (.iconst 3, 1) := by decide +kernel
theorem dX11_of_6 : decode cX11_of 6 = .ok (.iload_n 1, 1) := by decide +kernel
theorem dX11_of_7 : decode cX11_of 7 = .ok (.imul, 1) := by decide +kernel
theorem dX11_of_8 : decode cX11_of 8 = .ok (.iadd, 1) := by decide +kernel
theorem dX11_of_9 : decode cX11_of 9 = .ok (.iload_n 2, 1) := by decide +kernel
theorem dX11_of_10 : decode cX11_of 10 = .ok (.iadd, 1) := by decide +kernel
theorem dX11_of_11 : decode cX11_of 11 = .ok (.iaload, 1) := by decide +kernel
theorem dX11_of_12 : decode cX11_of 12 = .ok (.ireturn, 1) := by decide +kernel
theorem dX11_isStood_0 : decode cX11_isStood 0 = .ok (.iconst 0, 1) := by decide +kernel
theorem dX11_isStood_1 : decode cX11_isStood 1 = .ok (.istore_n 3, 1) := by decide +kernel
theorem dX11_isStood_2 : decode cX11_isStood 2 = .ok (.iconst 0, 1) := by decide +kernel
theorem dX11_isStood_3 : decode cX11_isStood 3 = .ok (.istore 4, 2) := by decide +kernel
theorem dX11_isStood_5 : decode cX11_isStood 5 = .ok (.iload 4, 2) := by decide +kernel
theorem dX11_isStood_7 : decode cX11_isStood 7 = .ok (.aload_n 0, 1) := by decide +kernel
theorem dX11_isStood_8 : decode cX11_isStood 8 = .ok (.iconst 4, 1) := by decide +kernel
theorem dX11_isStood_9 : decode cX11_isStood 9 = .ok (.iaload, 1) := by decide +kernel
theorem dX11_isStood_10 : decode cX11_isStood 10 = .ok (.if_icmp .ge 39, 3) := by decide +kernel
theorem dX11_isStood_49 : decode cX11_isStood 49 = .ok (.iload_n 3, 1) := by decide +kernel
theorem dX11_isStood_50 : decode cX11_isStood 50 = .ok (.ireturn, 1) := by decide +kernel
theorem dX11_isStood_13 : decode cX11_isStood 13 = .ok (.iload_n 3, 1) := by decide +kernel
theorem dX11_isStood_14 : decode cX11_isStood 14 = .ok (.ifCond .ne 23, 3) := by decide +kernel
theorem dX11_isStood_37 : decode cX11_isStood 37 = .ok (.iconst 1, 1) := by decide +kernel
theorem dX11_isStood_38 : decode cX11_isStood 38 = .ok (.goto 4, 3) := by decide +kernel
theorem dX11_isStood_42 : decode cX11_isStood 42 = .ok (.istore_n 3, 1) := by decide +kernel
theorem dX11_isStood_43 : decode cX11_isStood 43 = .ok (.iinc 4 1, 3) := by decide +kernel
theorem dX11_isStood_46 : decode cX11_isStood 46 = .ok (.goto (-41), 3) := by decide +kernel
theorem dX11_isStood_17 : decode cX11_isStood 17 = .ok (.iload 4, 2) := by decide +kernel
theorem dX11_isStood_19 : decode cX11_isStood 19 = .ok (.iload_n 2, 1) := by decide +kernel
theorem dX11_isStood_20 : decode cX11_isStood 20 = .ok (.if_icmp .eq 21, 3) := by decide +kernel
theorem dX11_isStood_41 : decode cX11_isStood 41 = .ok (.iconst 0, 1) := by decide +kernel
theorem dX11_isStood_23 : decode cX11_isStood 23 = .ok (.aload_n 0, 1) := by decide +kernel
theorem dX11_isStood_24 : decode cX11_isStood 24 = .ok (.iconst 5, 1) := by decide +kernel
theorem dX11_isStood_25 : decode cX11_isStood 25 = .ok (.iconst 3, 1) := by decide +kernel
theorem dX11_isStood_26 : decode cX11_isStood 26 = .ok (.iload 4, 2) := by decide +kernel
theorem dX11_isStood_28 : decode cX11_isStood 28 = .ok (.imul, 1) := by decide +kernel
theorem dX11_isStood_29 : decode cX11_isStood 29 = .ok (.iadd, 1) := by decide +kernel
theorem dX11_isStood_30 : decode cX11_isStood 30 = .ok (.iconst 1, 1) := by decide +kernel
theorem dX11_isStood_31 : decode cX11_isStood 31 = .ok (.iadd, 1) := by decide +kernel
theorem dX11_isStood_32 : decode cX11_isStood 32 = .ok (.iaload, 1) := by decide +kernel
theorem dX11_isStood_33 : decode cX11_isStood 33 = .ok (.iload_n 1, 1) := by decide +kernel
theorem dX11_isStood_34 : decode cX11_isStood 34 = .ok (.if_icmp .ne 7, 3) := by decide +kernel
theorem dX11_isFree_0 : decode cX11_isFree 0 = .ok (.aload_n 0, 1) := by decide +kernel
theorem dX11_isFree_1 : decode cX11_isFree 1 = .ok (.getfield 7, 3) := by decide +kernel
theorem dX11_isFree_4 : decode cX11_isFree 4 = .ok (.bipush 20, 2) := by decide +kernel
theorem dX11_isFree_6 : decode cX11_isFree 6 = .ok (.iload_n 1, 1) := by decide +kernel
theorem dX11_isFree_7 : decode cX11_isFree 7 = .ok (.iadd, 1) := by decide +kernel
theorem dX11_isFree_8 : decode cX11_isFree 8 = .ok (.iaload, 1) := by decide +kernel
theorem dX11_isFree_9 : decode cX11_isFree 9 = .ok (.ifCond .ne 19, 3) := by decide +kernel
theorem dX11_isFree_28 : decode cX11_isFree 28 = .ok (.iconst 0, 1) := by decide +kernel
theorem dX11_isFree_29 : decode cX11_isFree 29 = .ok (.ireturn, 1) := by decide +kernel
theorem dX11_isFree_12 : decode cX11_isFree 12 = .ok (.aload_n 0, 1) := by decide +kernel
theorem dX11_isFree_13 : decode cX11_isFree 13 = .ok (.getfield 7, 3) := by decide +kernel
theorem dX11_isFree_16 : decode cX11_isFree 16 = .ok (.iload_n 1, 1) := by decide +kernel
theorem dX11_isFree_17 : decode cX11_isFree 17 = .ok (.iload_n 2, 1) := by decide +kernel
set_option maxRecDepth 20000 in
theorem ggX11_isFree_X11_isStood : GoodIn wsX11_isFree wsX11_isStood := goodIn_r _ [5] (by decide +kernel) (by decide +kernel)
set_option maxRecDepth 20000 in
theorem gX11_isFree_X11_isStood : GoodIn wsX11_isFree (va_wsS RX11 64 yX11_isStood wsX11_isStood) := goodIn_app (goodIn_of _ (by decide +kernel)) ggX11_isFree_X11_isStood
theorem dX11_isFree_18 : decode cX11_isFree 18 = .ok (.invokestatic 64, 3) := by decide +kernel
theorem dX11_isFree_21 : decode cX11_isFree 21 = .ok (.ifCond .ne 7, 3) := by decide +kernel
theorem dX11_isFree_24 : decode cX11_isFree 24 = .ok (.iconst 1, 1) := by decide +kernel
theorem dX11_isFree_25 : decode cX11_isFree 25 = .ok (.goto 4, 3) := by decide +kernel
theorem dX11_stand_0 : decode cX11_stand 0 = .ok (.aload_n 0, 1) := by decide +kernel
theorem dX11_stand_1 : decode cX11_stand 1 = .ok (.getfield 7, 3) := by decide +kernel
theorem dX11_stand_4 : decode cX11_stand 4 = .ok (.iconst 5, 1) := by decide +kernel
theorem dX11_stand_5 : decode cX11_stand 5 = .ok (.iconst 3, 1) := by decide +kernel
theorem dX11_stand_6 : decode cX11_stand 6 = .ok (.iload_n 1, 1) := by decide +kernel
theorem dX11_stand_7 : decode cX11_stand 7 = .ok (.imul, 1) := by decide +kernel
theorem dX11_stand_8 : decode cX11_stand 8 = .ok (.iadd, 1) := by decide +kernel
theorem dX11_stand_9 : decode cX11_stand 9 = .ok (.iconst 1, 1) := by decide +kernel
theorem dX11_stand_10 : decode cX11_stand 10 = .ok (.iadd, 1) := by decide +kernel
theorem dX11_stand_11 : decode cX11_stand 11 = .ok (.iload_n 2, 1) := by decide +kernel
theorem dX11_stand_12 : decode cX11_stand 12 = .ok (.iastore, 1) := by decide +kernel
theorem dX11_stand_13 : decode cX11_stand 13 = .ok (.return_, 1) := by decide +kernel
theorem dX11_size_0 : decode cX11_size 0 = .ok (.iload_n 0, 1) := by decide +kernel
theorem dX11_size_1 : decode cX11_size 1 = .ok (.ifCond .ge 8, 3) := by decide +kernel
theorem dX11_size_9 : decode cX11_size 9 = .ok (.iload_n 0, 1) := by decide +kernel
theorem dX11_size_10 : decode cX11_size 10 = .ok (.ireturn, 1) := by decide +kernel
theorem dX11_size_4 : decode cX11_size 4 = .ok (.iload_n 0, 1) := by decide +kernel
theorem dX11_size_5 : decode cX11_size 5 = .ok (.ineg, 1) := by decide +kernel
theorem dX11_size_6 : decode cX11_size 6 = .ok (.goto 4, 3) := by decide +kernel
theorem dX11_xOf_0 : decode cX11_xOf 0 = .ok (.iload_n 1, 1) := by decide +kernel
theorem dX11_xOf_1 : decode cX11_xOf 1 = .ok (.aload_n 0, 1) := by decide +kernel
set_option maxRecDepth 20000 in
theorem ggX11_xOf_X11_wide : GoodIn wsX11_xOf wsX11_wide := goodIn_r _ [5, 6, 7, 8, 9, 10, 11, 12, 13, 14, 15, 16, 17, 18, 19, 20, 21, 22, 23, 24, 25] (by decide +kernel) (by decide +kernel)
set_option maxRecDepth 20000 in
theorem gX11_xOf_X11_wide : GoodIn wsX11_xOf (wsV RX11 107 RX11 yX11_wide wsX11_wide) := goodIn_app (goodIn_of _ (by decide +kernel)) ggX11_xOf_X11_wide
theorem dX11_xOf_2 : decode cX11_xOf 2 = .ok (.invokevirtual 107, 3) := by decide +kernel
theorem dX11_xOf_5 : decode cX11_xOf 5 = .ok (.irem, 1) := by decide +kernel
theorem dX11_xOf_6 : decode cX11_xOf 6 = .ok (.ireturn, 1) := by decide +kernel
theorem dX11_yOf_0 : decode cX11_yOf 0 = .ok (.iload_n 1, 1) := by decide +kernel
theorem dX11_yOf_1 : decode cX11_yOf 1 = .ok (.aload_n 0, 1) := by decide +kernel
set_option maxRecDepth 20000 in
theorem ggX11_yOf_X11_wide : GoodIn wsX11_yOf wsX11_wide := goodIn_r _ [5, 6, 7, 8, 9, 10, 11, 12, 13, 14, 15, 16, 17, 18, 19, 20, 21, 22, 23, 24, 25] (by decide +kernel) (by decide +kernel)
set_option maxRecDepth 20000 in
theorem gX11_yOf_X11_wide : GoodIn wsX11_yOf (wsV RX11 107 RX11 yX11_wide wsX11_wide) := goodIn_app (goodIn_of _ (by decide +kernel)) ggX11_yOf_X11_wide
theorem dX11_yOf_2 : decode cX11_yOf 2 = .ok (.invokevirtual 107, 3) := by decide +kernel
theorem dX11_yOf_5 : decode cX11_yOf 5 = .ok (.idiv, 1) := by decide +kernel
theorem dX11_yOf_6 : decode cX11_yOf 6 = .ok (.ireturn, 1) := by decide +kernel
theorem dX11_yards_0 : decode cX11_yards 0 = .ok (.aload_n 0, 1) := by decide +kernel
theorem dX11_yards_1 : decode cX11_yards 1 = .ok (.iload_n 1, 1) := by decide +kernel
set_option maxRecDepth 20000 in
theorem ggX11_yards_X11_xOf : GoodIn wsX11_yards wsX11_xOf := goodIn_r _ [5, 6, 7, 8, 4, 9, 10, 18, 19, 20, 21, 22, 23, 24, 25, 26, 27, 28, 29, 30, 31, 32, 33, 34, 35, 36] (by decide +kernel) (by decide +kernel)
set_option maxRecDepth 20000 in
theorem gX11_yards_X11_xOf : GoodIn wsX11_yards (wsV RX11 110 RX11 yX11_xOf wsX11_xOf) := goodIn_app (goodIn_of _ (by decide +kernel)) ggX11_yards_X11_xOf
theorem dX11_yards_2 : decode cX11_yards 2 = .ok (.invokevirtual 110, 3) := by decide +kernel
theorem dX11_yards_5 : decode cX11_yards 5 = .ok (.aload_n 0, 1) := by decide +kernel
theorem dX11_yards_6 : decode cX11_yards 6 = .ok (.iload_n 2, 1) := by decide +kernel
theorem dX11_yards_7 : decode cX11_yards 7 = .ok (.invokevirtual 110, 3) := by decide +kernel
theorem dX11_yards_10 : decode cX11_yards 10 = .ok (.isub, 1) := by decide +kernel
set_option maxRecDepth 20000 in
theorem ggX11_yards_X11_size : GoodIn wsX11_yards wsX11_size := goodIn_r _ [13] (by decide +kernel) (by decide +kernel)
set_option maxRecDepth 20000 in
theorem gX11_yards_X11_size : GoodIn wsX11_yards (va_wsS RX11 113 yX11_size wsX11_size) := goodIn_app (goodIn_of _ (by decide +kernel)) ggX11_yards_X11_size
theorem dX11_yards_11 : decode cX11_yards 11 = .ok (.invokestatic 113, 3) := by decide +kernel
theorem dX11_yards_14 : decode cX11_yards 14 = .ok (.aload_n 0, 1) := by decide +kernel
theorem dX11_yards_15 : decode cX11_yards 15 = .ok (.iload_n 1, 1) := by decide +kernel
set_option maxRecDepth 20000 in
theorem ggX11_yards_X11_yOf : GoodIn wsX11_yards wsX11_yOf := goodIn_r _ [17, 6, 7, 8, 4, 9, 10, 18, 19, 20, 21, 22, 23, 24, 25, 26, 27, 28, 29, 30, 31, 32, 33, 34, 35, 36] (by decide +kernel) (by decide +kernel)
set_option maxRecDepth 20000 in
theorem gX11_yards_X11_yOf : GoodIn wsX11_yards (wsV RX11 116 RX11 yX11_yOf wsX11_yOf) := goodIn_app (goodIn_of _ (by decide +kernel)) ggX11_yards_X11_yOf
theorem dX11_yards_16 : decode cX11_yards 16 = .ok (.invokevirtual 116, 3) := by decide +kernel
theorem dX11_yards_19 : decode cX11_yards 19 = .ok (.aload_n 0, 1) := by decide +kernel
theorem dX11_yards_20 : decode cX11_yards 20 = .ok (.iload_n 2, 1) := by decide +kernel
theorem dX11_yards_21 : decode cX11_yards 21 = .ok (.invokevirtual 116, 3) := by decide +kernel
theorem dX11_yards_24 : decode cX11_yards 24 = .ok (.isub, 1) := by decide +kernel
theorem dX11_yards_25 : decode cX11_yards 25 = .ok (.invokestatic 113, 3) := by decide +kernel
theorem dX11_yards_28 : decode cX11_yards 28 = .ok (.iadd, 1) := by decide +kernel
theorem dX11_yards_29 : decode cX11_yards 29 = .ok (.ireturn, 1) := by decide +kernel
theorem dX11_narrow_0 : decode cX11_narrow 0 = .ok (.iload_n 2, 1) := by decide +kernel
theorem dX11_narrow_1 : decode cX11_narrow 1 = .ok (.ifCond .ne 29, 3) := by decide +kernel
theorem dX11_narrow_30 : decode cX11_narrow 30 = .ok (.iload_n 2, 1) := by decide +kernel
theorem dX11_narrow_43 : decode cX11_narrow 43 = .ok (.iload_n 3, 1) := by decide +kernel
theorem dX11_narrow_44 : decode cX11_narrow 44 = .ok (.iload_n 2, 1) := by decide +kernel
set_option maxRecDepth 20000 in
theorem ggX11_narrow_X11_size : GoodIn wsX11_narrow wsX11_size := goodIn_r _ [6] (by decide +kernel) (by decide +kernel)
set_option maxRecDepth 20000 in
theorem gX11_narrow_X11_size : GoodIn wsX11_narrow (va_wsS RX11 113 yX11_size wsX11_size) := goodIn_app (goodIn_of _ (by decide +kernel)) ggX11_narrow_X11_size
theorem dX11_narrow_45 : decode cX11_narrow 45 = .ok (.invokestatic 113, 3) := by decide +kernel
theorem dX11_narrow_48 : decode cX11_narrow 48 = .ok (.idiv, 1) := by decide +kernel
theorem dX11_narrow_49 : decode cX11_narrow 49 = .ok (.imul, 1) := by decide +kernel
theorem dX11_narrow_50 : decode cX11_narrow 50 = .ok (.istore 4, 2) := by decide +kernel
theorem dX11_narrow_52 : decode cX11_narrow 52 = .ok (.iload_n 2, 1) := by decide +kernel
theorem dX11_narrow_65 : decode cX11_narrow 65 = .ok (.iload_n 3, 1) := by decide +kernel
theorem dX11_narrow_66 : decode cX11_narrow 66 = .ok (.iload_n 2, 1) := by decide +kernel
theorem dX11_narrow_67 : decode cX11_narrow 67 = .ok (.invokestatic 113, 3) := by decide +kernel
theorem dX11_narrow_70 : decode cX11_narrow 70 = .ok (.idiv, 1) := by decide +kernel
theorem dX11_narrow_71 : decode cX11_narrow 71 = .ok (.imul, 1) := by decide +kernel
theorem dX11_narrow_72 : decode cX11_narrow 72 = .ok (.istore 5, 2) := by decide +kernel
theorem dX11_narrow_74 : decode cX11_narrow 74 = .ok (.aload_n 0, 1) := by decide +kernel
theorem dX11_narrow_75 : decode cX11_narrow 75 = .ok (.iload 4, 2) := by decide +kernel
theorem dX11_narrow_77 : decode cX11_narrow 77 = .ok (.aload_n 0, 1) := by decide +kernel
theorem dX11_narrow_78 : decode cX11_narrow 78 = .ok (.getfield 123, 3) := by decide +kernel
theorem dX11_narrow_93 : decode cX11_narrow 93 = .ok (.putfield 123, 3) := by decide +kernel
theorem dX11_narrow_96 : decode cX11_narrow 96 = .ok (.aload_n 0, 1) := by decide +kernel
theorem dX11_narrow_97 : decode cX11_narrow 97 = .ok (.iload 5, 2) := by decide +kernel
theorem dX11_narrow_99 : decode cX11_narrow 99 = .ok (.aload_n 0, 1) := by decide +kernel
theorem dX11_narrow_100 : decode cX11_narrow 100 = .ok (.getfield 119, 3) := by decide +kernel
theorem dX11_narrow_103 : decode cX11_narrow 103 = .ok (.if_icmp .ge 8, 3) := by decide +kernel
theorem dX11_narrow_111 : decode cX11_narrow 111 = .ok (.aload_n 0, 1) := by decide +kernel
theorem dX11_narrow_112 : decode cX11_narrow 112 = .ok (.getfield 119, 3) := by decide +kernel
theorem dX11_narrow_115 : decode cX11_narrow 115 = .ok (.putfield 119, 3) := by decide +kernel
theorem dX11_narrow_118 : decode cX11_narrow 118 = .ok (.return_, 1) := by decide +kernel
theorem dX11_narrow_106 : decode cX11_narrow 106 = .ok (.iload 5, 2) := by decide +kernel
theorem dX11_narrow_108 : decode cX11_narrow 108 = .ok (.goto 7, 3) := by decide +kernel
theorem dX11_narrow_81 : decode cX11_narrow 81 = .ok (.if_icmp .le 8, 3) := by decide +kernel
theorem dX11_narrow_89 : decode cX11_narrow 89 = .ok (.aload_n 0, 1) := by decide +kernel
theorem dX11_narrow_90 : decode cX11_narrow 90 = .ok (.getfield 123, 3) := by decide +kernel
theorem dX11_narrow_84 : decode cX11_narrow 84 = .ok (.iload 4, 2) := by decide +kernel
theorem dX11_narrow_86 : decode cX11_narrow 86 = .ok (.goto 7, 3) := by decide +kernel
theorem dX11_narrow_53 : decode cX11_narrow 53 = .ok (.ifCond .le 9, 3) := by decide +kernel
theorem dX11_narrow_62 : decode cX11_narrow 62 = .ok (.iload_n 1, 1) := by decide +kernel
theorem dX11_narrow_63 : decode cX11_narrow 63 = .ok (.iconst 1, 1) := by decide +kernel
theorem dX11_narrow_64 : decode cX11_narrow 64 = .ok (.iadd, 1) := by decide +kernel
theorem dX11_narrow_56 : decode cX11_narrow 56 = .ok (.iconst 1, 1) := by decide +kernel
theorem dX11_narrow_57 : decode cX11_narrow 57 = .ok (.iload_n 1, 1) := by decide +kernel
theorem dX11_narrow_58 : decode cX11_narrow 58 = .ok (.isub, 1) := by decide +kernel
theorem dX11_narrow_59 : decode cX11_narrow 59 = .ok (.goto 6, 3) := by decide +kernel
theorem dX11_narrow_31 : decode cX11_narrow 31 = .ok (.ifCond .le 9, 3) := by decide +kernel
theorem dX11_narrow_40 : decode cX11_narrow 40 = .ok (.iload_n 1, 1) := by decide +kernel
theorem dX11_narrow_41 : decode cX11_narrow 41 = .ok (.iconst 1, 1) := by decide +kernel
theorem dX11_narrow_42 : decode cX11_narrow 42 = .ok (.isub, 1) := by decide +kernel
theorem dX11_narrow_34 : decode cX11_narrow 34 = .ok (.iconst (-1), 1) := by decide +kernel
theorem dX11_narrow_35 : decode cX11_narrow 35 = .ok (.iload_n 1, 1) := by decide +kernel
theorem dX11_narrow_36 : decode cX11_narrow 36 = .ok (.isub, 1) := by decide +kernel
theorem dX11_narrow_37 : decode cX11_narrow 37 = .ok (.goto 6, 3) := by decide +kernel
theorem dX11_narrow_4 : decode cX11_narrow 4 = .ok (.aload_n 0, 1) := by decide +kernel
theorem dX11_narrow_5 : decode cX11_narrow 5 = .ok (.iload_n 1, 1) := by decide +kernel
theorem dX11_narrow_6 : decode cX11_narrow 6 = .ok (.iconst (-1), 1) := by decide +kernel
theorem dX11_narrow_7 : decode cX11_narrow 7 = .ok (.if_icmp .le 15, 3) := by decide +kernel
theorem dX11_narrow_22 : decode cX11_narrow 22 = .ok (.aload_n 0, 1) := by decide +kernel
theorem dX11_narrow_23 : decode cX11_narrow 23 = .ok (.getfield 123, 3) := by decide +kernel
theorem dX11_narrow_26 : decode cX11_narrow 26 = .ok (.putfield 119, 3) := by decide +kernel
theorem dX11_narrow_29 : decode cX11_narrow 29 = .ok (.return_, 1) := by decide +kernel
theorem dX11_narrow_10 : decode cX11_narrow 10 = .ok (.iload_n 1, 1) := by decide +kernel
theorem dX11_narrow_11 : decode cX11_narrow 11 = .ok (.iconst 1, 1) := by decide +kernel
theorem dX11_narrow_12 : decode cX11_narrow 12 = .ok (.if_icmp .ge 10, 3) := by decide +kernel
theorem dX11_narrow_15 : decode cX11_narrow 15 = .ok (.aload_n 0, 1) := by decide +kernel
theorem dX11_narrow_16 : decode cX11_narrow 16 = .ok (.getfield 119, 3) := by decide +kernel
theorem dX11_narrow_19 : decode cX11_narrow 19 = .ok (.goto 7, 3) := by decide +kernel
theorem dX11_bars_0 : decode cX11_bars 0 = .ok (.iconst 2, 1) := by decide +kernel
theorem dX11_bars_1 : decode cX11_bars 1 = .ok (.aload_n 0, 1) := by decide +kernel
theorem dX11_bars_2 : decode cX11_bars 2 = .ok (.iload_n 3, 1) := by decide +kernel
set_option maxRecDepth 20000 in
theorem ggX11_bars_X11_xOf : GoodIn wsX11_bars wsX11_xOf := goodIn_r _ [9, 10, 11, 12, 8, 13, 14, 26, 27, 28, 29, 30, 31, 32, 33, 34, 35, 36, 37, 38, 39, 40, 41, 42, 43, 44] (by decide +kernel) (by decide +kernel)
set_option maxRecDepth 20000 in
theorem gX11_bars_X11_xOf : GoodIn wsX11_bars (wsV RX11 110 RX11 yX11_xOf wsX11_xOf) := goodIn_app (goodIn_of _ (by decide +kernel)) ggX11_bars_X11_xOf
theorem dX11_bars_3 : decode cX11_bars 3 = .ok (.invokevirtual 110, 3) := by decide +kernel
theorem dX11_bars_6 : decode cX11_bars 6 = .ok (.aload_n 0, 1) := by decide +kernel
theorem dX11_bars_7 : decode cX11_bars 7 = .ok (.iload_n 2, 1) := by decide +kernel
theorem dX11_bars_8 : decode cX11_bars 8 = .ok (.invokevirtual 110, 3) := by decide +kernel
theorem dX11_bars_11 : decode cX11_bars 11 = .ok (.isub, 1) := by decide +kernel
theorem dX11_bars_12 : decode cX11_bars 12 = .ok (.imul, 1) := by decide +kernel
theorem dX11_bars_13 : decode cX11_bars 13 = .ok (.istore 4, 2) := by decide +kernel
theorem dX11_bars_15 : decode cX11_bars 15 = .ok (.iconst 2, 1) := by decide +kernel
theorem dX11_bars_16 : decode cX11_bars 16 = .ok (.aload_n 0, 1) := by decide +kernel
theorem dX11_bars_17 : decode cX11_bars 17 = .ok (.iload_n 3, 1) := by decide +kernel
set_option maxRecDepth 20000 in
theorem ggX11_bars_X11_yOf : GoodIn wsX11_bars wsX11_yOf := goodIn_r _ [18, 10, 11, 12, 8, 13, 14, 26, 27, 28, 29, 30, 31, 32, 33, 34, 35, 36, 37, 38, 39, 40, 41, 42, 43, 44] (by decide +kernel) (by decide +kernel)
set_option maxRecDepth 20000 in
theorem gX11_bars_X11_yOf : GoodIn wsX11_bars (wsV RX11 116 RX11 yX11_yOf wsX11_yOf) := goodIn_app (goodIn_of _ (by decide +kernel)) ggX11_bars_X11_yOf
theorem dX11_bars_18 : decode cX11_bars 18 = .ok (.invokevirtual 116, 3) := by decide +kernel
theorem dX11_bars_21 : decode cX11_bars 21 = .ok (.aload_n 0, 1) := by decide +kernel
theorem dX11_bars_22 : decode cX11_bars 22 = .ok (.iload_n 2, 1) := by decide +kernel
theorem dX11_bars_23 : decode cX11_bars 23 = .ok (.invokevirtual 116, 3) := by decide +kernel
theorem dX11_bars_26 : decode cX11_bars 26 = .ok (.isub, 1) := by decide +kernel
theorem dX11_bars_27 : decode cX11_bars 27 = .ok (.imul, 1) := by decide +kernel
theorem dX11_bars_28 : decode cX11_bars 28 = .ok (.istore 5, 2) := by decide +kernel
theorem dX11_bars_30 : decode cX11_bars 30 = .ok (.iload 4, 2) := by decide +kernel
theorem dX11_bars_44 : decode cX11_bars 44 = .ok (.iload 5, 2) := by decide +kernel
theorem dX11_bars_58 : decode cX11_bars 58 = .ok (.imul, 1) := by decide +kernel
theorem dX11_bars_59 : decode cX11_bars 59 = .ok (.istore 6, 2) := by decide +kernel
theorem dX11_bars_61 : decode cX11_bars 61 = .ok (.aload_n 0, 1) := by decide +kernel
theorem dX11_bars_62 : decode cX11_bars 62 = .ok (.ldc 126, 2) := by decide +kernel
theorem dX11_bars_64 : decode cX11_bars 64 = .ok (.putfield 123, 3) := by decide +kernel
theorem dX11_bars_67 : decode cX11_bars 67 = .ok (.aload_n 0, 1) := by decide +kernel
theorem dX11_bars_68 : decode cX11_bars 68 = .ok (.ldc 127, 2) := by decide +kernel
theorem dX11_bars_70 : decode cX11_bars 70 = .ok (.putfield 119, 3) := by decide +kernel
theorem dX11_bars_73 : decode cX11_bars 73 = .ok (.aload_n 0, 1) := by decide +kernel
theorem dX11_bars_74 : decode cX11_bars 74 = .ok (.iconst 2, 1) := by decide +kernel
theorem dX11_bars_75 : decode cX11_bars 75 = .ok (.aload_n 0, 1) := by decide +kernel
theorem dX11_bars_76 : decode cX11_bars 76 = .ok (.iload_n 2, 1) := by decide +kernel
theorem dX11_bars_77 : decode cX11_bars 77 = .ok (.invokevirtual 110, 3) := by decide +kernel
theorem dX11_bars_80 : decode cX11_bars 80 = .ok (.aload_n 0, 1) := by decide +kernel
theorem dX11_bars_81 : decode cX11_bars 81 = .ok (.iload_n 1, 1) := by decide +kernel
theorem dX11_bars_82 : decode cX11_bars 82 = .ok (.invokevirtual 110, 3) := by decide +kernel
theorem dX11_bars_85 : decode cX11_bars 85 = .ok (.isub, 1) := by decide +kernel
theorem dX11_bars_86 : decode cX11_bars 86 = .ok (.imul, 1) := by decide +kernel
theorem dX11_bars_87 : decode cX11_bars 87 = .ok (.iload 4, 2) := by decide +kernel
theorem dX11_bars_89 : decode cX11_bars 89 = .ok (.iload 6, 2) := by decide +kernel
set_option maxRecDepth 20000 in
theorem ggX11_bars_X11_narrow : GoodIn wsX11_bars wsX11_narrow := goodIn_r _ [25, 4, 2, 19, 20, 8, 21, 26, 27, 28, 29, 30, 31, 32, 33, 34, 35, 36, 37, 38, 39, 40, 41, 42, 43, 44] (by decide +kernel) (by decide +kernel)
set_option maxRecDepth 20000 in
theorem gX11_bars_X11_narrow : GoodIn wsX11_bars (wsV RX11 128 RX11 yX11_narrow wsX11_narrow) := goodIn_app (goodIn_of _ (by decide +kernel)) ggX11_bars_X11_narrow
theorem dX11_bars_91 : decode cX11_bars 91 = .ok (.invokevirtual 128, 3) := by decide +kernel
theorem dX11_bars_94 : decode cX11_bars 94 = .ok (.aload_n 0, 1) := by decide +kernel
theorem dX11_bars_95 : decode cX11_bars 95 = .ok (.iconst 2, 1) := by decide +kernel
theorem dX11_bars_96 : decode cX11_bars 96 = .ok (.aload_n 0, 1) := by decide +kernel
theorem dX11_bars_97 : decode cX11_bars 97 = .ok (.iload_n 2, 1) := by decide +kernel
theorem dX11_bars_98 : decode cX11_bars 98 = .ok (.invokevirtual 116, 3) := by decide +kernel
theorem dX11_bars_101 : decode cX11_bars 101 = .ok (.aload_n 0, 1) := by decide +kernel
theorem dX11_bars_102 : decode cX11_bars 102 = .ok (.iload_n 1, 1) := by decide +kernel
theorem dX11_bars_103 : decode cX11_bars 103 = .ok (.invokevirtual 116, 3) := by decide +kernel
theorem dX11_bars_106 : decode cX11_bars 106 = .ok (.isub, 1) := by decide +kernel
theorem dX11_bars_107 : decode cX11_bars 107 = .ok (.imul, 1) := by decide +kernel
theorem dX11_bars_108 : decode cX11_bars 108 = .ok (.iload 5, 2) := by decide +kernel
theorem dX11_bars_110 : decode cX11_bars 110 = .ok (.iload 6, 2) := by decide +kernel
theorem dX11_bars_112 : decode cX11_bars 112 = .ok (.invokevirtual 128, 3) := by decide +kernel
theorem dX11_bars_115 : decode cX11_bars 115 = .ok (.aload_n 0, 1) := by decide +kernel
theorem dX11_bars_116 : decode cX11_bars 116 = .ok (.getfield 123, 3) := by decide +kernel
theorem dX11_bars_119 : decode cX11_bars 119 = .ok (.aload_n 0, 1) := by decide +kernel
theorem dX11_bars_120 : decode cX11_bars 120 = .ok (.getfield 119, 3) := by decide +kernel
theorem dX11_bars_123 : decode cX11_bars 123 = .ok (.if_icmp .ge 23, 3) := by decide +kernel
theorem dX11_bars_146 : decode cX11_bars 146 = .ok (.iconst 0, 1) := by decide +kernel
theorem dX11_bars_147 : decode cX11_bars 147 = .ok (.ireturn, 1) := by decide +kernel
theorem dX11_bars_126 : decode cX11_bars 126 = .ok (.aload_n 0, 1) := by decide +kernel
theorem dX11_bars_127 : decode cX11_bars 127 = .ok (.getfield 123, 3) := by decide +kernel
theorem dX11_bars_130 : decode cX11_bars 130 = .ok (.iload 6, 2) := by decide +kernel
theorem dX11_bars_132 : decode cX11_bars 132 = .ok (.if_icmp .ge 14, 3) := by decide +kernel
theorem dX11_bars_135 : decode cX11_bars 135 = .ok (.aload_n 0, 1) := by decide +kernel
theorem dX11_bars_136 : decode cX11_bars 136 = .ok (.getfield 119, 3) := by decide +kernel
theorem dX11_bars_139 : decode cX11_bars 139 = .ok (.ifCond .le 7, 3) := by decide +kernel
theorem dX11_bars_142 : decode cX11_bars 142 = .ok (.iconst 1, 1) := by decide +kernel
theorem dX11_bars_143 : decode cX11_bars 143 = .ok (.goto 4, 3) := by decide +kernel
theorem dX11_bars_46 : decode cX11_bars 46 = .ok (.ifCond .ne 7, 3) := by decide +kernel
theorem dX11_bars_53 : decode cX11_bars 53 = .ok (.iload 5, 2) := by decide +kernel
set_option maxRecDepth 20000 in
theorem ggX11_bars_X11_size : GoodIn wsX11_bars wsX11_size := goodIn_r _ [21] (by decide +kernel) (by decide +kernel)
set_option maxRecDepth 20000 in
theorem gX11_bars_X11_size : GoodIn wsX11_bars (va_wsS RX11 113 yX11_size wsX11_size) := goodIn_app (goodIn_of _ (by decide +kernel)) ggX11_bars_X11_size
theorem dX11_bars_55 : decode cX11_bars 55 = .ok (.invokestatic 113, 3) := by decide +kernel
theorem dX11_bars_49 : decode cX11_bars 49 = .ok (.iconst 1, 1) := by decide +kernel
theorem dX11_bars_50 : decode cX11_bars 50 = .ok (.goto 8, 3) := by decide +kernel
theorem dX11_bars_32 : decode cX11_bars 32 = .ok (.ifCond .ne 7, 3) := by decide +kernel
theorem dX11_bars_39 : decode cX11_bars 39 = .ok (.iload 4, 2) := by decide +kernel
theorem dX11_bars_41 : decode cX11_bars 41 = .ok (.invokestatic 113, 3) := by decide +kernel
theorem dX11_bars_35 : decode cX11_bars 35 = .ok (.iconst 1, 1) := by decide +kernel
theorem dX11_bars_36 : decode cX11_bars 36 = .ok (.goto 8, 3) := by decide +kernel
theorem dX11_isClear_0 : decode cX11_isClear 0 = .ok (.iconst 1, 1) := by decide +kernel
theorem dX11_isClear_1 : decode cX11_isClear 1 = .ok (.istore_n 3, 1) := by decide +kernel
theorem dX11_isClear_2 : decode cX11_isClear 2 = .ok (.iconst 0, 1) := by decide +kernel
theorem dX11_isClear_3 : decode cX11_isClear 3 = .ok (.istore 4, 2) := by decide +kernel
theorem dX11_isClear_5 : decode cX11_isClear 5 = .ok (.iload 4, 2) := by decide +kernel
theorem dX11_isClear_7 : decode cX11_isClear 7 = .ok (.aload_n 0, 1) := by decide +kernel
set_option maxRecDepth 20000 in
theorem ggX11_isClear_X11_squares : GoodIn wsX11_isClear wsX11_squares := goodIn_r _ [6, 1, 34, 35, 36, 37, 38, 39, 40, 41, 42, 43, 44, 45, 46, 47, 48, 49, 50, 51, 52] (by decide +kernel) (by decide +kernel)
set_option maxRecDepth 20000 in
theorem gX11_isClear_X11_squares : GoodIn wsX11_isClear (wsV RX11 45 RX11 yX11_squares wsX11_squares) := goodIn_app (goodIn_of _ (by decide +kernel)) ggX11_isClear_X11_squares
theorem dX11_isClear_8 : decode cX11_isClear 8 = .ok (.invokevirtual 45, 3) := by decide +kernel
theorem dX11_isClear_11 : decode cX11_isClear 11 = .ok (.if_icmp .ge 55, 3) := by decide +kernel
theorem dX11_isClear_66 : decode cX11_isClear 66 = .ok (.iload_n 3, 1) := by decide +kernel
theorem dX11_isClear_67 : decode cX11_isClear 67 = .ok (.ireturn, 1) := by decide +kernel
theorem dX11_isClear_14 : decode cX11_isClear 14 = .ok (.iload_n 3, 1) := by decide +kernel
theorem dX11_isClear_15 : decode cX11_isClear 15 = .ok (.ifCond .eq 51, 3) := by decide +kernel
theorem dX11_isClear_18 : decode cX11_isClear 18 = .ok (.aload_n 0, 1) := by decide +kernel
theorem dX11_isClear_19 : decode cX11_isClear 19 = .ok (.getfield 7, 3) := by decide +kernel
theorem dX11_isClear_22 : decode cX11_isClear 22 = .ok (.bipush 20, 2) := by decide +kernel
theorem dX11_isClear_24 : decode cX11_isClear 24 = .ok (.iload 4, 2) := by decide +kernel
theorem dX11_isClear_26 : decode cX11_isClear 26 = .ok (.iadd, 1) := by decide +kernel
theorem dX11_isClear_27 : decode cX11_isClear 27 = .ok (.iaload, 1) := by decide +kernel
theorem dX11_isClear_28 : decode cX11_isClear 28 = .ok (.ifCond .eq 26, 3) := by decide +kernel
theorem dX11_isClear_54 : decode cX11_isClear 54 = .ok (.iconst 1, 1) := by decide +kernel
theorem dX11_isClear_55 : decode cX11_isClear 55 = .ok (.goto 4, 3) := by decide +kernel
theorem dX11_isClear_59 : decode cX11_isClear 59 = .ok (.istore_n 3, 1) := by decide +kernel
theorem dX11_isClear_60 : decode cX11_isClear 60 = .ok (.iinc 4 1, 3) := by decide +kernel
theorem dX11_isClear_63 : decode cX11_isClear 63 = .ok (.goto (-58), 3) := by decide +kernel
theorem dX11_isClear_31 : decode cX11_isClear 31 = .ok (.iload 4, 2) := by decide +kernel
theorem dX11_isClear_33 : decode cX11_isClear 33 = .ok (.iload_n 1, 1) := by decide +kernel
theorem dX11_isClear_34 : decode cX11_isClear 34 = .ok (.if_icmp .eq 20, 3) := by decide +kernel
theorem dX11_isClear_37 : decode cX11_isClear 37 = .ok (.iload 4, 2) := by decide +kernel
theorem dX11_isClear_39 : decode cX11_isClear 39 = .ok (.iload_n 2, 1) := by decide +kernel
theorem dX11_isClear_40 : decode cX11_isClear 40 = .ok (.if_icmp .eq 14, 3) := by decide +kernel
theorem dX11_isClear_43 : decode cX11_isClear 43 = .ok (.aload_n 0, 1) := by decide +kernel
theorem dX11_isClear_44 : decode cX11_isClear 44 = .ok (.iload 4, 2) := by decide +kernel
theorem dX11_isClear_46 : decode cX11_isClear 46 = .ok (.iload_n 1, 1) := by decide +kernel
theorem dX11_isClear_47 : decode cX11_isClear 47 = .ok (.iload_n 2, 1) := by decide +kernel
set_option maxRecDepth 20000 in
theorem ggX11_isClear_X11_bars : GoodIn wsX11_isClear wsX11_bars := goodIn_r _ [10, 11, 12, 13, 14, 15, 16, 17, 5, 18, 19, 20, 21, 22, 1, 23, 24, 25, 26, 27, 28, 29, 30, 31, 32, 33, 34, 35, 36, 37, 38, 39, 40, 41, 42, 43, 44, 45, 46, 47, 48, 49, 50, 51, 52] (by decide +kernel) (by decide +kernel)
set_option maxRecDepth 20000 in
theorem gX11_isClear_X11_bars : GoodIn wsX11_isClear (wsV RX11 132 RX11 yX11_bars wsX11_bars) := goodIn_app (goodIn_of _ (by decide +kernel)) ggX11_isClear_X11_bars
theorem dX11_isClear_48 : decode cX11_isClear 48 = .ok (.invokevirtual 132, 3) := by decide +kernel
theorem dX11_isClear_51 : decode cX11_isClear 51 = .ok (.ifCond .ne 7, 3) := by decide +kernel
theorem dX11_isClear_58 : decode cX11_isClear 58 = .ok (.iconst 0, 1) := by decide +kernel
set_option maxHeartbeats 4000000 in
set_option maxRecDepth 100000 in
theorem n_X11_in (l : Launch) (D : va_G) (cy : Nat → ClassId) (px : Int64) (py : Int64) (pz : Int64) (sz : Nat)  : Met l yX11_in wsX11_in ({ frames := 0, cells := 0, slots := 0, locals := 0 }) (va_Pc [.long px, .long py, .long pz] (kPre D cy [] sz)) (va_Qi (fun (r : Int32) (u : Unit) => (r = 1 ∧ (py ≤ px ∧ px ≤ pz)) ∨ (r = 0 ∧ (¬ (py ≤ px ∧ px ≤ pz)))) (fun _ _ => True) (fun q : Nat => sz ≤ q)) 0 0 (fun q : Nat => sz ≤ q) := by
  refine Met.ofW (cc := cX11_in) (maxL := 6) (ret := (some .boolean)) (by decide) rfl ?_
  intro p e s m args below meth c s₁ B hml hv
  obtain ⟨rfl, hsz, hP, hKA, hD0⟩ := hv
  have hx := B.exec
  have hb := B.bytes
  have hr := B.returns
  have hts := atoms_spec (ws := wsX11_in) B.pre
  have hown : s.vm.findClass RX11 = some m.cls := findClass_of_methodNamed B.named
  have hlocks := B.notSynchronized
  subst hsz
  have hK := hKA.1
  have hD := hD0
  generalize hAe : (fun q : Nat => s.heap.size ≤ q) = A
  have hA : ∀ q : Nat, s.heap.size ≤ q → A q := fun q h => by rw [← hAe]; exact h
  have hS : va_S A s.heap s.heap [] := va_S.rf
  have hP : va_P D vwCl [] s.heap := hP
  have hl := lv_entry ([.long px, .long py, .long pz]) (n := 6) (Nat.le_of_ble_eq_true rfl)
  rw [lg_entry_eq]
  generalize (lg_sl ([.long px, .long py, .long pz]) ++ List.replicate (6 - (lg_sl ([.long px, .long py, .long pz])).length) Slot.unset).toArray = ls at hl ⊢
  have hl : lv_has ls 6 [(0, .long px), (2, .long py), (4, .long pz)] := hl
  refine qW (fun QF hQF => ?_)
  refine lv_lload_n hx hb dX11_in_0 rfl (lv_at hl 0 rfl) ?_
  refine lv_lload_n hx hb dX11_in_1 rfl (lv_at hl 1 rfl) ?_
  refine W.lcmp hx hb dX11_in_2 ?_
  refine lv_if_lt (tgt := 17) hx hb dX11_in_3 (by decide) (fun c1 => ?_) (fun c1 => ?_)
  · skip
    refine lv_iconst (v := 0) hx hb dX11_in_17 (by decide) ?_
    subst hQF
    exact W.zret (v := 0) hx hb hr rfl (fun t ht hW => ⟨⟨0, (), rfl, (by first | exact Or.inl ⟨rfl, Int64.not_lt.mp (fun q => absurd ((lg_cmp_lt _ _).mpr q) (by assumption)), Int64.not_lt.mp (fun q => absurd ((lg_cmp_gt _ _).mpr q) (by assumption))⟩ | exact Or.inr ⟨rfl, fun q => absurd ((lg_cmp_lt _ _).mp (by assumption)) (Int64.not_lt.mpr q.1)⟩ | exact Or.inr ⟨rfl, fun q => absurd ((lg_cmp_gt _ _).mp (by assumption)) (Int64.not_lt.mpr q.2)⟩), trivial⟩, hS.F ht⟩) hS.2.2 dX11_in_18
  · skip
    refine lv_lload_n hx hb dX11_in_6 rfl (lv_at hl 0 rfl) ?_
    refine lv_lload hx hb dX11_in_7 (lv_at hl 2 rfl) ?_
    refine W.lcmp hx hb dX11_in_9 ?_
    refine lv_if_gt (tgt := 17) hx hb dX11_in_10 (by decide) (fun c2 => ?_) (fun c2 => ?_)
    · skip
      refine lv_iconst (v := 0) hx hb dX11_in_17 (by decide) ?_
      subst hQF
      exact W.zret (v := 0) hx hb hr rfl (fun t ht hW => ⟨⟨0, (), rfl, (by first | exact Or.inl ⟨rfl, Int64.not_lt.mp (fun q => absurd ((lg_cmp_lt _ _).mpr q) (by assumption)), Int64.not_lt.mp (fun q => absurd ((lg_cmp_gt _ _).mpr q) (by assumption))⟩ | exact Or.inr ⟨rfl, fun q => absurd ((lg_cmp_lt _ _).mp (by assumption)) (Int64.not_lt.mpr q.1)⟩ | exact Or.inr ⟨rfl, fun q => absurd ((lg_cmp_gt _ _).mp (by assumption)) (Int64.not_lt.mpr q.2)⟩), trivial⟩, hS.F ht⟩) hS.2.2 dX11_in_18
    · skip
      refine lv_iconst (v := 1) hx hb dX11_in_13 (by decide) ?_
      refine lv_goto (tgt := 18) hx hb dX11_in_14 (by decide) ?_
      subst hQF
      exact W.zret (v := 1) hx hb hr rfl (fun t ht hW => ⟨⟨1, (), rfl, (by first | exact Or.inl ⟨rfl, Int64.not_lt.mp (fun q => absurd ((lg_cmp_lt _ _).mpr q) (by assumption)), Int64.not_lt.mp (fun q => absurd ((lg_cmp_gt _ _).mpr q) (by assumption))⟩ | exact Or.inr ⟨rfl, fun q => absurd ((lg_cmp_lt _ _).mp (by assumption)) (Int64.not_lt.mpr q.1)⟩ | exact Or.inr ⟨rfl, fun q => absurd ((lg_cmp_gt _ _).mp (by assumption)) (Int64.not_lt.mpr q.2)⟩), trivial⟩, hS.F ht⟩) hS.2.2 dX11_in_18

set_option maxHeartbeats 4000000 in
set_option maxRecDepth 100000 in
theorem n_X11_bad (l : Launch) (D : va_G) (cy : Nat → ClassId) (mm : Nat) (mm_now : Nat) (mm_kept : Nat) (mm_isKept : Nat) (mm_refused : Nat) (mm_lineFrom : Int32) (mm_lineTo : Int32) (mm_stands : Nat) (mm_far : Nat) (mm_queue : Nat) (mm_queued : Int32) (mm_meets : Nat) (mm_bytes : Nat) (bl : Nat) (ta : Nat) (tl : Nat) (mm_token : Int32) (mm_value : Int32) (mm_next : Nat) (tk : Nat) (mm_refused_f : Nat → Int32) (px : Int32) (sz : Nat)  : Met l yX11_bad wsX11_bad ({ frames := 0, cells := 0, slots := 0, locals := 0 }) (va_Pc [.ref mm, .int px] (kPre D cy [(mm, .inr (11, [.ref mm_now, .ref mm_kept, .ref mm_isKept, .ref mm_refused, .int mm_lineFrom, .int mm_lineTo, .ref mm_stands, .ref mm_far, .ref mm_queue, .int mm_queued, .ref mm_meets, .ref mm_bytes, .int (nI bl), .int (nI ta), .int (nI tl), .int mm_token, .int mm_value, .ref mm_next, .int (nI tk)])), (mm_refused, .inl (cy 1, 3, .inl mm_refused_f))] sz)) (va_Qi (fun (r : Int32) (u : (Nat → Int32)) => r = px) (fun (u : (Nat → Int32)) t => va_P D vwCl ([(mm, .inr (11, [.ref mm_now, .ref mm_kept, .ref mm_isKept, .ref mm_refused, .int mm_lineFrom, .int mm_lineTo, .ref mm_stands, .ref mm_far, .ref mm_queue, .int mm_queued, .ref mm_meets, .ref mm_bytes, .int (nI bl), .int (nI ta), .int (nI tl), .int mm_token, .int mm_value, .ref mm_next, .int (nI tk)])), (mm_refused, .inl (cy 1, 3, .inl u))]) t.heap ∧ va_D (va_A [(mm, .inr (11, [.ref mm_now, .ref mm_kept, .ref mm_isKept, .ref mm_refused, .int mm_lineFrom, .int mm_lineTo, .ref mm_stands, .ref mm_far, .ref mm_queue, .int mm_queued, .ref mm_meets, .ref mm_bytes, .int (nI bl), .int (nI ta), .int (nI tl), .int mm_token, .int mm_value, .ref mm_next, .int (nI tk)])), (mm_refused, .inl (cy 1, 3, .inl mm_refused_f))] sz) ([(mm, .inr (11, [.ref mm_now, .ref mm_kept, .ref mm_isKept, .ref mm_refused, .int mm_lineFrom, .int mm_lineTo, .ref mm_stands, .ref mm_far, .ref mm_queue, .int mm_queued, .ref mm_meets, .ref mm_bytes, .int (nI bl), .int (nI ta), .int (nI tl), .int mm_token, .int mm_value, .ref mm_next, .int (nI tk)])), (mm_refused, .inl (cy 1, 3, .inl u))])) (va_A [(mm, .inr (11, [.ref mm_now, .ref mm_kept, .ref mm_isKept, .ref mm_refused, .int mm_lineFrom, .int mm_lineTo, .ref mm_stands, .ref mm_far, .ref mm_queue, .int mm_queued, .ref mm_meets, .ref mm_bytes, .int (nI bl), .int (nI ta), .int (nI tl), .int mm_token, .int mm_value, .ref mm_next, .int (nI tk)])), (mm_refused, .inl (cy 1, 3, .inl mm_refused_f))] sz)) 0 0 (va_A [(mm, .inr (11, [.ref mm_now, .ref mm_kept, .ref mm_isKept, .ref mm_refused, .int mm_lineFrom, .int mm_lineTo, .ref mm_stands, .ref mm_far, .ref mm_queue, .int mm_queued, .ref mm_meets, .ref mm_bytes, .int (nI bl), .int (nI ta), .int (nI tl), .int mm_token, .int mm_value, .ref mm_next, .int (nI tk)])), (mm_refused, .inl (cy 1, 3, .inl mm_refused_f))] sz) := by
  refine Met.ofW (cc := cX11_bad) (maxL := 2) (ret := (some .int)) (by decide) rfl ?_
  intro p e s m args below meth c s₁ B hml hv
  obtain ⟨rfl, hsz, hP, hKA, hD0⟩ := hv
  have hx := B.exec
  have hb := B.bytes
  have hr := B.returns
  have hts := atoms_spec (ws := wsX11_bad) B.pre
  have hown : s.vm.findClass RX11 = some m.cls := findClass_of_methodNamed B.named
  have hlocks := B.notSynchronized
  subst hsz
  have hK := hKA.1
  have hD := hD0.self (sz := s.heap.size)
  generalize hAe : va_A [(mm, .inr (11, [.ref mm_now, .ref mm_kept, .ref mm_isKept, .ref mm_refused, .int mm_lineFrom, .int mm_lineTo, .ref mm_stands, .ref mm_far, .ref mm_queue, .int mm_queued, .ref mm_meets, .ref mm_bytes, .int (nI bl), .int (nI ta), .int (nI tl), .int mm_token, .int mm_value, .ref mm_next, .int (nI tk)])), (mm_refused, .inl (cy 1, 3, .inl mm_refused_f))] s.heap.size = A at hD ⊢
  have hA : ∀ q : Nat, s.heap.size ≤ q → A q := fun q h => by rw [← hAe]; exact Or.inr h
  have hS : va_S A s.heap s.heap [] := va_S.rf
  have hP : va_P D vwCl [(mm, .inr (11, [.ref mm_now, .ref mm_kept, .ref mm_isKept, .ref mm_refused, .int mm_lineFrom, .int mm_lineTo, .ref mm_stands, .ref mm_far, .ref mm_queue, .int mm_queued, .ref mm_meets, .ref mm_bytes, .int (nI bl), .int (nI ta), .int (nI tl), .int mm_token, .int mm_value, .ref mm_next, .int (nI tk)])), (mm_refused, .inl (cy 1, 3, .inl mm_refused_f))] s.heap := hP
  have hl := lv_entry ([.ref mm, .int px]) (n := 2) (Nat.le_of_ble_eq_true rfl)
  rw [lg_entry_eq]
  generalize (lg_sl ([.ref mm, .int px]) ++ List.replicate (2 - (lg_sl ([.ref mm, .int px])).length) Slot.unset).toArray = ls at hl ⊢
  have hl : lv_has ls 2 [(0, .ref mm), (1, .int px)] := hl
  refine qW (fun QF hQF => ?_)
  have z0_ := hts (.fieldLink RX11 20 "HeardSeenModel" "refused" "[I") (by decide +kernel)
  have zi11_ : ∀ w ∈ u_ws RX11 TX11 19, w ∈ wsX11_bad := by decide +kernel
  refine lv_aload_n hx hb dX11_bad_0 rfl (lv_at hl 0 rfl) ?_
  refine va_get (D := D) (ci := 11) (v := .ref mm_refused) (C := RX11) (T := TX11) (N := 19) hx hb hts zi11_ hown hK hP 0 rfl rfl 3 (by decide) z0_ (fun _ h9 => h9) rfl dX11_bad_1 ?_
  refine lv_iconst (v := 0) hx hb dX11_bad_4 (by decide) ?_
  refine lv_dup2_11 hx hb dX11_bad_5 rfl rfl ?_
  refine my_iald hx hb hK hP 1 1 rfl rfl (by rw [vp_in_iff]; decide +kernel) (k := 0) (by decide +kernel) dX11_bad_6 ?_
  refine lv_iconst (v := 1) hx hb dX11_bad_7 (by decide) ?_
  refine lv_iadd hx hb dX11_bad_8 ?_
  refine lv_topi (fun x1 ex1 => ?_)
  refine my_iast hx hb hK hP hD hS 1 1 rfl rfl (by rw [vp_in_iff]; decide +kernel) (k := 0) (by decide +kernel) dX11_bad_9 (fun H locs hP hD hS => ?_)
  have hP : va_P D vwCl [(mm, .inr (11, [.ref mm_now, .ref mm_kept, .ref mm_isKept, .ref mm_refused, .int mm_lineFrom, .int mm_lineTo, .ref mm_stands, .ref mm_far, .ref mm_queue, .int mm_queued, .ref mm_meets, .ref mm_bytes, .int (nI bl), .int (nI ta), .int (nI tl), .int mm_token, .int mm_value, .ref mm_next, .int (nI tk)])), (mm_refused, .inl (cy 1, 3, .inl (upd mm_refused_f 0 x1)))] H := hP
  have hD : va_D A [(mm, .inr (11, [.ref mm_now, .ref mm_kept, .ref mm_isKept, .ref mm_refused, .int mm_lineFrom, .int mm_lineTo, .ref mm_stands, .ref mm_far, .ref mm_queue, .int mm_queued, .ref mm_meets, .ref mm_bytes, .int (nI bl), .int (nI ta), .int (nI tl), .int mm_token, .int mm_value, .ref mm_next, .int (nI tk)])), (mm_refused, .inl (cy 1, 3, .inl (upd mm_refused_f 0 x1)))] := hD
  refine lv_iload_n hx hb dX11_bad_10 rfl (lv_at hl 1 rfl) ?_
  subst hQF
  have hP9 := hP
  have hD9 := hD
  exact W.iret (v := px) hx hb hr (fun t ht hW => ⟨⟨px, (upd mm_refused_f 0 x1), rfl, rfl, by rw [ht]; exact hP9, hD9⟩, hS.F ht⟩) hS.2.2 dX11_bad_11

set_option maxHeartbeats 4000000 in
set_option maxRecDepth 100000 in
theorem n_X11_no (l : Launch) (D : va_G) (cy : Nat → ClassId) (mm : Nat) (mm_now : Nat) (mm_kept : Nat) (mm_isKept : Nat) (mm_refused : Nat) (mm_lineFrom : Int32) (mm_lineTo : Int32) (mm_stands : Nat) (mm_far : Nat) (mm_queue : Nat) (mm_queued : Int32) (mm_meets : Nat) (mm_bytes : Nat) (bl : Nat) (ta : Nat) (tl : Nat) (mm_token : Int32) (mm_value : Int32) (mm_next : Nat) (tk : Nat) (mm_refused_f : Nat → Int32) (px : Int32) (sz : Nat)  : Met l yX11_no wsX11_no ({ frames := 0, cells := 0, slots := 0, locals := 0 }) (va_Pc [.ref mm, .int px] (kPre D cy [(mm, .inr (11, [.ref mm_now, .ref mm_kept, .ref mm_isKept, .ref mm_refused, .int mm_lineFrom, .int mm_lineTo, .ref mm_stands, .ref mm_far, .ref mm_queue, .int mm_queued, .ref mm_meets, .ref mm_bytes, .int (nI bl), .int (nI ta), .int (nI tl), .int mm_token, .int mm_value, .ref mm_next, .int (nI tk)])), (mm_refused, .inl (cy 1, 3, .inl mm_refused_f))] sz)) (va_Qi (fun (r : Int32) (u : (Nat → Int32)) => r = px) (fun (u : (Nat → Int32)) t => va_P D vwCl ([(mm, .inr (11, [.ref mm_now, .ref mm_kept, .ref mm_isKept, .ref mm_refused, .int mm_lineFrom, .int mm_lineTo, .ref mm_stands, .ref mm_far, .ref mm_queue, .int mm_queued, .ref mm_meets, .ref mm_bytes, .int (nI bl), .int (nI ta), .int (nI tl), .int mm_token, .int mm_value, .ref mm_next, .int (nI tk)])), (mm_refused, .inl (cy 1, 3, .inl u))]) t.heap ∧ va_D (va_A [(mm, .inr (11, [.ref mm_now, .ref mm_kept, .ref mm_isKept, .ref mm_refused, .int mm_lineFrom, .int mm_lineTo, .ref mm_stands, .ref mm_far, .ref mm_queue, .int mm_queued, .ref mm_meets, .ref mm_bytes, .int (nI bl), .int (nI ta), .int (nI tl), .int mm_token, .int mm_value, .ref mm_next, .int (nI tk)])), (mm_refused, .inl (cy 1, 3, .inl mm_refused_f))] sz) ([(mm, .inr (11, [.ref mm_now, .ref mm_kept, .ref mm_isKept, .ref mm_refused, .int mm_lineFrom, .int mm_lineTo, .ref mm_stands, .ref mm_far, .ref mm_queue, .int mm_queued, .ref mm_meets, .ref mm_bytes, .int (nI bl), .int (nI ta), .int (nI tl), .int mm_token, .int mm_value, .ref mm_next, .int (nI tk)])), (mm_refused, .inl (cy 1, 3, .inl u))])) (va_A [(mm, .inr (11, [.ref mm_now, .ref mm_kept, .ref mm_isKept, .ref mm_refused, .int mm_lineFrom, .int mm_lineTo, .ref mm_stands, .ref mm_far, .ref mm_queue, .int mm_queued, .ref mm_meets, .ref mm_bytes, .int (nI bl), .int (nI ta), .int (nI tl), .int mm_token, .int mm_value, .ref mm_next, .int (nI tk)])), (mm_refused, .inl (cy 1, 3, .inl mm_refused_f))] sz)) 0 0 (va_A [(mm, .inr (11, [.ref mm_now, .ref mm_kept, .ref mm_isKept, .ref mm_refused, .int mm_lineFrom, .int mm_lineTo, .ref mm_stands, .ref mm_far, .ref mm_queue, .int mm_queued, .ref mm_meets, .ref mm_bytes, .int (nI bl), .int (nI ta), .int (nI tl), .int mm_token, .int mm_value, .ref mm_next, .int (nI tk)])), (mm_refused, .inl (cy 1, 3, .inl mm_refused_f))] sz) := by
  refine Met.ofW (cc := cX11_no) (maxL := 2) (ret := (some .int)) (by decide) rfl ?_
  intro p e s m args below meth c s₁ B hml hv
  obtain ⟨rfl, hsz, hP, hKA, hD0⟩ := hv
  have hx := B.exec
  have hb := B.bytes
  have hr := B.returns
  have hts := atoms_spec (ws := wsX11_no) B.pre
  have hown : s.vm.findClass RX11 = some m.cls := findClass_of_methodNamed B.named
  have hlocks := B.notSynchronized
  subst hsz
  have hK := hKA.1
  have hD := hD0.self (sz := s.heap.size)
  generalize hAe : va_A [(mm, .inr (11, [.ref mm_now, .ref mm_kept, .ref mm_isKept, .ref mm_refused, .int mm_lineFrom, .int mm_lineTo, .ref mm_stands, .ref mm_far, .ref mm_queue, .int mm_queued, .ref mm_meets, .ref mm_bytes, .int (nI bl), .int (nI ta), .int (nI tl), .int mm_token, .int mm_value, .ref mm_next, .int (nI tk)])), (mm_refused, .inl (cy 1, 3, .inl mm_refused_f))] s.heap.size = A at hD ⊢
  have hA : ∀ q : Nat, s.heap.size ≤ q → A q := fun q h => by rw [← hAe]; exact Or.inr h
  have hS : va_S A s.heap s.heap [] := va_S.rf
  have hP : va_P D vwCl [(mm, .inr (11, [.ref mm_now, .ref mm_kept, .ref mm_isKept, .ref mm_refused, .int mm_lineFrom, .int mm_lineTo, .ref mm_stands, .ref mm_far, .ref mm_queue, .int mm_queued, .ref mm_meets, .ref mm_bytes, .int (nI bl), .int (nI ta), .int (nI tl), .int mm_token, .int mm_value, .ref mm_next, .int (nI tk)])), (mm_refused, .inl (cy 1, 3, .inl mm_refused_f))] s.heap := hP
  have hl := lv_entry ([.ref mm, .int px]) (n := 2) (Nat.le_of_ble_eq_true rfl)
  rw [lg_entry_eq]
  generalize (lg_sl ([.ref mm, .int px]) ++ List.replicate (2 - (lg_sl ([.ref mm, .int px])).length) Slot.unset).toArray = ls at hl ⊢
  have hl : lv_has ls 2 [(0, .ref mm), (1, .int px)] := hl
  refine qW (fun QF hQF => ?_)
  have z0_ := hts (.fieldLink RX11 20 "HeardSeenModel" "refused" "[I") (by decide +kernel)
  have zi11_ : ∀ w ∈ u_ws RX11 TX11 19, w ∈ wsX11_no := by decide +kernel
  refine lv_aload_n hx hb dX11_no_0 rfl (lv_at hl 0 rfl) ?_
  refine va_get (D := D) (ci := 11) (v := .ref mm_refused) (C := RX11) (T := TX11) (N := 19) hx hb hts zi11_ hown hK hP 0 rfl rfl 3 (by decide) z0_ (fun _ h9 => h9) rfl dX11_no_1 ?_
  refine lv_iconst (v := 1) hx hb dX11_no_4 (by decide) ?_
  refine lv_dup2_11 hx hb dX11_no_5 rfl rfl ?_
  refine my_iald hx hb hK hP 1 1 rfl rfl (by rw [vp_in_iff]; decide +kernel) (k := 1) (by decide +kernel) dX11_no_6 ?_
  refine lv_iconst (v := 1) hx hb dX11_no_7 (by decide) ?_
  refine lv_iadd hx hb dX11_no_8 ?_
  refine lv_topi (fun x1 ex1 => ?_)
  refine my_iast hx hb hK hP hD hS 1 1 rfl rfl (by rw [vp_in_iff]; decide +kernel) (k := 1) (by decide +kernel) dX11_no_9 (fun H locs hP hD hS => ?_)
  have hP : va_P D vwCl [(mm, .inr (11, [.ref mm_now, .ref mm_kept, .ref mm_isKept, .ref mm_refused, .int mm_lineFrom, .int mm_lineTo, .ref mm_stands, .ref mm_far, .ref mm_queue, .int mm_queued, .ref mm_meets, .ref mm_bytes, .int (nI bl), .int (nI ta), .int (nI tl), .int mm_token, .int mm_value, .ref mm_next, .int (nI tk)])), (mm_refused, .inl (cy 1, 3, .inl (upd mm_refused_f 1 x1)))] H := hP
  have hD : va_D A [(mm, .inr (11, [.ref mm_now, .ref mm_kept, .ref mm_isKept, .ref mm_refused, .int mm_lineFrom, .int mm_lineTo, .ref mm_stands, .ref mm_far, .ref mm_queue, .int mm_queued, .ref mm_meets, .ref mm_bytes, .int (nI bl), .int (nI ta), .int (nI tl), .int mm_token, .int mm_value, .ref mm_next, .int (nI tk)])), (mm_refused, .inl (cy 1, 3, .inl (upd mm_refused_f 1 x1)))] := hD
  refine lv_iload_n hx hb dX11_no_10 rfl (lv_at hl 1 rfl) ?_
  subst hQF
  have hP9 := hP
  have hD9 := hD
  exact W.iret (v := px) hx hb hr (fun t ht hW => ⟨⟨px, (upd mm_refused_f 1 x1), rfl, rfl, by rw [ht]; exact hP9, hD9⟩, hS.F ht⟩) hS.2.2 dX11_no_11

set_option maxHeartbeats 4000000 in
set_option maxRecDepth 100000 in
theorem n_X11_full (l : Launch) (D : va_G) (cy : Nat → ClassId) (mm : Nat) (mm_now : Nat) (mm_kept : Nat) (mm_isKept : Nat) (mm_refused : Nat) (mm_lineFrom : Int32) (mm_lineTo : Int32) (mm_stands : Nat) (mm_far : Nat) (mm_queue : Nat) (mm_queued : Int32) (mm_meets : Nat) (mm_bytes : Nat) (bl : Nat) (ta : Nat) (tl : Nat) (mm_token : Int32) (mm_value : Int32) (mm_next : Nat) (tk : Nat) (mm_refused_f : Nat → Int32) (sz : Nat)  : Met l yX11_full wsX11_full ({ frames := 0, cells := 0, slots := 0, locals := 0 }) (va_Pc [.ref mm] (kPre D cy [(mm, .inr (11, [.ref mm_now, .ref mm_kept, .ref mm_isKept, .ref mm_refused, .int mm_lineFrom, .int mm_lineTo, .ref mm_stands, .ref mm_far, .ref mm_queue, .int mm_queued, .ref mm_meets, .ref mm_bytes, .int (nI bl), .int (nI ta), .int (nI tl), .int mm_token, .int mm_value, .ref mm_next, .int (nI tk)])), (mm_refused, .inl (cy 1, 3, .inl mm_refused_f))] sz)) (va_Qi (fun (r : Int32) (u : (Nat → Int32)) => r = -4) (fun (u : (Nat → Int32)) t => va_P D vwCl ([(mm, .inr (11, [.ref mm_now, .ref mm_kept, .ref mm_isKept, .ref mm_refused, .int mm_lineFrom, .int mm_lineTo, .ref mm_stands, .ref mm_far, .ref mm_queue, .int mm_queued, .ref mm_meets, .ref mm_bytes, .int (nI bl), .int (nI ta), .int (nI tl), .int mm_token, .int mm_value, .ref mm_next, .int (nI tk)])), (mm_refused, .inl (cy 1, 3, .inl u))]) t.heap ∧ va_D (va_A [(mm, .inr (11, [.ref mm_now, .ref mm_kept, .ref mm_isKept, .ref mm_refused, .int mm_lineFrom, .int mm_lineTo, .ref mm_stands, .ref mm_far, .ref mm_queue, .int mm_queued, .ref mm_meets, .ref mm_bytes, .int (nI bl), .int (nI ta), .int (nI tl), .int mm_token, .int mm_value, .ref mm_next, .int (nI tk)])), (mm_refused, .inl (cy 1, 3, .inl mm_refused_f))] sz) ([(mm, .inr (11, [.ref mm_now, .ref mm_kept, .ref mm_isKept, .ref mm_refused, .int mm_lineFrom, .int mm_lineTo, .ref mm_stands, .ref mm_far, .ref mm_queue, .int mm_queued, .ref mm_meets, .ref mm_bytes, .int (nI bl), .int (nI ta), .int (nI tl), .int mm_token, .int mm_value, .ref mm_next, .int (nI tk)])), (mm_refused, .inl (cy 1, 3, .inl u))])) (va_A [(mm, .inr (11, [.ref mm_now, .ref mm_kept, .ref mm_isKept, .ref mm_refused, .int mm_lineFrom, .int mm_lineTo, .ref mm_stands, .ref mm_far, .ref mm_queue, .int mm_queued, .ref mm_meets, .ref mm_bytes, .int (nI bl), .int (nI ta), .int (nI tl), .int mm_token, .int mm_value, .ref mm_next, .int (nI tk)])), (mm_refused, .inl (cy 1, 3, .inl mm_refused_f))] sz)) 0 0 (va_A [(mm, .inr (11, [.ref mm_now, .ref mm_kept, .ref mm_isKept, .ref mm_refused, .int mm_lineFrom, .int mm_lineTo, .ref mm_stands, .ref mm_far, .ref mm_queue, .int mm_queued, .ref mm_meets, .ref mm_bytes, .int (nI bl), .int (nI ta), .int (nI tl), .int mm_token, .int mm_value, .ref mm_next, .int (nI tk)])), (mm_refused, .inl (cy 1, 3, .inl mm_refused_f))] sz) := by
  refine Met.ofW (cc := cX11_full) (maxL := 1) (ret := (some .int)) (by decide) rfl ?_
  intro p e s m args below meth c s₁ B hml hv
  obtain ⟨rfl, hsz, hP, hKA, hD0⟩ := hv
  have hx := B.exec
  have hb := B.bytes
  have hr := B.returns
  have hts := atoms_spec (ws := wsX11_full) B.pre
  have hown : s.vm.findClass RX11 = some m.cls := findClass_of_methodNamed B.named
  have hlocks := B.notSynchronized
  subst hsz
  have hK := hKA.1
  have hD := hD0.self (sz := s.heap.size)
  generalize hAe : va_A [(mm, .inr (11, [.ref mm_now, .ref mm_kept, .ref mm_isKept, .ref mm_refused, .int mm_lineFrom, .int mm_lineTo, .ref mm_stands, .ref mm_far, .ref mm_queue, .int mm_queued, .ref mm_meets, .ref mm_bytes, .int (nI bl), .int (nI ta), .int (nI tl), .int mm_token, .int mm_value, .ref mm_next, .int (nI tk)])), (mm_refused, .inl (cy 1, 3, .inl mm_refused_f))] s.heap.size = A at hD ⊢
  have hA : ∀ q : Nat, s.heap.size ≤ q → A q := fun q h => by rw [← hAe]; exact Or.inr h
  have hS : va_S A s.heap s.heap [] := va_S.rf
  have hP : va_P D vwCl [(mm, .inr (11, [.ref mm_now, .ref mm_kept, .ref mm_isKept, .ref mm_refused, .int mm_lineFrom, .int mm_lineTo, .ref mm_stands, .ref mm_far, .ref mm_queue, .int mm_queued, .ref mm_meets, .ref mm_bytes, .int (nI bl), .int (nI ta), .int (nI tl), .int mm_token, .int mm_value, .ref mm_next, .int (nI tk)])), (mm_refused, .inl (cy 1, 3, .inl mm_refused_f))] s.heap := hP
  have hl := lv_entry ([.ref mm]) (n := 1) (Nat.le_of_ble_eq_true rfl)
  rw [lg_entry_eq]
  generalize (lg_sl ([.ref mm]) ++ List.replicate (1 - (lg_sl ([.ref mm])).length) Slot.unset).toArray = ls at hl ⊢
  have hl : lv_has ls 1 [(0, .ref mm)] := hl
  refine qW (fun QF hQF => ?_)
  have z0_ := hts (.fieldLink RX11 20 "HeardSeenModel" "refused" "[I") (by decide +kernel)
  have zi11_ : ∀ w ∈ u_ws RX11 TX11 19, w ∈ wsX11_full := by decide +kernel
  refine lv_aload_n hx hb dX11_full_0 rfl (lv_at hl 0 rfl) ?_
  refine va_get (D := D) (ci := 11) (v := .ref mm_refused) (C := RX11) (T := TX11) (N := 19) hx hb hts zi11_ hown hK hP 0 rfl rfl 3 (by decide) z0_ (fun _ h9 => h9) rfl dX11_full_1 ?_
  refine lv_iconst (v := 2) hx hb dX11_full_4 (by decide) ?_
  refine lv_dup2_11 hx hb dX11_full_5 rfl rfl ?_
  refine my_iald hx hb hK hP 1 1 rfl rfl (by rw [vp_in_iff]; decide +kernel) (k := 2) (by decide +kernel) dX11_full_6 ?_
  refine lv_iconst (v := 1) hx hb dX11_full_7 (by decide) ?_
  refine lv_iadd hx hb dX11_full_8 ?_
  refine lv_topi (fun x1 ex1 => ?_)
  refine my_iast hx hb hK hP hD hS 1 1 rfl rfl (by rw [vp_in_iff]; decide +kernel) (k := 2) (by decide +kernel) dX11_full_9 (fun H locs hP hD hS => ?_)
  have hP : va_P D vwCl [(mm, .inr (11, [.ref mm_now, .ref mm_kept, .ref mm_isKept, .ref mm_refused, .int mm_lineFrom, .int mm_lineTo, .ref mm_stands, .ref mm_far, .ref mm_queue, .int mm_queued, .ref mm_meets, .ref mm_bytes, .int (nI bl), .int (nI ta), .int (nI tl), .int mm_token, .int mm_value, .ref mm_next, .int (nI tk)])), (mm_refused, .inl (cy 1, 3, .inl (upd mm_refused_f 2 x1)))] H := hP
  have hD : va_D A [(mm, .inr (11, [.ref mm_now, .ref mm_kept, .ref mm_isKept, .ref mm_refused, .int mm_lineFrom, .int mm_lineTo, .ref mm_stands, .ref mm_far, .ref mm_queue, .int mm_queued, .ref mm_meets, .ref mm_bytes, .int (nI bl), .int (nI ta), .int (nI tl), .int mm_token, .int mm_value, .ref mm_next, .int (nI tk)])), (mm_refused, .inl (cy 1, 3, .inl (upd mm_refused_f 2 x1)))] := hD
  refine lv_bipush (v := (-4)) hx hb dX11_full_10 (by decide) ?_
  subst hQF
  have hP9 := hP
  have hD9 := hD
  exact W.iret (v := (-4)) hx hb hr (fun t ht hW => ⟨⟨(-4), (upd mm_refused_f 2 x1), rfl, rfl, by rw [ht]; exact hP9, hD9⟩, hS.F ht⟩) hS.2.2 dX11_full_12

set_option maxHeartbeats 4000000 in
set_option maxRecDepth 100000 in
theorem n_X11_wide (l : Launch) (D : va_G) (cy : Nat → ClassId) (mW : Nat) (mH : Nat) (mS : Nat) (mP : Nat) (mm : Nat) (mm_now : Nat) (mm_kept : Nat) (mm_isKept : Nat) (mm_refused : Nat) (mm_lineFrom : Int32) (mm_lineTo : Int32) (mm_stands : Nat) (mm_far : Nat) (mm_queue : Nat) (mm_queued : Int32) (mm_meets : Nat) (mm_bytes : Nat) (bl : Nat) (ta : Nat) (tl : Nat) (mm_token : Int32) (mm_value : Int32) (mm_next : Nat) (tk : Nat) (mm_now_f : Nat → Int32) (sz : Nat) (hF : mV mm_now_f mW mH mS mP) : Met l yX11_wide wsX11_wide ({ frames := 0, cells := 0, slots := 0, locals := 0 }) (va_Pc [.ref mm] (kPre D cy [(mm, .inr (11, [.ref mm_now, .ref mm_kept, .ref mm_isKept, .ref mm_refused, .int mm_lineFrom, .int mm_lineTo, .ref mm_stands, .ref mm_far, .ref mm_queue, .int mm_queued, .ref mm_meets, .ref mm_bytes, .int (nI bl), .int (nI ta), .int (nI tl), .int mm_token, .int mm_value, .ref mm_next, .int (nI tk)])), (mm_now, .inl (cy 1, 122, .inl mm_now_f))] sz)) (va_Qi (fun (r : Int32) (u : Unit) => r = nI mW) (fun _ _ => True) (fun q : Nat => sz ≤ q)) 0 0 (fun q : Nat => sz ≤ q) := by
  refine Met.ofW (cc := cX11_wide) (maxL := 1) (ret := (some .int)) (by decide) rfl ?_
  intro p e s m args below meth c s₁ B hml hv
  obtain ⟨rfl, hsz, hP, hKA, hD0⟩ := hv
  have hx := B.exec
  have hb := B.bytes
  have hr := B.returns
  have hts := atoms_spec (ws := wsX11_wide) B.pre
  have hown : s.vm.findClass RX11 = some m.cls := findClass_of_methodNamed B.named
  have hlocks := B.notSynchronized
  subst hsz
  have hK := hKA.1
  have hD := hD0
  generalize hAe : (fun q : Nat => s.heap.size ≤ q) = A
  have hA : ∀ q : Nat, s.heap.size ≤ q → A q := fun q h => by rw [← hAe]; exact h
  have hS : va_S A s.heap s.heap [] := va_S.rf
  have hP : va_P D vwCl [(mm, .inr (11, [.ref mm_now, .ref mm_kept, .ref mm_isKept, .ref mm_refused, .int mm_lineFrom, .int mm_lineTo, .ref mm_stands, .ref mm_far, .ref mm_queue, .int mm_queued, .ref mm_meets, .ref mm_bytes, .int (nI bl), .int (nI ta), .int (nI tl), .int mm_token, .int mm_value, .ref mm_next, .int (nI tk)])), (mm_now, .inl (cy 1, 122, .inl mm_now_f))] s.heap := hP
  have hl := lv_entry ([.ref mm]) (n := 1) (Nat.le_of_ble_eq_true rfl)
  rw [lg_entry_eq]
  generalize (lg_sl ([.ref mm]) ++ List.replicate (1 - (lg_sl ([.ref mm])).length) Slot.unset).toArray = ls at hl ⊢
  have hl : lv_has ls 1 [(0, .ref mm)] := hl
  refine qW (fun QF hQF => ?_)
  have z0_ := hts (.fieldLink RX11 7 "HeardSeenModel" "now" "[I") (by decide +kernel)
  have zi11_ : ∀ w ∈ u_ws RX11 TX11 19, w ∈ wsX11_wide := by decide +kernel
  obtain ⟨hW2, hW6, hH2, hH6, hSe, hS4, hS6, hP5⟩ := hF.rng
  refine lv_aload_n hx hb dX11_wide_0 rfl (lv_at hl 0 rfl) ?_
  refine va_get (D := D) (ci := 11) (v := .ref mm_now) (C := RX11) (T := TX11) (N := 19) hx hb hts zi11_ hown hK hP 0 rfl rfl 0 (by decide) z0_ (fun _ h9 => h9) rfl dX11_wide_1 ?_
  refine lv_iconst (v := 0) hx hb dX11_wide_4 (by decide) ?_
  refine my_iald hx hb hK hP 1 1 rfl rfl (by rw [vp_in_iff]; decide +kernel) (k := 0) (by decide +kernel) dX11_wide_5 ?_
  subst hQF
  exact W.iret (v := mm_now_f 0) hx hb hr (fun t ht hW => ⟨⟨mm_now_f 0, (), rfl, hF.1, trivial⟩, hS.F ht⟩) hS.2.2 dX11_wide_6

set_option maxHeartbeats 4000000 in
set_option maxRecDepth 100000 in
theorem n_X11_squares (l : Launch) (D : va_G) (cy : Nat → ClassId) (mW : Nat) (mH : Nat) (mS : Nat) (mP : Nat) (mm : Nat) (mm_now : Nat) (mm_kept : Nat) (mm_isKept : Nat) (mm_refused : Nat) (mm_lineFrom : Int32) (mm_lineTo : Int32) (mm_stands : Nat) (mm_far : Nat) (mm_queue : Nat) (mm_queued : Int32) (mm_meets : Nat) (mm_bytes : Nat) (bl : Nat) (ta : Nat) (tl : Nat) (mm_token : Int32) (mm_value : Int32) (mm_next : Nat) (tk : Nat) (mm_now_f : Nat → Int32) (sz : Nat) (hF : mV mm_now_f mW mH mS mP) : Met l yX11_squares wsX11_squares ({ frames := 0, cells := 0, slots := 0, locals := 0 }) (va_Pc [.ref mm] (kPre D cy [(mm, .inr (11, [.ref mm_now, .ref mm_kept, .ref mm_isKept, .ref mm_refused, .int mm_lineFrom, .int mm_lineTo, .ref mm_stands, .ref mm_far, .ref mm_queue, .int mm_queued, .ref mm_meets, .ref mm_bytes, .int (nI bl), .int (nI ta), .int (nI tl), .int mm_token, .int mm_value, .ref mm_next, .int (nI tk)])), (mm_now, .inl (cy 1, 122, .inl mm_now_f))] sz)) (va_Qi (fun (r : Int32) (u : Unit) => r = nI mS) (fun _ _ => True) (fun q : Nat => sz ≤ q)) 0 0 (fun q : Nat => sz ≤ q) := by
  refine Met.ofW (cc := cX11_squares) (maxL := 1) (ret := (some .int)) (by decide) rfl ?_
  intro p e s m args below meth c s₁ B hml hv
  obtain ⟨rfl, hsz, hP, hKA, hD0⟩ := hv
  have hx := B.exec
  have hb := B.bytes
  have hr := B.returns
  have hts := atoms_spec (ws := wsX11_squares) B.pre
  have hown : s.vm.findClass RX11 = some m.cls := findClass_of_methodNamed B.named
  have hlocks := B.notSynchronized
  subst hsz
  have hK := hKA.1
  have hD := hD0
  generalize hAe : (fun q : Nat => s.heap.size ≤ q) = A
  have hA : ∀ q : Nat, s.heap.size ≤ q → A q := fun q h => by rw [← hAe]; exact h
  have hS : va_S A s.heap s.heap [] := va_S.rf
  have hP : va_P D vwCl [(mm, .inr (11, [.ref mm_now, .ref mm_kept, .ref mm_isKept, .ref mm_refused, .int mm_lineFrom, .int mm_lineTo, .ref mm_stands, .ref mm_far, .ref mm_queue, .int mm_queued, .ref mm_meets, .ref mm_bytes, .int (nI bl), .int (nI ta), .int (nI tl), .int mm_token, .int mm_value, .ref mm_next, .int (nI tk)])), (mm_now, .inl (cy 1, 122, .inl mm_now_f))] s.heap := hP
  have hl := lv_entry ([.ref mm]) (n := 1) (Nat.le_of_ble_eq_true rfl)
  rw [lg_entry_eq]
  generalize (lg_sl ([.ref mm]) ++ List.replicate (1 - (lg_sl ([.ref mm])).length) Slot.unset).toArray = ls at hl ⊢
  have hl : lv_has ls 1 [(0, .ref mm)] := hl
  refine qW (fun QF hQF => ?_)
  have z0_ := hts (.fieldLink RX11 7 "HeardSeenModel" "now" "[I") (by decide +kernel)
  have zi11_ : ∀ w ∈ u_ws RX11 TX11 19, w ∈ wsX11_squares := by decide +kernel
  obtain ⟨hW2, hW6, hH2, hH6, hSe, hS4, hS6, hP5⟩ := hF.rng
  refine lv_aload_n hx hb dX11_squares_0 rfl (lv_at hl 0 rfl) ?_
  refine va_get (D := D) (ci := 11) (v := .ref mm_now) (C := RX11) (T := TX11) (N := 19) hx hb hts zi11_ hown hK hP 0 rfl rfl 0 (by decide) z0_ (fun _ h9 => h9) rfl dX11_squares_1 ?_
  refine lv_iconst (v := 0) hx hb dX11_squares_4 (by decide) ?_
  refine my_iald hx hb hK hP 1 1 rfl rfl (by rw [vp_in_iff]; decide +kernel) (k := 0) (by decide +kernel) dX11_squares_5 ?_
  refine lv_aload_n hx hb dX11_squares_6 rfl (lv_at hl 0 rfl) ?_
  refine va_get (D := D) (ci := 11) (v := .ref mm_now) (C := RX11) (T := TX11) (N := 19) hx hb hts zi11_ hown hK hP 0 rfl rfl 0 (by decide) z0_ (fun _ h9 => h9) rfl dX11_squares_7 ?_
  refine lv_iconst (v := 1) hx hb dX11_squares_10 (by decide) ?_
  refine my_iald hx hb hK hP 1 1 rfl rfl (by rw [vp_in_iff]; decide +kernel) (k := 1) (by decide +kernel) dX11_squares_11 ?_
  refine lv_imul hx hb dX11_squares_12 ?_
  subst hQF
  exact W.iret (v := (mm_now_f 0) * (mm_now_f 1)) hx hb hr (fun t ht hW => ⟨⟨(mm_now_f 0) * (mm_now_f 1), (), rfl, hF.sq, trivial⟩, hS.F ht⟩) hS.2.2 dX11_squares_13

set_option maxHeartbeats 4000000 in
set_option maxRecDepth 100000 in
theorem n_X11_people (l : Launch) (D : va_G) (cy : Nat → ClassId) (mW : Nat) (mH : Nat) (mS : Nat) (mP : Nat) (mm : Nat) (mm_now : Nat) (mm_kept : Nat) (mm_isKept : Nat) (mm_refused : Nat) (mm_lineFrom : Int32) (mm_lineTo : Int32) (mm_stands : Nat) (mm_far : Nat) (mm_queue : Nat) (mm_queued : Int32) (mm_meets : Nat) (mm_bytes : Nat) (bl : Nat) (ta : Nat) (tl : Nat) (mm_token : Int32) (mm_value : Int32) (mm_next : Nat) (tk : Nat) (mm_now_f : Nat → Int32) (sz : Nat) (hF : mV mm_now_f mW mH mS mP) : Met l yX11_people wsX11_people ({ frames := 0, cells := 0, slots := 0, locals := 0 }) (va_Pc [.ref mm] (kPre D cy [(mm, .inr (11, [.ref mm_now, .ref mm_kept, .ref mm_isKept, .ref mm_refused, .int mm_lineFrom, .int mm_lineTo, .ref mm_stands, .ref mm_far, .ref mm_queue, .int mm_queued, .ref mm_meets, .ref mm_bytes, .int (nI bl), .int (nI ta), .int (nI tl), .int mm_token, .int mm_value, .ref mm_next, .int (nI tk)])), (mm_now, .inl (cy 1, 122, .inl mm_now_f))] sz)) (va_Qi (fun (r : Int32) (u : Unit) => r = nI mP) (fun _ _ => True) (fun q : Nat => sz ≤ q)) 0 0 (fun q : Nat => sz ≤ q) := by
  refine Met.ofW (cc := cX11_people) (maxL := 1) (ret := (some .int)) (by decide) rfl ?_
  intro p e s m args below meth c s₁ B hml hv
  obtain ⟨rfl, hsz, hP, hKA, hD0⟩ := hv
  have hx := B.exec
  have hb := B.bytes
  have hr := B.returns
  have hts := atoms_spec (ws := wsX11_people) B.pre
  have hown : s.vm.findClass RX11 = some m.cls := findClass_of_methodNamed B.named
  have hlocks := B.notSynchronized
  subst hsz
  have hK := hKA.1
  have hD := hD0
  generalize hAe : (fun q : Nat => s.heap.size ≤ q) = A
  have hA : ∀ q : Nat, s.heap.size ≤ q → A q := fun q h => by rw [← hAe]; exact h
  have hS : va_S A s.heap s.heap [] := va_S.rf
  have hP : va_P D vwCl [(mm, .inr (11, [.ref mm_now, .ref mm_kept, .ref mm_isKept, .ref mm_refused, .int mm_lineFrom, .int mm_lineTo, .ref mm_stands, .ref mm_far, .ref mm_queue, .int mm_queued, .ref mm_meets, .ref mm_bytes, .int (nI bl), .int (nI ta), .int (nI tl), .int mm_token, .int mm_value, .ref mm_next, .int (nI tk)])), (mm_now, .inl (cy 1, 122, .inl mm_now_f))] s.heap := hP
  have hl := lv_entry ([.ref mm]) (n := 1) (Nat.le_of_ble_eq_true rfl)
  rw [lg_entry_eq]
  generalize (lg_sl ([.ref mm]) ++ List.replicate (1 - (lg_sl ([.ref mm])).length) Slot.unset).toArray = ls at hl ⊢
  have hl : lv_has ls 1 [(0, .ref mm)] := hl
  refine qW (fun QF hQF => ?_)
  have z0_ := hts (.fieldLink RX11 7 "HeardSeenModel" "now" "[I") (by decide +kernel)
  have zi11_ : ∀ w ∈ u_ws RX11 TX11 19, w ∈ wsX11_people := by decide +kernel
  obtain ⟨hW2, hW6, hH2, hH6, hSe, hS4, hS6, hP5⟩ := hF.rng
  refine lv_aload_n hx hb dX11_people_0 rfl (lv_at hl 0 rfl) ?_
  refine va_get (D := D) (ci := 11) (v := .ref mm_now) (C := RX11) (T := TX11) (N := 19) hx hb hts zi11_ hown hK hP 0 rfl rfl 0 (by decide) z0_ (fun _ h9 => h9) rfl dX11_people_1 ?_
  refine lv_iconst (v := 4) hx hb dX11_people_4 (by decide) ?_
  refine my_iald hx hb hK hP 1 1 rfl rfl (by rw [vp_in_iff]; decide +kernel) (k := 4) (by decide +kernel) dX11_people_5 ?_
  subst hQF
  exact W.iret (v := mm_now_f 4) hx hb hr (fun t ht hW => ⟨⟨mm_now_f 4, (), rfl, hF.2.2.1, trivial⟩, hS.F ht⟩) hS.2.2 dX11_people_6

set_option maxHeartbeats 4000000 in
set_option maxRecDepth 100000 in
theorem n_X11_isSquare (l : Launch) (D : va_G) (cy : Nat → ClassId) (mW : Nat) (mH : Nat) (mS : Nat) (mP : Nat) (mm : Nat) (mm_now : Nat) (mm_kept : Nat) (mm_isKept : Nat) (mm_refused : Nat) (mm_lineFrom : Int32) (mm_lineTo : Int32) (mm_stands : Nat) (mm_far : Nat) (mm_queue : Nat) (mm_queued : Int32) (mm_meets : Nat) (mm_bytes : Nat) (bl : Nat) (ta : Nat) (tl : Nat) (mm_token : Int32) (mm_value : Int32) (mm_next : Nat) (tk : Nat) (mm_now_f : Nat → Int32) (px : Int32) (sz : Nat) (hF : mV mm_now_f mW mH mS mP) : Met l yX11_isSquare wsX11_isSquare ({ frames := 1, cells := 0, slots := 0, locals := 25 }) (va_Pc [.ref mm, .int px] (kPre D cy [(mm, .inr (11, [.ref mm_now, .ref mm_kept, .ref mm_isKept, .ref mm_refused, .int mm_lineFrom, .int mm_lineTo, .ref mm_stands, .ref mm_far, .ref mm_queue, .int mm_queued, .ref mm_meets, .ref mm_bytes, .int (nI bl), .int (nI ta), .int (nI tl), .int mm_token, .int mm_value, .ref mm_next, .int (nI tk)])), (mm_now, .inl (cy 1, 122, .inl mm_now_f))] sz)) (va_Qi (fun (r : Int32) (u : Unit) => (r = 1 ∧ (∃ j : Nat, j < mS ∧ px = nI j)) ∨ (r = 0 ∧ True)) (fun _ _ => True) (fun q : Nat => sz ≤ q)) 0 0 (fun q : Nat => sz ≤ q) := by
  refine Met.ofW (cc := cX11_isSquare) (maxL := 2) (ret := (some .boolean)) (by decide) rfl ?_
  intro p e s m args below meth c s₁ B hml hv
  obtain ⟨rfl, hsz, hP, hKA, hD0⟩ := hv
  have hx := B.exec
  have hb := B.bytes
  have hr := B.returns
  have hts := atoms_spec (ws := wsX11_isSquare) B.pre
  have hown : s.vm.findClass RX11 = some m.cls := findClass_of_methodNamed B.named
  have hlocks := B.notSynchronized
  subst hsz
  have hK := hKA.1
  have hD := hD0
  generalize hAe : (fun q : Nat => s.heap.size ≤ q) = A
  have hA : ∀ q : Nat, s.heap.size ≤ q → A q := fun q h => by rw [← hAe]; exact h
  have hS : va_S A s.heap s.heap [] := va_S.rf
  have hP : va_P D vwCl [(mm, .inr (11, [.ref mm_now, .ref mm_kept, .ref mm_isKept, .ref mm_refused, .int mm_lineFrom, .int mm_lineTo, .ref mm_stands, .ref mm_far, .ref mm_queue, .int mm_queued, .ref mm_meets, .ref mm_bytes, .int (nI bl), .int (nI ta), .int (nI tl), .int mm_token, .int mm_value, .ref mm_next, .int (nI tk)])), (mm_now, .inl (cy 1, 122, .inl mm_now_f))] s.heap := hP
  have hl := lv_entry ([.ref mm, .int px]) (n := 2) (Nat.le_of_ble_eq_true rfl)
  rw [lg_entry_eq]
  generalize (lg_sl ([.ref mm, .int px]) ++ List.replicate (2 - (lg_sl ([.ref mm, .int px])).length) Slot.unset).toArray = ls at hl ⊢
  have hl : lv_has ls 2 [(0, .ref mm), (1, .int px)] := hl
  refine qW (fun QF hQF => ?_)
  obtain ⟨hW2, hW6, hH2, hH6, hSe, hS4, hS6, hP5⟩ := hF.rng
  refine lv_iload_n hx hb dX11_isSquare_0 rfl (lv_at hl 1 rfl) ?_
  refine lv_i2l hx hb dX11_isSquare_1 rfl ?_
  refine lv_lconst (v := 0) hx hb dX11_isSquare_2 (by decide) ?_
  refine lv_aload_n hx hb dX11_isSquare_3 rfl (lv_at hl 0 rfl) ?_
  refine rd_i (va_runV (As := []) (rest := [.long 0, .long px.toInt64]) ⟨hx, hb, hml, hown, hts⟩ (n_X11_squares l D cy mW mH mS mP mm mm_now mm_kept mm_isKept mm_refused mm_lineFrom mm_lineTo mm_stands mm_far mm_queue mm_queued mm_meets mm_bytes bl ta tl mm_token mm_value mm_next tk mm_now_f _ (by first | assumption | omega)) (cwV 0 hts gX11_isSquare_X11_squares rfl rfl rfl (by decide +kernel) ⟨Nat.le_of_ble_eq_true rfl, Nat.le_of_ble_eq_true rfl⟩) (pV (ci := 11) (k := 0) hKA (hP.sub (ws' := [(mm, .inr (11, [.ref mm_now, .ref mm_kept, .ref mm_isKept, .ref mm_refused, .int mm_lineFrom, .int mm_lineTo, .ref mm_stands, .ref mm_far, .ref mm_queue, .int mm_queued, .ref mm_meets, .ref mm_bytes, .int (nI bl), .int (nI ta), .int (nI tl), .int mm_token, .int mm_value, .ref mm_next, .int (nI tk)])), (mm_now, .inl (cy 1, 122, .inl mm_now_f))]) [0, 1] rfl) (hD.sub (ws' := [(mm, .inr (11, [.ref mm_now, .ref mm_kept, .ref mm_isKept, .ref mm_refused, .int mm_lineFrom, .int mm_lineTo, .ref mm_stands, .ref mm_far, .ref mm_queue, .int mm_queued, .ref mm_meets, .ref mm_bytes, .int (nI bl), .int (nI ta), .int (nI tl), .int mm_token, .int mm_value, .ref mm_next, .int (nI tk)])), (mm_now, .inl (cy 1, 122, .inl mm_now_f))]) [0, 1] (by decide) rfl) rfl rfl) rfl rfl hl.1 rfl (lv_room (Nat.le_of_ble_eq_true rfl)) dX11_isSquare_4 ⟨Nat.le_of_ble_eq_true rfl, Nat.le_of_ble_eq_true rfl⟩) hP hS hA (fun r1 H locs hwr1 hP hS => ?_)
  have hwr1 : r1 = nI mS := hwr1
  subst hwr1
  refine lv_iconst (v := 1) hx hb dX11_isSquare_7 (by decide) ?_
  refine lv_isub hx hb dX11_isSquare_8 ?_
  refine lv_i2l hx hb dX11_isSquare_9 rfl ?_
  refine rd_i (va_runS (As := [.long px.toInt64, .long 0, .long (((nI mS) - 1).toInt64)]) (rest := []) ⟨hx, hb, hml, hown, hts⟩ (n_X11_in l D cy px.toInt64 (0) (((nI mS) - 1).toInt64) _ ) (va_cwS 3 hts gX11_isSquare_X11_in rfl rfl rfl (by decide +kernel) ⟨Nat.le_of_ble_eq_true rfl, Nat.le_of_ble_eq_true rfl⟩) (pS hKA pE (dE (A := A))) rfl rfl hl.1 rfl (lv_room (Nat.le_of_ble_eq_true rfl)) dX11_isSquare_10 ⟨Nat.le_of_ble_eq_true rfl, Nat.le_of_ble_eq_true rfl⟩) hP hS hA (fun r2 H locs hwr2 hP hS => ?_)
  have hwr2 : (r2 = 1 ∧ ((0) ≤ px.toInt64 ∧ px.toInt64 ≤ (((nI mS) - 1).toInt64))) ∨ (r2 = 0 ∧ (¬ ((0) ≤ px.toInt64 ∧ px.toInt64 ≤ (((nI mS) - 1).toInt64)))) := hwr2
  subst hQF
  exact W.zret (v := r2) hx hb hr (z_bn hwr2) (fun t ht hW => ⟨⟨r2, (), rfl, (z_exB (by omega) hwr2), trivial⟩, hS.F ht⟩) hS.2.2 dX11_isSquare_13

set_option maxHeartbeats 4000000 in
set_option maxRecDepth 100000 in
theorem n_X11_isOne (l : Launch) (D : va_G) (cy : Nat → ClassId) (mW : Nat) (mH : Nat) (mS : Nat) (mP : Nat) (mm : Nat) (mm_now : Nat) (mm_kept : Nat) (mm_isKept : Nat) (mm_refused : Nat) (mm_lineFrom : Int32) (mm_lineTo : Int32) (mm_stands : Nat) (mm_far : Nat) (mm_queue : Nat) (mm_queued : Int32) (mm_meets : Nat) (mm_bytes : Nat) (bl : Nat) (ta : Nat) (tl : Nat) (mm_token : Int32) (mm_value : Int32) (mm_next : Nat) (tk : Nat) (mm_now_f : Nat → Int32) (px : Int32) (sz : Nat) (hF : mV mm_now_f mW mH mS mP) : Met l yX11_isOne wsX11_isOne ({ frames := 1, cells := 0, slots := 0, locals := 25 }) (va_Pc [.ref mm, .int px] (kPre D cy [(mm, .inr (11, [.ref mm_now, .ref mm_kept, .ref mm_isKept, .ref mm_refused, .int mm_lineFrom, .int mm_lineTo, .ref mm_stands, .ref mm_far, .ref mm_queue, .int mm_queued, .ref mm_meets, .ref mm_bytes, .int (nI bl), .int (nI ta), .int (nI tl), .int mm_token, .int mm_value, .ref mm_next, .int (nI tk)])), (mm_now, .inl (cy 1, 122, .inl mm_now_f))] sz)) (va_Qi (fun (r : Int32) (u : Unit) => (r = 1 ∧ (∃ j : Nat, j < mP ∧ px = nI j)) ∨ (r = 0 ∧ True)) (fun _ _ => True) (fun q : Nat => sz ≤ q)) 0 0 (fun q : Nat => sz ≤ q) := by
  refine Met.ofW (cc := cX11_isOne) (maxL := 2) (ret := (some .boolean)) (by decide) rfl ?_
  intro p e s m args below meth c s₁ B hml hv
  obtain ⟨rfl, hsz, hP, hKA, hD0⟩ := hv
  have hx := B.exec
  have hb := B.bytes
  have hr := B.returns
  have hts := atoms_spec (ws := wsX11_isOne) B.pre
  have hown : s.vm.findClass RX11 = some m.cls := findClass_of_methodNamed B.named
  have hlocks := B.notSynchronized
  subst hsz
  have hK := hKA.1
  have hD := hD0
  generalize hAe : (fun q : Nat => s.heap.size ≤ q) = A
  have hA : ∀ q : Nat, s.heap.size ≤ q → A q := fun q h => by rw [← hAe]; exact h
  have hS : va_S A s.heap s.heap [] := va_S.rf
  have hP : va_P D vwCl [(mm, .inr (11, [.ref mm_now, .ref mm_kept, .ref mm_isKept, .ref mm_refused, .int mm_lineFrom, .int mm_lineTo, .ref mm_stands, .ref mm_far, .ref mm_queue, .int mm_queued, .ref mm_meets, .ref mm_bytes, .int (nI bl), .int (nI ta), .int (nI tl), .int mm_token, .int mm_value, .ref mm_next, .int (nI tk)])), (mm_now, .inl (cy 1, 122, .inl mm_now_f))] s.heap := hP
  have hl := lv_entry ([.ref mm, .int px]) (n := 2) (Nat.le_of_ble_eq_true rfl)
  rw [lg_entry_eq]
  generalize (lg_sl ([.ref mm, .int px]) ++ List.replicate (2 - (lg_sl ([.ref mm, .int px])).length) Slot.unset).toArray = ls at hl ⊢
  have hl : lv_has ls 2 [(0, .ref mm), (1, .int px)] := hl
  refine qW (fun QF hQF => ?_)
  obtain ⟨hW2, hW6, hH2, hH6, hSe, hS4, hS6, hP5⟩ := hF.rng
  refine lv_iload_n hx hb dX11_isOne_0 rfl (lv_at hl 1 rfl) ?_
  refine lv_i2l hx hb dX11_isOne_1 rfl ?_
  refine lv_lconst (v := 0) hx hb dX11_isOne_2 (by decide) ?_
  refine lv_aload_n hx hb dX11_isOne_3 rfl (lv_at hl 0 rfl) ?_
  refine rd_i (va_runV (As := []) (rest := [.long 0, .long px.toInt64]) ⟨hx, hb, hml, hown, hts⟩ (n_X11_people l D cy mW mH mS mP mm mm_now mm_kept mm_isKept mm_refused mm_lineFrom mm_lineTo mm_stands mm_far mm_queue mm_queued mm_meets mm_bytes bl ta tl mm_token mm_value mm_next tk mm_now_f _ (by first | assumption | omega)) (cwV 0 hts gX11_isOne_X11_people rfl rfl rfl (by decide +kernel) ⟨Nat.le_of_ble_eq_true rfl, Nat.le_of_ble_eq_true rfl⟩) (pV (ci := 11) (k := 0) hKA (hP.sub (ws' := [(mm, .inr (11, [.ref mm_now, .ref mm_kept, .ref mm_isKept, .ref mm_refused, .int mm_lineFrom, .int mm_lineTo, .ref mm_stands, .ref mm_far, .ref mm_queue, .int mm_queued, .ref mm_meets, .ref mm_bytes, .int (nI bl), .int (nI ta), .int (nI tl), .int mm_token, .int mm_value, .ref mm_next, .int (nI tk)])), (mm_now, .inl (cy 1, 122, .inl mm_now_f))]) [0, 1] rfl) (hD.sub (ws' := [(mm, .inr (11, [.ref mm_now, .ref mm_kept, .ref mm_isKept, .ref mm_refused, .int mm_lineFrom, .int mm_lineTo, .ref mm_stands, .ref mm_far, .ref mm_queue, .int mm_queued, .ref mm_meets, .ref mm_bytes, .int (nI bl), .int (nI ta), .int (nI tl), .int mm_token, .int mm_value, .ref mm_next, .int (nI tk)])), (mm_now, .inl (cy 1, 122, .inl mm_now_f))]) [0, 1] (by decide) rfl) rfl rfl) rfl rfl hl.1 rfl (lv_room (Nat.le_of_ble_eq_true rfl)) dX11_isOne_4 ⟨Nat.le_of_ble_eq_true rfl, Nat.le_of_ble_eq_true rfl⟩) hP hS hA (fun r1 H locs hwr1 hP hS => ?_)
  have hwr1 : r1 = nI mP := hwr1
  subst hwr1
  refine lv_iconst (v := 1) hx hb dX11_isOne_7 (by decide) ?_
  refine lv_isub hx hb dX11_isOne_8 ?_
  refine lv_i2l hx hb dX11_isOne_9 rfl ?_
  refine rd_i (va_runS (As := [.long px.toInt64, .long 0, .long (((nI mP) - 1).toInt64)]) (rest := []) ⟨hx, hb, hml, hown, hts⟩ (n_X11_in l D cy px.toInt64 (0) (((nI mP) - 1).toInt64) _ ) (va_cwS 3 hts gX11_isOne_X11_in rfl rfl rfl (by decide +kernel) ⟨Nat.le_of_ble_eq_true rfl, Nat.le_of_ble_eq_true rfl⟩) (pS hKA pE (dE (A := A))) rfl rfl hl.1 rfl (lv_room (Nat.le_of_ble_eq_true rfl)) dX11_isOne_10 ⟨Nat.le_of_ble_eq_true rfl, Nat.le_of_ble_eq_true rfl⟩) hP hS hA (fun r2 H locs hwr2 hP hS => ?_)
  have hwr2 : (r2 = 1 ∧ ((0) ≤ px.toInt64 ∧ px.toInt64 ≤ (((nI mP) - 1).toInt64))) ∨ (r2 = 0 ∧ (¬ ((0) ≤ px.toInt64 ∧ px.toInt64 ≤ (((nI mP) - 1).toInt64)))) := hwr2
  subst hQF
  exact W.zret (v := r2) hx hb hr (z_bn hwr2) (fun t ht hW => ⟨⟨r2, (), rfl, (z_exB (by omega) hwr2), trivial⟩, hS.F ht⟩) hS.2.2 dX11_isOne_13

set_option maxHeartbeats 4000000 in
set_option maxRecDepth 100000 in
theorem n_X11_isSet (l : Launch) (D : va_G) (cy : Nat → ClassId) (mW : Nat) (mH : Nat) (mS : Nat) (mP : Nat) (mm : Nat) (mm_now : Nat) (mm_kept : Nat) (mm_isKept : Nat) (mm_refused : Nat) (mm_lineFrom : Int32) (mm_lineTo : Int32) (mm_stands : Nat) (mm_far : Nat) (mm_queue : Nat) (mm_queued : Int32) (mm_meets : Nat) (mm_bytes : Nat) (bl : Nat) (ta : Nat) (tl : Nat) (mm_token : Int32) (mm_value : Int32) (mm_next : Nat) (tk : Nat) (mm_now_f : Nat → Int32) (px : Int32) (sz : Nat) (hF : mV mm_now_f mW mH mS mP) : Met l yX11_isSet wsX11_isSet ({ frames := 1, cells := 0, slots := 0, locals := 25 }) (va_Pc [.ref mm, .int px] (kPre D cy [(mm, .inr (11, [.ref mm_now, .ref mm_kept, .ref mm_isKept, .ref mm_refused, .int mm_lineFrom, .int mm_lineTo, .ref mm_stands, .ref mm_far, .ref mm_queue, .int mm_queued, .ref mm_meets, .ref mm_bytes, .int (nI bl), .int (nI ta), .int (nI tl), .int mm_token, .int mm_value, .ref mm_next, .int (nI tk)])), (mm_now, .inl (cy 1, 122, .inl mm_now_f))] sz)) (va_Qi (fun (r : Int32) (u : Unit) => (r = 1 ∧ True) ∨ (r = 0 ∧ True)) (fun _ _ => True) (fun q : Nat => sz ≤ q)) 0 0 (fun q : Nat => sz ≤ q) := by
  refine Met.ofW (cc := cX11_isSet) (maxL := 2) (ret := (some .boolean)) (by decide) rfl ?_
  intro p e s m args below meth c s₁ B hml hv
  obtain ⟨rfl, hsz, hP, hKA, hD0⟩ := hv
  have hx := B.exec
  have hb := B.bytes
  have hr := B.returns
  have hts := atoms_spec (ws := wsX11_isSet) B.pre
  have hown : s.vm.findClass RX11 = some m.cls := findClass_of_methodNamed B.named
  have hlocks := B.notSynchronized
  subst hsz
  have hK := hKA.1
  have hD := hD0
  generalize hAe : (fun q : Nat => s.heap.size ≤ q) = A
  have hA : ∀ q : Nat, s.heap.size ≤ q → A q := fun q h => by rw [← hAe]; exact h
  have hS : va_S A s.heap s.heap [] := va_S.rf
  have hP : va_P D vwCl [(mm, .inr (11, [.ref mm_now, .ref mm_kept, .ref mm_isKept, .ref mm_refused, .int mm_lineFrom, .int mm_lineTo, .ref mm_stands, .ref mm_far, .ref mm_queue, .int mm_queued, .ref mm_meets, .ref mm_bytes, .int (nI bl), .int (nI ta), .int (nI tl), .int mm_token, .int mm_value, .ref mm_next, .int (nI tk)])), (mm_now, .inl (cy 1, 122, .inl mm_now_f))] s.heap := hP
  have hl := lv_entry ([.ref mm, .int px]) (n := 2) (Nat.le_of_ble_eq_true rfl)
  rw [lg_entry_eq]
  generalize (lg_sl ([.ref mm, .int px]) ++ List.replicate (2 - (lg_sl ([.ref mm, .int px])).length) Slot.unset).toArray = ls at hl ⊢
  have hl : lv_has ls 2 [(0, .ref mm), (1, .int px)] := hl
  refine qW (fun QF hQF => ?_)
  obtain ⟨hW2, hW6, hH2, hH6, hSe, hS4, hS6, hP5⟩ := hF.rng
  refine lv_iload_n hx hb dX11_isSet_0 rfl (lv_at hl 1 rfl) ?_
  refine lv_i2l hx hb dX11_isSet_1 rfl ?_
  refine lv_lconst (v := 0) hx hb dX11_isSet_2 (by decide) ?_
  refine lv_iconst (v := 1) hx hb dX11_isSet_3 (by decide) ?_
  refine lv_aload_n hx hb dX11_isSet_4 rfl (lv_at hl 0 rfl) ?_
  refine rd_i (va_runV (As := []) (rest := [.int 1, .long 0, .long px.toInt64]) ⟨hx, hb, hml, hown, hts⟩ (n_X11_people l D cy mW mH mS mP mm mm_now mm_kept mm_isKept mm_refused mm_lineFrom mm_lineTo mm_stands mm_far mm_queue mm_queued mm_meets mm_bytes bl ta tl mm_token mm_value mm_next tk mm_now_f _ (by first | assumption | omega)) (cwV 0 hts gX11_isSet_X11_people rfl rfl rfl (by decide +kernel) ⟨Nat.le_of_ble_eq_true rfl, Nat.le_of_ble_eq_true rfl⟩) (pV (ci := 11) (k := 0) hKA (hP.sub (ws' := [(mm, .inr (11, [.ref mm_now, .ref mm_kept, .ref mm_isKept, .ref mm_refused, .int mm_lineFrom, .int mm_lineTo, .ref mm_stands, .ref mm_far, .ref mm_queue, .int mm_queued, .ref mm_meets, .ref mm_bytes, .int (nI bl), .int (nI ta), .int (nI tl), .int mm_token, .int mm_value, .ref mm_next, .int (nI tk)])), (mm_now, .inl (cy 1, 122, .inl mm_now_f))]) [0, 1] rfl) (hD.sub (ws' := [(mm, .inr (11, [.ref mm_now, .ref mm_kept, .ref mm_isKept, .ref mm_refused, .int mm_lineFrom, .int mm_lineTo, .ref mm_stands, .ref mm_far, .ref mm_queue, .int mm_queued, .ref mm_meets, .ref mm_bytes, .int (nI bl), .int (nI ta), .int (nI tl), .int mm_token, .int mm_value, .ref mm_next, .int (nI tk)])), (mm_now, .inl (cy 1, 122, .inl mm_now_f))]) [0, 1] (by decide) rfl) rfl rfl) rfl rfl hl.1 rfl (lv_room (Nat.le_of_ble_eq_true rfl)) dX11_isSet_5 ⟨Nat.le_of_ble_eq_true rfl, Nat.le_of_ble_eq_true rfl⟩) hP hS hA (fun r1 H locs hwr1 hP hS => ?_)
  have hwr1 : r1 = nI mP := hwr1
  subst hwr1
  refine lv_ishl hx hb dX11_isSet_8 ?_
  refine lv_iconst (v := 1) hx hb dX11_isSet_9 (by decide) ?_
  refine lv_isub hx hb dX11_isSet_10 ?_
  refine lv_i2l hx hb dX11_isSet_11 rfl ?_
  refine rd_i (va_runS (As := [.long px.toInt64, .long 0, .long (((1 <<< ((nI mP) &&& 31)) - 1).toInt64)]) (rest := []) ⟨hx, hb, hml, hown, hts⟩ (n_X11_in l D cy px.toInt64 (0) (((1 <<< ((nI mP) &&& 31)) - 1).toInt64) _ ) (va_cwS 3 hts gX11_isSet_X11_in rfl rfl rfl (by decide +kernel) ⟨Nat.le_of_ble_eq_true rfl, Nat.le_of_ble_eq_true rfl⟩) (pS hKA pE (dE (A := A))) rfl rfl hl.1 rfl (lv_room (Nat.le_of_ble_eq_true rfl)) dX11_isSet_12 ⟨Nat.le_of_ble_eq_true rfl, Nat.le_of_ble_eq_true rfl⟩) hP hS hA (fun r2 H locs hwr2 hP hS => ?_)
  have hwr2 : (r2 = 1 ∧ ((0) ≤ px.toInt64 ∧ px.toInt64 ≤ (((1 <<< ((nI mP) &&& 31)) - 1).toInt64))) ∨ (r2 = 0 ∧ (¬ ((0) ≤ px.toInt64 ∧ px.toInt64 ≤ (((1 <<< ((nI mP) &&& 31)) - 1).toInt64)))) := hwr2
  subst hQF
  exact W.zret (v := r2) hx hb hr (z_bn hwr2) (fun t ht hW => ⟨⟨r2, (), rfl, (z_bt hwr2), trivial⟩, hS.F ht⟩) hS.2.2 dX11_isSet_15

set_option maxHeartbeats 4000000 in
set_option maxRecDepth 100000 in
theorem n_X11_of (l : Launch) (D : va_G) (cy : Nat → ClassId) (mW : Nat) (mH : Nat) (mS : Nat) (mP : Nat) (mm : Nat) (mm_now : Nat) (mm_kept : Nat) (mm_isKept : Nat) (mm_refused : Nat) (mm_lineFrom : Int32) (mm_lineTo : Int32) (mm_stands : Nat) (mm_far : Nat) (mm_queue : Nat) (mm_queued : Int32) (mm_meets : Nat) (mm_bytes : Nat) (bl : Nat) (ta : Nat) (tl : Nat) (mm_token : Int32) (mm_value : Int32) (mm_next : Nat) (tk : Nat) (mm_now_f : Nat → Int32) (pp : Nat) (pw : Nat) (sz : Nat) (hF : mV mm_now_f mW mH mS mP) (hpp : pp < 5) (hpw : pw < 3) : Met l yX11_of wsX11_of ({ frames := 0, cells := 0, slots := 0, locals := 0 }) (va_Pc [.ref mm, .int (nI pp), .int (nI pw)] (kPre D cy [(mm, .inr (11, [.ref mm_now, .ref mm_kept, .ref mm_isKept, .ref mm_refused, .int mm_lineFrom, .int mm_lineTo, .ref mm_stands, .ref mm_far, .ref mm_queue, .int mm_queued, .ref mm_meets, .ref mm_bytes, .int (nI bl), .int (nI ta), .int (nI tl), .int mm_token, .int mm_value, .ref mm_next, .int (nI tk)])), (mm_now, .inl (cy 1, 122, .inl mm_now_f))] sz)) (va_Qi (fun (r : Int32) (u : Unit) => r = mm_now_f (5 + 3 * pp + pw)) (fun _ _ => True) (fun q : Nat => sz ≤ q)) 0 0 (fun q : Nat => sz ≤ q) := by
  refine Met.ofW (cc := cX11_of) (maxL := 3) (ret := (some .int)) (by decide) rfl ?_
  intro p e s m args below meth c s₁ B hml hv
  obtain ⟨rfl, hsz, hP, hKA, hD0⟩ := hv
  have hx := B.exec
  have hb := B.bytes
  have hr := B.returns
  have hts := atoms_spec (ws := wsX11_of) B.pre
  have hown : s.vm.findClass RX11 = some m.cls := findClass_of_methodNamed B.named
  have hlocks := B.notSynchronized
  subst hsz
  have hK := hKA.1
  have hD := hD0
  generalize hAe : (fun q : Nat => s.heap.size ≤ q) = A
  have hA : ∀ q : Nat, s.heap.size ≤ q → A q := fun q h => by rw [← hAe]; exact h
  have hS : va_S A s.heap s.heap [] := va_S.rf
  have hP : va_P D vwCl [(mm, .inr (11, [.ref mm_now, .ref mm_kept, .ref mm_isKept, .ref mm_refused, .int mm_lineFrom, .int mm_lineTo, .ref mm_stands, .ref mm_far, .ref mm_queue, .int mm_queued, .ref mm_meets, .ref mm_bytes, .int (nI bl), .int (nI ta), .int (nI tl), .int mm_token, .int mm_value, .ref mm_next, .int (nI tk)])), (mm_now, .inl (cy 1, 122, .inl mm_now_f))] s.heap := hP
  have hl := lv_entry ([.ref mm, .int (nI pp), .int (nI pw)]) (n := 3) (Nat.le_of_ble_eq_true rfl)
  rw [lg_entry_eq]
  generalize (lg_sl ([.ref mm, .int (nI pp), .int (nI pw)]) ++ List.replicate (3 - (lg_sl ([.ref mm, .int (nI pp), .int (nI pw)])).length) Slot.unset).toArray = ls at hl ⊢
  have hl : lv_has ls 3 [(0, .ref mm), (1, .int (nI pp)), (2, .int (nI pw))] := hl
  refine qW (fun QF hQF => ?_)
  have z0_ := hts (.fieldLink RX11 7 "HeardSeenModel" "now" "[I") (by decide +kernel)
  have zi11_ : ∀ w ∈ u_ws RX11 TX11 19, w ∈ wsX11_of := by decide +kernel
  obtain ⟨hW2, hW6, hH2, hH6, hSe, hS4, hS6, hP5⟩ := hF.rng
  refine lv_aload_n hx hb dX11_of_0 rfl (lv_at hl 0 rfl) ?_
  refine va_get (D := D) (ci := 11) (v := .ref mm_now) (C := RX11) (T := TX11) (N := 19) hx hb hts zi11_ hown hK hP 0 rfl rfl 0 (by decide) z0_ (fun _ h9 => h9) rfl dX11_of_1 ?_
  refine lv_iconst (v := 5) hx hb dX11_of_4 (by decide) ?_
  refine lv_iconst (v := 3) hx hb dX11_of_5 (by decide) ?_
  refine lv_iload_n hx hb dX11_of_6 rfl (lv_at hl 1 rfl) ?_
  refine lv_imul hx hb dX11_of_7 ?_
  refine lv_topi (fun x1 ex1 => ?_)
  obtain rfl : x1 = nI (3 * pp) := by rw [ex1]; exact pk_mul _ _
  refine lv_iadd hx hb dX11_of_8 ?_
  refine lv_topi (fun x2 ex2 => ?_)
  obtain rfl : x2 = nI (5 + (3 * pp)) := by rw [ex2]; exact nI_add _ _
  refine lv_iload_n hx hb dX11_of_9 rfl (lv_at hl 2 rfl) ?_
  refine lv_iadd hx hb dX11_of_10 ?_
  refine lv_topi (fun x3 ex3 => ?_)
  obtain rfl : x3 = nI ((5 + (3 * pp)) + pw) := by rw [ex3]; exact nI_add _ _
  refine my_iald hx hb hK hP 1 1 rfl rfl (by first | exact in_ge (N := 122) (by decide) (by omega) (by assumption) | exact vp_in_nI (by omega) (by omega)) (nI_clamp (by omega)) dX11_of_11 ?_
  subst hQF
  exact W.iret (v := mm_now_f ((5 + (3 * pp)) + pw)) hx hb hr (fun t ht hW => ⟨⟨mm_now_f ((5 + (3 * pp)) + pw), (), rfl, rfl, trivial⟩, hS.F ht⟩) hS.2.2 dX11_of_12

set_option maxHeartbeats 4000000 in
set_option maxRecDepth 100000 in
theorem n_X11_isStood (l : Launch) (D : va_G) (cy : Nat → ClassId) (a_row : Nat) (row_f : Nat → Int32) (py : Int32) (pz : Int32) (sz : Nat) (hr5 : (row_f 4).toInt ≤ 5) : Met l yX11_isStood wsX11_isStood ({ frames := 0, cells := 0, slots := 0, locals := 0 }) (va_Pc [.ref a_row, .int py, .int pz] (kPre D cy [(a_row, .inl (cy 1, 122, .inl row_f))] sz)) (va_Qi (fun (r : Int32) (u : Unit) => (r = 1 ∧ True) ∨ (r = 0 ∧ True)) (fun _ _ => True) (fun q : Nat => sz ≤ q)) 0 0 (fun q : Nat => sz ≤ q) := by
  refine Met.ofW (cc := cX11_isStood) (maxL := 5) (ret := (some .boolean)) (by decide) rfl ?_
  intro p e s m args below meth c s₁ B hml hv
  obtain ⟨rfl, hsz, hP, hKA, hD0⟩ := hv
  have hx := B.exec
  have hb := B.bytes
  have hr := B.returns
  have hts := atoms_spec (ws := wsX11_isStood) B.pre
  have hown : s.vm.findClass RX11 = some m.cls := findClass_of_methodNamed B.named
  have hlocks := B.notSynchronized
  subst hsz
  have hK := hKA.1
  have hD := hD0
  generalize hAe : (fun q : Nat => s.heap.size ≤ q) = A
  have hA : ∀ q : Nat, s.heap.size ≤ q → A q := fun q h => by rw [← hAe]; exact h
  have hS : va_S A s.heap s.heap [] := va_S.rf
  have hP : va_P D vwCl [(a_row, .inl (cy 1, 122, .inl row_f))] s.heap := hP
  have hl := lv_entry ([.ref a_row, .int py, .int pz]) (n := 5) (Nat.le_of_ble_eq_true rfl)
  rw [lg_entry_eq]
  generalize (lg_sl ([.ref a_row, .int py, .int pz]) ++ List.replicate (5 - (lg_sl ([.ref a_row, .int py, .int pz])).length) Slot.unset).toArray = ls at hl ⊢
  have hl : lv_has ls 5 [(0, .ref a_row), (1, .int py), (2, .int pz)] := hl
  refine qW (fun QF hQF => ?_)
  refine lv_iconst (v := 0) hx hb dX11_isStood_0 (by decide) ?_
  refine lv_istore_n (lv' := [(3, .int 0), (0, .ref a_row), (1, .int py), (2, .int pz)]) hx hb dX11_isStood_1 rfl hl (by decide) rfl (fun ls hl => ?_)
  refine lv_iconst (v := 0) hx hb dX11_isStood_2 (by decide) ?_
  refine lv_istore (lv' := [(4, .int 0), (3, .int 0), (0, .ref a_row), (1, .int py), (2, .int pz)]) hx hb dX11_isStood_3 hl (by decide) rfl (fun ls hl => ?_)
  have lp5 : ∀ (n5 : Nat) (v4_5 : Nat) (v3_5 : Int32) (bv3_5 : v3_5 = 1 ∨ v3_5 = 0) (hv4_5 : v4_5 < 2147483648), 2147483648 - v4_5 < n5 → ∀ (H : Heap) (locs : List Loc), va_P D vwCl [(a_row, .inl (cy 1, 122, .inl row_f))] H → va_D (fun _ => True) [(a_row, .inl (cy 1, 122, .inl row_f))] → va_S A s.heap H locs → ∀ ls : Array Slot, lv_has ls 5 [(4, .int (nI v4_5)), (3, .int v3_5), (0, .ref a_row), (1, .int py), (2, .int pz)] → W p l e (headSpec wsX11_isStood ({ frames := 0, cells := 0, slots := 0, locals := 0 })).room s m [.ref a_row, .int py, .int pz].toArray below meth c H locs 0 0 QF (F0 m 5 ls []) := by
    intro n5
    induction n5 with
    | zero => intro v4_5 v3_5 bv3_5 hv4_5 hm; exact absurd hm (Nat.not_lt_zero _)
    | succ n5 ih5 =>
      intro v4_5 v3_5 bv3_5 hv4_5 hm5 H locs hP hD hS ls hl
      refine lv_iload hx hb dX11_isStood_5 (lv_at hl 0 rfl) ?_
      refine lv_aload_n hx hb dX11_isStood_7 rfl (lv_at hl 2 rfl) ?_
      refine lv_iconst (v := 4) hx hb dX11_isStood_8 (by decide) ?_
      refine my_iald hx hb hK hP 0 1 rfl rfl (by rw [vp_in_iff]; decide +kernel) (k := 4) (by decide +kernel) dX11_isStood_9 ?_
      refine lv_icmp_ge (tgt := 49) hx hb dX11_isStood_10 (by decide) (fun c1 => ?_) (fun c1 => ?_)
      · skip
        refine lv_iload_n hx hb dX11_isStood_49 rfl (lv_at hl 1 rfl) ?_
        subst hQF
        exact W.zret (v := v3_5) hx hb hr (z_bm bv3_5) (fun t ht hW => ⟨⟨v3_5, (), rfl, (z_bu bv3_5), trivial⟩, hS.F ht⟩) hS.2.2 dX11_isStood_50
      · skip
        have hk5 := ltN (n := 5) (k := v4_5) hr5 (by assumption) (by assumption)
        refine lv_iload_n hx hb dX11_isStood_13 rfl (lv_at hl 1 rfl) ?_
        refine lv_if_ne (tgt := 37) hx hb dX11_isStood_14 (by decide) (fun c2 => ?_) (fun c2 => ?_)
        · skip
          refine lv_iconst (v := 1) hx hb dX11_isStood_37 (by decide) ?_
          refine lv_goto (tgt := 42) hx hb dX11_isStood_38 (by decide) ?_
          refine lv_istore_n (lv' := [(3, .int 1), (4, .int (nI v4_5)), (0, .ref a_row), (1, .int py), (2, .int pz)]) hx hb dX11_isStood_42 rfl hl (by decide) rfl (fun ls hl => ?_)
          refine lv_iinc (v := nI (v4_5 + 1)) (lv' := [(4, .int (nI (v4_5 + 1))), (3, .int 1), (0, .ref a_row), (1, .int py), (2, .int pz)]) hx hb dX11_isStood_43 hl (k := 1) rfl (nI_1 _) (by decide) rfl (fun ls hl => ?_)
          refine lv_goto (tgt := 5) hx hb dX11_isStood_46 (by decide) ?_
          exact ih5 (v4_5 + 1) 1 (Or.inl rfl) (by first | omega | exact nlt_max hv4_5 (by assumption)) (by first | omega | (have := nlt_max hv4_5 (by assumption); omega)) _ _ hP hD hS ls hl
        · skip
          refine lv_iload hx hb dX11_isStood_17 (lv_at hl 0 rfl) ?_
          refine lv_iload_n hx hb dX11_isStood_19 rfl (lv_at hl 4 rfl) ?_
          refine lv_icmp_eq (tgt := 41) hx hb dX11_isStood_20 (by decide) (fun c3 => ?_) (fun c3 => ?_)
          · skip
            refine lv_iconst (v := 0) hx hb dX11_isStood_41 (by decide) ?_
            refine lv_istore_n (lv' := [(3, .int 0), (4, .int (nI v4_5)), (0, .ref a_row), (1, .int py), (2, .int pz)]) hx hb dX11_isStood_42 rfl hl (by decide) rfl (fun ls hl => ?_)
            refine lv_iinc (v := nI (v4_5 + 1)) (lv' := [(4, .int (nI (v4_5 + 1))), (3, .int 0), (0, .ref a_row), (1, .int py), (2, .int pz)]) hx hb dX11_isStood_43 hl (k := 1) rfl (nI_1 _) (by decide) rfl (fun ls hl => ?_)
            refine lv_goto (tgt := 5) hx hb dX11_isStood_46 (by decide) ?_
            exact ih5 (v4_5 + 1) 0 (Or.inr rfl) (by first | omega | exact nlt_max hv4_5 (by assumption)) (by first | omega | (have := nlt_max hv4_5 (by assumption); omega)) _ _ hP hD hS ls hl
          · skip
            refine lv_aload_n hx hb dX11_isStood_23 rfl (lv_at hl 2 rfl) ?_
            refine lv_iconst (v := 5) hx hb dX11_isStood_24 (by decide) ?_
            refine lv_iconst (v := 3) hx hb dX11_isStood_25 (by decide) ?_
            refine lv_iload hx hb dX11_isStood_26 (lv_at hl 0 rfl) ?_
            refine lv_imul hx hb dX11_isStood_28 ?_
            refine lv_topi (fun x4 ex4 => ?_)
            obtain rfl : x4 = nI (3 * v4_5) := by rw [ex4]; exact pk_mul _ _
            refine lv_iadd hx hb dX11_isStood_29 ?_
            refine lv_topi (fun x5 ex5 => ?_)
            obtain rfl : x5 = nI (5 + (3 * v4_5)) := by rw [ex5]; exact nI_add _ _
            refine lv_iconst (v := 1) hx hb dX11_isStood_30 (by decide) ?_
            refine lv_iadd hx hb dX11_isStood_31 ?_
            refine lv_topi (fun x6 ex6 => ?_)
            obtain rfl : x6 = nI ((5 + (3 * v4_5)) + 1) := by rw [ex6]; exact nI_add _ _
            refine my_iald hx hb hK hP 0 1 rfl rfl (by first | exact in_ge (N := 122) (by decide) (by omega) (by assumption) | exact vp_in_nI (by omega) (by omega)) (nI_clamp (by omega)) dX11_isStood_32 ?_
            refine lv_iload_n hx hb dX11_isStood_33 rfl (lv_at hl 3 rfl) ?_
            refine lv_icmp_ne (tgt := 41) hx hb dX11_isStood_34 (by decide) (fun c7 => ?_) (fun c7 => ?_)
            · skip
              refine lv_iconst (v := 0) hx hb dX11_isStood_41 (by decide) ?_
              refine lv_istore_n (lv' := [(3, .int 0), (4, .int (nI v4_5)), (0, .ref a_row), (1, .int py), (2, .int pz)]) hx hb dX11_isStood_42 rfl hl (by decide) rfl (fun ls hl => ?_)
              refine lv_iinc (v := nI (v4_5 + 1)) (lv' := [(4, .int (nI (v4_5 + 1))), (3, .int 0), (0, .ref a_row), (1, .int py), (2, .int pz)]) hx hb dX11_isStood_43 hl (k := 1) rfl (nI_1 _) (by decide) rfl (fun ls hl => ?_)
              refine lv_goto (tgt := 5) hx hb dX11_isStood_46 (by decide) ?_
              exact ih5 (v4_5 + 1) 0 (Or.inr rfl) (by first | omega | exact nlt_max hv4_5 (by assumption)) (by first | omega | (have := nlt_max hv4_5 (by assumption); omega)) _ _ hP hD hS ls hl
            · skip
              refine lv_iconst (v := 1) hx hb dX11_isStood_37 (by decide) ?_
              refine lv_goto (tgt := 42) hx hb dX11_isStood_38 (by decide) ?_
              refine lv_istore_n (lv' := [(3, .int 1), (4, .int (nI v4_5)), (0, .ref a_row), (1, .int py), (2, .int pz)]) hx hb dX11_isStood_42 rfl hl (by decide) rfl (fun ls hl => ?_)
              refine lv_iinc (v := nI (v4_5 + 1)) (lv' := [(4, .int (nI (v4_5 + 1))), (3, .int 1), (0, .ref a_row), (1, .int py), (2, .int pz)]) hx hb dX11_isStood_43 hl (k := 1) rfl (nI_1 _) (by decide) rfl (fun ls hl => ?_)
              refine lv_goto (tgt := 5) hx hb dX11_isStood_46 (by decide) ?_
              exact ih5 (v4_5 + 1) 1 (Or.inl rfl) (by first | omega | exact nlt_max hv4_5 (by assumption)) (by first | omega | (have := nlt_max hv4_5 (by assumption); omega)) _ _ hP hD hS ls hl
  exact lp5 (2147483648 - 0 + 1) 0 0 (Or.inr rfl) (by first | omega | exact nlt_max (by assumption) (by assumption)) (Nat.lt_succ_self _) _ _ hP hD hS ls hl

set_option maxHeartbeats 4000000 in
set_option maxRecDepth 100000 in
theorem n_X11_isFree (l : Launch) (D : va_G) (cy : Nat → ClassId) (mW : Nat) (mH : Nat) (mS : Nat) (mP : Nat) (mm : Nat) (mm_now : Nat) (mm_kept : Nat) (mm_isKept : Nat) (mm_refused : Nat) (mm_lineFrom : Int32) (mm_lineTo : Int32) (mm_stands : Nat) (mm_far : Nat) (mm_queue : Nat) (mm_queued : Int32) (mm_meets : Nat) (mm_bytes : Nat) (bl : Nat) (ta : Nat) (tl : Nat) (mm_token : Int32) (mm_value : Int32) (mm_next : Nat) (tk : Nat) (mm_now_f : Nat → Int32) (pq : Nat) (pz : Int32) (sz : Nat) (hF : mV mm_now_f mW mH mS mP) (hpq : pq < 36) : Met l yX11_isFree wsX11_isFree ({ frames := 1, cells := 0, slots := 0, locals := 24 }) (va_Pc [.ref mm, .int (nI pq), .int pz] (kPre D cy [(mm, .inr (11, [.ref mm_now, .ref mm_kept, .ref mm_isKept, .ref mm_refused, .int mm_lineFrom, .int mm_lineTo, .ref mm_stands, .ref mm_far, .ref mm_queue, .int mm_queued, .ref mm_meets, .ref mm_bytes, .int (nI bl), .int (nI ta), .int (nI tl), .int mm_token, .int mm_value, .ref mm_next, .int (nI tk)])), (mm_now, .inl (cy 1, 122, .inl mm_now_f))] sz)) (va_Qi (fun (r : Int32) (u : Unit) => (r = 1 ∧ True) ∨ (r = 0 ∧ True)) (fun _ _ => True) (fun q : Nat => sz ≤ q)) 0 0 (fun q : Nat => sz ≤ q) := by
  refine Met.ofW (cc := cX11_isFree) (maxL := 3) (ret := (some .boolean)) (by decide) rfl ?_
  intro p e s m args below meth c s₁ B hml hv
  obtain ⟨rfl, hsz, hP, hKA, hD0⟩ := hv
  have hx := B.exec
  have hb := B.bytes
  have hr := B.returns
  have hts := atoms_spec (ws := wsX11_isFree) B.pre
  have hown : s.vm.findClass RX11 = some m.cls := findClass_of_methodNamed B.named
  have hlocks := B.notSynchronized
  subst hsz
  have hK := hKA.1
  have hD := hD0
  generalize hAe : (fun q : Nat => s.heap.size ≤ q) = A
  have hA : ∀ q : Nat, s.heap.size ≤ q → A q := fun q h => by rw [← hAe]; exact h
  have hS : va_S A s.heap s.heap [] := va_S.rf
  have hP : va_P D vwCl [(mm, .inr (11, [.ref mm_now, .ref mm_kept, .ref mm_isKept, .ref mm_refused, .int mm_lineFrom, .int mm_lineTo, .ref mm_stands, .ref mm_far, .ref mm_queue, .int mm_queued, .ref mm_meets, .ref mm_bytes, .int (nI bl), .int (nI ta), .int (nI tl), .int mm_token, .int mm_value, .ref mm_next, .int (nI tk)])), (mm_now, .inl (cy 1, 122, .inl mm_now_f))] s.heap := hP
  have hl := lv_entry ([.ref mm, .int (nI pq), .int pz]) (n := 3) (Nat.le_of_ble_eq_true rfl)
  rw [lg_entry_eq]
  generalize (lg_sl ([.ref mm, .int (nI pq), .int pz]) ++ List.replicate (3 - (lg_sl ([.ref mm, .int (nI pq), .int pz])).length) Slot.unset).toArray = ls at hl ⊢
  have hl : lv_has ls 3 [(0, .ref mm), (1, .int (nI pq)), (2, .int pz)] := hl
  refine qW (fun QF hQF => ?_)
  have z0_ := hts (.fieldLink RX11 7 "HeardSeenModel" "now" "[I") (by decide +kernel)
  have zi11_ : ∀ w ∈ u_ws RX11 TX11 19, w ∈ wsX11_isFree := by decide +kernel
  obtain ⟨hW2, hW6, hH2, hH6, hSe, hS4, hS6, hP5⟩ := hF.rng
  refine lv_aload_n hx hb dX11_isFree_0 rfl (lv_at hl 0 rfl) ?_
  refine va_get (D := D) (ci := 11) (v := .ref mm_now) (C := RX11) (T := TX11) (N := 19) hx hb hts zi11_ hown hK hP 0 rfl rfl 0 (by decide) z0_ (fun _ h9 => h9) rfl dX11_isFree_1 ?_
  refine lv_bipush (v := 20) hx hb dX11_isFree_4 (by decide) ?_
  refine lv_iload_n hx hb dX11_isFree_6 rfl (lv_at hl 1 rfl) ?_
  refine lv_iadd hx hb dX11_isFree_7 ?_
  refine lv_topi (fun x1 ex1 => ?_)
  obtain rfl : x1 = nI (20 + pq) := by rw [ex1]; exact nI_add _ _
  refine my_iald hx hb hK hP 1 1 rfl rfl (by first | exact in_ge (N := 122) (by decide) (by omega) (by assumption) | exact vp_in_nI (by omega) (by omega)) (nI_clamp (by omega)) dX11_isFree_8 ?_
  refine lv_if_ne (tgt := 28) hx hb dX11_isFree_9 (by decide) (fun c2 => ?_) (fun c2 => ?_)
  · skip
    refine lv_iconst (v := 0) hx hb dX11_isFree_28 (by decide) ?_
    subst hQF
    exact W.zret (v := 0) hx hb hr rfl (fun t ht hW => ⟨⟨0, (), rfl, (Or.inr ⟨rfl, trivial⟩), trivial⟩, hS.F ht⟩) hS.2.2 dX11_isFree_29
  · skip
    refine lv_aload_n hx hb dX11_isFree_12 rfl (lv_at hl 0 rfl) ?_
    refine va_get (D := D) (ci := 11) (v := .ref mm_now) (C := RX11) (T := TX11) (N := 19) hx hb hts zi11_ hown hK hP 0 rfl rfl 0 (by decide) z0_ (fun _ h9 => h9) rfl dX11_isFree_13 ?_
    refine lv_iload_n hx hb dX11_isFree_16 rfl (lv_at hl 1 rfl) ?_
    refine lv_iload_n hx hb dX11_isFree_17 rfl (lv_at hl 2 rfl) ?_
    refine rd_i (va_runS (As := [.ref mm_now, .int (nI pq), .int pz]) (rest := []) ⟨hx, hb, hml, hown, hts⟩ (n_X11_isStood l D cy mm_now mm_now_f (nI pq) pz _ (mV.p5 (by assumption))) (va_cwS 3 hts gX11_isFree_X11_isStood rfl rfl rfl (by decide +kernel) ⟨Nat.le_of_ble_eq_true rfl, Nat.le_of_ble_eq_true rfl⟩) (pS hKA (hP.sub (ws' := [(mm_now, .inl (cy 1, 122, .inl mm_now_f))]) [1] rfl) (hD.sub (ws' := [(mm_now, .inl (cy 1, 122, .inl mm_now_f))]) [1] (by decide) rfl)) rfl rfl hl.1 rfl (lv_room (Nat.le_of_ble_eq_true rfl)) dX11_isFree_18 ⟨Nat.le_of_ble_eq_true rfl, Nat.le_of_ble_eq_true rfl⟩) hP hS hA (fun r3 H locs hwr3 hP hS => ?_)
    have hwr3 : (r3 = 1 ∧ True) ∨ (r3 = 0 ∧ True) := hwr3
    refine lv_if_ne (tgt := 28) hx hb dX11_isFree_21 (by decide) (fun c4 => ?_) (fun c4 => ?_)
    · skip
      refine lv_iconst (v := 0) hx hb dX11_isFree_28 (by decide) ?_
      subst hQF
      exact W.zret (v := 0) hx hb hr rfl (fun t ht hW => ⟨⟨0, (), rfl, (Or.inr ⟨rfl, trivial⟩), trivial⟩, hS.F ht⟩) hS.2.2 dX11_isFree_29
    · skip
      refine lv_iconst (v := 1) hx hb dX11_isFree_24 (by decide) ?_
      refine lv_goto (tgt := 29) hx hb dX11_isFree_25 (by decide) ?_
      subst hQF
      exact W.zret (v := 1) hx hb hr rfl (fun t ht hW => ⟨⟨1, (), rfl, (Or.inl ⟨rfl, trivial⟩), trivial⟩, hS.F ht⟩) hS.2.2 dX11_isFree_29

set_option maxHeartbeats 4000000 in
set_option maxRecDepth 100000 in
theorem n_X11_stand (l : Launch) (D : va_G) (cy : Nat → ClassId) (mW : Nat) (mH : Nat) (mS : Nat) (mP : Nat) (mm : Nat) (mm_now : Nat) (mm_kept : Nat) (mm_isKept : Nat) (mm_refused : Nat) (mm_lineFrom : Int32) (mm_lineTo : Int32) (mm_stands : Nat) (mm_far : Nat) (mm_queue : Nat) (mm_queued : Int32) (mm_meets : Nat) (mm_bytes : Nat) (bl : Nat) (ta : Nat) (tl : Nat) (mm_token : Int32) (mm_value : Int32) (mm_next : Nat) (tk : Nat) (mm_now_f : Nat → Int32) (pp : Nat) (pq : Nat) (sz : Nat) (hF : mV mm_now_f mW mH mS mP) (hpp : pp < 5) (hpq : pq < 36) : Met l yX11_stand wsX11_stand ({ frames := 0, cells := 0, slots := 0, locals := 0 }) (va_Pc [.ref mm, .int (nI pp), .int (nI pq)] (kPre D cy [(mm, .inr (11, [.ref mm_now, .ref mm_kept, .ref mm_isKept, .ref mm_refused, .int mm_lineFrom, .int mm_lineTo, .ref mm_stands, .ref mm_far, .ref mm_queue, .int mm_queued, .ref mm_meets, .ref mm_bytes, .int (nI bl), .int (nI ta), .int (nI tl), .int mm_token, .int mm_value, .ref mm_next, .int (nI tk)])), (mm_now, .inl (cy 1, 122, .inl mm_now_f))] sz)) (va_Qv (fun (u : (Nat → Int32)) => mV u mW mH mS mP) (fun (u : (Nat → Int32)) t => va_P D vwCl ([(mm, .inr (11, [.ref mm_now, .ref mm_kept, .ref mm_isKept, .ref mm_refused, .int mm_lineFrom, .int mm_lineTo, .ref mm_stands, .ref mm_far, .ref mm_queue, .int mm_queued, .ref mm_meets, .ref mm_bytes, .int (nI bl), .int (nI ta), .int (nI tl), .int mm_token, .int mm_value, .ref mm_next, .int (nI tk)])), (mm_now, .inl (cy 1, 122, .inl u))]) t.heap ∧ va_D (va_A [(mm, .inr (11, [.ref mm_now, .ref mm_kept, .ref mm_isKept, .ref mm_refused, .int mm_lineFrom, .int mm_lineTo, .ref mm_stands, .ref mm_far, .ref mm_queue, .int mm_queued, .ref mm_meets, .ref mm_bytes, .int (nI bl), .int (nI ta), .int (nI tl), .int mm_token, .int mm_value, .ref mm_next, .int (nI tk)])), (mm_now, .inl (cy 1, 122, .inl mm_now_f))] sz) ([(mm, .inr (11, [.ref mm_now, .ref mm_kept, .ref mm_isKept, .ref mm_refused, .int mm_lineFrom, .int mm_lineTo, .ref mm_stands, .ref mm_far, .ref mm_queue, .int mm_queued, .ref mm_meets, .ref mm_bytes, .int (nI bl), .int (nI ta), .int (nI tl), .int mm_token, .int mm_value, .ref mm_next, .int (nI tk)])), (mm_now, .inl (cy 1, 122, .inl u))])) (va_A [(mm, .inr (11, [.ref mm_now, .ref mm_kept, .ref mm_isKept, .ref mm_refused, .int mm_lineFrom, .int mm_lineTo, .ref mm_stands, .ref mm_far, .ref mm_queue, .int mm_queued, .ref mm_meets, .ref mm_bytes, .int (nI bl), .int (nI ta), .int (nI tl), .int mm_token, .int mm_value, .ref mm_next, .int (nI tk)])), (mm_now, .inl (cy 1, 122, .inl mm_now_f))] sz)) 0 0 (va_A [(mm, .inr (11, [.ref mm_now, .ref mm_kept, .ref mm_isKept, .ref mm_refused, .int mm_lineFrom, .int mm_lineTo, .ref mm_stands, .ref mm_far, .ref mm_queue, .int mm_queued, .ref mm_meets, .ref mm_bytes, .int (nI bl), .int (nI ta), .int (nI tl), .int mm_token, .int mm_value, .ref mm_next, .int (nI tk)])), (mm_now, .inl (cy 1, 122, .inl mm_now_f))] sz) := by
  refine Met.ofW (cc := cX11_stand) (maxL := 3) (ret := none) (by decide) rfl ?_
  intro p e s m args below meth c s₁ B hml hv
  obtain ⟨rfl, hsz, hP, hKA, hD0⟩ := hv
  have hx := B.exec
  have hb := B.bytes
  have hr := B.returns
  have hts := atoms_spec (ws := wsX11_stand) B.pre
  have hown : s.vm.findClass RX11 = some m.cls := findClass_of_methodNamed B.named
  have hlocks := B.notSynchronized
  subst hsz
  have hK := hKA.1
  have hD := hD0.self (sz := s.heap.size)
  generalize hAe : va_A [(mm, .inr (11, [.ref mm_now, .ref mm_kept, .ref mm_isKept, .ref mm_refused, .int mm_lineFrom, .int mm_lineTo, .ref mm_stands, .ref mm_far, .ref mm_queue, .int mm_queued, .ref mm_meets, .ref mm_bytes, .int (nI bl), .int (nI ta), .int (nI tl), .int mm_token, .int mm_value, .ref mm_next, .int (nI tk)])), (mm_now, .inl (cy 1, 122, .inl mm_now_f))] s.heap.size = A at hD ⊢
  have hA : ∀ q : Nat, s.heap.size ≤ q → A q := fun q h => by rw [← hAe]; exact Or.inr h
  have hS : va_S A s.heap s.heap [] := va_S.rf
  have hP : va_P D vwCl [(mm, .inr (11, [.ref mm_now, .ref mm_kept, .ref mm_isKept, .ref mm_refused, .int mm_lineFrom, .int mm_lineTo, .ref mm_stands, .ref mm_far, .ref mm_queue, .int mm_queued, .ref mm_meets, .ref mm_bytes, .int (nI bl), .int (nI ta), .int (nI tl), .int mm_token, .int mm_value, .ref mm_next, .int (nI tk)])), (mm_now, .inl (cy 1, 122, .inl mm_now_f))] s.heap := hP
  have hl := lv_entry ([.ref mm, .int (nI pp), .int (nI pq)]) (n := 3) (Nat.le_of_ble_eq_true rfl)
  rw [lg_entry_eq]
  generalize (lg_sl ([.ref mm, .int (nI pp), .int (nI pq)]) ++ List.replicate (3 - (lg_sl ([.ref mm, .int (nI pp), .int (nI pq)])).length) Slot.unset).toArray = ls at hl ⊢
  have hl : lv_has ls 3 [(0, .ref mm), (1, .int (nI pp)), (2, .int (nI pq))] := hl
  refine qW (fun QF hQF => ?_)
  have z0_ := hts (.fieldLink RX11 7 "HeardSeenModel" "now" "[I") (by decide +kernel)
  have zi11_ : ∀ w ∈ u_ws RX11 TX11 19, w ∈ wsX11_stand := by decide +kernel
  obtain ⟨hW2, hW6, hH2, hH6, hSe, hS4, hS6, hP5⟩ := hF.rng
  refine lv_aload_n hx hb dX11_stand_0 rfl (lv_at hl 0 rfl) ?_
  refine va_get (D := D) (ci := 11) (v := .ref mm_now) (C := RX11) (T := TX11) (N := 19) hx hb hts zi11_ hown hK hP 0 rfl rfl 0 (by decide) z0_ (fun _ h9 => h9) rfl dX11_stand_1 ?_
  refine lv_iconst (v := 5) hx hb dX11_stand_4 (by decide) ?_
  refine lv_iconst (v := 3) hx hb dX11_stand_5 (by decide) ?_
  refine lv_iload_n hx hb dX11_stand_6 rfl (lv_at hl 1 rfl) ?_
  refine lv_imul hx hb dX11_stand_7 ?_
  refine lv_topi (fun x1 ex1 => ?_)
  obtain rfl : x1 = nI (3 * pp) := by rw [ex1]; exact pk_mul _ _
  refine lv_iadd hx hb dX11_stand_8 ?_
  refine lv_topi (fun x2 ex2 => ?_)
  obtain rfl : x2 = nI (5 + (3 * pp)) := by rw [ex2]; exact nI_add _ _
  refine lv_iconst (v := 1) hx hb dX11_stand_9 (by decide) ?_
  refine lv_iadd hx hb dX11_stand_10 ?_
  refine lv_topi (fun x3 ex3 => ?_)
  obtain rfl : x3 = nI ((5 + (3 * pp)) + 1) := by rw [ex3]; exact nI_add _ _
  refine lv_iload_n hx hb dX11_stand_11 rfl (lv_at hl 2 rfl) ?_
  refine my_iast hx hb hK hP hD hS 1 1 rfl rfl (by first | exact in_ge (N := 122) (by decide) (by omega) (by assumption) | exact vp_in_nI (by omega) (by omega)) (nI_clamp (by omega)) dX11_stand_12 (fun H locs hP hD hS => ?_)
  have hP : va_P D vwCl [(mm, .inr (11, [.ref mm_now, .ref mm_kept, .ref mm_isKept, .ref mm_refused, .int mm_lineFrom, .int mm_lineTo, .ref mm_stands, .ref mm_far, .ref mm_queue, .int mm_queued, .ref mm_meets, .ref mm_bytes, .int (nI bl), .int (nI ta), .int (nI tl), .int mm_token, .int mm_value, .ref mm_next, .int (nI tk)])), (mm_now, .inl (cy 1, 122, .inl (upd mm_now_f ((5 + (3 * pp)) + 1) (nI pq))))] H := hP
  have hD : va_D A [(mm, .inr (11, [.ref mm_now, .ref mm_kept, .ref mm_isKept, .ref mm_refused, .int mm_lineFrom, .int mm_lineTo, .ref mm_stands, .ref mm_far, .ref mm_queue, .int mm_queued, .ref mm_meets, .ref mm_bytes, .int (nI bl), .int (nI ta), .int (nI tl), .int mm_token, .int mm_value, .ref mm_next, .int (nI tk)])), (mm_now, .inl (cy 1, 122, .inl (upd mm_now_f ((5 + (3 * pp)) + 1) (nI pq))))] := hD
  obtain ⟨f4, ef4⟩ : ∃ y : Nat → Int32, y = upd mm_now_f ((5 + (3 * pp)) + 1) (nI pq) := ⟨_, rfl⟩
  rw [← ef4] at hP hD
  have hf4 : mV f4 mW mH mS mP := by rw [ef4]; exact mV.put hF ((5 + (3 * pp)) + 1) pq rfl (by omega) (by unfold mHi; (repeat' split) <;> omega)
  have hP : va_P D vwCl [(mm, .inr (11, [.ref mm_now, .ref mm_kept, .ref mm_isKept, .ref mm_refused, .int mm_lineFrom, .int mm_lineTo, .ref mm_stands, .ref mm_far, .ref mm_queue, .int mm_queued, .ref mm_meets, .ref mm_bytes, .int (nI bl), .int (nI ta), .int (nI tl), .int mm_token, .int mm_value, .ref mm_next, .int (nI tk)])), (mm_now, .inl (cy 1, 122, .inl f4))] H := hP
  have hD : va_D A [(mm, .inr (11, [.ref mm_now, .ref mm_kept, .ref mm_isKept, .ref mm_refused, .int mm_lineFrom, .int mm_lineTo, .ref mm_stands, .ref mm_far, .ref mm_queue, .int mm_queued, .ref mm_meets, .ref mm_bytes, .int (nI bl), .int (nI ta), .int (nI tl), .int mm_token, .int mm_value, .ref mm_next, .int (nI tk)])), (mm_now, .inl (cy 1, 122, .inl f4))] := hD
  subst hQF
  have hP9 := hP
  have hD9 := hD
  exact W.vret hx hb hr (fun t ht hW => ⟨⟨f4, rfl, hf4, by rw [ht]; exact hP9, hD9⟩, hS.F ht⟩) hS.2.2 dX11_stand_13

set_option maxHeartbeats 4000000 in
set_option maxRecDepth 100000 in
theorem n_X11_size (l : Launch) (D : va_G) (cy : Nat → ClassId) (px : Int32) (sz : Nat)  : Met l yX11_size wsX11_size ({ frames := 0, cells := 0, slots := 0, locals := 0 }) (va_Pc [.int px] (kPre D cy [] sz)) (va_Qi (fun (r : Int32) (u : Unit) => r = 0 → px = 0) (fun _ _ => True) (fun q : Nat => sz ≤ q)) 0 0 (fun q : Nat => sz ≤ q) := by
  refine Met.ofW (cc := cX11_size) (maxL := 1) (ret := (some .int)) (by decide) rfl ?_
  intro p e s m args below meth c s₁ B hml hv
  obtain ⟨rfl, hsz, hP, hKA, hD0⟩ := hv
  have hx := B.exec
  have hb := B.bytes
  have hr := B.returns
  have hts := atoms_spec (ws := wsX11_size) B.pre
  have hown : s.vm.findClass RX11 = some m.cls := findClass_of_methodNamed B.named
  have hlocks := B.notSynchronized
  subst hsz
  have hK := hKA.1
  have hD := hD0
  generalize hAe : (fun q : Nat => s.heap.size ≤ q) = A
  have hA : ∀ q : Nat, s.heap.size ≤ q → A q := fun q h => by rw [← hAe]; exact h
  have hS : va_S A s.heap s.heap [] := va_S.rf
  have hP : va_P D vwCl [] s.heap := hP
  have hl := lv_entry ([.int px]) (n := 1) (Nat.le_of_ble_eq_true rfl)
  rw [lg_entry_eq]
  generalize (lg_sl ([.int px]) ++ List.replicate (1 - (lg_sl ([.int px])).length) Slot.unset).toArray = ls at hl ⊢
  have hl : lv_has ls 1 [(0, .int px)] := hl
  refine qW (fun QF hQF => ?_)
  refine lv_iload_n hx hb dX11_size_0 rfl (lv_at hl 0 rfl) ?_
  refine lv_if_ge (tgt := 9) hx hb dX11_size_1 (by decide) (fun c1 => ?_) (fun c1 => ?_)
  · skip
    refine lv_iload_n hx hb dX11_size_9 rfl (lv_at hl 0 rfl) ?_
    subst hQF
    exact W.iret (v := px) hx hb hr (fun t ht hW => ⟨⟨px, (), rfl, (fun q => q), trivial⟩, hS.F ht⟩) hS.2.2 dX11_size_10
  · skip
    refine lv_iload_n hx hb dX11_size_4 rfl (lv_at hl 0 rfl) ?_
    refine lv_ineg hx hb dX11_size_5 ?_
    refine lv_goto (tgt := 10) hx hb dX11_size_6 (by decide) ?_
    refine lv_topi (fun x2 ex2 => ?_)
    subst hQF
    exact W.iret (v := x2) hx hb hr (fun t ht hW => ⟨⟨x2, (), rfl, (fun q => z_n0 (by rw [← ex2]; exact q)), trivial⟩, hS.F ht⟩) hS.2.2 dX11_size_10

set_option maxHeartbeats 4000000 in
set_option maxRecDepth 100000 in
theorem n_X11_xOf (l : Launch) (D : va_G) (cy : Nat → ClassId) (mW : Nat) (mH : Nat) (mS : Nat) (mP : Nat) (mm : Nat) (mm_now : Nat) (mm_kept : Nat) (mm_isKept : Nat) (mm_refused : Nat) (mm_lineFrom : Int32) (mm_lineTo : Int32) (mm_stands : Nat) (mm_far : Nat) (mm_queue : Nat) (mm_queued : Int32) (mm_meets : Nat) (mm_bytes : Nat) (bl : Nat) (ta : Nat) (tl : Nat) (mm_token : Int32) (mm_value : Int32) (mm_next : Nat) (tk : Nat) (mm_now_f : Nat → Int32) (px : Int32) (sz : Nat) (hF : mV mm_now_f mW mH mS mP) : Met l yX11_xOf wsX11_xOf ({ frames := 1, cells := 0, slots := 0, locals := 20 }) (va_Pc [.ref mm, .int px] (kPre D cy [(mm, .inr (11, [.ref mm_now, .ref mm_kept, .ref mm_isKept, .ref mm_refused, .int mm_lineFrom, .int mm_lineTo, .ref mm_stands, .ref mm_far, .ref mm_queue, .int mm_queued, .ref mm_meets, .ref mm_bytes, .int (nI bl), .int (nI ta), .int (nI tl), .int mm_token, .int mm_value, .ref mm_next, .int (nI tk)])), (mm_now, .inl (cy 1, 122, .inl mm_now_f))] sz)) (va_Qi (fun (r : Int32) (u : Unit) => r = px - px / nI mW * nI mW) (fun _ _ => True) (fun q : Nat => sz ≤ q)) 0 0 (fun q : Nat => sz ≤ q) := by
  refine Met.ofW (cc := cX11_xOf) (maxL := 2) (ret := (some .int)) (by decide) rfl ?_
  intro p e s m args below meth c s₁ B hml hv
  obtain ⟨rfl, hsz, hP, hKA, hD0⟩ := hv
  have hx := B.exec
  have hb := B.bytes
  have hr := B.returns
  have hts := atoms_spec (ws := wsX11_xOf) B.pre
  have hown : s.vm.findClass RX11 = some m.cls := findClass_of_methodNamed B.named
  have hlocks := B.notSynchronized
  subst hsz
  have hK := hKA.1
  have hD := hD0
  generalize hAe : (fun q : Nat => s.heap.size ≤ q) = A
  have hA : ∀ q : Nat, s.heap.size ≤ q → A q := fun q h => by rw [← hAe]; exact h
  have hS : va_S A s.heap s.heap [] := va_S.rf
  have hP : va_P D vwCl [(mm, .inr (11, [.ref mm_now, .ref mm_kept, .ref mm_isKept, .ref mm_refused, .int mm_lineFrom, .int mm_lineTo, .ref mm_stands, .ref mm_far, .ref mm_queue, .int mm_queued, .ref mm_meets, .ref mm_bytes, .int (nI bl), .int (nI ta), .int (nI tl), .int mm_token, .int mm_value, .ref mm_next, .int (nI tk)])), (mm_now, .inl (cy 1, 122, .inl mm_now_f))] s.heap := hP
  have hl := lv_entry ([.ref mm, .int px]) (n := 2) (Nat.le_of_ble_eq_true rfl)
  rw [lg_entry_eq]
  generalize (lg_sl ([.ref mm, .int px]) ++ List.replicate (2 - (lg_sl ([.ref mm, .int px])).length) Slot.unset).toArray = ls at hl ⊢
  have hl : lv_has ls 2 [(0, .ref mm), (1, .int px)] := hl
  refine qW (fun QF hQF => ?_)
  obtain ⟨hW2, hW6, hH2, hH6, hSe, hS4, hS6, hP5⟩ := hF.rng
  refine lv_iload_n hx hb dX11_xOf_0 rfl (lv_at hl 1 rfl) ?_
  refine lv_aload_n hx hb dX11_xOf_1 rfl (lv_at hl 0 rfl) ?_
  refine rd_i (va_runV (As := []) (rest := [.int px]) ⟨hx, hb, hml, hown, hts⟩ (n_X11_wide l D cy mW mH mS mP mm mm_now mm_kept mm_isKept mm_refused mm_lineFrom mm_lineTo mm_stands mm_far mm_queue mm_queued mm_meets mm_bytes bl ta tl mm_token mm_value mm_next tk mm_now_f _ (by first | assumption | omega)) (cwV 0 hts gX11_xOf_X11_wide rfl rfl rfl (by decide +kernel) ⟨Nat.le_of_ble_eq_true rfl, Nat.le_of_ble_eq_true rfl⟩) (pV (ci := 11) (k := 0) hKA (hP.sub (ws' := [(mm, .inr (11, [.ref mm_now, .ref mm_kept, .ref mm_isKept, .ref mm_refused, .int mm_lineFrom, .int mm_lineTo, .ref mm_stands, .ref mm_far, .ref mm_queue, .int mm_queued, .ref mm_meets, .ref mm_bytes, .int (nI bl), .int (nI ta), .int (nI tl), .int mm_token, .int mm_value, .ref mm_next, .int (nI tk)])), (mm_now, .inl (cy 1, 122, .inl mm_now_f))]) [0, 1] rfl) (hD.sub (ws' := [(mm, .inr (11, [.ref mm_now, .ref mm_kept, .ref mm_isKept, .ref mm_refused, .int mm_lineFrom, .int mm_lineTo, .ref mm_stands, .ref mm_far, .ref mm_queue, .int mm_queued, .ref mm_meets, .ref mm_bytes, .int (nI bl), .int (nI ta), .int (nI tl), .int mm_token, .int mm_value, .ref mm_next, .int (nI tk)])), (mm_now, .inl (cy 1, 122, .inl mm_now_f))]) [0, 1] (by decide) rfl) rfl rfl) rfl rfl hl.1 rfl (lv_room (Nat.le_of_ble_eq_true rfl)) dX11_xOf_2 ⟨Nat.le_of_ble_eq_true rfl, Nat.le_of_ble_eq_true rfl⟩) hP hS hA (fun r1 H locs hwr1 hP hS => ?_)
  have hwr1 : r1 = nI mW := hwr1
  subst hwr1
  refine lv_irem hx hb dX11_xOf_5 (nI_ne0 (by omega) (by omega)) ?_
  subst hQF
  exact W.iret (v := px - px / (nI mW) * (nI mW)) hx hb hr (fun t ht hW => ⟨⟨px - px / (nI mW) * (nI mW), (), rfl, rfl, trivial⟩, hS.F ht⟩) hS.2.2 dX11_xOf_6

set_option maxHeartbeats 4000000 in
set_option maxRecDepth 100000 in
theorem n_X11_yOf (l : Launch) (D : va_G) (cy : Nat → ClassId) (mW : Nat) (mH : Nat) (mS : Nat) (mP : Nat) (mm : Nat) (mm_now : Nat) (mm_kept : Nat) (mm_isKept : Nat) (mm_refused : Nat) (mm_lineFrom : Int32) (mm_lineTo : Int32) (mm_stands : Nat) (mm_far : Nat) (mm_queue : Nat) (mm_queued : Int32) (mm_meets : Nat) (mm_bytes : Nat) (bl : Nat) (ta : Nat) (tl : Nat) (mm_token : Int32) (mm_value : Int32) (mm_next : Nat) (tk : Nat) (mm_now_f : Nat → Int32) (px : Int32) (sz : Nat) (hF : mV mm_now_f mW mH mS mP) : Met l yX11_yOf wsX11_yOf ({ frames := 1, cells := 0, slots := 0, locals := 20 }) (va_Pc [.ref mm, .int px] (kPre D cy [(mm, .inr (11, [.ref mm_now, .ref mm_kept, .ref mm_isKept, .ref mm_refused, .int mm_lineFrom, .int mm_lineTo, .ref mm_stands, .ref mm_far, .ref mm_queue, .int mm_queued, .ref mm_meets, .ref mm_bytes, .int (nI bl), .int (nI ta), .int (nI tl), .int mm_token, .int mm_value, .ref mm_next, .int (nI tk)])), (mm_now, .inl (cy 1, 122, .inl mm_now_f))] sz)) (va_Qi (fun (r : Int32) (u : Unit) => r = px / nI mW) (fun _ _ => True) (fun q : Nat => sz ≤ q)) 0 0 (fun q : Nat => sz ≤ q) := by
  refine Met.ofW (cc := cX11_yOf) (maxL := 2) (ret := (some .int)) (by decide) rfl ?_
  intro p e s m args below meth c s₁ B hml hv
  obtain ⟨rfl, hsz, hP, hKA, hD0⟩ := hv
  have hx := B.exec
  have hb := B.bytes
  have hr := B.returns
  have hts := atoms_spec (ws := wsX11_yOf) B.pre
  have hown : s.vm.findClass RX11 = some m.cls := findClass_of_methodNamed B.named
  have hlocks := B.notSynchronized
  subst hsz
  have hK := hKA.1
  have hD := hD0
  generalize hAe : (fun q : Nat => s.heap.size ≤ q) = A
  have hA : ∀ q : Nat, s.heap.size ≤ q → A q := fun q h => by rw [← hAe]; exact h
  have hS : va_S A s.heap s.heap [] := va_S.rf
  have hP : va_P D vwCl [(mm, .inr (11, [.ref mm_now, .ref mm_kept, .ref mm_isKept, .ref mm_refused, .int mm_lineFrom, .int mm_lineTo, .ref mm_stands, .ref mm_far, .ref mm_queue, .int mm_queued, .ref mm_meets, .ref mm_bytes, .int (nI bl), .int (nI ta), .int (nI tl), .int mm_token, .int mm_value, .ref mm_next, .int (nI tk)])), (mm_now, .inl (cy 1, 122, .inl mm_now_f))] s.heap := hP
  have hl := lv_entry ([.ref mm, .int px]) (n := 2) (Nat.le_of_ble_eq_true rfl)
  rw [lg_entry_eq]
  generalize (lg_sl ([.ref mm, .int px]) ++ List.replicate (2 - (lg_sl ([.ref mm, .int px])).length) Slot.unset).toArray = ls at hl ⊢
  have hl : lv_has ls 2 [(0, .ref mm), (1, .int px)] := hl
  refine qW (fun QF hQF => ?_)
  obtain ⟨hW2, hW6, hH2, hH6, hSe, hS4, hS6, hP5⟩ := hF.rng
  refine lv_iload_n hx hb dX11_yOf_0 rfl (lv_at hl 1 rfl) ?_
  refine lv_aload_n hx hb dX11_yOf_1 rfl (lv_at hl 0 rfl) ?_
  refine rd_i (va_runV (As := []) (rest := [.int px]) ⟨hx, hb, hml, hown, hts⟩ (n_X11_wide l D cy mW mH mS mP mm mm_now mm_kept mm_isKept mm_refused mm_lineFrom mm_lineTo mm_stands mm_far mm_queue mm_queued mm_meets mm_bytes bl ta tl mm_token mm_value mm_next tk mm_now_f _ (by first | assumption | omega)) (cwV 0 hts gX11_yOf_X11_wide rfl rfl rfl (by decide +kernel) ⟨Nat.le_of_ble_eq_true rfl, Nat.le_of_ble_eq_true rfl⟩) (pV (ci := 11) (k := 0) hKA (hP.sub (ws' := [(mm, .inr (11, [.ref mm_now, .ref mm_kept, .ref mm_isKept, .ref mm_refused, .int mm_lineFrom, .int mm_lineTo, .ref mm_stands, .ref mm_far, .ref mm_queue, .int mm_queued, .ref mm_meets, .ref mm_bytes, .int (nI bl), .int (nI ta), .int (nI tl), .int mm_token, .int mm_value, .ref mm_next, .int (nI tk)])), (mm_now, .inl (cy 1, 122, .inl mm_now_f))]) [0, 1] rfl) (hD.sub (ws' := [(mm, .inr (11, [.ref mm_now, .ref mm_kept, .ref mm_isKept, .ref mm_refused, .int mm_lineFrom, .int mm_lineTo, .ref mm_stands, .ref mm_far, .ref mm_queue, .int mm_queued, .ref mm_meets, .ref mm_bytes, .int (nI bl), .int (nI ta), .int (nI tl), .int mm_token, .int mm_value, .ref mm_next, .int (nI tk)])), (mm_now, .inl (cy 1, 122, .inl mm_now_f))]) [0, 1] (by decide) rfl) rfl rfl) rfl rfl hl.1 rfl (lv_room (Nat.le_of_ble_eq_true rfl)) dX11_yOf_2 ⟨Nat.le_of_ble_eq_true rfl, Nat.le_of_ble_eq_true rfl⟩) hP hS hA (fun r1 H locs hwr1 hP hS => ?_)
  have hwr1 : r1 = nI mW := hwr1
  subst hwr1
  refine lv_idiv hx hb dX11_yOf_5 (nI_ne0 (by omega) (by omega)) ?_
  subst hQF
  exact W.iret (v := px / (nI mW)) hx hb hr (fun t ht hW => ⟨⟨px / (nI mW), (), rfl, rfl, trivial⟩, hS.F ht⟩) hS.2.2 dX11_yOf_6

set_option maxHeartbeats 4000000 in
set_option maxRecDepth 100000 in
theorem n_X11_yards (l : Launch) (D : va_G) (cy : Nat → ClassId) (mW : Nat) (mH : Nat) (mS : Nat) (mP : Nat) (mm : Nat) (mm_now : Nat) (mm_kept : Nat) (mm_isKept : Nat) (mm_refused : Nat) (mm_lineFrom : Int32) (mm_lineTo : Int32) (mm_stands : Nat) (mm_far : Nat) (mm_queue : Nat) (mm_queued : Int32) (mm_meets : Nat) (mm_bytes : Nat) (bl : Nat) (ta : Nat) (tl : Nat) (mm_token : Int32) (mm_value : Int32) (mm_next : Nat) (tk : Nat) (mm_now_f : Nat → Int32) (px : Int32) (py : Int32) (sz : Nat) (hF : mV mm_now_f mW mH mS mP) : Met l yX11_yards wsX11_yards ({ frames := 2, cells := 0, slots := 0, locals := 41 }) (va_Pc [.ref mm, .int px, .int py] (kPre D cy [(mm, .inr (11, [.ref mm_now, .ref mm_kept, .ref mm_isKept, .ref mm_refused, .int mm_lineFrom, .int mm_lineTo, .ref mm_stands, .ref mm_far, .ref mm_queue, .int mm_queued, .ref mm_meets, .ref mm_bytes, .int (nI bl), .int (nI ta), .int (nI tl), .int mm_token, .int mm_value, .ref mm_next, .int (nI tk)])), (mm_now, .inl (cy 1, 122, .inl mm_now_f))] sz)) (va_Qi (fun (r : Int32) (u : Unit) => True) (fun _ _ => True) (fun q : Nat => sz ≤ q)) 0 0 (fun q : Nat => sz ≤ q) := by
  refine Met.ofW (cc := cX11_yards) (maxL := 3) (ret := (some .int)) (by decide) rfl ?_
  intro p e s m args below meth c s₁ B hml hv
  obtain ⟨rfl, hsz, hP, hKA, hD0⟩ := hv
  have hx := B.exec
  have hb := B.bytes
  have hr := B.returns
  have hts := atoms_spec (ws := wsX11_yards) B.pre
  have hown : s.vm.findClass RX11 = some m.cls := findClass_of_methodNamed B.named
  have hlocks := B.notSynchronized
  subst hsz
  have hK := hKA.1
  have hD := hD0
  generalize hAe : (fun q : Nat => s.heap.size ≤ q) = A
  have hA : ∀ q : Nat, s.heap.size ≤ q → A q := fun q h => by rw [← hAe]; exact h
  have hS : va_S A s.heap s.heap [] := va_S.rf
  have hP : va_P D vwCl [(mm, .inr (11, [.ref mm_now, .ref mm_kept, .ref mm_isKept, .ref mm_refused, .int mm_lineFrom, .int mm_lineTo, .ref mm_stands, .ref mm_far, .ref mm_queue, .int mm_queued, .ref mm_meets, .ref mm_bytes, .int (nI bl), .int (nI ta), .int (nI tl), .int mm_token, .int mm_value, .ref mm_next, .int (nI tk)])), (mm_now, .inl (cy 1, 122, .inl mm_now_f))] s.heap := hP
  have hl := lv_entry ([.ref mm, .int px, .int py]) (n := 3) (Nat.le_of_ble_eq_true rfl)
  rw [lg_entry_eq]
  generalize (lg_sl ([.ref mm, .int px, .int py]) ++ List.replicate (3 - (lg_sl ([.ref mm, .int px, .int py])).length) Slot.unset).toArray = ls at hl ⊢
  have hl : lv_has ls 3 [(0, .ref mm), (1, .int px), (2, .int py)] := hl
  refine qW (fun QF hQF => ?_)
  obtain ⟨hW2, hW6, hH2, hH6, hSe, hS4, hS6, hP5⟩ := hF.rng
  refine lv_aload_n hx hb dX11_yards_0 rfl (lv_at hl 0 rfl) ?_
  refine lv_iload_n hx hb dX11_yards_1 rfl (lv_at hl 1 rfl) ?_
  refine rd_i (va_runV (As := [.int px]) (rest := []) ⟨hx, hb, hml, hown, hts⟩ (n_X11_xOf l D cy mW mH mS mP mm mm_now mm_kept mm_isKept mm_refused mm_lineFrom mm_lineTo mm_stands mm_far mm_queue mm_queued mm_meets mm_bytes bl ta tl mm_token mm_value mm_next tk mm_now_f px _ (by first | assumption | omega)) (cwV 1 hts gX11_yards_X11_xOf rfl rfl rfl (by decide +kernel) ⟨Nat.le_of_ble_eq_true rfl, Nat.le_of_ble_eq_true rfl⟩) (pV (ci := 11) (k := 0) hKA (hP.sub (ws' := [(mm, .inr (11, [.ref mm_now, .ref mm_kept, .ref mm_isKept, .ref mm_refused, .int mm_lineFrom, .int mm_lineTo, .ref mm_stands, .ref mm_far, .ref mm_queue, .int mm_queued, .ref mm_meets, .ref mm_bytes, .int (nI bl), .int (nI ta), .int (nI tl), .int mm_token, .int mm_value, .ref mm_next, .int (nI tk)])), (mm_now, .inl (cy 1, 122, .inl mm_now_f))]) [0, 1] rfl) (hD.sub (ws' := [(mm, .inr (11, [.ref mm_now, .ref mm_kept, .ref mm_isKept, .ref mm_refused, .int mm_lineFrom, .int mm_lineTo, .ref mm_stands, .ref mm_far, .ref mm_queue, .int mm_queued, .ref mm_meets, .ref mm_bytes, .int (nI bl), .int (nI ta), .int (nI tl), .int mm_token, .int mm_value, .ref mm_next, .int (nI tk)])), (mm_now, .inl (cy 1, 122, .inl mm_now_f))]) [0, 1] (by decide) rfl) rfl rfl) rfl rfl hl.1 rfl (lv_room (Nat.le_of_ble_eq_true rfl)) dX11_yards_2 ⟨Nat.le_of_ble_eq_true rfl, Nat.le_of_ble_eq_true rfl⟩) hP hS hA (fun r1 H locs hwr1 hP hS => ?_)
  have hwr1 : r1 = px - px / nI mW * nI mW := hwr1
  subst hwr1
  refine lv_aload_n hx hb dX11_yards_5 rfl (lv_at hl 0 rfl) ?_
  refine lv_iload_n hx hb dX11_yards_6 rfl (lv_at hl 2 rfl) ?_
  refine rd_i (va_runV (As := [.int py]) (rest := [.int (px - px / nI mW * nI mW)]) ⟨hx, hb, hml, hown, hts⟩ (n_X11_xOf l D cy mW mH mS mP mm mm_now mm_kept mm_isKept mm_refused mm_lineFrom mm_lineTo mm_stands mm_far mm_queue mm_queued mm_meets mm_bytes bl ta tl mm_token mm_value mm_next tk mm_now_f py _ (by first | assumption | omega)) (cwV 1 hts gX11_yards_X11_xOf rfl rfl rfl (by decide +kernel) ⟨Nat.le_of_ble_eq_true rfl, Nat.le_of_ble_eq_true rfl⟩) (pV (ci := 11) (k := 0) hKA (hP.sub (ws' := [(mm, .inr (11, [.ref mm_now, .ref mm_kept, .ref mm_isKept, .ref mm_refused, .int mm_lineFrom, .int mm_lineTo, .ref mm_stands, .ref mm_far, .ref mm_queue, .int mm_queued, .ref mm_meets, .ref mm_bytes, .int (nI bl), .int (nI ta), .int (nI tl), .int mm_token, .int mm_value, .ref mm_next, .int (nI tk)])), (mm_now, .inl (cy 1, 122, .inl mm_now_f))]) [0, 1] rfl) (hD.sub (ws' := [(mm, .inr (11, [.ref mm_now, .ref mm_kept, .ref mm_isKept, .ref mm_refused, .int mm_lineFrom, .int mm_lineTo, .ref mm_stands, .ref mm_far, .ref mm_queue, .int mm_queued, .ref mm_meets, .ref mm_bytes, .int (nI bl), .int (nI ta), .int (nI tl), .int mm_token, .int mm_value, .ref mm_next, .int (nI tk)])), (mm_now, .inl (cy 1, 122, .inl mm_now_f))]) [0, 1] (by decide) rfl) rfl rfl) rfl rfl hl.1 rfl (lv_room (Nat.le_of_ble_eq_true rfl)) dX11_yards_7 ⟨Nat.le_of_ble_eq_true rfl, Nat.le_of_ble_eq_true rfl⟩) hP hS hA (fun r2 H locs hwr2 hP hS => ?_)
  have hwr2 : r2 = py - py / nI mW * nI mW := hwr2
  subst hwr2
  refine lv_isub hx hb dX11_yards_10 ?_
  refine rd_i (va_runS (As := [.int ((px - px / nI mW * nI mW) - (py - py / nI mW * nI mW))]) (rest := []) ⟨hx, hb, hml, hown, hts⟩ (n_X11_size l D cy ((px - px / nI mW * nI mW) - (py - py / nI mW * nI mW)) _ ) (va_cwS 1 hts gX11_yards_X11_size rfl rfl rfl (by decide +kernel) ⟨Nat.le_of_ble_eq_true rfl, Nat.le_of_ble_eq_true rfl⟩) (pS hKA pE (dE (A := A))) rfl rfl hl.1 rfl (lv_room (Nat.le_of_ble_eq_true rfl)) dX11_yards_11 ⟨Nat.le_of_ble_eq_true rfl, Nat.le_of_ble_eq_true rfl⟩) hP hS hA (fun r3 H locs hwr3 hP hS => ?_)
  have hwr3 : r3 = 0 → ((px - px / nI mW * nI mW) - (py - py / nI mW * nI mW)) = 0 := hwr3
  refine lv_aload_n hx hb dX11_yards_14 rfl (lv_at hl 0 rfl) ?_
  refine lv_iload_n hx hb dX11_yards_15 rfl (lv_at hl 1 rfl) ?_
  refine rd_i (va_runV (As := [.int px]) (rest := [.int r3]) ⟨hx, hb, hml, hown, hts⟩ (n_X11_yOf l D cy mW mH mS mP mm mm_now mm_kept mm_isKept mm_refused mm_lineFrom mm_lineTo mm_stands mm_far mm_queue mm_queued mm_meets mm_bytes bl ta tl mm_token mm_value mm_next tk mm_now_f px _ (by first | assumption | omega)) (cwV 1 hts gX11_yards_X11_yOf rfl rfl rfl (by decide +kernel) ⟨Nat.le_of_ble_eq_true rfl, Nat.le_of_ble_eq_true rfl⟩) (pV (ci := 11) (k := 0) hKA (hP.sub (ws' := [(mm, .inr (11, [.ref mm_now, .ref mm_kept, .ref mm_isKept, .ref mm_refused, .int mm_lineFrom, .int mm_lineTo, .ref mm_stands, .ref mm_far, .ref mm_queue, .int mm_queued, .ref mm_meets, .ref mm_bytes, .int (nI bl), .int (nI ta), .int (nI tl), .int mm_token, .int mm_value, .ref mm_next, .int (nI tk)])), (mm_now, .inl (cy 1, 122, .inl mm_now_f))]) [0, 1] rfl) (hD.sub (ws' := [(mm, .inr (11, [.ref mm_now, .ref mm_kept, .ref mm_isKept, .ref mm_refused, .int mm_lineFrom, .int mm_lineTo, .ref mm_stands, .ref mm_far, .ref mm_queue, .int mm_queued, .ref mm_meets, .ref mm_bytes, .int (nI bl), .int (nI ta), .int (nI tl), .int mm_token, .int mm_value, .ref mm_next, .int (nI tk)])), (mm_now, .inl (cy 1, 122, .inl mm_now_f))]) [0, 1] (by decide) rfl) rfl rfl) rfl rfl hl.1 rfl (lv_room (Nat.le_of_ble_eq_true rfl)) dX11_yards_16 ⟨Nat.le_of_ble_eq_true rfl, Nat.le_of_ble_eq_true rfl⟩) hP hS hA (fun r4 H locs hwr4 hP hS => ?_)
  have hwr4 : r4 = px / nI mW := hwr4
  subst hwr4
  refine lv_aload_n hx hb dX11_yards_19 rfl (lv_at hl 0 rfl) ?_
  refine lv_iload_n hx hb dX11_yards_20 rfl (lv_at hl 2 rfl) ?_
  refine rd_i (va_runV (As := [.int py]) (rest := [.int (px / nI mW), .int r3]) ⟨hx, hb, hml, hown, hts⟩ (n_X11_yOf l D cy mW mH mS mP mm mm_now mm_kept mm_isKept mm_refused mm_lineFrom mm_lineTo mm_stands mm_far mm_queue mm_queued mm_meets mm_bytes bl ta tl mm_token mm_value mm_next tk mm_now_f py _ (by first | assumption | omega)) (cwV 1 hts gX11_yards_X11_yOf rfl rfl rfl (by decide +kernel) ⟨Nat.le_of_ble_eq_true rfl, Nat.le_of_ble_eq_true rfl⟩) (pV (ci := 11) (k := 0) hKA (hP.sub (ws' := [(mm, .inr (11, [.ref mm_now, .ref mm_kept, .ref mm_isKept, .ref mm_refused, .int mm_lineFrom, .int mm_lineTo, .ref mm_stands, .ref mm_far, .ref mm_queue, .int mm_queued, .ref mm_meets, .ref mm_bytes, .int (nI bl), .int (nI ta), .int (nI tl), .int mm_token, .int mm_value, .ref mm_next, .int (nI tk)])), (mm_now, .inl (cy 1, 122, .inl mm_now_f))]) [0, 1] rfl) (hD.sub (ws' := [(mm, .inr (11, [.ref mm_now, .ref mm_kept, .ref mm_isKept, .ref mm_refused, .int mm_lineFrom, .int mm_lineTo, .ref mm_stands, .ref mm_far, .ref mm_queue, .int mm_queued, .ref mm_meets, .ref mm_bytes, .int (nI bl), .int (nI ta), .int (nI tl), .int mm_token, .int mm_value, .ref mm_next, .int (nI tk)])), (mm_now, .inl (cy 1, 122, .inl mm_now_f))]) [0, 1] (by decide) rfl) rfl rfl) rfl rfl hl.1 rfl (lv_room (Nat.le_of_ble_eq_true rfl)) dX11_yards_21 ⟨Nat.le_of_ble_eq_true rfl, Nat.le_of_ble_eq_true rfl⟩) hP hS hA (fun r5 H locs hwr5 hP hS => ?_)
  have hwr5 : r5 = py / nI mW := hwr5
  subst hwr5
  refine lv_isub hx hb dX11_yards_24 ?_
  refine rd_i (va_runS (As := [.int ((px / nI mW) - (py / nI mW))]) (rest := [.int r3]) ⟨hx, hb, hml, hown, hts⟩ (n_X11_size l D cy ((px / nI mW) - (py / nI mW)) _ ) (va_cwS 1 hts gX11_yards_X11_size rfl rfl rfl (by decide +kernel) ⟨Nat.le_of_ble_eq_true rfl, Nat.le_of_ble_eq_true rfl⟩) (pS hKA pE (dE (A := A))) rfl rfl hl.1 rfl (lv_room (Nat.le_of_ble_eq_true rfl)) dX11_yards_25 ⟨Nat.le_of_ble_eq_true rfl, Nat.le_of_ble_eq_true rfl⟩) hP hS hA (fun r6 H locs hwr6 hP hS => ?_)
  have hwr6 : r6 = 0 → ((px / nI mW) - (py / nI mW)) = 0 := hwr6
  refine lv_iadd hx hb dX11_yards_28 ?_
  refine lv_topi (fun x7 ex7 => ?_)
  subst hQF
  exact W.iret (v := x7) hx hb hr (fun t ht hW => ⟨⟨x7, (), rfl, trivial, trivial⟩, hS.F ht⟩) hS.2.2 dX11_yards_29

set_option maxHeartbeats 4000000 in
set_option maxRecDepth 100000 in
theorem n_X11_narrow (l : Launch) (D : va_G) (cy : Nat → ClassId) (mm : Nat) (mm_now : Nat) (mm_kept : Nat) (mm_isKept : Nat) (mm_refused : Nat) (mm_lineFrom : Int32) (mm_lineTo : Int32) (mm_stands : Nat) (mm_far : Nat) (mm_queue : Nat) (mm_queued : Int32) (mm_meets : Nat) (mm_bytes : Nat) (bl : Nat) (ta : Nat) (tl : Nat) (mm_token : Int32) (mm_value : Int32) (mm_next : Nat) (tk : Nat) (px : Int32) (py : Int32) (pz : Int32) (sz : Nat)  : Met l yX11_narrow wsX11_narrow ({ frames := 1, cells := 0, slots := 0, locals := 20 }) (va_Pc [.ref mm, .int px, .int py, .int pz] (kPre D cy [(mm, .inr (11, [.ref mm_now, .ref mm_kept, .ref mm_isKept, .ref mm_refused, .int mm_lineFrom, .int mm_lineTo, .ref mm_stands, .ref mm_far, .ref mm_queue, .int mm_queued, .ref mm_meets, .ref mm_bytes, .int (nI bl), .int (nI ta), .int (nI tl), .int mm_token, .int mm_value, .ref mm_next, .int (nI tk)]))] sz)) (va_Qv (fun (u : Int32 × Int32) => True) (fun (u : Int32 × Int32) t => va_P D vwCl ([(mm, .inr (11, [.ref mm_now, .ref mm_kept, .ref mm_isKept, .ref mm_refused, .int u.1, .int u.2, .ref mm_stands, .ref mm_far, .ref mm_queue, .int mm_queued, .ref mm_meets, .ref mm_bytes, .int (nI bl), .int (nI ta), .int (nI tl), .int mm_token, .int mm_value, .ref mm_next, .int (nI tk)]))]) t.heap ∧ va_D (va_A [(mm, .inr (11, [.ref mm_now, .ref mm_kept, .ref mm_isKept, .ref mm_refused, .int mm_lineFrom, .int mm_lineTo, .ref mm_stands, .ref mm_far, .ref mm_queue, .int mm_queued, .ref mm_meets, .ref mm_bytes, .int (nI bl), .int (nI ta), .int (nI tl), .int mm_token, .int mm_value, .ref mm_next, .int (nI tk)]))] sz) ([(mm, .inr (11, [.ref mm_now, .ref mm_kept, .ref mm_isKept, .ref mm_refused, .int u.1, .int u.2, .ref mm_stands, .ref mm_far, .ref mm_queue, .int mm_queued, .ref mm_meets, .ref mm_bytes, .int (nI bl), .int (nI ta), .int (nI tl), .int mm_token, .int mm_value, .ref mm_next, .int (nI tk)]))])) (va_A [(mm, .inr (11, [.ref mm_now, .ref mm_kept, .ref mm_isKept, .ref mm_refused, .int mm_lineFrom, .int mm_lineTo, .ref mm_stands, .ref mm_far, .ref mm_queue, .int mm_queued, .ref mm_meets, .ref mm_bytes, .int (nI bl), .int (nI ta), .int (nI tl), .int mm_token, .int mm_value, .ref mm_next, .int (nI tk)]))] sz)) 0 0 (va_A [(mm, .inr (11, [.ref mm_now, .ref mm_kept, .ref mm_isKept, .ref mm_refused, .int mm_lineFrom, .int mm_lineTo, .ref mm_stands, .ref mm_far, .ref mm_queue, .int mm_queued, .ref mm_meets, .ref mm_bytes, .int (nI bl), .int (nI ta), .int (nI tl), .int mm_token, .int mm_value, .ref mm_next, .int (nI tk)]))] sz) := by
  refine Met.ofW (cc := cX11_narrow) (maxL := 6) (ret := none) (by decide) rfl ?_
  intro p e s m args below meth c s₁ B hml hv
  obtain ⟨rfl, hsz, hP, hKA, hD0⟩ := hv
  have hx := B.exec
  have hb := B.bytes
  have hr := B.returns
  have hts := atoms_spec (ws := wsX11_narrow) B.pre
  have hown : s.vm.findClass RX11 = some m.cls := findClass_of_methodNamed B.named
  have hlocks := B.notSynchronized
  subst hsz
  have hK := hKA.1
  have hD := hD0.self (sz := s.heap.size)
  generalize hAe : va_A [(mm, .inr (11, [.ref mm_now, .ref mm_kept, .ref mm_isKept, .ref mm_refused, .int mm_lineFrom, .int mm_lineTo, .ref mm_stands, .ref mm_far, .ref mm_queue, .int mm_queued, .ref mm_meets, .ref mm_bytes, .int (nI bl), .int (nI ta), .int (nI tl), .int mm_token, .int mm_value, .ref mm_next, .int (nI tk)]))] s.heap.size = A at hD ⊢
  have hA : ∀ q : Nat, s.heap.size ≤ q → A q := fun q h => by rw [← hAe]; exact Or.inr h
  have hS : va_S A s.heap s.heap [] := va_S.rf
  have hP : va_P D vwCl [(mm, .inr (11, [.ref mm_now, .ref mm_kept, .ref mm_isKept, .ref mm_refused, .int mm_lineFrom, .int mm_lineTo, .ref mm_stands, .ref mm_far, .ref mm_queue, .int mm_queued, .ref mm_meets, .ref mm_bytes, .int (nI bl), .int (nI ta), .int (nI tl), .int mm_token, .int mm_value, .ref mm_next, .int (nI tk)]))] s.heap := hP
  have hl := lv_entry ([.ref mm, .int px, .int py, .int pz]) (n := 6) (Nat.le_of_ble_eq_true rfl)
  rw [lg_entry_eq]
  generalize (lg_sl ([.ref mm, .int px, .int py, .int pz]) ++ List.replicate (6 - (lg_sl ([.ref mm, .int px, .int py, .int pz])).length) Slot.unset).toArray = ls at hl ⊢
  have hl : lv_has ls 6 [(0, .ref mm), (1, .int px), (2, .int py), (3, .int pz)] := hl
  refine qW (fun QF hQF => ?_)
  have z0_ := hts (.fieldLink RX11 123 "HeardSeenModel" "lineFrom" "I") (by decide +kernel)
  have zi11_ : ∀ w ∈ u_ws RX11 TX11 19, w ∈ wsX11_narrow := by decide +kernel
  have z2_ := hts (.fieldLink RX11 119 "HeardSeenModel" "lineTo" "I") (by decide +kernel)
  refine lv_iload_n hx hb dX11_narrow_0 rfl (lv_at hl 2 rfl) ?_
  refine lv_if_ne (tgt := 30) hx hb dX11_narrow_1 (by decide) (fun c1 => ?_) (fun c1 => ?_)
  · skip
    refine lv_iload_n hx hb dX11_narrow_30 rfl (lv_at hl 2 rfl) ?_
    have j43 : ∀ (s1_43 : Int32) (H : Heap) (locs : List Loc), va_P D vwCl [(mm, .inr (11, [.ref mm_now, .ref mm_kept, .ref mm_isKept, .ref mm_refused, .int mm_lineFrom, .int mm_lineTo, .ref mm_stands, .ref mm_far, .ref mm_queue, .int mm_queued, .ref mm_meets, .ref mm_bytes, .int (nI bl), .int (nI ta), .int (nI tl), .int mm_token, .int mm_value, .ref mm_next, .int (nI tk)]))] H → va_D A [(mm, .inr (11, [.ref mm_now, .ref mm_kept, .ref mm_isKept, .ref mm_refused, .int mm_lineFrom, .int mm_lineTo, .ref mm_stands, .ref mm_far, .ref mm_queue, .int mm_queued, .ref mm_meets, .ref mm_bytes, .int (nI bl), .int (nI ta), .int (nI tl), .int mm_token, .int mm_value, .ref mm_next, .int (nI tk)]))] → va_S A s.heap H locs → ∀ ls : Array Slot, lv_has ls 6 [(0, .ref mm), (1, .int px), (2, .int py), (3, .int pz)] → W p l e (headSpec wsX11_narrow ({ frames := 1, cells := 0, slots := 0, locals := 20 })).room s m [.ref mm, .int px, .int py, .int pz].toArray below meth c H locs 0 0 QF (F0 m 43 ls [.int s1_43]) := by
      intro s1_43 H locs hP hD hS ls hl
      refine lv_iload_n hx hb dX11_narrow_43 rfl (lv_at hl 3 rfl) ?_
      refine lv_iload_n hx hb dX11_narrow_44 rfl (lv_at hl 2 rfl) ?_
      refine rd_i (va_runS (As := [.int py]) (rest := [.int pz, .int s1_43]) ⟨hx, hb, hml, hown, hts⟩ (n_X11_size l D cy py _ ) (va_cwS 1 hts gX11_narrow_X11_size rfl rfl rfl (by decide +kernel) ⟨Nat.le_of_ble_eq_true rfl, Nat.le_of_ble_eq_true rfl⟩) (pS hKA pE (dE (A := A))) rfl rfl hl.1 rfl (lv_room (Nat.le_of_ble_eq_true rfl)) dX11_narrow_45 ⟨Nat.le_of_ble_eq_true rfl, Nat.le_of_ble_eq_true rfl⟩) hP hS hA (fun r2 H locs hwr2 hP hS => ?_)
      have hwr2 : r2 = 0 → py = 0 := hwr2
      refine lv_idiv hx hb dX11_narrow_48 (fun hz => absurd (hwr2 hz) (by assumption)) ?_
      refine lv_imul hx hb dX11_narrow_49 ?_
      refine lv_topi (fun x3 ex3 => ?_)
      refine lv_istore (lv' := [(4, .int x3), (0, .ref mm), (1, .int px), (2, .int py), (3, .int pz)]) hx hb dX11_narrow_50 hl (by decide) rfl (fun ls hl => ?_)
      refine lv_iload_n hx hb dX11_narrow_52 rfl (lv_at hl 3 rfl) ?_
      have j65 : ∀ (s1_65 : Int32) (H : Heap) (locs : List Loc), va_P D vwCl [(mm, .inr (11, [.ref mm_now, .ref mm_kept, .ref mm_isKept, .ref mm_refused, .int mm_lineFrom, .int mm_lineTo, .ref mm_stands, .ref mm_far, .ref mm_queue, .int mm_queued, .ref mm_meets, .ref mm_bytes, .int (nI bl), .int (nI ta), .int (nI tl), .int mm_token, .int mm_value, .ref mm_next, .int (nI tk)]))] H → va_D A [(mm, .inr (11, [.ref mm_now, .ref mm_kept, .ref mm_isKept, .ref mm_refused, .int mm_lineFrom, .int mm_lineTo, .ref mm_stands, .ref mm_far, .ref mm_queue, .int mm_queued, .ref mm_meets, .ref mm_bytes, .int (nI bl), .int (nI ta), .int (nI tl), .int mm_token, .int mm_value, .ref mm_next, .int (nI tk)]))] → va_S A s.heap H locs → ∀ ls : Array Slot, lv_has ls 6 [(4, .int x3), (0, .ref mm), (1, .int px), (2, .int py), (3, .int pz)] → W p l e (headSpec wsX11_narrow ({ frames := 1, cells := 0, slots := 0, locals := 20 })).room s m [.ref mm, .int px, .int py, .int pz].toArray below meth c H locs 0 0 QF (F0 m 65 ls [.int s1_65]) := by
        intro s1_65 H locs hP hD hS ls hl
        refine lv_iload_n hx hb dX11_narrow_65 rfl (lv_at hl 4 rfl) ?_
        refine lv_iload_n hx hb dX11_narrow_66 rfl (lv_at hl 3 rfl) ?_
        refine rd_i (va_runS (As := [.int py]) (rest := [.int pz, .int s1_65]) ⟨hx, hb, hml, hown, hts⟩ (n_X11_size l D cy py _ ) (va_cwS 1 hts gX11_narrow_X11_size rfl rfl rfl (by decide +kernel) ⟨Nat.le_of_ble_eq_true rfl, Nat.le_of_ble_eq_true rfl⟩) (pS hKA pE (dE (A := A))) rfl rfl hl.1 rfl (lv_room (Nat.le_of_ble_eq_true rfl)) dX11_narrow_67 ⟨Nat.le_of_ble_eq_true rfl, Nat.le_of_ble_eq_true rfl⟩) hP hS hA (fun r4 H locs hwr4 hP hS => ?_)
        have hwr4 : r4 = 0 → py = 0 := hwr4
        refine lv_idiv hx hb dX11_narrow_70 (fun hz => absurd (hwr4 hz) (by assumption)) ?_
        refine lv_imul hx hb dX11_narrow_71 ?_
        refine lv_topi (fun x5 ex5 => ?_)
        refine lv_istore (lv' := [(5, .int x5), (4, .int x3), (0, .ref mm), (1, .int px), (2, .int py), (3, .int pz)]) hx hb dX11_narrow_72 hl (by decide) rfl (fun ls hl => ?_)
        refine lv_aload_n hx hb dX11_narrow_74 rfl (lv_at hl 2 rfl) ?_
        refine lv_iload hx hb dX11_narrow_75 (lv_at hl 1 rfl) ?_
        refine lv_aload_n hx hb dX11_narrow_77 rfl (lv_at hl 2 rfl) ?_
        refine va_get (D := D) (ci := 11) (v := .int mm_lineFrom) (C := RX11) (T := TX11) (N := 19) hx hb hts zi11_ hown hK hP 0 rfl rfl 4 (by decide) z0_ (fun _ h9 => h9) rfl dX11_narrow_78 ?_
        have j93 : ∀ (s2_93 : Int32) (H : Heap) (locs : List Loc), va_P D vwCl [(mm, .inr (11, [.ref mm_now, .ref mm_kept, .ref mm_isKept, .ref mm_refused, .int mm_lineFrom, .int mm_lineTo, .ref mm_stands, .ref mm_far, .ref mm_queue, .int mm_queued, .ref mm_meets, .ref mm_bytes, .int (nI bl), .int (nI ta), .int (nI tl), .int mm_token, .int mm_value, .ref mm_next, .int (nI tk)]))] H → va_D A [(mm, .inr (11, [.ref mm_now, .ref mm_kept, .ref mm_isKept, .ref mm_refused, .int mm_lineFrom, .int mm_lineTo, .ref mm_stands, .ref mm_far, .ref mm_queue, .int mm_queued, .ref mm_meets, .ref mm_bytes, .int (nI bl), .int (nI ta), .int (nI tl), .int mm_token, .int mm_value, .ref mm_next, .int (nI tk)]))] → va_S A s.heap H locs → ∀ ls : Array Slot, lv_has ls 6 [(5, .int x5), (4, .int x3), (0, .ref mm), (1, .int px), (2, .int py), (3, .int pz)] → W p l e (headSpec wsX11_narrow ({ frames := 1, cells := 0, slots := 0, locals := 20 })).room s m [.ref mm, .int px, .int py, .int pz].toArray below meth c H locs 0 0 QF (F0 m 93 ls [.int s2_93, .ref mm]) := by
          intro s2_93 H locs hP hD hS ls hl
          refine va_put (D := D) (ci := 11) (v := .int s2_93) (ty := .int) (C := RX11) (T := TX11) (N := 19) hx hb hts zi11_ tyX11 tyX11_ok nmX11 hown hK hP hD hS 0 rfl rfl 4 (by decide) z0_ (fun _ h9 => h9) rfl (by decide +kernel) rfl rfl (Nat.le_of_ble_eq_true rfl) dX11_narrow_93 (fun H locs hP hD hS => ?_)
          have hP : va_P D vwCl [(mm, .inr (11, [.ref mm_now, .ref mm_kept, .ref mm_isKept, .ref mm_refused, .int s2_93, .int mm_lineTo, .ref mm_stands, .ref mm_far, .ref mm_queue, .int mm_queued, .ref mm_meets, .ref mm_bytes, .int (nI bl), .int (nI ta), .int (nI tl), .int mm_token, .int mm_value, .ref mm_next, .int (nI tk)]))] H := hP
          have hD : va_D A [(mm, .inr (11, [.ref mm_now, .ref mm_kept, .ref mm_isKept, .ref mm_refused, .int s2_93, .int mm_lineTo, .ref mm_stands, .ref mm_far, .ref mm_queue, .int mm_queued, .ref mm_meets, .ref mm_bytes, .int (nI bl), .int (nI ta), .int (nI tl), .int mm_token, .int mm_value, .ref mm_next, .int (nI tk)]))] := hD
          refine lv_aload_n hx hb dX11_narrow_96 rfl (lv_at hl 2 rfl) ?_
          refine lv_iload hx hb dX11_narrow_97 (lv_at hl 0 rfl) ?_
          refine lv_aload_n hx hb dX11_narrow_99 rfl (lv_at hl 2 rfl) ?_
          refine va_get (D := D) (ci := 11) (v := .int mm_lineTo) (C := RX11) (T := TX11) (N := 19) hx hb hts zi11_ hown hK hP 0 rfl rfl 5 (by decide) z2_ (fun _ h9 => h9) rfl dX11_narrow_100 ?_
          refine lv_icmp_ge (tgt := 111) hx hb dX11_narrow_103 (by decide) (fun c6 => ?_) (fun c6 => ?_)
          · skip
            refine lv_aload_n hx hb dX11_narrow_111 rfl (lv_at hl 2 rfl) ?_
            refine va_get (D := D) (ci := 11) (v := .int mm_lineTo) (C := RX11) (T := TX11) (N := 19) hx hb hts zi11_ hown hK hP 0 rfl rfl 5 (by decide) z2_ (fun _ h9 => h9) rfl dX11_narrow_112 ?_
            refine va_put (D := D) (ci := 11) (v := .int mm_lineTo) (ty := .int) (C := RX11) (T := TX11) (N := 19) hx hb hts zi11_ tyX11 tyX11_ok nmX11 hown hK hP hD hS 0 rfl rfl 5 (by decide) z2_ (fun _ h9 => h9) rfl (by decide +kernel) rfl rfl (Nat.le_of_ble_eq_true rfl) dX11_narrow_115 (fun H locs hP hD hS => ?_)
            have hP : va_P D vwCl [(mm, .inr (11, [.ref mm_now, .ref mm_kept, .ref mm_isKept, .ref mm_refused, .int s2_93, .int mm_lineTo, .ref mm_stands, .ref mm_far, .ref mm_queue, .int mm_queued, .ref mm_meets, .ref mm_bytes, .int (nI bl), .int (nI ta), .int (nI tl), .int mm_token, .int mm_value, .ref mm_next, .int (nI tk)]))] H := hP
            have hD : va_D A [(mm, .inr (11, [.ref mm_now, .ref mm_kept, .ref mm_isKept, .ref mm_refused, .int s2_93, .int mm_lineTo, .ref mm_stands, .ref mm_far, .ref mm_queue, .int mm_queued, .ref mm_meets, .ref mm_bytes, .int (nI bl), .int (nI ta), .int (nI tl), .int mm_token, .int mm_value, .ref mm_next, .int (nI tk)]))] := hD
            subst hQF
            have hP9 := hP
            have hD9 := hD
            exact W.vret hx hb hr (fun t ht hW => ⟨⟨(s2_93, mm_lineTo), rfl, trivial, by rw [ht]; exact hP9, hD9⟩, hS.F ht⟩) hS.2.2 dX11_narrow_118
          · skip
            refine lv_iload hx hb dX11_narrow_106 (lv_at hl 0 rfl) ?_
            refine lv_goto (tgt := 115) hx hb dX11_narrow_108 (by decide) ?_
            refine va_put (D := D) (ci := 11) (v := .int x5) (ty := .int) (C := RX11) (T := TX11) (N := 19) hx hb hts zi11_ tyX11 tyX11_ok nmX11 hown hK hP hD hS 0 rfl rfl 5 (by decide) z2_ (fun _ h9 => h9) rfl (by decide +kernel) rfl rfl (Nat.le_of_ble_eq_true rfl) dX11_narrow_115 (fun H locs hP hD hS => ?_)
            have hP : va_P D vwCl [(mm, .inr (11, [.ref mm_now, .ref mm_kept, .ref mm_isKept, .ref mm_refused, .int s2_93, .int x5, .ref mm_stands, .ref mm_far, .ref mm_queue, .int mm_queued, .ref mm_meets, .ref mm_bytes, .int (nI bl), .int (nI ta), .int (nI tl), .int mm_token, .int mm_value, .ref mm_next, .int (nI tk)]))] H := hP
            have hD : va_D A [(mm, .inr (11, [.ref mm_now, .ref mm_kept, .ref mm_isKept, .ref mm_refused, .int s2_93, .int x5, .ref mm_stands, .ref mm_far, .ref mm_queue, .int mm_queued, .ref mm_meets, .ref mm_bytes, .int (nI bl), .int (nI ta), .int (nI tl), .int mm_token, .int mm_value, .ref mm_next, .int (nI tk)]))] := hD
            subst hQF
            have hP9 := hP
            have hD9 := hD
            exact W.vret hx hb hr (fun t ht hW => ⟨⟨(s2_93, x5), rfl, trivial, by rw [ht]; exact hP9, hD9⟩, hS.F ht⟩) hS.2.2 dX11_narrow_118
        refine lv_icmp_le (tgt := 89) hx hb dX11_narrow_81 (by decide) (fun c7 => ?_) (fun c7 => ?_)
        · skip
          refine lv_aload_n hx hb dX11_narrow_89 rfl (lv_at hl 2 rfl) ?_
          refine va_get (D := D) (ci := 11) (v := .int mm_lineFrom) (C := RX11) (T := TX11) (N := 19) hx hb hts zi11_ hown hK hP 0 rfl rfl 4 (by decide) z0_ (fun _ h9 => h9) rfl dX11_narrow_90 ?_
          exact j93 mm_lineFrom _ _ hP hD hS ls hl
        · skip
          refine lv_iload hx hb dX11_narrow_84 (lv_at hl 1 rfl) ?_
          refine lv_goto (tgt := 93) hx hb dX11_narrow_86 (by decide) ?_
          exact j93 x3 _ _ hP hD hS ls hl
      refine lv_if_le (tgt := 62) hx hb dX11_narrow_53 (by decide) (fun c8 => ?_) (fun c8 => ?_)
      · skip
        refine lv_iload_n hx hb dX11_narrow_62 rfl (lv_at hl 2 rfl) ?_
        refine lv_iconst (v := 1) hx hb dX11_narrow_63 (by decide) ?_
        refine lv_iadd hx hb dX11_narrow_64 ?_
        exact j65 (px + 1) _ _ hP hD hS ls hl
      · skip
        refine lv_iconst (v := 1) hx hb dX11_narrow_56 (by decide) ?_
        refine lv_iload_n hx hb dX11_narrow_57 rfl (lv_at hl 2 rfl) ?_
        refine lv_isub hx hb dX11_narrow_58 ?_
        refine lv_goto (tgt := 65) hx hb dX11_narrow_59 (by decide) ?_
        exact j65 (1 - px) _ _ hP hD hS ls hl
    refine lv_if_le (tgt := 40) hx hb dX11_narrow_31 (by decide) (fun c9 => ?_) (fun c9 => ?_)
    · skip
      refine lv_iload_n hx hb dX11_narrow_40 rfl (lv_at hl 1 rfl) ?_
      refine lv_iconst (v := 1) hx hb dX11_narrow_41 (by decide) ?_
      refine lv_isub hx hb dX11_narrow_42 ?_
      exact j43 (px - 1) _ _ hP hD hS ls hl
    · skip
      refine lv_iconst (v := (-1)) hx hb dX11_narrow_34 (by decide) ?_
      refine lv_iload_n hx hb dX11_narrow_35 rfl (lv_at hl 1 rfl) ?_
      refine lv_isub hx hb dX11_narrow_36 ?_
      refine lv_goto (tgt := 43) hx hb dX11_narrow_37 (by decide) ?_
      exact j43 ((-1) - px) _ _ hP hD hS ls hl
  · skip
    refine lv_aload_n hx hb dX11_narrow_4 rfl (lv_at hl 0 rfl) ?_
    refine lv_iload_n hx hb dX11_narrow_5 rfl (lv_at hl 1 rfl) ?_
    refine lv_iconst (v := (-1)) hx hb dX11_narrow_6 (by decide) ?_
    refine lv_icmp_le (tgt := 22) hx hb dX11_narrow_7 (by decide) (fun c10 => ?_) (fun c10 => ?_)
    · skip
      refine lv_aload_n hx hb dX11_narrow_22 rfl (lv_at hl 0 rfl) ?_
      refine va_get (D := D) (ci := 11) (v := .int mm_lineFrom) (C := RX11) (T := TX11) (N := 19) hx hb hts zi11_ hown hK hP 0 rfl rfl 4 (by decide) z0_ (fun _ h9 => h9) rfl dX11_narrow_23 ?_
      refine va_put (D := D) (ci := 11) (v := .int mm_lineFrom) (ty := .int) (C := RX11) (T := TX11) (N := 19) hx hb hts zi11_ tyX11 tyX11_ok nmX11 hown hK hP hD hS 0 rfl rfl 5 (by decide) z2_ (fun _ h9 => h9) rfl (by decide +kernel) rfl rfl (Nat.le_of_ble_eq_true rfl) dX11_narrow_26 (fun H locs hP hD hS => ?_)
      have hP : va_P D vwCl [(mm, .inr (11, [.ref mm_now, .ref mm_kept, .ref mm_isKept, .ref mm_refused, .int mm_lineFrom, .int mm_lineFrom, .ref mm_stands, .ref mm_far, .ref mm_queue, .int mm_queued, .ref mm_meets, .ref mm_bytes, .int (nI bl), .int (nI ta), .int (nI tl), .int mm_token, .int mm_value, .ref mm_next, .int (nI tk)]))] H := hP
      have hD : va_D A [(mm, .inr (11, [.ref mm_now, .ref mm_kept, .ref mm_isKept, .ref mm_refused, .int mm_lineFrom, .int mm_lineFrom, .ref mm_stands, .ref mm_far, .ref mm_queue, .int mm_queued, .ref mm_meets, .ref mm_bytes, .int (nI bl), .int (nI ta), .int (nI tl), .int mm_token, .int mm_value, .ref mm_next, .int (nI tk)]))] := hD
      subst hQF
      have hP9 := hP
      have hD9 := hD
      exact W.vret hx hb hr (fun t ht hW => ⟨⟨(mm_lineFrom, mm_lineFrom), rfl, trivial, by rw [ht]; exact hP9, hD9⟩, hS.F ht⟩) hS.2.2 dX11_narrow_29
    · skip
      refine lv_iload_n hx hb dX11_narrow_10 rfl (lv_at hl 1 rfl) ?_
      refine lv_iconst (v := 1) hx hb dX11_narrow_11 (by decide) ?_
      refine lv_icmp_ge (tgt := 22) hx hb dX11_narrow_12 (by decide) (fun c11 => ?_) (fun c11 => ?_)
      · skip
        refine lv_aload_n hx hb dX11_narrow_22 rfl (lv_at hl 0 rfl) ?_
        refine va_get (D := D) (ci := 11) (v := .int mm_lineFrom) (C := RX11) (T := TX11) (N := 19) hx hb hts zi11_ hown hK hP 0 rfl rfl 4 (by decide) z0_ (fun _ h9 => h9) rfl dX11_narrow_23 ?_
        refine va_put (D := D) (ci := 11) (v := .int mm_lineFrom) (ty := .int) (C := RX11) (T := TX11) (N := 19) hx hb hts zi11_ tyX11 tyX11_ok nmX11 hown hK hP hD hS 0 rfl rfl 5 (by decide) z2_ (fun _ h9 => h9) rfl (by decide +kernel) rfl rfl (Nat.le_of_ble_eq_true rfl) dX11_narrow_26 (fun H locs hP hD hS => ?_)
        have hP : va_P D vwCl [(mm, .inr (11, [.ref mm_now, .ref mm_kept, .ref mm_isKept, .ref mm_refused, .int mm_lineFrom, .int mm_lineFrom, .ref mm_stands, .ref mm_far, .ref mm_queue, .int mm_queued, .ref mm_meets, .ref mm_bytes, .int (nI bl), .int (nI ta), .int (nI tl), .int mm_token, .int mm_value, .ref mm_next, .int (nI tk)]))] H := hP
        have hD : va_D A [(mm, .inr (11, [.ref mm_now, .ref mm_kept, .ref mm_isKept, .ref mm_refused, .int mm_lineFrom, .int mm_lineFrom, .ref mm_stands, .ref mm_far, .ref mm_queue, .int mm_queued, .ref mm_meets, .ref mm_bytes, .int (nI bl), .int (nI ta), .int (nI tl), .int mm_token, .int mm_value, .ref mm_next, .int (nI tk)]))] := hD
        subst hQF
        have hP9 := hP
        have hD9 := hD
        exact W.vret hx hb hr (fun t ht hW => ⟨⟨(mm_lineFrom, mm_lineFrom), rfl, trivial, by rw [ht]; exact hP9, hD9⟩, hS.F ht⟩) hS.2.2 dX11_narrow_29
      · skip
        refine lv_aload_n hx hb dX11_narrow_15 rfl (lv_at hl 0 rfl) ?_
        refine va_get (D := D) (ci := 11) (v := .int mm_lineTo) (C := RX11) (T := TX11) (N := 19) hx hb hts zi11_ hown hK hP 0 rfl rfl 5 (by decide) z2_ (fun _ h9 => h9) rfl dX11_narrow_16 ?_
        refine lv_goto (tgt := 26) hx hb dX11_narrow_19 (by decide) ?_
        refine va_put (D := D) (ci := 11) (v := .int mm_lineTo) (ty := .int) (C := RX11) (T := TX11) (N := 19) hx hb hts zi11_ tyX11 tyX11_ok nmX11 hown hK hP hD hS 0 rfl rfl 5 (by decide) z2_ (fun _ h9 => h9) rfl (by decide +kernel) rfl rfl (Nat.le_of_ble_eq_true rfl) dX11_narrow_26 (fun H locs hP hD hS => ?_)
        have hP : va_P D vwCl [(mm, .inr (11, [.ref mm_now, .ref mm_kept, .ref mm_isKept, .ref mm_refused, .int mm_lineFrom, .int mm_lineTo, .ref mm_stands, .ref mm_far, .ref mm_queue, .int mm_queued, .ref mm_meets, .ref mm_bytes, .int (nI bl), .int (nI ta), .int (nI tl), .int mm_token, .int mm_value, .ref mm_next, .int (nI tk)]))] H := hP
        have hD : va_D A [(mm, .inr (11, [.ref mm_now, .ref mm_kept, .ref mm_isKept, .ref mm_refused, .int mm_lineFrom, .int mm_lineTo, .ref mm_stands, .ref mm_far, .ref mm_queue, .int mm_queued, .ref mm_meets, .ref mm_bytes, .int (nI bl), .int (nI ta), .int (nI tl), .int mm_token, .int mm_value, .ref mm_next, .int (nI tk)]))] := hD
        subst hQF
        have hP9 := hP
        have hD9 := hD
        exact W.vret hx hb hr (fun t ht hW => ⟨⟨(mm_lineFrom, mm_lineTo), rfl, trivial, by rw [ht]; exact hP9, hD9⟩, hS.F ht⟩) hS.2.2 dX11_narrow_29

set_option maxHeartbeats 4000000 in
set_option maxRecDepth 100000 in
theorem n_X11_bars (l : Launch) (D : va_G) (cy : Nat → ClassId) (mW : Nat) (mH : Nat) (mS : Nat) (mP : Nat) (mm : Nat) (mm_now : Nat) (mm_kept : Nat) (mm_isKept : Nat) (mm_refused : Nat) (mm_lineFrom : Int32) (mm_lineTo : Int32) (mm_stands : Nat) (mm_far : Nat) (mm_queue : Nat) (mm_queued : Int32) (mm_meets : Nat) (mm_bytes : Nat) (bl : Nat) (ta : Nat) (tl : Nat) (mm_token : Int32) (mm_value : Int32) (mm_next : Nat) (tk : Nat) (mm_now_f : Nat → Int32) (px : Int32) (py : Int32) (pz : Int32) (sz : Nat) (hF : mV mm_now_f mW mH mS mP) : Met l yX11_bars wsX11_bars ({ frames := 2, cells := 0, slots := 0, locals := 45 }) (va_Pc [.ref mm, .int px, .int py, .int pz] (kPre D cy [(mm, .inr (11, [.ref mm_now, .ref mm_kept, .ref mm_isKept, .ref mm_refused, .int mm_lineFrom, .int mm_lineTo, .ref mm_stands, .ref mm_far, .ref mm_queue, .int mm_queued, .ref mm_meets, .ref mm_bytes, .int (nI bl), .int (nI ta), .int (nI tl), .int mm_token, .int mm_value, .ref mm_next, .int (nI tk)])), (mm_now, .inl (cy 1, 122, .inl mm_now_f))] sz)) (va_Qi (fun (r : Int32) (u : Int32 × Int32) => (r = 1 ∧ True) ∨ (r = 0 ∧ True)) (fun (u : Int32 × Int32) t => va_P D vwCl ([(mm, .inr (11, [.ref mm_now, .ref mm_kept, .ref mm_isKept, .ref mm_refused, .int u.1, .int u.2, .ref mm_stands, .ref mm_far, .ref mm_queue, .int mm_queued, .ref mm_meets, .ref mm_bytes, .int (nI bl), .int (nI ta), .int (nI tl), .int mm_token, .int mm_value, .ref mm_next, .int (nI tk)])), (mm_now, .inl (cy 1, 122, .inl mm_now_f))]) t.heap ∧ va_D (va_A [(mm, .inr (11, [.ref mm_now, .ref mm_kept, .ref mm_isKept, .ref mm_refused, .int mm_lineFrom, .int mm_lineTo, .ref mm_stands, .ref mm_far, .ref mm_queue, .int mm_queued, .ref mm_meets, .ref mm_bytes, .int (nI bl), .int (nI ta), .int (nI tl), .int mm_token, .int mm_value, .ref mm_next, .int (nI tk)])), (mm_now, .inl (cy 1, 122, .inl mm_now_f))] sz) ([(mm, .inr (11, [.ref mm_now, .ref mm_kept, .ref mm_isKept, .ref mm_refused, .int u.1, .int u.2, .ref mm_stands, .ref mm_far, .ref mm_queue, .int mm_queued, .ref mm_meets, .ref mm_bytes, .int (nI bl), .int (nI ta), .int (nI tl), .int mm_token, .int mm_value, .ref mm_next, .int (nI tk)])), (mm_now, .inl (cy 1, 122, .inl mm_now_f))])) (va_A [(mm, .inr (11, [.ref mm_now, .ref mm_kept, .ref mm_isKept, .ref mm_refused, .int mm_lineFrom, .int mm_lineTo, .ref mm_stands, .ref mm_far, .ref mm_queue, .int mm_queued, .ref mm_meets, .ref mm_bytes, .int (nI bl), .int (nI ta), .int (nI tl), .int mm_token, .int mm_value, .ref mm_next, .int (nI tk)])), (mm_now, .inl (cy 1, 122, .inl mm_now_f))] sz)) 0 0 (va_A [(mm, .inr (11, [.ref mm_now, .ref mm_kept, .ref mm_isKept, .ref mm_refused, .int mm_lineFrom, .int mm_lineTo, .ref mm_stands, .ref mm_far, .ref mm_queue, .int mm_queued, .ref mm_meets, .ref mm_bytes, .int (nI bl), .int (nI ta), .int (nI tl), .int mm_token, .int mm_value, .ref mm_next, .int (nI tk)])), (mm_now, .inl (cy 1, 122, .inl mm_now_f))] sz) := by
  refine Met.ofW (cc := cX11_bars) (maxL := 7) (ret := (some .boolean)) (by decide) rfl ?_
  intro p e s m args below meth c s₁ B hml hv
  obtain ⟨rfl, hsz, hP, hKA, hD0⟩ := hv
  have hx := B.exec
  have hb := B.bytes
  have hr := B.returns
  have hts := atoms_spec (ws := wsX11_bars) B.pre
  have hown : s.vm.findClass RX11 = some m.cls := findClass_of_methodNamed B.named
  have hlocks := B.notSynchronized
  subst hsz
  have hK := hKA.1
  have hD := hD0.self (sz := s.heap.size)
  generalize hAe : va_A [(mm, .inr (11, [.ref mm_now, .ref mm_kept, .ref mm_isKept, .ref mm_refused, .int mm_lineFrom, .int mm_lineTo, .ref mm_stands, .ref mm_far, .ref mm_queue, .int mm_queued, .ref mm_meets, .ref mm_bytes, .int (nI bl), .int (nI ta), .int (nI tl), .int mm_token, .int mm_value, .ref mm_next, .int (nI tk)])), (mm_now, .inl (cy 1, 122, .inl mm_now_f))] s.heap.size = A at hD ⊢
  have hA : ∀ q : Nat, s.heap.size ≤ q → A q := fun q h => by rw [← hAe]; exact Or.inr h
  have hS : va_S A s.heap s.heap [] := va_S.rf
  have hP : va_P D vwCl [(mm, .inr (11, [.ref mm_now, .ref mm_kept, .ref mm_isKept, .ref mm_refused, .int mm_lineFrom, .int mm_lineTo, .ref mm_stands, .ref mm_far, .ref mm_queue, .int mm_queued, .ref mm_meets, .ref mm_bytes, .int (nI bl), .int (nI ta), .int (nI tl), .int mm_token, .int mm_value, .ref mm_next, .int (nI tk)])), (mm_now, .inl (cy 1, 122, .inl mm_now_f))] s.heap := hP
  have hl := lv_entry ([.ref mm, .int px, .int py, .int pz]) (n := 7) (Nat.le_of_ble_eq_true rfl)
  rw [lg_entry_eq]
  generalize (lg_sl ([.ref mm, .int px, .int py, .int pz]) ++ List.replicate (7 - (lg_sl ([.ref mm, .int px, .int py, .int pz])).length) Slot.unset).toArray = ls at hl ⊢
  have hl : lv_has ls 7 [(0, .ref mm), (1, .int px), (2, .int py), (3, .int pz)] := hl
  refine qW (fun QF hQF => ?_)
  have z0_ := hts (.constant RX11 126 (-100000)) (by decide +kernel)
  have z1_ := hts (.fieldLink RX11 123 "HeardSeenModel" "lineFrom" "I") (by decide +kernel)
  have zi11_ : ∀ w ∈ u_ws RX11 TX11 19, w ∈ wsX11_bars := by decide +kernel
  have z3_ := hts (.constant RX11 127 100000) (by decide +kernel)
  have z4_ := hts (.fieldLink RX11 119 "HeardSeenModel" "lineTo" "I") (by decide +kernel)
  obtain ⟨hW2, hW6, hH2, hH6, hSe, hS4, hS6, hP5⟩ := hF.rng
  refine lv_iconst (v := 2) hx hb dX11_bars_0 (by decide) ?_
  refine lv_aload_n hx hb dX11_bars_1 rfl (lv_at hl 0 rfl) ?_
  refine lv_iload_n hx hb dX11_bars_2 rfl (lv_at hl 3 rfl) ?_
  refine rd_i (va_runV (As := [.int pz]) (rest := [.int 2]) ⟨hx, hb, hml, hown, hts⟩ (n_X11_xOf l D cy mW mH mS mP mm mm_now mm_kept mm_isKept mm_refused mm_lineFrom mm_lineTo mm_stands mm_far mm_queue mm_queued mm_meets mm_bytes bl ta tl mm_token mm_value mm_next tk mm_now_f pz _ (by first | assumption | omega)) (cwV 1 hts gX11_bars_X11_xOf rfl rfl rfl (by decide +kernel) ⟨Nat.le_of_ble_eq_true rfl, Nat.le_of_ble_eq_true rfl⟩) (pV (ci := 11) (k := 0) hKA (hP.sub (ws' := [(mm, .inr (11, [.ref mm_now, .ref mm_kept, .ref mm_isKept, .ref mm_refused, .int mm_lineFrom, .int mm_lineTo, .ref mm_stands, .ref mm_far, .ref mm_queue, .int mm_queued, .ref mm_meets, .ref mm_bytes, .int (nI bl), .int (nI ta), .int (nI tl), .int mm_token, .int mm_value, .ref mm_next, .int (nI tk)])), (mm_now, .inl (cy 1, 122, .inl mm_now_f))]) [0, 1] rfl) (hD.sub (ws' := [(mm, .inr (11, [.ref mm_now, .ref mm_kept, .ref mm_isKept, .ref mm_refused, .int mm_lineFrom, .int mm_lineTo, .ref mm_stands, .ref mm_far, .ref mm_queue, .int mm_queued, .ref mm_meets, .ref mm_bytes, .int (nI bl), .int (nI ta), .int (nI tl), .int mm_token, .int mm_value, .ref mm_next, .int (nI tk)])), (mm_now, .inl (cy 1, 122, .inl mm_now_f))]) [0, 1] (by decide) rfl) rfl rfl) rfl rfl hl.1 rfl (lv_room (Nat.le_of_ble_eq_true rfl)) dX11_bars_3 ⟨Nat.le_of_ble_eq_true rfl, Nat.le_of_ble_eq_true rfl⟩) hP hS hA (fun r1 H locs hwr1 hP hS => ?_)
  have hwr1 : r1 = pz - pz / nI mW * nI mW := hwr1
  subst hwr1
  refine lv_aload_n hx hb dX11_bars_6 rfl (lv_at hl 0 rfl) ?_
  refine lv_iload_n hx hb dX11_bars_7 rfl (lv_at hl 2 rfl) ?_
  refine rd_i (va_runV (As := [.int py]) (rest := [.int (pz - pz / nI mW * nI mW), .int 2]) ⟨hx, hb, hml, hown, hts⟩ (n_X11_xOf l D cy mW mH mS mP mm mm_now mm_kept mm_isKept mm_refused mm_lineFrom mm_lineTo mm_stands mm_far mm_queue mm_queued mm_meets mm_bytes bl ta tl mm_token mm_value mm_next tk mm_now_f py _ (by first | assumption | omega)) (cwV 1 hts gX11_bars_X11_xOf rfl rfl rfl (by decide +kernel) ⟨Nat.le_of_ble_eq_true rfl, Nat.le_of_ble_eq_true rfl⟩) (pV (ci := 11) (k := 0) hKA (hP.sub (ws' := [(mm, .inr (11, [.ref mm_now, .ref mm_kept, .ref mm_isKept, .ref mm_refused, .int mm_lineFrom, .int mm_lineTo, .ref mm_stands, .ref mm_far, .ref mm_queue, .int mm_queued, .ref mm_meets, .ref mm_bytes, .int (nI bl), .int (nI ta), .int (nI tl), .int mm_token, .int mm_value, .ref mm_next, .int (nI tk)])), (mm_now, .inl (cy 1, 122, .inl mm_now_f))]) [0, 1] rfl) (hD.sub (ws' := [(mm, .inr (11, [.ref mm_now, .ref mm_kept, .ref mm_isKept, .ref mm_refused, .int mm_lineFrom, .int mm_lineTo, .ref mm_stands, .ref mm_far, .ref mm_queue, .int mm_queued, .ref mm_meets, .ref mm_bytes, .int (nI bl), .int (nI ta), .int (nI tl), .int mm_token, .int mm_value, .ref mm_next, .int (nI tk)])), (mm_now, .inl (cy 1, 122, .inl mm_now_f))]) [0, 1] (by decide) rfl) rfl rfl) rfl rfl hl.1 rfl (lv_room (Nat.le_of_ble_eq_true rfl)) dX11_bars_8 ⟨Nat.le_of_ble_eq_true rfl, Nat.le_of_ble_eq_true rfl⟩) hP hS hA (fun r2 H locs hwr2 hP hS => ?_)
  have hwr2 : r2 = py - py / nI mW * nI mW := hwr2
  subst hwr2
  refine lv_isub hx hb dX11_bars_11 ?_
  refine lv_imul hx hb dX11_bars_12 ?_
  refine lv_topi (fun x3 ex3 => ?_)
  refine lv_istore (lv' := [(4, .int x3), (0, .ref mm), (1, .int px), (2, .int py), (3, .int pz)]) hx hb dX11_bars_13 hl (by decide) rfl (fun ls hl => ?_)
  refine lv_iconst (v := 2) hx hb dX11_bars_15 (by decide) ?_
  refine lv_aload_n hx hb dX11_bars_16 rfl (lv_at hl 1 rfl) ?_
  refine lv_iload_n hx hb dX11_bars_17 rfl (lv_at hl 4 rfl) ?_
  refine rd_i (va_runV (As := [.int pz]) (rest := [.int 2]) ⟨hx, hb, hml, hown, hts⟩ (n_X11_yOf l D cy mW mH mS mP mm mm_now mm_kept mm_isKept mm_refused mm_lineFrom mm_lineTo mm_stands mm_far mm_queue mm_queued mm_meets mm_bytes bl ta tl mm_token mm_value mm_next tk mm_now_f pz _ (by first | assumption | omega)) (cwV 1 hts gX11_bars_X11_yOf rfl rfl rfl (by decide +kernel) ⟨Nat.le_of_ble_eq_true rfl, Nat.le_of_ble_eq_true rfl⟩) (pV (ci := 11) (k := 0) hKA (hP.sub (ws' := [(mm, .inr (11, [.ref mm_now, .ref mm_kept, .ref mm_isKept, .ref mm_refused, .int mm_lineFrom, .int mm_lineTo, .ref mm_stands, .ref mm_far, .ref mm_queue, .int mm_queued, .ref mm_meets, .ref mm_bytes, .int (nI bl), .int (nI ta), .int (nI tl), .int mm_token, .int mm_value, .ref mm_next, .int (nI tk)])), (mm_now, .inl (cy 1, 122, .inl mm_now_f))]) [0, 1] rfl) (hD.sub (ws' := [(mm, .inr (11, [.ref mm_now, .ref mm_kept, .ref mm_isKept, .ref mm_refused, .int mm_lineFrom, .int mm_lineTo, .ref mm_stands, .ref mm_far, .ref mm_queue, .int mm_queued, .ref mm_meets, .ref mm_bytes, .int (nI bl), .int (nI ta), .int (nI tl), .int mm_token, .int mm_value, .ref mm_next, .int (nI tk)])), (mm_now, .inl (cy 1, 122, .inl mm_now_f))]) [0, 1] (by decide) rfl) rfl rfl) rfl rfl hl.1 rfl (lv_room (Nat.le_of_ble_eq_true rfl)) dX11_bars_18 ⟨Nat.le_of_ble_eq_true rfl, Nat.le_of_ble_eq_true rfl⟩) hP hS hA (fun r4 H locs hwr4 hP hS => ?_)
  have hwr4 : r4 = pz / nI mW := hwr4
  subst hwr4
  refine lv_aload_n hx hb dX11_bars_21 rfl (lv_at hl 1 rfl) ?_
  refine lv_iload_n hx hb dX11_bars_22 rfl (lv_at hl 3 rfl) ?_
  refine rd_i (va_runV (As := [.int py]) (rest := [.int (pz / nI mW), .int 2]) ⟨hx, hb, hml, hown, hts⟩ (n_X11_yOf l D cy mW mH mS mP mm mm_now mm_kept mm_isKept mm_refused mm_lineFrom mm_lineTo mm_stands mm_far mm_queue mm_queued mm_meets mm_bytes bl ta tl mm_token mm_value mm_next tk mm_now_f py _ (by first | assumption | omega)) (cwV 1 hts gX11_bars_X11_yOf rfl rfl rfl (by decide +kernel) ⟨Nat.le_of_ble_eq_true rfl, Nat.le_of_ble_eq_true rfl⟩) (pV (ci := 11) (k := 0) hKA (hP.sub (ws' := [(mm, .inr (11, [.ref mm_now, .ref mm_kept, .ref mm_isKept, .ref mm_refused, .int mm_lineFrom, .int mm_lineTo, .ref mm_stands, .ref mm_far, .ref mm_queue, .int mm_queued, .ref mm_meets, .ref mm_bytes, .int (nI bl), .int (nI ta), .int (nI tl), .int mm_token, .int mm_value, .ref mm_next, .int (nI tk)])), (mm_now, .inl (cy 1, 122, .inl mm_now_f))]) [0, 1] rfl) (hD.sub (ws' := [(mm, .inr (11, [.ref mm_now, .ref mm_kept, .ref mm_isKept, .ref mm_refused, .int mm_lineFrom, .int mm_lineTo, .ref mm_stands, .ref mm_far, .ref mm_queue, .int mm_queued, .ref mm_meets, .ref mm_bytes, .int (nI bl), .int (nI ta), .int (nI tl), .int mm_token, .int mm_value, .ref mm_next, .int (nI tk)])), (mm_now, .inl (cy 1, 122, .inl mm_now_f))]) [0, 1] (by decide) rfl) rfl rfl) rfl rfl hl.1 rfl (lv_room (Nat.le_of_ble_eq_true rfl)) dX11_bars_23 ⟨Nat.le_of_ble_eq_true rfl, Nat.le_of_ble_eq_true rfl⟩) hP hS hA (fun r5 H locs hwr5 hP hS => ?_)
  have hwr5 : r5 = py / nI mW := hwr5
  subst hwr5
  refine lv_isub hx hb dX11_bars_26 ?_
  refine lv_imul hx hb dX11_bars_27 ?_
  refine lv_topi (fun x6 ex6 => ?_)
  refine lv_istore (lv' := [(5, .int x6), (4, .int x3), (0, .ref mm), (1, .int px), (2, .int py), (3, .int pz)]) hx hb dX11_bars_28 hl (by decide) rfl (fun ls hl => ?_)
  refine lv_iload hx hb dX11_bars_30 (lv_at hl 1 rfl) ?_
  have j44 : ∀ (s1_44 : Int32) (H : Heap) (locs : List Loc), va_P D vwCl [(mm, .inr (11, [.ref mm_now, .ref mm_kept, .ref mm_isKept, .ref mm_refused, .int mm_lineFrom, .int mm_lineTo, .ref mm_stands, .ref mm_far, .ref mm_queue, .int mm_queued, .ref mm_meets, .ref mm_bytes, .int (nI bl), .int (nI ta), .int (nI tl), .int mm_token, .int mm_value, .ref mm_next, .int (nI tk)])), (mm_now, .inl (cy 1, 122, .inl mm_now_f))] H → va_D A [(mm, .inr (11, [.ref mm_now, .ref mm_kept, .ref mm_isKept, .ref mm_refused, .int mm_lineFrom, .int mm_lineTo, .ref mm_stands, .ref mm_far, .ref mm_queue, .int mm_queued, .ref mm_meets, .ref mm_bytes, .int (nI bl), .int (nI ta), .int (nI tl), .int mm_token, .int mm_value, .ref mm_next, .int (nI tk)])), (mm_now, .inl (cy 1, 122, .inl mm_now_f))] → va_S A s.heap H locs → ∀ ls : Array Slot, lv_has ls 7 [(5, .int x6), (4, .int x3), (0, .ref mm), (1, .int px), (2, .int py), (3, .int pz)] → W p l e (headSpec wsX11_bars ({ frames := 2, cells := 0, slots := 0, locals := 45 })).room s m [.ref mm, .int px, .int py, .int pz].toArray below meth c H locs 0 0 QF (F0 m 44 ls [.int s1_44]) := by
    intro s1_44 H locs hP hD hS ls hl
    refine lv_iload hx hb dX11_bars_44 (lv_at hl 0 rfl) ?_
    have j58 : ∀ (s2_58 : Int32) (H : Heap) (locs : List Loc), va_P D vwCl [(mm, .inr (11, [.ref mm_now, .ref mm_kept, .ref mm_isKept, .ref mm_refused, .int mm_lineFrom, .int mm_lineTo, .ref mm_stands, .ref mm_far, .ref mm_queue, .int mm_queued, .ref mm_meets, .ref mm_bytes, .int (nI bl), .int (nI ta), .int (nI tl), .int mm_token, .int mm_value, .ref mm_next, .int (nI tk)])), (mm_now, .inl (cy 1, 122, .inl mm_now_f))] H → va_D A [(mm, .inr (11, [.ref mm_now, .ref mm_kept, .ref mm_isKept, .ref mm_refused, .int mm_lineFrom, .int mm_lineTo, .ref mm_stands, .ref mm_far, .ref mm_queue, .int mm_queued, .ref mm_meets, .ref mm_bytes, .int (nI bl), .int (nI ta), .int (nI tl), .int mm_token, .int mm_value, .ref mm_next, .int (nI tk)])), (mm_now, .inl (cy 1, 122, .inl mm_now_f))] → va_S A s.heap H locs → ∀ ls : Array Slot, lv_has ls 7 [(5, .int x6), (4, .int x3), (0, .ref mm), (1, .int px), (2, .int py), (3, .int pz)] → W p l e (headSpec wsX11_bars ({ frames := 2, cells := 0, slots := 0, locals := 45 })).room s m [.ref mm, .int px, .int py, .int pz].toArray below meth c H locs 0 0 QF (F0 m 58 ls [.int s2_58, .int s1_44]) := by
      intro s2_58 H locs hP hD hS ls hl
      refine lv_imul hx hb dX11_bars_58 ?_
      refine lv_topi (fun x7 ex7 => ?_)
      refine lv_istore (lv' := [(6, .int x7), (5, .int x6), (4, .int x3), (0, .ref mm), (1, .int px), (2, .int py), (3, .int pz)]) hx hb dX11_bars_59 hl (by decide) rfl (fun ls hl => ?_)
      refine lv_aload_n hx hb dX11_bars_61 rfl (lv_at hl 3 rfl) ?_
      refine lv_ldc hx hb hown z0_ dX11_bars_62 ?_
      refine va_put (D := D) (ci := 11) (v := .int (-100000)) (ty := .int) (C := RX11) (T := TX11) (N := 19) hx hb hts zi11_ tyX11 tyX11_ok nmX11 hown hK hP hD hS 0 rfl rfl 4 (by decide) z1_ (fun _ h9 => h9) rfl (by decide +kernel) rfl rfl (Nat.le_of_ble_eq_true rfl) dX11_bars_64 (fun H locs hP hD hS => ?_)
      have hP : va_P D vwCl [(mm, .inr (11, [.ref mm_now, .ref mm_kept, .ref mm_isKept, .ref mm_refused, .int (-100000), .int mm_lineTo, .ref mm_stands, .ref mm_far, .ref mm_queue, .int mm_queued, .ref mm_meets, .ref mm_bytes, .int (nI bl), .int (nI ta), .int (nI tl), .int mm_token, .int mm_value, .ref mm_next, .int (nI tk)])), (mm_now, .inl (cy 1, 122, .inl mm_now_f))] H := hP
      have hD : va_D A [(mm, .inr (11, [.ref mm_now, .ref mm_kept, .ref mm_isKept, .ref mm_refused, .int (-100000), .int mm_lineTo, .ref mm_stands, .ref mm_far, .ref mm_queue, .int mm_queued, .ref mm_meets, .ref mm_bytes, .int (nI bl), .int (nI ta), .int (nI tl), .int mm_token, .int mm_value, .ref mm_next, .int (nI tk)])), (mm_now, .inl (cy 1, 122, .inl mm_now_f))] := hD
      refine lv_aload_n hx hb dX11_bars_67 rfl (lv_at hl 3 rfl) ?_
      refine lv_ldc hx hb hown z3_ dX11_bars_68 ?_
      refine va_put (D := D) (ci := 11) (v := .int 100000) (ty := .int) (C := RX11) (T := TX11) (N := 19) hx hb hts zi11_ tyX11 tyX11_ok nmX11 hown hK hP hD hS 0 rfl rfl 5 (by decide) z4_ (fun _ h9 => h9) rfl (by decide +kernel) rfl rfl (Nat.le_of_ble_eq_true rfl) dX11_bars_70 (fun H locs hP hD hS => ?_)
      have hP : va_P D vwCl [(mm, .inr (11, [.ref mm_now, .ref mm_kept, .ref mm_isKept, .ref mm_refused, .int (-100000), .int 100000, .ref mm_stands, .ref mm_far, .ref mm_queue, .int mm_queued, .ref mm_meets, .ref mm_bytes, .int (nI bl), .int (nI ta), .int (nI tl), .int mm_token, .int mm_value, .ref mm_next, .int (nI tk)])), (mm_now, .inl (cy 1, 122, .inl mm_now_f))] H := hP
      have hD : va_D A [(mm, .inr (11, [.ref mm_now, .ref mm_kept, .ref mm_isKept, .ref mm_refused, .int (-100000), .int 100000, .ref mm_stands, .ref mm_far, .ref mm_queue, .int mm_queued, .ref mm_meets, .ref mm_bytes, .int (nI bl), .int (nI ta), .int (nI tl), .int mm_token, .int mm_value, .ref mm_next, .int (nI tk)])), (mm_now, .inl (cy 1, 122, .inl mm_now_f))] := hD
      refine lv_aload_n hx hb dX11_bars_73 rfl (lv_at hl 3 rfl) ?_
      refine lv_iconst (v := 2) hx hb dX11_bars_74 (by decide) ?_
      refine lv_aload_n hx hb dX11_bars_75 rfl (lv_at hl 3 rfl) ?_
      refine lv_iload_n hx hb dX11_bars_76 rfl (lv_at hl 5 rfl) ?_
      refine rd_i (va_runV (As := [.int py]) (rest := [.int 2, .ref mm]) ⟨hx, hb, hml, hown, hts⟩ (n_X11_xOf l D cy mW mH mS mP mm mm_now mm_kept mm_isKept mm_refused (-100000) (100000) mm_stands mm_far mm_queue mm_queued mm_meets mm_bytes bl ta tl mm_token mm_value mm_next tk mm_now_f py _ (by first | assumption | omega)) (cwV 1 hts gX11_bars_X11_xOf rfl rfl rfl (by decide +kernel) ⟨Nat.le_of_ble_eq_true rfl, Nat.le_of_ble_eq_true rfl⟩) (pV (ci := 11) (k := 0) hKA (hP.sub (ws' := [(mm, .inr (11, [.ref mm_now, .ref mm_kept, .ref mm_isKept, .ref mm_refused, .int (-100000), .int 100000, .ref mm_stands, .ref mm_far, .ref mm_queue, .int mm_queued, .ref mm_meets, .ref mm_bytes, .int (nI bl), .int (nI ta), .int (nI tl), .int mm_token, .int mm_value, .ref mm_next, .int (nI tk)])), (mm_now, .inl (cy 1, 122, .inl mm_now_f))]) [0, 1] rfl) (hD.sub (ws' := [(mm, .inr (11, [.ref mm_now, .ref mm_kept, .ref mm_isKept, .ref mm_refused, .int (-100000), .int 100000, .ref mm_stands, .ref mm_far, .ref mm_queue, .int mm_queued, .ref mm_meets, .ref mm_bytes, .int (nI bl), .int (nI ta), .int (nI tl), .int mm_token, .int mm_value, .ref mm_next, .int (nI tk)])), (mm_now, .inl (cy 1, 122, .inl mm_now_f))]) [0, 1] (by decide) rfl) rfl rfl) rfl rfl hl.1 rfl (lv_room (Nat.le_of_ble_eq_true rfl)) dX11_bars_77 ⟨Nat.le_of_ble_eq_true rfl, Nat.le_of_ble_eq_true rfl⟩) hP hS hA (fun r8 H locs hwr8 hP hS => ?_)
      have hwr8 : r8 = py - py / nI mW * nI mW := hwr8
      subst hwr8
      refine lv_aload_n hx hb dX11_bars_80 rfl (lv_at hl 3 rfl) ?_
      refine lv_iload_n hx hb dX11_bars_81 rfl (lv_at hl 4 rfl) ?_
      refine rd_i (va_runV (As := [.int px]) (rest := [.int (py - py / nI mW * nI mW), .int 2, .ref mm]) ⟨hx, hb, hml, hown, hts⟩ (n_X11_xOf l D cy mW mH mS mP mm mm_now mm_kept mm_isKept mm_refused (-100000) (100000) mm_stands mm_far mm_queue mm_queued mm_meets mm_bytes bl ta tl mm_token mm_value mm_next tk mm_now_f px _ (by first | assumption | omega)) (cwV 1 hts gX11_bars_X11_xOf rfl rfl rfl (by decide +kernel) ⟨Nat.le_of_ble_eq_true rfl, Nat.le_of_ble_eq_true rfl⟩) (pV (ci := 11) (k := 0) hKA (hP.sub (ws' := [(mm, .inr (11, [.ref mm_now, .ref mm_kept, .ref mm_isKept, .ref mm_refused, .int (-100000), .int 100000, .ref mm_stands, .ref mm_far, .ref mm_queue, .int mm_queued, .ref mm_meets, .ref mm_bytes, .int (nI bl), .int (nI ta), .int (nI tl), .int mm_token, .int mm_value, .ref mm_next, .int (nI tk)])), (mm_now, .inl (cy 1, 122, .inl mm_now_f))]) [0, 1] rfl) (hD.sub (ws' := [(mm, .inr (11, [.ref mm_now, .ref mm_kept, .ref mm_isKept, .ref mm_refused, .int (-100000), .int 100000, .ref mm_stands, .ref mm_far, .ref mm_queue, .int mm_queued, .ref mm_meets, .ref mm_bytes, .int (nI bl), .int (nI ta), .int (nI tl), .int mm_token, .int mm_value, .ref mm_next, .int (nI tk)])), (mm_now, .inl (cy 1, 122, .inl mm_now_f))]) [0, 1] (by decide) rfl) rfl rfl) rfl rfl hl.1 rfl (lv_room (Nat.le_of_ble_eq_true rfl)) dX11_bars_82 ⟨Nat.le_of_ble_eq_true rfl, Nat.le_of_ble_eq_true rfl⟩) hP hS hA (fun r9 H locs hwr9 hP hS => ?_)
      have hwr9 : r9 = px - px / nI mW * nI mW := hwr9
      subst hwr9
      refine lv_isub hx hb dX11_bars_85 ?_
      refine lv_imul hx hb dX11_bars_86 ?_
      refine lv_iload hx hb dX11_bars_87 (lv_at hl 2 rfl) ?_
      refine lv_iload hx hb dX11_bars_89 (lv_at hl 0 rfl) ?_
      refine wr_v (wr := [(mm_now, .inl (cy 1, 122, .inl mm_now_f))]) (va_runV (As := [.int (2 * ((py - py / nI mW * nI mW) - (px - px / nI mW * nI mW))), .int x3, .int x7]) (rest := []) ⟨hx, hb, hml, hown, hts⟩ (n_X11_narrow l D cy mm mm_now mm_kept mm_isKept mm_refused (-100000) (100000) mm_stands mm_far mm_queue mm_queued mm_meets mm_bytes bl ta tl mm_token mm_value mm_next tk (2 * ((py - py / nI mW * nI mW) - (px - px / nI mW * nI mW))) x3 x7 _ ) (cwV 3 hts gX11_bars_X11_narrow rfl rfl rfl (by decide +kernel) ⟨Nat.le_of_ble_eq_true rfl, Nat.le_of_ble_eq_true rfl⟩) (pV (ci := 11) (k := 0) hKA (hP.sub (ws' := [(mm, .inr (11, [.ref mm_now, .ref mm_kept, .ref mm_isKept, .ref mm_refused, .int (-100000), .int 100000, .ref mm_stands, .ref mm_far, .ref mm_queue, .int mm_queued, .ref mm_meets, .ref mm_bytes, .int (nI bl), .int (nI ta), .int (nI tl), .int mm_token, .int mm_value, .ref mm_next, .int (nI tk)]))]) [0] rfl) (hD.sub (ws' := [(mm, .inr (11, [.ref mm_now, .ref mm_kept, .ref mm_isKept, .ref mm_refused, .int (-100000), .int 100000, .ref mm_stands, .ref mm_far, .ref mm_queue, .int mm_queued, .ref mm_meets, .ref mm_bytes, .int (nI bl), .int (nI ta), .int (nI tl), .int mm_token, .int mm_value, .ref mm_next, .int (nI tk)]))]) [0] (by decide) rfl) rfl rfl) rfl rfl hl.1 rfl (lv_room (Nat.le_of_ble_eq_true rfl)) dX11_bars_91 ⟨Nat.le_of_ble_eq_true rfl, Nat.le_of_ble_eq_true rfl⟩) hP hD hS hA [0] [1] rfl rfl (by decide +kernel) (by decide +kernel) (fun ur10 H locs hwr10 hP hD hS => ?_)
      obtain ⟨z11, z12⟩ := ur10
      have hP : va_P D vwCl [(mm_now, .inl (cy 1, 122, .inl mm_now_f)), (mm, .inr (11, [.ref mm_now, .ref mm_kept, .ref mm_isKept, .ref mm_refused, .int z11, .int z12, .ref mm_stands, .ref mm_far, .ref mm_queue, .int mm_queued, .ref mm_meets, .ref mm_bytes, .int (nI bl), .int (nI ta), .int (nI tl), .int mm_token, .int mm_value, .ref mm_next, .int (nI tk)]))] H := hP
      have hD : va_D A [(mm_now, .inl (cy 1, 122, .inl mm_now_f)), (mm, .inr (11, [.ref mm_now, .ref mm_kept, .ref mm_isKept, .ref mm_refused, .int z11, .int z12, .ref mm_stands, .ref mm_far, .ref mm_queue, .int mm_queued, .ref mm_meets, .ref mm_bytes, .int (nI bl), .int (nI ta), .int (nI tl), .int mm_token, .int mm_value, .ref mm_next, .int (nI tk)]))] := hD
      refine lv_aload_n hx hb dX11_bars_94 rfl (lv_at hl 3 rfl) ?_
      refine lv_iconst (v := 2) hx hb dX11_bars_95 (by decide) ?_
      refine lv_aload_n hx hb dX11_bars_96 rfl (lv_at hl 3 rfl) ?_
      refine lv_iload_n hx hb dX11_bars_97 rfl (lv_at hl 5 rfl) ?_
      refine rd_i (va_runV (As := [.int py]) (rest := [.int 2, .ref mm]) ⟨hx, hb, hml, hown, hts⟩ (n_X11_yOf l D cy mW mH mS mP mm mm_now mm_kept mm_isKept mm_refused z11 z12 mm_stands mm_far mm_queue mm_queued mm_meets mm_bytes bl ta tl mm_token mm_value mm_next tk mm_now_f py _ (by first | assumption | omega)) (cwV 1 hts gX11_bars_X11_yOf rfl rfl rfl (by decide +kernel) ⟨Nat.le_of_ble_eq_true rfl, Nat.le_of_ble_eq_true rfl⟩) (pV (ci := 11) (k := 0) hKA (hP.sub (ws' := [(mm, .inr (11, [.ref mm_now, .ref mm_kept, .ref mm_isKept, .ref mm_refused, .int z11, .int z12, .ref mm_stands, .ref mm_far, .ref mm_queue, .int mm_queued, .ref mm_meets, .ref mm_bytes, .int (nI bl), .int (nI ta), .int (nI tl), .int mm_token, .int mm_value, .ref mm_next, .int (nI tk)])), (mm_now, .inl (cy 1, 122, .inl mm_now_f))]) [1, 0] rfl) (hD.sub (ws' := [(mm, .inr (11, [.ref mm_now, .ref mm_kept, .ref mm_isKept, .ref mm_refused, .int z11, .int z12, .ref mm_stands, .ref mm_far, .ref mm_queue, .int mm_queued, .ref mm_meets, .ref mm_bytes, .int (nI bl), .int (nI ta), .int (nI tl), .int mm_token, .int mm_value, .ref mm_next, .int (nI tk)])), (mm_now, .inl (cy 1, 122, .inl mm_now_f))]) [1, 0] (by decide) rfl) rfl rfl) rfl rfl hl.1 rfl (lv_room (Nat.le_of_ble_eq_true rfl)) dX11_bars_98 ⟨Nat.le_of_ble_eq_true rfl, Nat.le_of_ble_eq_true rfl⟩) hP hS hA (fun r13 H locs hwr13 hP hS => ?_)
      have hwr13 : r13 = py / nI mW := hwr13
      subst hwr13
      refine lv_aload_n hx hb dX11_bars_101 rfl (lv_at hl 3 rfl) ?_
      refine lv_iload_n hx hb dX11_bars_102 rfl (lv_at hl 4 rfl) ?_
      refine rd_i (va_runV (As := [.int px]) (rest := [.int (py / nI mW), .int 2, .ref mm]) ⟨hx, hb, hml, hown, hts⟩ (n_X11_yOf l D cy mW mH mS mP mm mm_now mm_kept mm_isKept mm_refused z11 z12 mm_stands mm_far mm_queue mm_queued mm_meets mm_bytes bl ta tl mm_token mm_value mm_next tk mm_now_f px _ (by first | assumption | omega)) (cwV 1 hts gX11_bars_X11_yOf rfl rfl rfl (by decide +kernel) ⟨Nat.le_of_ble_eq_true rfl, Nat.le_of_ble_eq_true rfl⟩) (pV (ci := 11) (k := 0) hKA (hP.sub (ws' := [(mm, .inr (11, [.ref mm_now, .ref mm_kept, .ref mm_isKept, .ref mm_refused, .int z11, .int z12, .ref mm_stands, .ref mm_far, .ref mm_queue, .int mm_queued, .ref mm_meets, .ref mm_bytes, .int (nI bl), .int (nI ta), .int (nI tl), .int mm_token, .int mm_value, .ref mm_next, .int (nI tk)])), (mm_now, .inl (cy 1, 122, .inl mm_now_f))]) [1, 0] rfl) (hD.sub (ws' := [(mm, .inr (11, [.ref mm_now, .ref mm_kept, .ref mm_isKept, .ref mm_refused, .int z11, .int z12, .ref mm_stands, .ref mm_far, .ref mm_queue, .int mm_queued, .ref mm_meets, .ref mm_bytes, .int (nI bl), .int (nI ta), .int (nI tl), .int mm_token, .int mm_value, .ref mm_next, .int (nI tk)])), (mm_now, .inl (cy 1, 122, .inl mm_now_f))]) [1, 0] (by decide) rfl) rfl rfl) rfl rfl hl.1 rfl (lv_room (Nat.le_of_ble_eq_true rfl)) dX11_bars_103 ⟨Nat.le_of_ble_eq_true rfl, Nat.le_of_ble_eq_true rfl⟩) hP hS hA (fun r14 H locs hwr14 hP hS => ?_)
      have hwr14 : r14 = px / nI mW := hwr14
      subst hwr14
      refine lv_isub hx hb dX11_bars_106 ?_
      refine lv_imul hx hb dX11_bars_107 ?_
      refine lv_iload hx hb dX11_bars_108 (lv_at hl 1 rfl) ?_
      refine lv_iload hx hb dX11_bars_110 (lv_at hl 0 rfl) ?_
      refine wr_v (wr := [(mm_now, .inl (cy 1, 122, .inl mm_now_f))]) (va_runV (As := [.int (2 * ((py / nI mW) - (px / nI mW))), .int x6, .int x7]) (rest := []) ⟨hx, hb, hml, hown, hts⟩ (n_X11_narrow l D cy mm mm_now mm_kept mm_isKept mm_refused z11 z12 mm_stands mm_far mm_queue mm_queued mm_meets mm_bytes bl ta tl mm_token mm_value mm_next tk (2 * ((py / nI mW) - (px / nI mW))) x6 x7 _ ) (cwV 3 hts gX11_bars_X11_narrow rfl rfl rfl (by decide +kernel) ⟨Nat.le_of_ble_eq_true rfl, Nat.le_of_ble_eq_true rfl⟩) (pV (ci := 11) (k := 0) hKA (hP.sub (ws' := [(mm, .inr (11, [.ref mm_now, .ref mm_kept, .ref mm_isKept, .ref mm_refused, .int z11, .int z12, .ref mm_stands, .ref mm_far, .ref mm_queue, .int mm_queued, .ref mm_meets, .ref mm_bytes, .int (nI bl), .int (nI ta), .int (nI tl), .int mm_token, .int mm_value, .ref mm_next, .int (nI tk)]))]) [1] rfl) (hD.sub (ws' := [(mm, .inr (11, [.ref mm_now, .ref mm_kept, .ref mm_isKept, .ref mm_refused, .int z11, .int z12, .ref mm_stands, .ref mm_far, .ref mm_queue, .int mm_queued, .ref mm_meets, .ref mm_bytes, .int (nI bl), .int (nI ta), .int (nI tl), .int mm_token, .int mm_value, .ref mm_next, .int (nI tk)]))]) [1] (by decide) rfl) rfl rfl) rfl rfl hl.1 rfl (lv_room (Nat.le_of_ble_eq_true rfl)) dX11_bars_112 ⟨Nat.le_of_ble_eq_true rfl, Nat.le_of_ble_eq_true rfl⟩) hP hD hS hA [1] [0] rfl rfl (by decide +kernel) (by decide +kernel) (fun ur15 H locs hwr15 hP hD hS => ?_)
      obtain ⟨z16, z17⟩ := ur15
      have hP : va_P D vwCl [(mm_now, .inl (cy 1, 122, .inl mm_now_f)), (mm, .inr (11, [.ref mm_now, .ref mm_kept, .ref mm_isKept, .ref mm_refused, .int z16, .int z17, .ref mm_stands, .ref mm_far, .ref mm_queue, .int mm_queued, .ref mm_meets, .ref mm_bytes, .int (nI bl), .int (nI ta), .int (nI tl), .int mm_token, .int mm_value, .ref mm_next, .int (nI tk)]))] H := hP
      have hD : va_D A [(mm_now, .inl (cy 1, 122, .inl mm_now_f)), (mm, .inr (11, [.ref mm_now, .ref mm_kept, .ref mm_isKept, .ref mm_refused, .int z16, .int z17, .ref mm_stands, .ref mm_far, .ref mm_queue, .int mm_queued, .ref mm_meets, .ref mm_bytes, .int (nI bl), .int (nI ta), .int (nI tl), .int mm_token, .int mm_value, .ref mm_next, .int (nI tk)]))] := hD
      refine lv_aload_n hx hb dX11_bars_115 rfl (lv_at hl 3 rfl) ?_
      refine va_get (D := D) (ci := 11) (v := .int z16) (C := RX11) (T := TX11) (N := 19) hx hb hts zi11_ hown hK hP 1 rfl rfl 4 (by decide) z1_ (fun _ h9 => h9) rfl dX11_bars_116 ?_
      refine lv_aload_n hx hb dX11_bars_119 rfl (lv_at hl 3 rfl) ?_
      refine va_get (D := D) (ci := 11) (v := .int z17) (C := RX11) (T := TX11) (N := 19) hx hb hts zi11_ hown hK hP 1 rfl rfl 5 (by decide) z4_ (fun _ h9 => h9) rfl dX11_bars_120 ?_
      refine lv_icmp_ge (tgt := 146) hx hb dX11_bars_123 (by decide) (fun c18 => ?_) (fun c18 => ?_)
      · skip
        refine lv_iconst (v := 0) hx hb dX11_bars_146 (by decide) ?_
        subst hQF
        have hP9 := hP.sub (ws' := [(mm, .inr (11, [.ref mm_now, .ref mm_kept, .ref mm_isKept, .ref mm_refused, .int z16, .int z17, .ref mm_stands, .ref mm_far, .ref mm_queue, .int mm_queued, .ref mm_meets, .ref mm_bytes, .int (nI bl), .int (nI ta), .int (nI tl), .int mm_token, .int mm_value, .ref mm_next, .int (nI tk)])), (mm_now, .inl (cy 1, 122, .inl mm_now_f))]) [1, 0] rfl
        have hD9 := hD.sub (ws' := [(mm, .inr (11, [.ref mm_now, .ref mm_kept, .ref mm_isKept, .ref mm_refused, .int z16, .int z17, .ref mm_stands, .ref mm_far, .ref mm_queue, .int mm_queued, .ref mm_meets, .ref mm_bytes, .int (nI bl), .int (nI ta), .int (nI tl), .int mm_token, .int mm_value, .ref mm_next, .int (nI tk)])), (mm_now, .inl (cy 1, 122, .inl mm_now_f))]) [1, 0] (by decide) rfl
        exact W.zret (v := 0) hx hb hr rfl (fun t ht hW => ⟨⟨0, (z16, z17), rfl, (Or.inr ⟨rfl, trivial⟩), by rw [ht]; exact hP9, hD9⟩, hS.F ht⟩) hS.2.2 dX11_bars_147
      · skip
        refine lv_aload_n hx hb dX11_bars_126 rfl (lv_at hl 3 rfl) ?_
        refine va_get (D := D) (ci := 11) (v := .int z16) (C := RX11) (T := TX11) (N := 19) hx hb hts zi11_ hown hK hP 1 rfl rfl 4 (by decide) z1_ (fun _ h9 => h9) rfl dX11_bars_127 ?_
        refine lv_iload hx hb dX11_bars_130 (lv_at hl 0 rfl) ?_
        refine lv_icmp_ge (tgt := 146) hx hb dX11_bars_132 (by decide) (fun c19 => ?_) (fun c19 => ?_)
        · skip
          refine lv_iconst (v := 0) hx hb dX11_bars_146 (by decide) ?_
          subst hQF
          have hP9 := hP.sub (ws' := [(mm, .inr (11, [.ref mm_now, .ref mm_kept, .ref mm_isKept, .ref mm_refused, .int z16, .int z17, .ref mm_stands, .ref mm_far, .ref mm_queue, .int mm_queued, .ref mm_meets, .ref mm_bytes, .int (nI bl), .int (nI ta), .int (nI tl), .int mm_token, .int mm_value, .ref mm_next, .int (nI tk)])), (mm_now, .inl (cy 1, 122, .inl mm_now_f))]) [1, 0] rfl
          have hD9 := hD.sub (ws' := [(mm, .inr (11, [.ref mm_now, .ref mm_kept, .ref mm_isKept, .ref mm_refused, .int z16, .int z17, .ref mm_stands, .ref mm_far, .ref mm_queue, .int mm_queued, .ref mm_meets, .ref mm_bytes, .int (nI bl), .int (nI ta), .int (nI tl), .int mm_token, .int mm_value, .ref mm_next, .int (nI tk)])), (mm_now, .inl (cy 1, 122, .inl mm_now_f))]) [1, 0] (by decide) rfl
          exact W.zret (v := 0) hx hb hr rfl (fun t ht hW => ⟨⟨0, (z16, z17), rfl, (Or.inr ⟨rfl, trivial⟩), by rw [ht]; exact hP9, hD9⟩, hS.F ht⟩) hS.2.2 dX11_bars_147
        · skip
          refine lv_aload_n hx hb dX11_bars_135 rfl (lv_at hl 3 rfl) ?_
          refine va_get (D := D) (ci := 11) (v := .int z17) (C := RX11) (T := TX11) (N := 19) hx hb hts zi11_ hown hK hP 1 rfl rfl 5 (by decide) z4_ (fun _ h9 => h9) rfl dX11_bars_136 ?_
          refine lv_if_le (tgt := 146) hx hb dX11_bars_139 (by decide) (fun c20 => ?_) (fun c20 => ?_)
          · skip
            refine lv_iconst (v := 0) hx hb dX11_bars_146 (by decide) ?_
            subst hQF
            have hP9 := hP.sub (ws' := [(mm, .inr (11, [.ref mm_now, .ref mm_kept, .ref mm_isKept, .ref mm_refused, .int z16, .int z17, .ref mm_stands, .ref mm_far, .ref mm_queue, .int mm_queued, .ref mm_meets, .ref mm_bytes, .int (nI bl), .int (nI ta), .int (nI tl), .int mm_token, .int mm_value, .ref mm_next, .int (nI tk)])), (mm_now, .inl (cy 1, 122, .inl mm_now_f))]) [1, 0] rfl
            have hD9 := hD.sub (ws' := [(mm, .inr (11, [.ref mm_now, .ref mm_kept, .ref mm_isKept, .ref mm_refused, .int z16, .int z17, .ref mm_stands, .ref mm_far, .ref mm_queue, .int mm_queued, .ref mm_meets, .ref mm_bytes, .int (nI bl), .int (nI ta), .int (nI tl), .int mm_token, .int mm_value, .ref mm_next, .int (nI tk)])), (mm_now, .inl (cy 1, 122, .inl mm_now_f))]) [1, 0] (by decide) rfl
            exact W.zret (v := 0) hx hb hr rfl (fun t ht hW => ⟨⟨0, (z16, z17), rfl, (Or.inr ⟨rfl, trivial⟩), by rw [ht]; exact hP9, hD9⟩, hS.F ht⟩) hS.2.2 dX11_bars_147
          · skip
            refine lv_iconst (v := 1) hx hb dX11_bars_142 (by decide) ?_
            refine lv_goto (tgt := 147) hx hb dX11_bars_143 (by decide) ?_
            subst hQF
            have hP9 := hP.sub (ws' := [(mm, .inr (11, [.ref mm_now, .ref mm_kept, .ref mm_isKept, .ref mm_refused, .int z16, .int z17, .ref mm_stands, .ref mm_far, .ref mm_queue, .int mm_queued, .ref mm_meets, .ref mm_bytes, .int (nI bl), .int (nI ta), .int (nI tl), .int mm_token, .int mm_value, .ref mm_next, .int (nI tk)])), (mm_now, .inl (cy 1, 122, .inl mm_now_f))]) [1, 0] rfl
            have hD9 := hD.sub (ws' := [(mm, .inr (11, [.ref mm_now, .ref mm_kept, .ref mm_isKept, .ref mm_refused, .int z16, .int z17, .ref mm_stands, .ref mm_far, .ref mm_queue, .int mm_queued, .ref mm_meets, .ref mm_bytes, .int (nI bl), .int (nI ta), .int (nI tl), .int mm_token, .int mm_value, .ref mm_next, .int (nI tk)])), (mm_now, .inl (cy 1, 122, .inl mm_now_f))]) [1, 0] (by decide) rfl
            exact W.zret (v := 1) hx hb hr rfl (fun t ht hW => ⟨⟨1, (z16, z17), rfl, (Or.inl ⟨rfl, trivial⟩), by rw [ht]; exact hP9, hD9⟩, hS.F ht⟩) hS.2.2 dX11_bars_147
    refine lv_if_ne (tgt := 53) hx hb dX11_bars_46 (by decide) (fun c21 => ?_) (fun c21 => ?_)
    · skip
      refine lv_iload hx hb dX11_bars_53 (lv_at hl 0 rfl) ?_
      refine rd_i (va_runS (As := [.int x6]) (rest := [.int s1_44]) ⟨hx, hb, hml, hown, hts⟩ (n_X11_size l D cy x6 _ ) (va_cwS 1 hts gX11_bars_X11_size rfl rfl rfl (by decide +kernel) ⟨Nat.le_of_ble_eq_true rfl, Nat.le_of_ble_eq_true rfl⟩) (pS hKA pE (dE (A := A))) rfl rfl hl.1 rfl (lv_room (Nat.le_of_ble_eq_true rfl)) dX11_bars_55 ⟨Nat.le_of_ble_eq_true rfl, Nat.le_of_ble_eq_true rfl⟩) hP hS hA (fun r22 H locs hwr22 hP hS => ?_)
      have hwr22 : r22 = 0 → x6 = 0 := hwr22
      exact j58 r22 _ _ hP hD hS ls hl
    · skip
      refine lv_iconst (v := 1) hx hb dX11_bars_49 (by decide) ?_
      refine lv_goto (tgt := 58) hx hb dX11_bars_50 (by decide) ?_
      exact j58 1 _ _ hP hD hS ls hl
  refine lv_if_ne (tgt := 39) hx hb dX11_bars_32 (by decide) (fun c23 => ?_) (fun c23 => ?_)
  · skip
    refine lv_iload hx hb dX11_bars_39 (lv_at hl 1 rfl) ?_
    refine rd_i (va_runS (As := [.int x3]) (rest := []) ⟨hx, hb, hml, hown, hts⟩ (n_X11_size l D cy x3 _ ) (va_cwS 1 hts gX11_bars_X11_size rfl rfl rfl (by decide +kernel) ⟨Nat.le_of_ble_eq_true rfl, Nat.le_of_ble_eq_true rfl⟩) (pS hKA pE (dE (A := A))) rfl rfl hl.1 rfl (lv_room (Nat.le_of_ble_eq_true rfl)) dX11_bars_41 ⟨Nat.le_of_ble_eq_true rfl, Nat.le_of_ble_eq_true rfl⟩) hP hS hA (fun r24 H locs hwr24 hP hS => ?_)
    have hwr24 : r24 = 0 → x3 = 0 := hwr24
    exact j44 r24 _ _ hP hD hS ls hl
  · skip
    refine lv_iconst (v := 1) hx hb dX11_bars_35 (by decide) ?_
    refine lv_goto (tgt := 44) hx hb dX11_bars_36 (by decide) ?_
    exact j44 1 _ _ hP hD hS ls hl

set_option maxHeartbeats 4000000 in
set_option maxRecDepth 100000 in
theorem n_X11_isClear (l : Launch) (D : va_G) (cy : Nat → ClassId) (mW : Nat) (mH : Nat) (mS : Nat) (mP : Nat) (mm : Nat) (mm_now : Nat) (mm_kept : Nat) (mm_isKept : Nat) (mm_refused : Nat) (mm_lineFrom : Int32) (mm_lineTo : Int32) (mm_stands : Nat) (mm_far : Nat) (mm_queue : Nat) (mm_queued : Int32) (mm_meets : Nat) (mm_bytes : Nat) (bl : Nat) (ta : Nat) (tl : Nat) (mm_token : Int32) (mm_value : Int32) (mm_next : Nat) (tk : Nat) (mm_now_f : Nat → Int32) (px : Int32) (py : Int32) (sz : Nat) (hF : mV mm_now_f mW mH mS mP) : Met l yX11_isClear wsX11_isClear ({ frames := 3, cells := 0, slots := 0, locals := 71 }) (va_Pc [.ref mm, .int px, .int py] (kPre D cy [(mm, .inr (11, [.ref mm_now, .ref mm_kept, .ref mm_isKept, .ref mm_refused, .int mm_lineFrom, .int mm_lineTo, .ref mm_stands, .ref mm_far, .ref mm_queue, .int mm_queued, .ref mm_meets, .ref mm_bytes, .int (nI bl), .int (nI ta), .int (nI tl), .int mm_token, .int mm_value, .ref mm_next, .int (nI tk)])), (mm_now, .inl (cy 1, 122, .inl mm_now_f))] sz)) (va_Qi (fun (r : Int32) (u : Int32 × Int32) => (r = 1 ∧ True) ∨ (r = 0 ∧ True)) (fun (u : Int32 × Int32) t => va_P D vwCl ([(mm, .inr (11, [.ref mm_now, .ref mm_kept, .ref mm_isKept, .ref mm_refused, .int u.1, .int u.2, .ref mm_stands, .ref mm_far, .ref mm_queue, .int mm_queued, .ref mm_meets, .ref mm_bytes, .int (nI bl), .int (nI ta), .int (nI tl), .int mm_token, .int mm_value, .ref mm_next, .int (nI tk)])), (mm_now, .inl (cy 1, 122, .inl mm_now_f))]) t.heap ∧ va_D (va_A [(mm, .inr (11, [.ref mm_now, .ref mm_kept, .ref mm_isKept, .ref mm_refused, .int mm_lineFrom, .int mm_lineTo, .ref mm_stands, .ref mm_far, .ref mm_queue, .int mm_queued, .ref mm_meets, .ref mm_bytes, .int (nI bl), .int (nI ta), .int (nI tl), .int mm_token, .int mm_value, .ref mm_next, .int (nI tk)])), (mm_now, .inl (cy 1, 122, .inl mm_now_f))] sz) ([(mm, .inr (11, [.ref mm_now, .ref mm_kept, .ref mm_isKept, .ref mm_refused, .int u.1, .int u.2, .ref mm_stands, .ref mm_far, .ref mm_queue, .int mm_queued, .ref mm_meets, .ref mm_bytes, .int (nI bl), .int (nI ta), .int (nI tl), .int mm_token, .int mm_value, .ref mm_next, .int (nI tk)])), (mm_now, .inl (cy 1, 122, .inl mm_now_f))])) (va_A [(mm, .inr (11, [.ref mm_now, .ref mm_kept, .ref mm_isKept, .ref mm_refused, .int mm_lineFrom, .int mm_lineTo, .ref mm_stands, .ref mm_far, .ref mm_queue, .int mm_queued, .ref mm_meets, .ref mm_bytes, .int (nI bl), .int (nI ta), .int (nI tl), .int mm_token, .int mm_value, .ref mm_next, .int (nI tk)])), (mm_now, .inl (cy 1, 122, .inl mm_now_f))] sz)) 0 0 (va_A [(mm, .inr (11, [.ref mm_now, .ref mm_kept, .ref mm_isKept, .ref mm_refused, .int mm_lineFrom, .int mm_lineTo, .ref mm_stands, .ref mm_far, .ref mm_queue, .int mm_queued, .ref mm_meets, .ref mm_bytes, .int (nI bl), .int (nI ta), .int (nI tl), .int mm_token, .int mm_value, .ref mm_next, .int (nI tk)])), (mm_now, .inl (cy 1, 122, .inl mm_now_f))] sz) := by
  refine Met.ofW (cc := cX11_isClear) (maxL := 5) (ret := (some .boolean)) (by decide) rfl ?_
  intro p e s m args below meth c s₁ B hml hv
  obtain ⟨rfl, hsz, hP, hKA, hD0⟩ := hv
  have hx := B.exec
  have hb := B.bytes
  have hr := B.returns
  have hts := atoms_spec (ws := wsX11_isClear) B.pre
  have hown : s.vm.findClass RX11 = some m.cls := findClass_of_methodNamed B.named
  have hlocks := B.notSynchronized
  subst hsz
  have hK := hKA.1
  have hD := hD0.self (sz := s.heap.size)
  generalize hAe : va_A [(mm, .inr (11, [.ref mm_now, .ref mm_kept, .ref mm_isKept, .ref mm_refused, .int mm_lineFrom, .int mm_lineTo, .ref mm_stands, .ref mm_far, .ref mm_queue, .int mm_queued, .ref mm_meets, .ref mm_bytes, .int (nI bl), .int (nI ta), .int (nI tl), .int mm_token, .int mm_value, .ref mm_next, .int (nI tk)])), (mm_now, .inl (cy 1, 122, .inl mm_now_f))] s.heap.size = A at hD ⊢
  have hA : ∀ q : Nat, s.heap.size ≤ q → A q := fun q h => by rw [← hAe]; exact Or.inr h
  have hS : va_S A s.heap s.heap [] := va_S.rf
  have hP : va_P D vwCl [(mm, .inr (11, [.ref mm_now, .ref mm_kept, .ref mm_isKept, .ref mm_refused, .int mm_lineFrom, .int mm_lineTo, .ref mm_stands, .ref mm_far, .ref mm_queue, .int mm_queued, .ref mm_meets, .ref mm_bytes, .int (nI bl), .int (nI ta), .int (nI tl), .int mm_token, .int mm_value, .ref mm_next, .int (nI tk)])), (mm_now, .inl (cy 1, 122, .inl mm_now_f))] s.heap := hP
  have hl := lv_entry ([.ref mm, .int px, .int py]) (n := 5) (Nat.le_of_ble_eq_true rfl)
  rw [lg_entry_eq]
  generalize (lg_sl ([.ref mm, .int px, .int py]) ++ List.replicate (5 - (lg_sl ([.ref mm, .int px, .int py])).length) Slot.unset).toArray = ls at hl ⊢
  have hl : lv_has ls 5 [(0, .ref mm), (1, .int px), (2, .int py)] := hl
  refine qW (fun QF hQF => ?_)
  have z0_ := hts (.fieldLink RX11 7 "HeardSeenModel" "now" "[I") (by decide +kernel)
  have zi11_ : ∀ w ∈ u_ws RX11 TX11 19, w ∈ wsX11_isClear := by decide +kernel
  obtain ⟨hW2, hW6, hH2, hH6, hSe, hS4, hS6, hP5⟩ := hF.rng
  refine lv_iconst (v := 1) hx hb dX11_isClear_0 (by decide) ?_
  refine lv_istore_n (lv' := [(3, .int 1), (0, .ref mm), (1, .int px), (2, .int py)]) hx hb dX11_isClear_1 rfl hl (by decide) rfl (fun ls hl => ?_)
  refine lv_iconst (v := 0) hx hb dX11_isClear_2 (by decide) ?_
  refine lv_istore (lv' := [(4, .int 0), (3, .int 1), (0, .ref mm), (1, .int px), (2, .int py)]) hx hb dX11_isClear_3 hl (by decide) rfl (fun ls hl => ?_)
  have lp5 : ∀ (n5 : Nat) (v4_5 : Nat) (v3_5 : Int32) (u_mm_4_5 : Int32) (u_mm_5_5 : Int32) (bv3_5 : v3_5 = 1 ∨ v3_5 = 0) (hv4_5 : v4_5 < 2147483648), 2147483648 - v4_5 < n5 → ∀ (H : Heap) (locs : List Loc), va_P D vwCl [(mm, .inr (11, [.ref mm_now, .ref mm_kept, .ref mm_isKept, .ref mm_refused, .int u_mm_4_5, .int u_mm_5_5, .ref mm_stands, .ref mm_far, .ref mm_queue, .int mm_queued, .ref mm_meets, .ref mm_bytes, .int (nI bl), .int (nI ta), .int (nI tl), .int mm_token, .int mm_value, .ref mm_next, .int (nI tk)])), (mm_now, .inl (cy 1, 122, .inl mm_now_f))] H → va_D A [(mm, .inr (11, [.ref mm_now, .ref mm_kept, .ref mm_isKept, .ref mm_refused, .int u_mm_4_5, .int u_mm_5_5, .ref mm_stands, .ref mm_far, .ref mm_queue, .int mm_queued, .ref mm_meets, .ref mm_bytes, .int (nI bl), .int (nI ta), .int (nI tl), .int mm_token, .int mm_value, .ref mm_next, .int (nI tk)])), (mm_now, .inl (cy 1, 122, .inl mm_now_f))] → va_S A s.heap H locs → ∀ ls : Array Slot, lv_has ls 5 [(4, .int (nI v4_5)), (3, .int v3_5), (0, .ref mm), (1, .int px), (2, .int py)] → W p l e (headSpec wsX11_isClear ({ frames := 3, cells := 0, slots := 0, locals := 71 })).room s m [.ref mm, .int px, .int py].toArray below meth c H locs 0 0 QF (F0 m 5 ls []) := by
    intro n5
    induction n5 with
    | zero => intro v4_5 v3_5 u_mm_4_5 u_mm_5_5 bv3_5 hv4_5 hm; exact absurd hm (Nat.not_lt_zero _)
    | succ n5 ih5 =>
      intro v4_5 v3_5 u_mm_4_5 u_mm_5_5 bv3_5 hv4_5 hm5 H locs hP hD hS ls hl
      refine lv_iload hx hb dX11_isClear_5 (lv_at hl 0 rfl) ?_
      refine lv_aload_n hx hb dX11_isClear_7 rfl (lv_at hl 2 rfl) ?_
      refine rd_i (va_runV (As := []) (rest := [.int (nI v4_5)]) ⟨hx, hb, hml, hown, hts⟩ (n_X11_squares l D cy mW mH mS mP mm mm_now mm_kept mm_isKept mm_refused u_mm_4_5 u_mm_5_5 mm_stands mm_far mm_queue mm_queued mm_meets mm_bytes bl ta tl mm_token mm_value mm_next tk mm_now_f _ (by first | assumption | omega)) (cwV 0 hts gX11_isClear_X11_squares rfl rfl rfl (by decide +kernel) ⟨Nat.le_of_ble_eq_true rfl, Nat.le_of_ble_eq_true rfl⟩) (pV (ci := 11) (k := 0) hKA (hP.sub (ws' := [(mm, .inr (11, [.ref mm_now, .ref mm_kept, .ref mm_isKept, .ref mm_refused, .int u_mm_4_5, .int u_mm_5_5, .ref mm_stands, .ref mm_far, .ref mm_queue, .int mm_queued, .ref mm_meets, .ref mm_bytes, .int (nI bl), .int (nI ta), .int (nI tl), .int mm_token, .int mm_value, .ref mm_next, .int (nI tk)])), (mm_now, .inl (cy 1, 122, .inl mm_now_f))]) [0, 1] rfl) (hD.sub (ws' := [(mm, .inr (11, [.ref mm_now, .ref mm_kept, .ref mm_isKept, .ref mm_refused, .int u_mm_4_5, .int u_mm_5_5, .ref mm_stands, .ref mm_far, .ref mm_queue, .int mm_queued, .ref mm_meets, .ref mm_bytes, .int (nI bl), .int (nI ta), .int (nI tl), .int mm_token, .int mm_value, .ref mm_next, .int (nI tk)])), (mm_now, .inl (cy 1, 122, .inl mm_now_f))]) [0, 1] (by decide) rfl) rfl rfl) rfl rfl hl.1 rfl (lv_room (Nat.le_of_ble_eq_true rfl)) dX11_isClear_8 ⟨Nat.le_of_ble_eq_true rfl, Nat.le_of_ble_eq_true rfl⟩) hP hS hA (fun r1 H locs hwr1 hP hS => ?_)
      have hwr1 : r1 = nI mS := hwr1
      subst hwr1
      refine lv_icmp_ge (tgt := 66) hx hb dX11_isClear_11 (by decide) (fun c2 => ?_) (fun c2 => ?_)
      · skip
        refine lv_iload_n hx hb dX11_isClear_66 rfl (lv_at hl 1 rfl) ?_
        subst hQF
        have hP9 := hP
        have hD9 := hD
        exact W.zret (v := v3_5) hx hb hr (z_bm bv3_5) (fun t ht hW => ⟨⟨v3_5, (u_mm_4_5, u_mm_5_5), rfl, (z_bu bv3_5), by rw [ht]; exact hP9, hD9⟩, hS.F ht⟩) hS.2.2 dX11_isClear_67
      · skip
        have hk11 := ltM (n := mS) (k := v4_5) (by omega) (by assumption) (by assumption)
        refine lv_iload_n hx hb dX11_isClear_14 rfl (lv_at hl 1 rfl) ?_
        refine lv_if_eq (tgt := 66) hx hb dX11_isClear_15 (by decide) (fun c3 => ?_) (fun c3 => ?_)
        · skip
          refine lv_iload_n hx hb dX11_isClear_66 rfl (lv_at hl 1 rfl) ?_
          refine W.eq (g2 := F0 m 67 ls [.int 0]) (congrArg (fun v9 : Int32 => F0 m 67 ls [.int v9]) c3) ?_
          subst hQF
          have hP9 := hP
          have hD9 := hD
          exact W.zret (v := 0) hx hb hr rfl (fun t ht hW => ⟨⟨0, (u_mm_4_5, u_mm_5_5), rfl, (Or.inr ⟨rfl, trivial⟩), by rw [ht]; exact hP9, hD9⟩, hS.F ht⟩) hS.2.2 dX11_isClear_67
        · skip
          refine lv_aload_n hx hb dX11_isClear_18 rfl (lv_at hl 2 rfl) ?_
          refine va_get (D := D) (ci := 11) (v := .ref mm_now) (C := RX11) (T := TX11) (N := 19) hx hb hts zi11_ hown hK hP 0 rfl rfl 0 (by decide) z0_ (fun _ h9 => h9) rfl dX11_isClear_19 ?_
          refine lv_bipush (v := 20) hx hb dX11_isClear_22 (by decide) ?_
          refine lv_iload hx hb dX11_isClear_24 (lv_at hl 0 rfl) ?_
          refine lv_iadd hx hb dX11_isClear_26 ?_
          refine lv_topi (fun x4 ex4 => ?_)
          obtain rfl : x4 = nI (20 + v4_5) := by rw [ex4]; exact nI_add _ _
          refine my_iald hx hb hK hP 1 1 rfl rfl (by first | exact in_ge (N := 122) (by decide) (by omega) (by assumption) | exact vp_in_nI (by omega) (by omega)) (nI_clamp (by omega)) dX11_isClear_27 ?_
          refine lv_if_eq (tgt := 54) hx hb dX11_isClear_28 (by decide) (fun c5 => ?_) (fun c5 => ?_)
          · skip
            refine lv_iconst (v := 1) hx hb dX11_isClear_54 (by decide) ?_
            refine lv_goto (tgt := 59) hx hb dX11_isClear_55 (by decide) ?_
            refine lv_istore_n (lv' := [(3, .int 1), (4, .int (nI v4_5)), (0, .ref mm), (1, .int px), (2, .int py)]) hx hb dX11_isClear_59 rfl hl (by decide) rfl (fun ls hl => ?_)
            refine lv_iinc (v := nI (v4_5 + 1)) (lv' := [(4, .int (nI (v4_5 + 1))), (3, .int 1), (0, .ref mm), (1, .int px), (2, .int py)]) hx hb dX11_isClear_60 hl (k := 1) rfl (nI_1 _) (by decide) rfl (fun ls hl => ?_)
            refine lv_goto (tgt := 5) hx hb dX11_isClear_63 (by decide) ?_
            exact ih5 (v4_5 + 1) 1 u_mm_4_5 u_mm_5_5 (Or.inl rfl) (by first | omega | exact nlt_max hv4_5 (by assumption)) (by first | omega | (have := nlt_max hv4_5 (by assumption); omega)) _ _ hP hD hS ls hl
          · skip
            refine lv_iload hx hb dX11_isClear_31 (lv_at hl 0 rfl) ?_
            refine lv_iload_n hx hb dX11_isClear_33 rfl (lv_at hl 3 rfl) ?_
            refine lv_icmp_eq (tgt := 54) hx hb dX11_isClear_34 (by decide) (fun c6 => ?_) (fun c6 => ?_)
            · skip
              refine lv_iconst (v := 1) hx hb dX11_isClear_54 (by decide) ?_
              refine lv_goto (tgt := 59) hx hb dX11_isClear_55 (by decide) ?_
              refine lv_istore_n (lv' := [(3, .int 1), (4, .int (nI v4_5)), (0, .ref mm), (1, .int px), (2, .int py)]) hx hb dX11_isClear_59 rfl hl (by decide) rfl (fun ls hl => ?_)
              refine lv_iinc (v := nI (v4_5 + 1)) (lv' := [(4, .int (nI (v4_5 + 1))), (3, .int 1), (0, .ref mm), (1, .int px), (2, .int py)]) hx hb dX11_isClear_60 hl (k := 1) rfl (nI_1 _) (by decide) rfl (fun ls hl => ?_)
              refine lv_goto (tgt := 5) hx hb dX11_isClear_63 (by decide) ?_
              exact ih5 (v4_5 + 1) 1 u_mm_4_5 u_mm_5_5 (Or.inl rfl) (by first | omega | exact nlt_max hv4_5 (by assumption)) (by first | omega | (have := nlt_max hv4_5 (by assumption); omega)) _ _ hP hD hS ls hl
            · skip
              refine lv_iload hx hb dX11_isClear_37 (lv_at hl 0 rfl) ?_
              refine lv_iload_n hx hb dX11_isClear_39 rfl (lv_at hl 4 rfl) ?_
              refine lv_icmp_eq (tgt := 54) hx hb dX11_isClear_40 (by decide) (fun c7 => ?_) (fun c7 => ?_)
              · skip
                refine lv_iconst (v := 1) hx hb dX11_isClear_54 (by decide) ?_
                refine lv_goto (tgt := 59) hx hb dX11_isClear_55 (by decide) ?_
                refine lv_istore_n (lv' := [(3, .int 1), (4, .int (nI v4_5)), (0, .ref mm), (1, .int px), (2, .int py)]) hx hb dX11_isClear_59 rfl hl (by decide) rfl (fun ls hl => ?_)
                refine lv_iinc (v := nI (v4_5 + 1)) (lv' := [(4, .int (nI (v4_5 + 1))), (3, .int 1), (0, .ref mm), (1, .int px), (2, .int py)]) hx hb dX11_isClear_60 hl (k := 1) rfl (nI_1 _) (by decide) rfl (fun ls hl => ?_)
                refine lv_goto (tgt := 5) hx hb dX11_isClear_63 (by decide) ?_
                exact ih5 (v4_5 + 1) 1 u_mm_4_5 u_mm_5_5 (Or.inl rfl) (by first | omega | exact nlt_max hv4_5 (by assumption)) (by first | omega | (have := nlt_max hv4_5 (by assumption); omega)) _ _ hP hD hS ls hl
              · skip
                refine lv_aload_n hx hb dX11_isClear_43 rfl (lv_at hl 2 rfl) ?_
                refine lv_iload hx hb dX11_isClear_44 (lv_at hl 0 rfl) ?_
                refine lv_iload_n hx hb dX11_isClear_46 rfl (lv_at hl 3 rfl) ?_
                refine lv_iload_n hx hb dX11_isClear_47 rfl (lv_at hl 4 rfl) ?_
                refine wr_i (wr := []) (va_runV (As := [.int (nI v4_5), .int px, .int py]) (rest := []) ⟨hx, hb, hml, hown, hts⟩ (n_X11_bars l D cy mW mH mS mP mm mm_now mm_kept mm_isKept mm_refused u_mm_4_5 u_mm_5_5 mm_stands mm_far mm_queue mm_queued mm_meets mm_bytes bl ta tl mm_token mm_value mm_next tk mm_now_f (nI v4_5) px py _ (by first | assumption | omega)) (cwV 3 hts gX11_isClear_X11_bars rfl rfl rfl (by decide +kernel) ⟨Nat.le_of_ble_eq_true rfl, Nat.le_of_ble_eq_true rfl⟩) (pV (ci := 11) (k := 0) hKA (hP.sub (ws' := [(mm, .inr (11, [.ref mm_now, .ref mm_kept, .ref mm_isKept, .ref mm_refused, .int u_mm_4_5, .int u_mm_5_5, .ref mm_stands, .ref mm_far, .ref mm_queue, .int mm_queued, .ref mm_meets, .ref mm_bytes, .int (nI bl), .int (nI ta), .int (nI tl), .int mm_token, .int mm_value, .ref mm_next, .int (nI tk)])), (mm_now, .inl (cy 1, 122, .inl mm_now_f))]) [0, 1] rfl) (hD.sub (ws' := [(mm, .inr (11, [.ref mm_now, .ref mm_kept, .ref mm_isKept, .ref mm_refused, .int u_mm_4_5, .int u_mm_5_5, .ref mm_stands, .ref mm_far, .ref mm_queue, .int mm_queued, .ref mm_meets, .ref mm_bytes, .int (nI bl), .int (nI ta), .int (nI tl), .int mm_token, .int mm_value, .ref mm_next, .int (nI tk)])), (mm_now, .inl (cy 1, 122, .inl mm_now_f))]) [0, 1] (by decide) rfl) rfl rfl) rfl rfl hl.1 rfl (lv_room (Nat.le_of_ble_eq_true rfl)) dX11_isClear_48 ⟨Nat.le_of_ble_eq_true rfl, Nat.le_of_ble_eq_true rfl⟩) hP hD hS hA [0, 1] [] rfl rfl (by decide +kernel) (by decide +kernel) (fun r8 ur8 H locs hwr8 hP hD hS => ?_)
                obtain ⟨z9, z10⟩ := ur8
                have hP : va_P D vwCl [(mm, .inr (11, [.ref mm_now, .ref mm_kept, .ref mm_isKept, .ref mm_refused, .int z9, .int z10, .ref mm_stands, .ref mm_far, .ref mm_queue, .int mm_queued, .ref mm_meets, .ref mm_bytes, .int (nI bl), .int (nI ta), .int (nI tl), .int mm_token, .int mm_value, .ref mm_next, .int (nI tk)])), (mm_now, .inl (cy 1, 122, .inl mm_now_f))] H := hP
                have hD : va_D A [(mm, .inr (11, [.ref mm_now, .ref mm_kept, .ref mm_isKept, .ref mm_refused, .int z9, .int z10, .ref mm_stands, .ref mm_far, .ref mm_queue, .int mm_queued, .ref mm_meets, .ref mm_bytes, .int (nI bl), .int (nI ta), .int (nI tl), .int mm_token, .int mm_value, .ref mm_next, .int (nI tk)])), (mm_now, .inl (cy 1, 122, .inl mm_now_f))] := hD
                have hwr8 : (r8 = 1 ∧ True) ∨ (r8 = 0 ∧ True) := hwr8
                refine lv_if_ne (tgt := 58) hx hb dX11_isClear_51 (by decide) (fun c11 => ?_) (fun c11 => ?_)
                · skip
                  refine lv_iconst (v := 0) hx hb dX11_isClear_58 (by decide) ?_
                  refine lv_istore_n (lv' := [(3, .int 0), (4, .int (nI v4_5)), (0, .ref mm), (1, .int px), (2, .int py)]) hx hb dX11_isClear_59 rfl hl (by decide) rfl (fun ls hl => ?_)
                  refine lv_iinc (v := nI (v4_5 + 1)) (lv' := [(4, .int (nI (v4_5 + 1))), (3, .int 0), (0, .ref mm), (1, .int px), (2, .int py)]) hx hb dX11_isClear_60 hl (k := 1) rfl (nI_1 _) (by decide) rfl (fun ls hl => ?_)
                  refine lv_goto (tgt := 5) hx hb dX11_isClear_63 (by decide) ?_
                  exact ih5 (v4_5 + 1) 0 z9 z10 (Or.inr rfl) (by first | omega | exact nlt_max hv4_5 (by assumption)) (by first | omega | (have := nlt_max hv4_5 (by assumption); omega)) _ _ hP hD hS ls hl
                · skip
                  refine lv_iconst (v := 1) hx hb dX11_isClear_54 (by decide) ?_
                  refine lv_goto (tgt := 59) hx hb dX11_isClear_55 (by decide) ?_
                  refine lv_istore_n (lv' := [(3, .int 1), (4, .int (nI v4_5)), (0, .ref mm), (1, .int px), (2, .int py)]) hx hb dX11_isClear_59 rfl hl (by decide) rfl (fun ls hl => ?_)
                  refine lv_iinc (v := nI (v4_5 + 1)) (lv' := [(4, .int (nI (v4_5 + 1))), (3, .int 1), (0, .ref mm), (1, .int px), (2, .int py)]) hx hb dX11_isClear_60 hl (k := 1) rfl (nI_1 _) (by decide) rfl (fun ls hl => ?_)
                  refine lv_goto (tgt := 5) hx hb dX11_isClear_63 (by decide) ?_
                  exact ih5 (v4_5 + 1) 1 z9 z10 (Or.inl rfl) (by first | omega | exact nlt_max hv4_5 (by assumption)) (by first | omega | (have := nlt_max hv4_5 (by assumption); omega)) _ _ hP hD hS ls hl
  exact lp5 (2147483648 - 0 + 1) 0 1 mm_lineFrom mm_lineTo (Or.inl rfl) (by first | omega | exact nlt_max (by assumption) (by assumption)) (Nat.lt_succ_self _) _ _ hP hD hS ls hl
