theorem dX11_init_0 : decode cX11_init 0 = .ok (.aload_n 0, 1) := by decide +kernel
theorem dX11_init_1 : decode cX11_init 1 = .ok (.invokespecial 1, 3) := by decide +kernel
theorem dX11_init_4 : decode cX11_init 4 = .ok (.aload_n 0, 1) := by decide +kernel
theorem dX11_init_5 : decode cX11_init 5 = .ok (.bipush 122, 2) := by decide +kernel
theorem dX11_init_7 : decode cX11_init 7 = .ok (.newarray .int, 2) := by decide +kernel
theorem dX11_init_9 : decode cX11_init 9 = .ok (.putfield 7, 3) := by decide +kernel
theorem dX11_init_12 : decode cX11_init 12 = .ok (.aload_n 0, 1) := by decide +kernel
theorem dX11_init_13 : decode cX11_init 13 = .ok (.sipush 244, 3) := by decide +kernel
theorem dX11_init_16 : decode cX11_init 16 = .ok (.newarray .int, 2) := by decide +kernel
theorem dX11_init_18 : decode cX11_init 18 = .ok (.putfield 13, 3) := by decide +kernel
theorem dX11_init_21 : decode cX11_init 21 = .ok (.aload_n 0, 1) := by decide +kernel
theorem dX11_init_22 : decode cX11_init 22 = .ok (.iconst 2, 1) := by decide +kernel
theorem dX11_init_23 : decode cX11_init 23 = .ok (.newarray .boolean, 2) := by decide +kernel
theorem dX11_init_25 : decode cX11_init 25 = .ok (.putfield 16, 3) := by decide +kernel
theorem dX11_init_28 : decode cX11_init 28 = .ok (.aload_n 0, 1) := by decide +kernel
theorem dX11_init_29 : decode cX11_init 29 = .ok (.iconst 3, 1) := by decide +kernel
theorem dX11_init_30 : decode cX11_init 30 = .ok (.newarray .int, 2) := by decide +kernel
theorem dX11_init_32 : decode cX11_init 32 = .ok (.putfield 20, 3) := by decide +kernel
theorem dX11_init_35 : decode cX11_init 35 = .ok (.aload_n 0, 1) := by decide +kernel
theorem dX11_init_36 : decode cX11_init 36 = .ok (.bipush 36, 2) := by decide +kernel
theorem dX11_init_38 : decode cX11_init 38 = .ok (.newarray .boolean, 2) := by decide +kernel
theorem dX11_init_40 : decode cX11_init 40 = .ok (.putfield 23, 3) := by decide +kernel
theorem dX11_init_43 : decode cX11_init 43 = .ok (.aload_n 0, 1) := by decide +kernel
theorem dX11_init_44 : decode cX11_init 44 = .ok (.sipush 1152, 3) := by decide +kernel
theorem dX11_init_47 : decode cX11_init 47 = .ok (.newarray .int, 2) := by decide +kernel
theorem dX11_init_49 : decode cX11_init 49 = .ok (.putfield 26, 3) := by decide +kernel
theorem dX11_init_52 : decode cX11_init 52 = .ok (.aload_n 0, 1) := by decide +kernel
theorem dX11_init_53 : decode cX11_init 53 = .ok (.sipush 1152, 3) := by decide +kernel
theorem dX11_init_56 : decode cX11_init 56 = .ok (.newarray .int, 2) := by decide +kernel
theorem dX11_init_58 : decode cX11_init 58 = .ok (.putfield 29, 3) := by decide +kernel
theorem dX11_init_61 : decode cX11_init 61 = .ok (.aload_n 0, 1) := by decide +kernel
theorem dX11_init_62 : decode cX11_init 62 = .ok (.bipush 36, 2) := by decide +kernel
theorem dX11_init_64 : decode cX11_init 64 = .ok (.newarray .int, 2) := by decide +kernel
theorem dX11_init_66 : decode cX11_init 66 = .ok (.putfield 32, 3) := by decide +kernel
theorem dX11_init_69 : decode cX11_init 69 = .ok (.aload_n 0, 1) := by decide +kernel
theorem dX11_init_70 : decode cX11_init 70 = .ok (.sipush 250, 3) := by decide +kernel
theorem dX11_init_73 : decode cX11_init 73 = .ok (.newarray .int, 2) := by decide +kernel
theorem dX11_init_75 : decode cX11_init 75 = .ok (.putfield 35, 3) := by decide +kernel
theorem dX11_init_78 : decode cX11_init 78 = .ok (.aload_n 0, 1) := by decide +kernel
theorem dX11_init_79 : decode cX11_init 79 = .ok (.bipush 122, 2) := by decide +kernel
theorem dX11_init_81 : decode cX11_init 81 = .ok (.newarray .int, 2) := by decide +kernel
theorem dX11_init_83 : decode cX11_init 83 = .ok (.putfield 38, 3) := by decide +kernel
theorem dX11_init_86 : decode cX11_init 86 = .ok (.aload_n 0, 1) := by decide +kernel
theorem dX11_init_87 : decode cX11_init 87 = .ok (.getfield 7, 3) := by decide +kernel
theorem dX11_init_90 : decode cX11_init 90 = .ok (.bipush 6, 2) := by decide +kernel
theorem dX11_init_92 : decode cX11_init 92 = .ok (.bipush 6, 2) := by decide +kernel
set_option maxRecDepth 20000 in
theorem ggX11_init_X11_begin : GoodIn wsX11_init wsX11_begin := goodIn_r _ [19] (by decide +kernel) (by decide +kernel)
set_option maxRecDepth 20000 in
theorem gX11_init_X11_begin : GoodIn wsX11_init (va_wsS RX11 41 yX11_begin wsX11_begin) := goodIn_app (goodIn_of _ (by decide +kernel)) ggX11_init_X11_begin
theorem dX11_init_94 : decode cX11_init 94 = .ok (.invokestatic 41, 3) := by decide +kernel
theorem dX11_init_97 : decode cX11_init 97 = .ok (.return_, 1) := by decide +kernel
theorem dX11_maySpeak_0 : decode cX11_maySpeak 0 = .ok (.iconst 0, 1) := by decide +kernel
theorem dX11_maySpeak_1 : decode cX11_maySpeak 1 = .ok (.istore_n 1, 1) := by decide +kernel
theorem dX11_maySpeak_2 : decode cX11_maySpeak 2 = .ok (.iconst 0, 1) := by decide +kernel
theorem dX11_maySpeak_3 : decode cX11_maySpeak 3 = .ok (.istore_n 2, 1) := by decide +kernel
theorem dX11_maySpeak_4 : decode cX11_maySpeak 4 = .ok (.iload_n 2, 1) := by decide +kernel
theorem dX11_maySpeak_5 : decode cX11_maySpeak 5 = .ok (.aload_n 0, 1) := by decide +kernel
set_option maxRecDepth 20000 in
theorem ggX11_maySpeak_X11_people : GoodIn wsX11_maySpeak wsX11_people := goodIn_r _ [5, 6, 70, 71, 72, 73, 74, 75, 76, 77, 78, 79, 80, 81, 82, 83, 84, 85, 86, 87, 88] (by decide +kernel) (by decide +kernel)
set_option maxRecDepth 20000 in
theorem gX11_maySpeak_X11_people : GoodIn wsX11_maySpeak (wsV RX11 53 RX11 yX11_people wsX11_people) := goodIn_app (goodIn_of _ (by decide +kernel)) ggX11_maySpeak_X11_people
theorem dX11_maySpeak_6 : decode cX11_maySpeak 6 = .ok (.invokevirtual 53, 3) := by decide +kernel
theorem dX11_maySpeak_9 : decode cX11_maySpeak 9 = .ok (.if_icmp .ge 63, 3) := by decide +kernel
theorem dX11_maySpeak_72 : decode cX11_maySpeak 72 = .ok (.iload_n 1, 1) := by decide +kernel
theorem dX11_maySpeak_73 : decode cX11_maySpeak 73 = .ok (.ireturn, 1) := by decide +kernel
theorem dX11_judged_0 : decode cX11_judged 0 = .ok (.iconst 0, 1) := by decide +kernel
theorem dX11_judged_1 : decode cX11_judged 1 = .ok (.istore_n 2, 1) := by decide +kernel
theorem dX11_judged_2 : decode cX11_judged 2 = .ok (.iload_n 2, 1) := by decide +kernel
theorem dX11_judged_3 : decode cX11_judged 3 = .ok (.aload_n 0, 1) := by decide +kernel
set_option maxRecDepth 20000 in
theorem ggX11_judged_X11_people : GoodIn wsX11_judged wsX11_people := goodIn_r _ [5, 6, 70, 71, 72, 73, 74, 75, 76, 77, 78, 79, 80, 81, 82, 83, 84, 85, 86, 87, 88] (by decide +kernel) (by decide +kernel)
set_option maxRecDepth 20000 in
theorem gX11_judged_X11_people : GoodIn wsX11_judged (wsV RX11 53 RX11 yX11_people wsX11_people) := goodIn_app (goodIn_of _ (by decide +kernel)) ggX11_judged_X11_people
theorem dX11_judged_4 : decode cX11_judged 4 = .ok (.invokevirtual 53, 3) := by decide +kernel
theorem dX11_judged_7 : decode cX11_judged 7 = .ok (.if_icmp .ge 50, 3) := by decide +kernel
theorem dX11_judged_57 : decode cX11_judged 57 = .ok (.iconst (-1), 1) := by decide +kernel
theorem dX11_judged_58 : decode cX11_judged 58 = .ok (.ireturn, 1) := by decide +kernel
theorem dX11_isTold_0 : decode cX11_isTold 0 = .ok (.aload_n 0, 1) := by decide +kernel
set_option maxRecDepth 20000 in
theorem ggX11_isTold_X11_maySpeak : GoodIn wsX11_isTold wsX11_maySpeak := goodIn_r _ [6, 7, 8, 9, 5, 10, 1, 11, 12, 13, 14, 15, 16, 17, 18, 19, 20, 21, 22, 23, 24, 25, 26, 27, 28, 29, 30, 31, 32, 33, 34, 35, 36, 37, 38, 39, 40, 41, 42, 43, 44, 45, 46, 47, 48, 49, 50, 51, 52, 53, 54, 55, 56, 57, 58, 59, 60, 61, 62, 63, 64, 65, 66, 67, 68, 69, 70, 71, 72, 73, 74, 75, 76, 77, 78, 79, 80, 81, 82, 83, 84, 85, 86, 87, 88, 89, 90, 91, 92] (by decide +kernel) (by decide +kernel)
set_option maxRecDepth 20000 in
theorem gX11_isTold_X11_maySpeak : GoodIn wsX11_isTold (wsV RX11 157 RX11 yX11_maySpeak wsX11_maySpeak) := goodIn_app (goodIn_of _ (by decide +kernel)) ggX11_isTold_X11_maySpeak
theorem dX11_isTold_1 : decode cX11_isTold 1 = .ok (.invokevirtual 157, 3) := by decide +kernel
theorem dX11_isTold_4 : decode cX11_isTold 4 = .ok (.istore_n 2, 1) := by decide +kernel
theorem dX11_isTold_5 : decode cX11_isTold 5 = .ok (.iconst 1, 1) := by decide +kernel
theorem dX11_isTold_6 : decode cX11_isTold 6 = .ok (.istore_n 3, 1) := by decide +kernel
theorem dX11_isTold_7 : decode cX11_isTold 7 = .ok (.iconst 0, 1) := by decide +kernel
theorem dX11_isTold_8 : decode cX11_isTold 8 = .ok (.istore 4, 2) := by decide +kernel
theorem dX11_isTold_10 : decode cX11_isTold 10 = .ok (.iload 4, 2) := by decide +kernel
theorem dX11_isTold_12 : decode cX11_isTold 12 = .ok (.aload_n 0, 1) := by decide +kernel
theorem dX11_isTold_13 : decode cX11_isTold 13 = .ok (.getfield 7, 3) := by decide +kernel
theorem dX11_isTold_16 : decode cX11_isTold 16 = .ok (.bipush 92, 2) := by decide +kernel
theorem dX11_isTold_18 : decode cX11_isTold 18 = .ok (.iaload, 1) := by decide +kernel
theorem dX11_isTold_19 : decode cX11_isTold 19 = .ok (.if_icmp .ge 122, 3) := by decide +kernel
theorem dX11_isTold_141 : decode cX11_isTold 141 = .ok (.iload_n 3, 1) := by decide +kernel
theorem dX11_isTold_142 : decode cX11_isTold 142 = .ok (.ireturn, 1) := by decide +kernel
theorem dX11_manySpeakers_0 : decode cX11_manySpeakers 0 = .ok (.aload_n 0, 1) := by decide +kernel
set_option maxRecDepth 20000 in
theorem ggX11_manySpeakers_X11_maySpeak : GoodIn wsX11_manySpeakers wsX11_maySpeak := goodIn_r _ [5, 6, 7, 8, 4, 9, 10, 11, 12, 13, 14, 15, 16, 17, 18, 19, 20, 21, 22, 23, 24, 25, 26, 27, 28, 29, 30, 31, 32, 33, 34, 35, 36, 37, 38, 39, 40, 41, 42, 43, 44, 45, 46, 47, 48, 49, 50, 51, 52, 53, 54, 55, 56, 57, 58, 59, 60, 61, 62, 63, 64, 65, 66, 67, 68, 69, 70, 71, 72, 73, 78, 79, 80, 81, 82, 83, 84, 85, 86, 87, 88, 89, 90, 91, 92, 93, 94, 95, 96] (by decide +kernel) (by decide +kernel)
set_option maxRecDepth 20000 in
theorem gX11_manySpeakers_X11_maySpeak : GoodIn wsX11_manySpeakers (wsV RX11 157 RX11 yX11_maySpeak wsX11_maySpeak) := goodIn_app (goodIn_of _ (by decide +kernel)) ggX11_manySpeakers_X11_maySpeak
theorem dX11_manySpeakers_1 : decode cX11_manySpeakers 1 = .ok (.invokevirtual 157, 3) := by decide +kernel
theorem dX11_manySpeakers_4 : decode cX11_manySpeakers 4 = .ok (.istore_n 1, 1) := by decide +kernel
theorem dX11_manySpeakers_5 : decode cX11_manySpeakers 5 = .ok (.iconst 1, 1) := by decide +kernel
theorem dX11_manySpeakers_6 : decode cX11_manySpeakers 6 = .ok (.aload_n 0, 1) := by decide +kernel
set_option maxRecDepth 20000 in
theorem ggX11_manySpeakers_X11_people : GoodIn wsX11_manySpeakers wsX11_people := goodIn_r _ [9, 10, 78, 79, 80, 81, 82, 83, 84, 85, 86, 87, 88, 89, 90, 91, 92, 93, 94, 95, 96] (by decide +kernel) (by decide +kernel)
set_option maxRecDepth 20000 in
theorem gX11_manySpeakers_X11_people : GoodIn wsX11_manySpeakers (wsV RX11 53 RX11 yX11_people wsX11_people) := goodIn_app (goodIn_of _ (by decide +kernel)) ggX11_manySpeakers_X11_people
theorem dX11_manySpeakers_7 : decode cX11_manySpeakers 7 = .ok (.invokevirtual 53, 3) := by decide +kernel
theorem dX11_manySpeakers_10 : decode cX11_manySpeakers 10 = .ok (.ishl, 1) := by decide +kernel
theorem dX11_manySpeakers_11 : decode cX11_manySpeakers 11 = .ok (.iconst 1, 1) := by decide +kernel
theorem dX11_manySpeakers_12 : decode cX11_manySpeakers 12 = .ok (.isub, 1) := by decide +kernel
theorem dX11_manySpeakers_13 : decode cX11_manySpeakers 13 = .ok (.istore_n 2, 1) := by decide +kernel
theorem dX11_manySpeakers_14 : decode cX11_manySpeakers 14 = .ok (.iconst 0, 1) := by decide +kernel
theorem dX11_manySpeakers_15 : decode cX11_manySpeakers 15 = .ok (.istore_n 3, 1) := by decide +kernel
theorem dX11_manySpeakers_16 : decode cX11_manySpeakers 16 = .ok (.iconst 0, 1) := by decide +kernel
theorem dX11_manySpeakers_17 : decode cX11_manySpeakers 17 = .ok (.istore 4, 2) := by decide +kernel
theorem dX11_manySpeakers_19 : decode cX11_manySpeakers 19 = .ok (.iload 4, 2) := by decide +kernel
theorem dX11_manySpeakers_21 : decode cX11_manySpeakers 21 = .ok (.aload_n 0, 1) := by decide +kernel
theorem dX11_manySpeakers_22 : decode cX11_manySpeakers 22 = .ok (.invokevirtual 53, 3) := by decide +kernel
theorem dX11_manySpeakers_25 : decode cX11_manySpeakers 25 = .ok (.if_icmp .ge 37, 3) := by decide +kernel
theorem dX11_manySpeakers_62 : decode cX11_manySpeakers 62 = .ok (.iload_n 3, 1) := by decide +kernel
theorem dX11_manySpeakers_63 : decode cX11_manySpeakers 63 = .ok (.ireturn, 1) := by decide +kernel
theorem dX11_isClear_0 : decode cX11_isClear 0 = .ok (.iconst 1, 1) := by decide +kernel
theorem dX11_isClear_1 : decode cX11_isClear 1 = .ok (.istore_n 3, 1) := by decide +kernel
theorem dX11_isClear_2 : decode cX11_isClear 2 = .ok (.iconst 0, 1) := by decide +kernel
theorem dX11_isClear_3 : decode cX11_isClear 3 = .ok (.istore 4, 2) := by decide +kernel
theorem dX11_isClear_5 : decode cX11_isClear 5 = .ok (.iload 4, 2) := by decide +kernel
theorem dX11_isClear_7 : decode cX11_isClear 7 = .ok (.aload_n 0, 1) := by decide +kernel
set_option maxRecDepth 20000 in
theorem ggX11_isClear_X11_squares : GoodIn wsX11_isClear wsX11_squares := goodIn_r _ [6, 1, 34, 35, 36, 37, 38, 39, 40, 41, 42, 43, 44, 45, 46, 47, 48, 49, 50, 51, 52] (by decide +kernel) (by decide +kernel)
set_option maxRecDepth 20000 in
theorem gX11_isClear_X11_squares : GoodIn wsX11_isClear (wsV RX11 45 RX11 yX11_squares wsX11_squares) := goodIn_app (goodIn_of _ (by decide +kernel)) ggX11_isClear_X11_squares
theorem dX11_isClear_8 : decode cX11_isClear 8 = .ok (.invokevirtual 45, 3) := by decide +kernel
theorem dX11_isClear_11 : decode cX11_isClear 11 = .ok (.if_icmp .ge 55, 3) := by decide +kernel
theorem dX11_isClear_66 : decode cX11_isClear 66 = .ok (.iload_n 3, 1) := by decide +kernel
theorem dX11_isClear_67 : decode cX11_isClear 67 = .ok (.ireturn, 1) := by decide +kernel
theorem dX11_isClear_14 : decode cX11_isClear 14 = .ok (.iload_n 3, 1) := by decide +kernel
theorem dX11_isClear_15 : decode cX11_isClear 15 = .ok (.ifCond .eq 51, 3) := by decide +kernel
theorem dX11_isClear_18 : decode cX11_isClear 18 = .ok (.aload_n 0, 1) := by decide +kernel
theorem dX11_isClear_19 : decode cX11_isClear 19 = .ok (.getfield 7, 3) := by decide +kernel
theorem dX11_isClear_22 : decode cX11_isClear 22 = .ok (.bipush 20, 2) := by decide +kernel
theorem dX11_isClear_24 : decode cX11_isClear 24 = .ok (.iload 4, 2) := by decide +kernel
theorem dX11_isClear_26 : decode cX11_isClear 26 = .ok (.iadd, 1) := by decide +kernel
theorem dX11_isClear_27 : decode cX11_isClear 27 = .ok (.iaload, 1) := by decide +kernel
theorem dX11_isClear_28 : decode cX11_isClear 28 = .ok (.ifCond .eq 26, 3) := by decide +kernel
theorem dX11_isClear_54 : decode cX11_isClear 54 = .ok (.iconst 1, 1) := by decide +kernel
theorem dX11_isClear_55 : decode cX11_isClear 55 = .ok (.goto 4, 3) := by decide +kernel
theorem dX11_isClear_59 : decode cX11_isClear 59 = .ok (.istore_n 3, 1) := by decide +kernel
theorem dX11_isClear_60 : decode cX11_isClear 60 = .ok (.iinc 4 1, 3) := by decide +kernel
theorem dX11_isClear_63 : decode cX11_isClear 63 = .ok (.goto (-58), 3) := by decide +kernel
theorem dX11_manyOf_0 : decode cX11_manyOf 0 = .ok (.iconst 0, 1) := by decide +kernel
theorem dX11_manyOf_1 : decode cX11_manyOf 1 = .ok (.istore_n 2, 1) := by decide +kernel
theorem dX11_manyOf_2 : decode cX11_manyOf 2 = .ok (.iconst 0, 1) := by decide +kernel
theorem dX11_manyOf_3 : decode cX11_manyOf 3 = .ok (.istore_n 3, 1) := by decide +kernel
theorem dX11_manyOf_4 : decode cX11_manyOf 4 = .ok (.iload_n 3, 1) := by decide +kernel
theorem dX11_manyOf_5 : decode cX11_manyOf 5 = .ok (.aload_n 0, 1) := by decide +kernel
set_option maxRecDepth 20000 in
theorem ggX11_manyOf_X11_squares : GoodIn wsX11_manyOf wsX11_squares := goodIn_r _ [6, 1, 7, 8, 9, 10, 11, 12, 13, 14, 15, 16, 17, 18, 19, 20, 21, 22, 23, 24, 25] (by decide +kernel) (by decide +kernel)
set_option maxRecDepth 20000 in
theorem gX11_manyOf_X11_squares : GoodIn wsX11_manyOf (wsV RX11 45 RX11 yX11_squares wsX11_squares) := goodIn_app (goodIn_of _ (by decide +kernel)) ggX11_manyOf_X11_squares
theorem dX11_manyOf_6 : decode cX11_manyOf 6 = .ok (.invokevirtual 45, 3) := by decide +kernel
theorem dX11_manyOf_9 : decode cX11_manyOf 9 = .ok (.if_icmp .ge 20, 3) := by decide +kernel
theorem dX11_manyOf_29 : decode cX11_manyOf 29 = .ok (.iload_n 2, 1) := by decide +kernel
theorem dX11_manyOf_30 : decode cX11_manyOf 30 = .ok (.ireturn, 1) := by decide +kernel
theorem dX11_manyOf_12 : decode cX11_manyOf 12 = .ok (.iload_n 2, 1) := by decide +kernel
theorem dX11_manyOf_13 : decode cX11_manyOf 13 = .ok (.aload_n 0, 1) := by decide +kernel
theorem dX11_manyOf_14 : decode cX11_manyOf 14 = .ok (.getfield 7, 3) := by decide +kernel
theorem dX11_manyOf_17 : decode cX11_manyOf 17 = .ok (.iload_n 1, 1) := by decide +kernel
theorem dX11_manyOf_18 : decode cX11_manyOf 18 = .ok (.iload_n 3, 1) := by decide +kernel
theorem dX11_manyOf_19 : decode cX11_manyOf 19 = .ok (.iadd, 1) := by decide +kernel
theorem dX11_manyOf_20 : decode cX11_manyOf 20 = .ok (.iaload, 1) := by decide +kernel
theorem dX11_manyOf_21 : decode cX11_manyOf 21 = .ok (.iadd, 1) := by decide +kernel
theorem dX11_manyOf_22 : decode cX11_manyOf 22 = .ok (.istore_n 2, 1) := by decide +kernel
theorem dX11_manyOf_23 : decode cX11_manyOf 23 = .ok (.iinc 3 1, 3) := by decide +kernel
theorem dX11_manyOf_26 : decode cX11_manyOf 26 = .ok (.goto (-22), 3) := by decide +kernel
theorem dX11_counted_0 : decode cX11_counted 0 = .ok (.iload_n 1, 1) := by decide +kernel
theorem dX11_counted_1 : decode cX11_counted 1 = .ok (.tableswitch 79 0 5 #[39, 44, 51, 58, 66, 74], 39) := by decide +kernel
theorem dX11_counted_40 : decode cX11_counted 40 = .ok (.aload_n 0, 1) := by decide +kernel
set_option maxRecDepth 20000 in
theorem ggX11_counted_X11_people : GoodIn wsX11_counted wsX11_people := goodIn_r _ [7, 1, 16, 17, 18, 19, 20, 21, 22, 23, 24, 25, 26, 27, 28, 29, 30, 31, 32, 33, 34] (by decide +kernel) (by decide +kernel)
set_option maxRecDepth 20000 in
theorem gX11_counted_X11_people : GoodIn wsX11_counted (wsV RX11 53 RX11 yX11_people wsX11_people) := goodIn_app (goodIn_of _ (by decide +kernel)) ggX11_counted_X11_people
theorem dX11_counted_41 : decode cX11_counted 41 = .ok (.invokevirtual 53, 3) := by decide +kernel
theorem dX11_counted_44 : decode cX11_counted 44 = .ok (.ireturn, 1) := by decide +kernel
theorem dX11_counted_45 : decode cX11_counted 45 = .ok (.aload_n 0, 1) := by decide +kernel
theorem dX11_counted_46 : decode cX11_counted 46 = .ok (.bipush 20, 2) := by decide +kernel
set_option maxRecDepth 20000 in
theorem ggX11_counted_X11_manyOf : GoodIn wsX11_counted wsX11_manyOf := goodIn_r _ [11, 1, 12, 13, 14, 6, 15, 16, 17, 18, 19, 20, 21, 22, 23, 24, 25, 26, 27, 28, 29, 30, 31, 32, 33, 34] (by decide +kernel) (by decide +kernel)
set_option maxRecDepth 20000 in
theorem gX11_counted_X11_manyOf : GoodIn wsX11_counted (wsV RX11 271 RX11 yX11_manyOf wsX11_manyOf) := goodIn_app (goodIn_of _ (by decide +kernel)) ggX11_counted_X11_manyOf
theorem dX11_counted_48 : decode cX11_counted 48 = .ok (.invokevirtual 271, 3) := by decide +kernel
theorem dX11_counted_51 : decode cX11_counted 51 = .ok (.ireturn, 1) := by decide +kernel
theorem dX11_counted_52 : decode cX11_counted 52 = .ok (.aload_n 0, 1) := by decide +kernel
theorem dX11_counted_53 : decode cX11_counted 53 = .ok (.bipush 56, 2) := by decide +kernel
theorem dX11_counted_55 : decode cX11_counted 55 = .ok (.invokevirtual 271, 3) := by decide +kernel
theorem dX11_counted_58 : decode cX11_counted 58 = .ok (.ireturn, 1) := by decide +kernel
theorem dX11_counted_59 : decode cX11_counted 59 = .ok (.aload_n 0, 1) := by decide +kernel
theorem dX11_counted_60 : decode cX11_counted 60 = .ok (.getfield 7, 3) := by decide +kernel
theorem dX11_counted_63 : decode cX11_counted 63 = .ok (.bipush 92, 2) := by decide +kernel
theorem dX11_counted_65 : decode cX11_counted 65 = .ok (.iaload, 1) := by decide +kernel
theorem dX11_counted_66 : decode cX11_counted 66 = .ok (.ireturn, 1) := by decide +kernel
theorem dX11_counted_67 : decode cX11_counted 67 = .ok (.aload_n 0, 1) := by decide +kernel
theorem dX11_counted_68 : decode cX11_counted 68 = .ok (.getfield 7, 3) := by decide +kernel
theorem dX11_counted_71 : decode cX11_counted 71 = .ok (.bipush 105, 2) := by decide +kernel
theorem dX11_counted_73 : decode cX11_counted 73 = .ok (.iaload, 1) := by decide +kernel
theorem dX11_counted_74 : decode cX11_counted 74 = .ok (.ireturn, 1) := by decide +kernel
theorem dX11_counted_75 : decode cX11_counted 75 = .ok (.aload_n 0, 1) := by decide +kernel
theorem dX11_counted_76 : decode cX11_counted 76 = .ok (.getfield 196, 3) := by decide +kernel
theorem dX11_counted_79 : decode cX11_counted 79 = .ok (.ireturn, 1) := by decide +kernel
theorem dX11_counted_80 : decode cX11_counted 80 = .ok (.aload_n 0, 1) := by decide +kernel
set_option maxRecDepth 20000 in
theorem ggX11_counted_X11_squares : GoodIn wsX11_counted wsX11_squares := goodIn_r _ [15, 1, 16, 17, 18, 19, 20, 21, 22, 23, 24, 25, 26, 27, 28, 29, 30, 31, 32, 33, 34] (by decide +kernel) (by decide +kernel)
set_option maxRecDepth 20000 in
theorem gX11_counted_X11_squares : GoodIn wsX11_counted (wsV RX11 45 RX11 yX11_squares wsX11_squares) := goodIn_app (goodIn_of _ (by decide +kernel)) ggX11_counted_X11_squares
theorem dX11_counted_81 : decode cX11_counted 81 = .ok (.invokevirtual 45, 3) := by decide +kernel
theorem dX11_counted_84 : decode cX11_counted 84 = .ok (.ireturn, 1) := by decide +kernel
theorem dX11_sums_0 : decode cX11_sums 0 = .ok (.lload_n 1, 1) := by decide +kernel
theorem dX11_sums_1 : decode cX11_sums 1 = .ok (.lstore 5, 2) := by decide +kernel
theorem dX11_sums_3 : decode cX11_sums 3 = .ok (.iconst 0, 1) := by decide +kernel
theorem dX11_sums_4 : decode cX11_sums 4 = .ok (.istore 7, 2) := by decide +kernel
theorem dX11_sums_6 : decode cX11_sums 6 = .ok (.iload 7, 2) := by decide +kernel
theorem dX11_sums_8 : decode cX11_sums 8 = .ok (.iload 4, 2) := by decide +kernel
theorem dX11_sums_10 : decode cX11_sums 10 = .ok (.if_icmp .ge 28, 3) := by decide +kernel
theorem dX11_sums_38 : decode cX11_sums 38 = .ok (.lload 5, 2) := by decide +kernel
theorem dX11_sums_40 : decode cX11_sums 40 = .ok (.lreturn, 1) := by decide +kernel
theorem dX11_look_0 : decode cX11_look 0 = .ok (.aload_n 0, 1) := by decide +kernel
theorem dX11_look_1 : decode cX11_look 1 = .ok (.iload_n 1, 1) := by decide +kernel
theorem dX11_look_2 : decode cX11_look 2 = .ok (.putfield 209, 3) := by decide +kernel
theorem dX11_look_5 : decode cX11_look 5 = .ok (.aload_n 0, 1) := by decide +kernel
theorem dX11_look_6 : decode cX11_look 6 = .ok (.getfield 209, 3) := by decide +kernel
theorem dX11_look_9 : decode cX11_look 9 = .ok (.aload_n 0, 1) := by decide +kernel
theorem dX11_look_10 : decode cX11_look 10 = .ok (.getfield 196, 3) := by decide +kernel
theorem dX11_look_13 : decode cX11_look 13 = .ok (.if_icmp .ge 30, 3) := by decide +kernel
theorem dX11_look_43 : decode cX11_look 43 = .ok (.aload_n 0, 1) := by decide +kernel
theorem dX11_look_44 : decode cX11_look 44 = .ok (.iconst 0, 1) := by decide +kernel
theorem dX11_look_45 : decode cX11_look 45 = .ok (.putfield 212, 3) := by decide +kernel
theorem dX11_look_48 : decode cX11_look 48 = .ok (.aload_n 0, 1) := by decide +kernel
theorem dX11_look_49 : decode cX11_look 49 = .ok (.iconst 0, 1) := by decide +kernel
theorem dX11_look_50 : decode cX11_look 50 = .ok (.putfield 215, 3) := by decide +kernel
theorem dX11_look_53 : decode cX11_look 53 = .ok (.aload_n 0, 1) := by decide +kernel
theorem dX11_look_54 : decode cX11_look 54 = .ok (.iconst 0, 1) := by decide +kernel
theorem dX11_look_55 : decode cX11_look 55 = .ok (.putfield 218, 3) := by decide +kernel
theorem dX11_look_58 : decode cX11_look 58 = .ok (.aload_n 0, 1) := by decide +kernel
theorem dX11_look_59 : decode cX11_look 59 = .ok (.getfield 209, 3) := by decide +kernel
theorem dX11_look_62 : decode cX11_look 62 = .ok (.aload_n 0, 1) := by decide +kernel
theorem dX11_look_63 : decode cX11_look 63 = .ok (.getfield 196, 3) := by decide +kernel
theorem dX11_look_66 : decode cX11_look 66 = .ok (.if_icmp .ne 4, 3) := by decide +kernel
theorem dX11_look_69 : decode cX11_look 69 = .ok (.return_, 1) := by decide +kernel
theorem dX11_isWord_0 : decode cX11_isWord 0 = .ok (.aload_n 0, 1) := by decide +kernel
theorem dX11_isWord_1 : decode cX11_isWord 1 = .ok (.getfield 215, 3) := by decide +kernel
theorem dX11_isWord_4 : decode cX11_isWord 4 = .ok (.iconst 1, 1) := by decide +kernel
theorem dX11_isWord_5 : decode cX11_isWord 5 = .ok (.if_icmp .ne 15, 3) := by decide +kernel
theorem dX11_isWord_20 : decode cX11_isWord 20 = .ok (.iconst 0, 1) := by decide +kernel
theorem dX11_isWord_21 : decode cX11_isWord 21 = .ok (.istore 5, 2) := by decide +kernel
theorem dX11_isWord_23 : decode cX11_isWord 23 = .ok (.iconst 0, 1) := by decide +kernel
theorem dX11_isWord_24 : decode cX11_isWord 24 = .ok (.istore 6, 2) := by decide +kernel
theorem dX11_isWord_26 : decode cX11_isWord 26 = .ok (.iload 6, 2) := by decide +kernel
theorem dX11_isWord_28 : decode cX11_isWord 28 = .ok (.iconst 4, 1) := by decide +kernel
theorem dX11_isWord_29 : decode cX11_isWord 29 = .ok (.if_icmp .ge 67, 3) := by decide +kernel
theorem dX11_isWord_32 : decode cX11_isWord 32 = .ok (.iload 5, 2) := by decide +kernel
theorem dX11_isWord_34 : decode cX11_isWord 34 = .ok (.ifCond .eq 62, 3) := by decide +kernel
theorem dX11_isWord_96 : decode cX11_isWord 96 = .ok (.iload 5, 2) := by decide +kernel
theorem dX11_isWord_98 : decode cX11_isWord 98 = .ok (.ireturn, 1) := by decide +kernel
theorem dX11_readsGarden_0 : decode cX11_readsGarden 0 = .ok (.aload_n 0, 1) := by decide +kernel
theorem dX11_readsGarden_1 : decode cX11_readsGarden 1 = .ok (.bipush 103, 2) := by decide +kernel
theorem dX11_readsGarden_3 : decode cX11_readsGarden 3 = .ok (.bipush 97, 2) := by decide +kernel
theorem dX11_readsGarden_5 : decode cX11_readsGarden 5 = .ok (.bipush 114, 2) := by decide +kernel
theorem dX11_readsGarden_7 : decode cX11_readsGarden 7 = .ok (.bipush 100, 2) := by decide +kernel
set_option maxRecDepth 20000 in
theorem ggX11_readsGarden_X11_isWord : GoodIn wsX11_readsGarden wsX11_isWord := goodIn_r _ [8, 3, 9, 10, 11, 46, 47, 48, 49, 50, 51, 52, 53, 54, 55, 56, 57, 58, 59, 60, 61, 62, 63, 64] (by decide +kernel) (by decide +kernel)
set_option maxRecDepth 20000 in
theorem gX11_readsGarden_X11_isWord : GoodIn wsX11_readsGarden (wsV RX11 236 RX11 yX11_isWord wsX11_isWord) := goodIn_app (goodIn_of _ (by decide +kernel)) ggX11_readsGarden_X11_isWord
theorem dX11_readsGarden_9 : decode cX11_readsGarden 9 = .ok (.invokevirtual 236, 3) := by decide +kernel
theorem dX11_readsGarden_12 : decode cX11_readsGarden 12 = .ok (.ifCond .eq 16, 3) := by decide +kernel
theorem dX11_readsGarden_28 : decode cX11_readsGarden 28 = .ok (.iconst 0, 1) := by decide +kernel
theorem dX11_readsGarden_29 : decode cX11_readsGarden 29 = .ok (.ireturn, 1) := by decide +kernel
theorem dX11_layPerson_0 : decode cX11_layPerson 0 = .ok (.iconst 5, 1) := by decide +kernel
theorem dX11_layPerson_1 : decode cX11_layPerson 1 = .ok (.iconst 3, 1) := by decide +kernel
theorem dX11_layPerson_2 : decode cX11_layPerson 2 = .ok (.aload_n 0, 1) := by decide +kernel
theorem dX11_layPerson_3 : decode cX11_layPerson 3 = .ok (.iconst 4, 1) := by decide +kernel
theorem dX11_layPerson_4 : decode cX11_layPerson 4 = .ok (.iaload, 1) := by decide +kernel
theorem dX11_layPerson_5 : decode cX11_layPerson 5 = .ok (.imul, 1) := by decide +kernel
theorem dX11_layPerson_6 : decode cX11_layPerson 6 = .ok (.iadd, 1) := by decide +kernel
theorem dX11_layPerson_7 : decode cX11_layPerson 7 = .ok (.istore 4, 2) := by decide +kernel
theorem dX11_layPerson_9 : decode cX11_layPerson 9 = .ok (.aload_n 0, 1) := by decide +kernel
theorem dX11_layPerson_10 : decode cX11_layPerson 10 = .ok (.iload 4, 2) := by decide +kernel
theorem dX11_layPerson_12 : decode cX11_layPerson 12 = .ok (.iconst 0, 1) := by decide +kernel
theorem dX11_layPerson_13 : decode cX11_layPerson 13 = .ok (.iadd, 1) := by decide +kernel
theorem dX11_layPerson_14 : decode cX11_layPerson 14 = .ok (.iload_n 1, 1) := by decide +kernel
theorem dX11_layPerson_15 : decode cX11_layPerson 15 = .ok (.iastore, 1) := by decide +kernel
theorem dX11_layPerson_16 : decode cX11_layPerson 16 = .ok (.aload_n 0, 1) := by decide +kernel
theorem dX11_layPerson_17 : decode cX11_layPerson 17 = .ok (.iload 4, 2) := by decide +kernel
theorem dX11_layPerson_19 : decode cX11_layPerson 19 = .ok (.iconst 1, 1) := by decide +kernel
theorem dX11_layPerson_20 : decode cX11_layPerson 20 = .ok (.iadd, 1) := by decide +kernel
theorem dX11_layPerson_21 : decode cX11_layPerson 21 = .ok (.iload_n 2, 1) := by decide +kernel
theorem dX11_layPerson_22 : decode cX11_layPerson 22 = .ok (.iastore, 1) := by decide +kernel
theorem dX11_layPerson_23 : decode cX11_layPerson 23 = .ok (.aload_n 0, 1) := by decide +kernel
theorem dX11_layPerson_24 : decode cX11_layPerson 24 = .ok (.iload 4, 2) := by decide +kernel
theorem dX11_layPerson_26 : decode cX11_layPerson 26 = .ok (.iconst 2, 1) := by decide +kernel
theorem dX11_layPerson_27 : decode cX11_layPerson 27 = .ok (.iadd, 1) := by decide +kernel
theorem dX11_layPerson_28 : decode cX11_layPerson 28 = .ok (.iload_n 3, 1) := by decide +kernel
theorem dX11_layPerson_29 : decode cX11_layPerson 29 = .ok (.iastore, 1) := by decide +kernel
theorem dX11_layPerson_30 : decode cX11_layPerson 30 = .ok (.aload_n 0, 1) := by decide +kernel
theorem dX11_layPerson_31 : decode cX11_layPerson 31 = .ok (.iconst 4, 1) := by decide +kernel
theorem dX11_layPerson_32 : decode cX11_layPerson 32 = .ok (.dup2, 1) := by decide +kernel
theorem dX11_layPerson_33 : decode cX11_layPerson 33 = .ok (.iaload, 1) := by decide +kernel
theorem dX11_layPerson_34 : decode cX11_layPerson 34 = .ok (.iconst 1, 1) := by decide +kernel
theorem dX11_layPerson_35 : decode cX11_layPerson 35 = .ok (.iadd, 1) := by decide +kernel
theorem dX11_layPerson_36 : decode cX11_layPerson 36 = .ok (.iastore, 1) := by decide +kernel
theorem dX11_layPerson_37 : decode cX11_layPerson 37 = .ok (.return_, 1) := by decide +kernel
set_option maxHeartbeats 4000000 in
set_option maxRecDepth 100000 in
theorem m_init (l : Launch) (D : va_G) (cy : Nat → ClassId) (mm : Nat) (sz : Nat)  : Met l yX11_init wsX11_init ({ frames := 1, cells := 10, slots := 3119, locals := 23 }) (va_Pc [.ref mm] (kPre D cy [(mm, .inr (11, [.null, .null, .null, .null, .int 0, .int 0, .null, .null, .null, .int 0, .null, .null, .int 0, .int 0, .int 0, .int 0, .int 0, .null, .int 0]))] sz)) (va_Qv (fun (u : Nat × Nat × Nat × Nat × Nat × Nat × Nat × Nat × Nat × Nat × (Nat → Int32)) => u.2.2.2.2.2.2.2.2.2.2 0 = 6 ∧ u.2.2.2.2.2.2.2.2.2.2 1 = 6 ∧ u.2.2.2.2.2.2.2.2.2.2 2 = 1 ∧ ∀ k, 3 ≤ k → k < 122 → u.2.2.2.2.2.2.2.2.2.2 k = 0) (fun (u : Nat × Nat × Nat × Nat × Nat × Nat × Nat × Nat × Nat × Nat × (Nat → Int32)) t => va_P D vwCl ([(mm, .inr (11, [.ref u.1, .ref u.2.1, .ref u.2.2.1, .ref u.2.2.2.1, .int 0, .int 0, .ref u.2.2.2.2.1, .ref u.2.2.2.2.2.1, .ref u.2.2.2.2.2.2.1, .int 0, .ref u.2.2.2.2.2.2.2.1, .ref u.2.2.2.2.2.2.2.2.1, .int 0, .int 0, .int 0, .int 0, .int 0, .ref u.2.2.2.2.2.2.2.2.2.1, .int 0])), (u.1, .inl (cy 1, 122, .inl u.2.2.2.2.2.2.2.2.2.2)), (u.2.1, .inl (cy 1, 244, .inl (fun _ => 0))), (u.2.2.1, .inl (cy 2, 2, .inl (fun _ => 0))), (u.2.2.2.1, .inl (cy 1, 3, .inl (fun _ => 0))), (u.2.2.2.2.1, .inl (cy 2, 36, .inl (fun _ => 0))), (u.2.2.2.2.2.1, .inl (cy 1, 1152, .inl (fun _ => 0))), (u.2.2.2.2.2.2.1, .inl (cy 1, 1152, .inl (fun _ => 0))), (u.2.2.2.2.2.2.2.1, .inl (cy 1, 36, .inl (fun _ => 0))), (u.2.2.2.2.2.2.2.2.1, .inl (cy 1, 250, .inl (fun _ => 0))), (u.2.2.2.2.2.2.2.2.2.1, .inl (cy 1, 122, .inl (fun _ => 0)))]) t.heap ∧ va_D (va_A [(mm, .inr (11, [.null, .null, .null, .null, .int 0, .int 0, .null, .null, .null, .int 0, .null, .null, .int 0, .int 0, .int 0, .int 0, .int 0, .null, .int 0]))] sz) ([(mm, .inr (11, [.ref u.1, .ref u.2.1, .ref u.2.2.1, .ref u.2.2.2.1, .int 0, .int 0, .ref u.2.2.2.2.1, .ref u.2.2.2.2.2.1, .ref u.2.2.2.2.2.2.1, .int 0, .ref u.2.2.2.2.2.2.2.1, .ref u.2.2.2.2.2.2.2.2.1, .int 0, .int 0, .int 0, .int 0, .int 0, .ref u.2.2.2.2.2.2.2.2.2.1, .int 0])), (u.1, .inl (cy 1, 122, .inl u.2.2.2.2.2.2.2.2.2.2)), (u.2.1, .inl (cy 1, 244, .inl (fun _ => 0))), (u.2.2.1, .inl (cy 2, 2, .inl (fun _ => 0))), (u.2.2.2.1, .inl (cy 1, 3, .inl (fun _ => 0))), (u.2.2.2.2.1, .inl (cy 2, 36, .inl (fun _ => 0))), (u.2.2.2.2.2.1, .inl (cy 1, 1152, .inl (fun _ => 0))), (u.2.2.2.2.2.2.1, .inl (cy 1, 1152, .inl (fun _ => 0))), (u.2.2.2.2.2.2.2.1, .inl (cy 1, 36, .inl (fun _ => 0))), (u.2.2.2.2.2.2.2.2.1, .inl (cy 1, 250, .inl (fun _ => 0))), (u.2.2.2.2.2.2.2.2.2.1, .inl (cy 1, 122, .inl (fun _ => 0)))])) (va_A [(mm, .inr (11, [.null, .null, .null, .null, .int 0, .int 0, .null, .null, .null, .int 0, .null, .null, .int 0, .int 0, .int 0, .int 0, .int 0, .null, .int 0]))] sz)) 10 3119 (va_A [(mm, .inr (11, [.null, .null, .null, .null, .int 0, .int 0, .null, .null, .null, .int 0, .null, .null, .int 0, .int 0, .int 0, .int 0, .int 0, .null, .int 0]))] sz) := by
  refine Met.ofW (cc := cX11_init) (maxL := 1) (ret := none) (by decide) rfl ?_
  intro p e s m args below meth c s₁ B hml hv
  obtain ⟨rfl, hsz, hP, hKA, hD0⟩ := hv
  have hx := B.exec
  have hb := B.bytes
  have hr := B.returns
  have hts := atoms_spec (ws := wsX11_init) B.pre
  have hown : s.vm.findClass RX11 = some m.cls := findClass_of_methodNamed B.named
  have hlocks := B.notSynchronized
  have hin : meth.name = "<init>" := (name_of_methodNamed B.named B.method).1
  subst hsz
  have hK := hKA.1
  have hD := hD0.self (sz := s.heap.size)
  generalize hAe : va_A [(mm, .inr (11, [.null, .null, .null, .null, .int 0, .int 0, .null, .null, .null, .int 0, .null, .null, .int 0, .int 0, .int 0, .int 0, .int 0, .null, .int 0]))] s.heap.size = A at hD ⊢
  have hA : ∀ q : Nat, s.heap.size ≤ q → A q := fun q h => by rw [← hAe]; exact Or.inr h
  have hS : va_S A s.heap s.heap [] := va_S.rf
  have hP : va_P D vwCl [(mm, .inr (11, [.null, .null, .null, .null, .int 0, .int 0, .null, .null, .null, .int 0, .null, .null, .int 0, .int 0, .int 0, .int 0, .int 0, .null, .int 0]))] s.heap := hP
  have hl := lv_entry ([.ref mm]) (n := 1) (Nat.le_of_ble_eq_true rfl)
  rw [lg_entry_eq]
  generalize (lg_sl ([.ref mm]) ++ List.replicate (1 - (lg_sl ([.ref mm])).length) Slot.unset).toArray = ls at hl ⊢
  have hl : lv_has ls 1 [(0, .ref mm)] := hl
  have z0_ := hts (.methodLink RX11 1 objectInit) (by decide +kernel)
  have z1_ := hts (.instanceMethod objectInit) (by decide +kernel)
  have z2_ := hts (.code objectInit ⟨#[0xb1]⟩ 1 none) (by decide +kernel)
  have z3_ := hts (.arrayClass .int) (by decide +kernel)
  have z4_ := hts (.fieldLink RX11 7 "HeardSeenModel" "now" "[I") (by decide +kernel)
  have zi11_ : ∀ w ∈ u_ws RX11 TX11 19, w ∈ wsX11_init := by decide +kernel
  have z6_ := hts (.fieldLink RX11 13 "HeardSeenModel" "kept" "[I") (by decide +kernel)
  have z7_ := hts (.arrayClass .boolean) (by decide +kernel)
  have z8_ := hts (.fieldLink RX11 16 "HeardSeenModel" "isKept" "[Z") (by decide +kernel)
  have z9_ := hts (.fieldLink RX11 20 "HeardSeenModel" "refused" "[I") (by decide +kernel)
  have z10_ := hts (.fieldLink RX11 23 "HeardSeenModel" "stands" "[Z") (by decide +kernel)
  have z11_ := hts (.fieldLink RX11 26 "HeardSeenModel" "far" "[I") (by decide +kernel)
  have z12_ := hts (.fieldLink RX11 29 "HeardSeenModel" "queue" "[I") (by decide +kernel)
  have z13_ := hts (.fieldLink RX11 32 "HeardSeenModel" "meets" "[I") (by decide +kernel)
  have z14_ := hts (.fieldLink RX11 35 "HeardSeenModel" "bytes" "[I") (by decide +kernel)
  have z15_ := hts (.fieldLink RX11 38 "HeardSeenModel" "next" "[I") (by decide +kernel)
  refine lv_aload_n hx hb dX11_init_0 rfl (lv_at hl 0 rfl) ?_
  refine W.objInit hx hb hown z0_ z1_ z2_ rfl (by rw [hml]; exact hl.1) rfl dX11_init_1 (Nat.le_of_ble_eq_true rfl) (Nat.le_of_ble_eq_true rfl) ?_
  refine W.eq (g2 := F0 m 4 ls []) rfl ?_
  refine lv_aload_n hx hb dX11_init_4 rfl (lv_at hl 0 rfl) ?_
  refine lv_bipush (v := 122) hx hb dX11_init_5 (by decide) ?_
  refine my_newa (atype := .int) (ty := .int) (N' := 122) (a0 := (122, .inl (fun _ => 0))) hx hb z3_ rfl hK hP hD hS hA 1 rfl (a0I 122) (by decide) (by decide +kernel) (by decide +kernel) (Nat.le_of_ble_eq_true rfl) (Nat.le_of_ble_eq_true rfl) dX11_init_7 (fun q1 H hP hD hS => ?_)
  have hP : va_P D vwCl [(mm, .inr (11, [.null, .null, .null, .null, .int 0, .int 0, .null, .null, .null, .int 0, .null, .null, .int 0, .int 0, .int 0, .int 0, .int 0, .null, .int 0])), (q1, .inl (cy 1, 122, .inl (fun _ => 0)))] H := hP
  have hD : va_D A [(mm, .inr (11, [.null, .null, .null, .null, .int 0, .int 0, .null, .null, .null, .int 0, .null, .null, .int 0, .int 0, .int 0, .int 0, .int 0, .null, .int 0])), (q1, .inl (cy 1, 122, .inl (fun _ => 0)))] := hD
  refine W.widen (k := 1) (n := 122) (Nat.le_of_ble_eq_true rfl) (Nat.le_of_ble_eq_true rfl) ?_
  refine va_putF (D := D) (ci := 11) (v := .ref q1) (ty := .array .int) (C := RX11) (T := TX11) (N := 19) hx hb hts zi11_ tyX11 tyX11_ok nmX11 hown hK hP hD hS 0 rfl rfl 0 (by decide) z4_ (fun _ h9 => h9) rfl hin rfl (by decide +kernel) rfl rfl (Nat.le_of_ble_eq_true rfl) dX11_init_9 (fun H locs hP hD hS => ?_)
  have hP : va_P D vwCl [(mm, .inr (11, [.ref q1, .null, .null, .null, .int 0, .int 0, .null, .null, .null, .int 0, .null, .null, .int 0, .int 0, .int 0, .int 0, .int 0, .null, .int 0])), (q1, .inl (cy 1, 122, .inl (fun _ => 0)))] H := hP
  have hD : va_D A [(mm, .inr (11, [.ref q1, .null, .null, .null, .int 0, .int 0, .null, .null, .null, .int 0, .null, .null, .int 0, .int 0, .int 0, .int 0, .int 0, .null, .int 0])), (q1, .inl (cy 1, 122, .inl (fun _ => 0)))] := hD
  refine lv_aload_n hx hb dX11_init_12 rfl (lv_at hl 0 rfl) ?_
  refine lv_sipush (v := 244) hx hb dX11_init_13 (by decide) ?_
  refine my_newa (atype := .int) (ty := .int) (N' := 244) (a0 := (244, .inl (fun _ => 0))) hx hb z3_ rfl hK hP hD hS hA 1 rfl (a0I 244) (by decide) (by decide +kernel) (by decide +kernel) (Nat.le_of_ble_eq_true rfl) (Nat.le_of_ble_eq_true rfl) dX11_init_16 (fun q2 H hP hD hS => ?_)
  have hP : va_P D vwCl [(mm, .inr (11, [.ref q1, .null, .null, .null, .int 0, .int 0, .null, .null, .null, .int 0, .null, .null, .int 0, .int 0, .int 0, .int 0, .int 0, .null, .int 0])), (q1, .inl (cy 1, 122, .inl (fun _ => 0))), (q2, .inl (cy 1, 244, .inl (fun _ => 0)))] H := hP
  have hD : va_D A [(mm, .inr (11, [.ref q1, .null, .null, .null, .int 0, .int 0, .null, .null, .null, .int 0, .null, .null, .int 0, .int 0, .int 0, .int 0, .int 0, .null, .int 0])), (q1, .inl (cy 1, 122, .inl (fun _ => 0))), (q2, .inl (cy 1, 244, .inl (fun _ => 0)))] := hD
  refine W.widen (k := 2) (n := 366) (Nat.le_of_ble_eq_true rfl) (Nat.le_of_ble_eq_true rfl) ?_
  refine va_putF (D := D) (ci := 11) (v := .ref q2) (ty := .array .int) (C := RX11) (T := TX11) (N := 19) hx hb hts zi11_ tyX11 tyX11_ok nmX11 hown hK hP hD hS 0 rfl rfl 1 (by decide) z6_ (fun _ h9 => h9) rfl hin rfl (by decide +kernel) rfl rfl (Nat.le_of_ble_eq_true rfl) dX11_init_18 (fun H locs hP hD hS => ?_)
  have hP : va_P D vwCl [(mm, .inr (11, [.ref q1, .ref q2, .null, .null, .int 0, .int 0, .null, .null, .null, .int 0, .null, .null, .int 0, .int 0, .int 0, .int 0, .int 0, .null, .int 0])), (q1, .inl (cy 1, 122, .inl (fun _ => 0))), (q2, .inl (cy 1, 244, .inl (fun _ => 0)))] H := hP
  have hD : va_D A [(mm, .inr (11, [.ref q1, .ref q2, .null, .null, .int 0, .int 0, .null, .null, .null, .int 0, .null, .null, .int 0, .int 0, .int 0, .int 0, .int 0, .null, .int 0])), (q1, .inl (cy 1, 122, .inl (fun _ => 0))), (q2, .inl (cy 1, 244, .inl (fun _ => 0)))] := hD
  refine lv_aload_n hx hb dX11_init_21 rfl (lv_at hl 0 rfl) ?_
  refine lv_iconst (v := 2) hx hb dX11_init_22 (by decide) ?_
  refine my_newa (atype := .boolean) (ty := .boolean) (N' := 2) (a0 := (2, .inl (fun _ => 0))) hx hb z7_ rfl hK hP hD hS hA 2 rfl (a0Z 2) (by decide) (by decide +kernel) (by decide +kernel) (Nat.le_of_ble_eq_true rfl) (Nat.le_of_ble_eq_true rfl) dX11_init_23 (fun q3 H hP hD hS => ?_)
  have hP : va_P D vwCl [(mm, .inr (11, [.ref q1, .ref q2, .null, .null, .int 0, .int 0, .null, .null, .null, .int 0, .null, .null, .int 0, .int 0, .int 0, .int 0, .int 0, .null, .int 0])), (q1, .inl (cy 1, 122, .inl (fun _ => 0))), (q2, .inl (cy 1, 244, .inl (fun _ => 0))), (q3, .inl (cy 2, 2, .inl (fun _ => 0)))] H := hP
  have hD : va_D A [(mm, .inr (11, [.ref q1, .ref q2, .null, .null, .int 0, .int 0, .null, .null, .null, .int 0, .null, .null, .int 0, .int 0, .int 0, .int 0, .int 0, .null, .int 0])), (q1, .inl (cy 1, 122, .inl (fun _ => 0))), (q2, .inl (cy 1, 244, .inl (fun _ => 0))), (q3, .inl (cy 2, 2, .inl (fun _ => 0)))] := hD
  refine W.widen (k := 3) (n := 368) (Nat.le_of_ble_eq_true rfl) (Nat.le_of_ble_eq_true rfl) ?_
  refine va_putF (D := D) (ci := 11) (v := .ref q3) (ty := .array .boolean) (C := RX11) (T := TX11) (N := 19) hx hb hts zi11_ tyX11 tyX11_ok nmX11 hown hK hP hD hS 0 rfl rfl 2 (by decide) z8_ (fun _ h9 => h9) rfl hin rfl (by decide +kernel) rfl rfl (Nat.le_of_ble_eq_true rfl) dX11_init_25 (fun H locs hP hD hS => ?_)
  have hP : va_P D vwCl [(mm, .inr (11, [.ref q1, .ref q2, .ref q3, .null, .int 0, .int 0, .null, .null, .null, .int 0, .null, .null, .int 0, .int 0, .int 0, .int 0, .int 0, .null, .int 0])), (q1, .inl (cy 1, 122, .inl (fun _ => 0))), (q2, .inl (cy 1, 244, .inl (fun _ => 0))), (q3, .inl (cy 2, 2, .inl (fun _ => 0)))] H := hP
  have hD : va_D A [(mm, .inr (11, [.ref q1, .ref q2, .ref q3, .null, .int 0, .int 0, .null, .null, .null, .int 0, .null, .null, .int 0, .int 0, .int 0, .int 0, .int 0, .null, .int 0])), (q1, .inl (cy 1, 122, .inl (fun _ => 0))), (q2, .inl (cy 1, 244, .inl (fun _ => 0))), (q3, .inl (cy 2, 2, .inl (fun _ => 0)))] := hD
  refine lv_aload_n hx hb dX11_init_28 rfl (lv_at hl 0 rfl) ?_
  refine lv_iconst (v := 3) hx hb dX11_init_29 (by decide) ?_
  refine my_newa (atype := .int) (ty := .int) (N' := 3) (a0 := (3, .inl (fun _ => 0))) hx hb z3_ rfl hK hP hD hS hA 1 rfl (a0I 3) (by decide) (by decide +kernel) (by decide +kernel) (Nat.le_of_ble_eq_true rfl) (Nat.le_of_ble_eq_true rfl) dX11_init_30 (fun q4 H hP hD hS => ?_)
  have hP : va_P D vwCl [(mm, .inr (11, [.ref q1, .ref q2, .ref q3, .null, .int 0, .int 0, .null, .null, .null, .int 0, .null, .null, .int 0, .int 0, .int 0, .int 0, .int 0, .null, .int 0])), (q1, .inl (cy 1, 122, .inl (fun _ => 0))), (q2, .inl (cy 1, 244, .inl (fun _ => 0))), (q3, .inl (cy 2, 2, .inl (fun _ => 0))), (q4, .inl (cy 1, 3, .inl (fun _ => 0)))] H := hP
  have hD : va_D A [(mm, .inr (11, [.ref q1, .ref q2, .ref q3, .null, .int 0, .int 0, .null, .null, .null, .int 0, .null, .null, .int 0, .int 0, .int 0, .int 0, .int 0, .null, .int 0])), (q1, .inl (cy 1, 122, .inl (fun _ => 0))), (q2, .inl (cy 1, 244, .inl (fun _ => 0))), (q3, .inl (cy 2, 2, .inl (fun _ => 0))), (q4, .inl (cy 1, 3, .inl (fun _ => 0)))] := hD
  refine W.widen (k := 4) (n := 371) (Nat.le_of_ble_eq_true rfl) (Nat.le_of_ble_eq_true rfl) ?_
  refine va_putF (D := D) (ci := 11) (v := .ref q4) (ty := .array .int) (C := RX11) (T := TX11) (N := 19) hx hb hts zi11_ tyX11 tyX11_ok nmX11 hown hK hP hD hS 0 rfl rfl 3 (by decide) z9_ (fun _ h9 => h9) rfl hin rfl (by decide +kernel) rfl rfl (Nat.le_of_ble_eq_true rfl) dX11_init_32 (fun H locs hP hD hS => ?_)
  have hP : va_P D vwCl [(mm, .inr (11, [.ref q1, .ref q2, .ref q3, .ref q4, .int 0, .int 0, .null, .null, .null, .int 0, .null, .null, .int 0, .int 0, .int 0, .int 0, .int 0, .null, .int 0])), (q1, .inl (cy 1, 122, .inl (fun _ => 0))), (q2, .inl (cy 1, 244, .inl (fun _ => 0))), (q3, .inl (cy 2, 2, .inl (fun _ => 0))), (q4, .inl (cy 1, 3, .inl (fun _ => 0)))] H := hP
  have hD : va_D A [(mm, .inr (11, [.ref q1, .ref q2, .ref q3, .ref q4, .int 0, .int 0, .null, .null, .null, .int 0, .null, .null, .int 0, .int 0, .int 0, .int 0, .int 0, .null, .int 0])), (q1, .inl (cy 1, 122, .inl (fun _ => 0))), (q2, .inl (cy 1, 244, .inl (fun _ => 0))), (q3, .inl (cy 2, 2, .inl (fun _ => 0))), (q4, .inl (cy 1, 3, .inl (fun _ => 0)))] := hD
  refine lv_aload_n hx hb dX11_init_35 rfl (lv_at hl 0 rfl) ?_
  refine lv_bipush (v := 36) hx hb dX11_init_36 (by decide) ?_
  refine my_newa (atype := .boolean) (ty := .boolean) (N' := 36) (a0 := (36, .inl (fun _ => 0))) hx hb z7_ rfl hK hP hD hS hA 2 rfl (a0Z 36) (by decide) (by decide +kernel) (by decide +kernel) (Nat.le_of_ble_eq_true rfl) (Nat.le_of_ble_eq_true rfl) dX11_init_38 (fun q5 H hP hD hS => ?_)
  have hP : va_P D vwCl [(mm, .inr (11, [.ref q1, .ref q2, .ref q3, .ref q4, .int 0, .int 0, .null, .null, .null, .int 0, .null, .null, .int 0, .int 0, .int 0, .int 0, .int 0, .null, .int 0])), (q1, .inl (cy 1, 122, .inl (fun _ => 0))), (q2, .inl (cy 1, 244, .inl (fun _ => 0))), (q3, .inl (cy 2, 2, .inl (fun _ => 0))), (q4, .inl (cy 1, 3, .inl (fun _ => 0))), (q5, .inl (cy 2, 36, .inl (fun _ => 0)))] H := hP
  have hD : va_D A [(mm, .inr (11, [.ref q1, .ref q2, .ref q3, .ref q4, .int 0, .int 0, .null, .null, .null, .int 0, .null, .null, .int 0, .int 0, .int 0, .int 0, .int 0, .null, .int 0])), (q1, .inl (cy 1, 122, .inl (fun _ => 0))), (q2, .inl (cy 1, 244, .inl (fun _ => 0))), (q3, .inl (cy 2, 2, .inl (fun _ => 0))), (q4, .inl (cy 1, 3, .inl (fun _ => 0))), (q5, .inl (cy 2, 36, .inl (fun _ => 0)))] := hD
  refine W.widen (k := 5) (n := 407) (Nat.le_of_ble_eq_true rfl) (Nat.le_of_ble_eq_true rfl) ?_
  refine va_putF (D := D) (ci := 11) (v := .ref q5) (ty := .array .boolean) (C := RX11) (T := TX11) (N := 19) hx hb hts zi11_ tyX11 tyX11_ok nmX11 hown hK hP hD hS 0 rfl rfl 6 (by decide) z10_ (fun _ h9 => h9) rfl hin rfl (by decide +kernel) rfl rfl (Nat.le_of_ble_eq_true rfl) dX11_init_40 (fun H locs hP hD hS => ?_)
  have hP : va_P D vwCl [(mm, .inr (11, [.ref q1, .ref q2, .ref q3, .ref q4, .int 0, .int 0, .ref q5, .null, .null, .int 0, .null, .null, .int 0, .int 0, .int 0, .int 0, .int 0, .null, .int 0])), (q1, .inl (cy 1, 122, .inl (fun _ => 0))), (q2, .inl (cy 1, 244, .inl (fun _ => 0))), (q3, .inl (cy 2, 2, .inl (fun _ => 0))), (q4, .inl (cy 1, 3, .inl (fun _ => 0))), (q5, .inl (cy 2, 36, .inl (fun _ => 0)))] H := hP
  have hD : va_D A [(mm, .inr (11, [.ref q1, .ref q2, .ref q3, .ref q4, .int 0, .int 0, .ref q5, .null, .null, .int 0, .null, .null, .int 0, .int 0, .int 0, .int 0, .int 0, .null, .int 0])), (q1, .inl (cy 1, 122, .inl (fun _ => 0))), (q2, .inl (cy 1, 244, .inl (fun _ => 0))), (q3, .inl (cy 2, 2, .inl (fun _ => 0))), (q4, .inl (cy 1, 3, .inl (fun _ => 0))), (q5, .inl (cy 2, 36, .inl (fun _ => 0)))] := hD
  refine lv_aload_n hx hb dX11_init_43 rfl (lv_at hl 0 rfl) ?_
  refine lv_sipush (v := 1152) hx hb dX11_init_44 (by decide) ?_
  refine my_newa (atype := .int) (ty := .int) (N' := 1152) (a0 := (1152, .inl (fun _ => 0))) hx hb z3_ rfl hK hP hD hS hA 1 rfl (a0I 1152) (by decide) (by decide +kernel) (by decide +kernel) (Nat.le_of_ble_eq_true rfl) (Nat.le_of_ble_eq_true rfl) dX11_init_47 (fun q6 H hP hD hS => ?_)
  have hP : va_P D vwCl [(mm, .inr (11, [.ref q1, .ref q2, .ref q3, .ref q4, .int 0, .int 0, .ref q5, .null, .null, .int 0, .null, .null, .int 0, .int 0, .int 0, .int 0, .int 0, .null, .int 0])), (q1, .inl (cy 1, 122, .inl (fun _ => 0))), (q2, .inl (cy 1, 244, .inl (fun _ => 0))), (q3, .inl (cy 2, 2, .inl (fun _ => 0))), (q4, .inl (cy 1, 3, .inl (fun _ => 0))), (q5, .inl (cy 2, 36, .inl (fun _ => 0))), (q6, .inl (cy 1, 1152, .inl (fun _ => 0)))] H := hP
  have hD : va_D A [(mm, .inr (11, [.ref q1, .ref q2, .ref q3, .ref q4, .int 0, .int 0, .ref q5, .null, .null, .int 0, .null, .null, .int 0, .int 0, .int 0, .int 0, .int 0, .null, .int 0])), (q1, .inl (cy 1, 122, .inl (fun _ => 0))), (q2, .inl (cy 1, 244, .inl (fun _ => 0))), (q3, .inl (cy 2, 2, .inl (fun _ => 0))), (q4, .inl (cy 1, 3, .inl (fun _ => 0))), (q5, .inl (cy 2, 36, .inl (fun _ => 0))), (q6, .inl (cy 1, 1152, .inl (fun _ => 0)))] := hD
  refine W.widen (k := 6) (n := 1559) (Nat.le_of_ble_eq_true rfl) (Nat.le_of_ble_eq_true rfl) ?_
  refine va_putF (D := D) (ci := 11) (v := .ref q6) (ty := .array .int) (C := RX11) (T := TX11) (N := 19) hx hb hts zi11_ tyX11 tyX11_ok nmX11 hown hK hP hD hS 0 rfl rfl 7 (by decide) z11_ (fun _ h9 => h9) rfl hin rfl (by decide +kernel) rfl rfl (Nat.le_of_ble_eq_true rfl) dX11_init_49 (fun H locs hP hD hS => ?_)
  have hP : va_P D vwCl [(mm, .inr (11, [.ref q1, .ref q2, .ref q3, .ref q4, .int 0, .int 0, .ref q5, .ref q6, .null, .int 0, .null, .null, .int 0, .int 0, .int 0, .int 0, .int 0, .null, .int 0])), (q1, .inl (cy 1, 122, .inl (fun _ => 0))), (q2, .inl (cy 1, 244, .inl (fun _ => 0))), (q3, .inl (cy 2, 2, .inl (fun _ => 0))), (q4, .inl (cy 1, 3, .inl (fun _ => 0))), (q5, .inl (cy 2, 36, .inl (fun _ => 0))), (q6, .inl (cy 1, 1152, .inl (fun _ => 0)))] H := hP
  have hD : va_D A [(mm, .inr (11, [.ref q1, .ref q2, .ref q3, .ref q4, .int 0, .int 0, .ref q5, .ref q6, .null, .int 0, .null, .null, .int 0, .int 0, .int 0, .int 0, .int 0, .null, .int 0])), (q1, .inl (cy 1, 122, .inl (fun _ => 0))), (q2, .inl (cy 1, 244, .inl (fun _ => 0))), (q3, .inl (cy 2, 2, .inl (fun _ => 0))), (q4, .inl (cy 1, 3, .inl (fun _ => 0))), (q5, .inl (cy 2, 36, .inl (fun _ => 0))), (q6, .inl (cy 1, 1152, .inl (fun _ => 0)))] := hD
  refine lv_aload_n hx hb dX11_init_52 rfl (lv_at hl 0 rfl) ?_
  refine lv_sipush (v := 1152) hx hb dX11_init_53 (by decide) ?_
  refine my_newa (atype := .int) (ty := .int) (N' := 1152) (a0 := (1152, .inl (fun _ => 0))) hx hb z3_ rfl hK hP hD hS hA 1 rfl (a0I 1152) (by decide) (by decide +kernel) (by decide +kernel) (Nat.le_of_ble_eq_true rfl) (Nat.le_of_ble_eq_true rfl) dX11_init_56 (fun q7 H hP hD hS => ?_)
  have hP : va_P D vwCl [(mm, .inr (11, [.ref q1, .ref q2, .ref q3, .ref q4, .int 0, .int 0, .ref q5, .ref q6, .null, .int 0, .null, .null, .int 0, .int 0, .int 0, .int 0, .int 0, .null, .int 0])), (q1, .inl (cy 1, 122, .inl (fun _ => 0))), (q2, .inl (cy 1, 244, .inl (fun _ => 0))), (q3, .inl (cy 2, 2, .inl (fun _ => 0))), (q4, .inl (cy 1, 3, .inl (fun _ => 0))), (q5, .inl (cy 2, 36, .inl (fun _ => 0))), (q6, .inl (cy 1, 1152, .inl (fun _ => 0))), (q7, .inl (cy 1, 1152, .inl (fun _ => 0)))] H := hP
  have hD : va_D A [(mm, .inr (11, [.ref q1, .ref q2, .ref q3, .ref q4, .int 0, .int 0, .ref q5, .ref q6, .null, .int 0, .null, .null, .int 0, .int 0, .int 0, .int 0, .int 0, .null, .int 0])), (q1, .inl (cy 1, 122, .inl (fun _ => 0))), (q2, .inl (cy 1, 244, .inl (fun _ => 0))), (q3, .inl (cy 2, 2, .inl (fun _ => 0))), (q4, .inl (cy 1, 3, .inl (fun _ => 0))), (q5, .inl (cy 2, 36, .inl (fun _ => 0))), (q6, .inl (cy 1, 1152, .inl (fun _ => 0))), (q7, .inl (cy 1, 1152, .inl (fun _ => 0)))] := hD
  refine W.widen (k := 7) (n := 2711) (Nat.le_of_ble_eq_true rfl) (Nat.le_of_ble_eq_true rfl) ?_
  refine va_putF (D := D) (ci := 11) (v := .ref q7) (ty := .array .int) (C := RX11) (T := TX11) (N := 19) hx hb hts zi11_ tyX11 tyX11_ok nmX11 hown hK hP hD hS 0 rfl rfl 8 (by decide) z12_ (fun _ h9 => h9) rfl hin rfl (by decide +kernel) rfl rfl (Nat.le_of_ble_eq_true rfl) dX11_init_58 (fun H locs hP hD hS => ?_)
  have hP : va_P D vwCl [(mm, .inr (11, [.ref q1, .ref q2, .ref q3, .ref q4, .int 0, .int 0, .ref q5, .ref q6, .ref q7, .int 0, .null, .null, .int 0, .int 0, .int 0, .int 0, .int 0, .null, .int 0])), (q1, .inl (cy 1, 122, .inl (fun _ => 0))), (q2, .inl (cy 1, 244, .inl (fun _ => 0))), (q3, .inl (cy 2, 2, .inl (fun _ => 0))), (q4, .inl (cy 1, 3, .inl (fun _ => 0))), (q5, .inl (cy 2, 36, .inl (fun _ => 0))), (q6, .inl (cy 1, 1152, .inl (fun _ => 0))), (q7, .inl (cy 1, 1152, .inl (fun _ => 0)))] H := hP
  have hD : va_D A [(mm, .inr (11, [.ref q1, .ref q2, .ref q3, .ref q4, .int 0, .int 0, .ref q5, .ref q6, .ref q7, .int 0, .null, .null, .int 0, .int 0, .int 0, .int 0, .int 0, .null, .int 0])), (q1, .inl (cy 1, 122, .inl (fun _ => 0))), (q2, .inl (cy 1, 244, .inl (fun _ => 0))), (q3, .inl (cy 2, 2, .inl (fun _ => 0))), (q4, .inl (cy 1, 3, .inl (fun _ => 0))), (q5, .inl (cy 2, 36, .inl (fun _ => 0))), (q6, .inl (cy 1, 1152, .inl (fun _ => 0))), (q7, .inl (cy 1, 1152, .inl (fun _ => 0)))] := hD
  refine lv_aload_n hx hb dX11_init_61 rfl (lv_at hl 0 rfl) ?_
  refine lv_bipush (v := 36) hx hb dX11_init_62 (by decide) ?_
  refine my_newa (atype := .int) (ty := .int) (N' := 36) (a0 := (36, .inl (fun _ => 0))) hx hb z3_ rfl hK hP hD hS hA 1 rfl (a0I 36) (by decide) (by decide +kernel) (by decide +kernel) (Nat.le_of_ble_eq_true rfl) (Nat.le_of_ble_eq_true rfl) dX11_init_64 (fun q8 H hP hD hS => ?_)
  have hP : va_P D vwCl [(mm, .inr (11, [.ref q1, .ref q2, .ref q3, .ref q4, .int 0, .int 0, .ref q5, .ref q6, .ref q7, .int 0, .null, .null, .int 0, .int 0, .int 0, .int 0, .int 0, .null, .int 0])), (q1, .inl (cy 1, 122, .inl (fun _ => 0))), (q2, .inl (cy 1, 244, .inl (fun _ => 0))), (q3, .inl (cy 2, 2, .inl (fun _ => 0))), (q4, .inl (cy 1, 3, .inl (fun _ => 0))), (q5, .inl (cy 2, 36, .inl (fun _ => 0))), (q6, .inl (cy 1, 1152, .inl (fun _ => 0))), (q7, .inl (cy 1, 1152, .inl (fun _ => 0))), (q8, .inl (cy 1, 36, .inl (fun _ => 0)))] H := hP
  have hD : va_D A [(mm, .inr (11, [.ref q1, .ref q2, .ref q3, .ref q4, .int 0, .int 0, .ref q5, .ref q6, .ref q7, .int 0, .null, .null, .int 0, .int 0, .int 0, .int 0, .int 0, .null, .int 0])), (q1, .inl (cy 1, 122, .inl (fun _ => 0))), (q2, .inl (cy 1, 244, .inl (fun _ => 0))), (q3, .inl (cy 2, 2, .inl (fun _ => 0))), (q4, .inl (cy 1, 3, .inl (fun _ => 0))), (q5, .inl (cy 2, 36, .inl (fun _ => 0))), (q6, .inl (cy 1, 1152, .inl (fun _ => 0))), (q7, .inl (cy 1, 1152, .inl (fun _ => 0))), (q8, .inl (cy 1, 36, .inl (fun _ => 0)))] := hD
  refine W.widen (k := 8) (n := 2747) (Nat.le_of_ble_eq_true rfl) (Nat.le_of_ble_eq_true rfl) ?_
  refine va_putF (D := D) (ci := 11) (v := .ref q8) (ty := .array .int) (C := RX11) (T := TX11) (N := 19) hx hb hts zi11_ tyX11 tyX11_ok nmX11 hown hK hP hD hS 0 rfl rfl 10 (by decide) z13_ (fun _ h9 => h9) rfl hin rfl (by decide +kernel) rfl rfl (Nat.le_of_ble_eq_true rfl) dX11_init_66 (fun H locs hP hD hS => ?_)
  have hP : va_P D vwCl [(mm, .inr (11, [.ref q1, .ref q2, .ref q3, .ref q4, .int 0, .int 0, .ref q5, .ref q6, .ref q7, .int 0, .ref q8, .null, .int 0, .int 0, .int 0, .int 0, .int 0, .null, .int 0])), (q1, .inl (cy 1, 122, .inl (fun _ => 0))), (q2, .inl (cy 1, 244, .inl (fun _ => 0))), (q3, .inl (cy 2, 2, .inl (fun _ => 0))), (q4, .inl (cy 1, 3, .inl (fun _ => 0))), (q5, .inl (cy 2, 36, .inl (fun _ => 0))), (q6, .inl (cy 1, 1152, .inl (fun _ => 0))), (q7, .inl (cy 1, 1152, .inl (fun _ => 0))), (q8, .inl (cy 1, 36, .inl (fun _ => 0)))] H := hP
  have hD : va_D A [(mm, .inr (11, [.ref q1, .ref q2, .ref q3, .ref q4, .int 0, .int 0, .ref q5, .ref q6, .ref q7, .int 0, .ref q8, .null, .int 0, .int 0, .int 0, .int 0, .int 0, .null, .int 0])), (q1, .inl (cy 1, 122, .inl (fun _ => 0))), (q2, .inl (cy 1, 244, .inl (fun _ => 0))), (q3, .inl (cy 2, 2, .inl (fun _ => 0))), (q4, .inl (cy 1, 3, .inl (fun _ => 0))), (q5, .inl (cy 2, 36, .inl (fun _ => 0))), (q6, .inl (cy 1, 1152, .inl (fun _ => 0))), (q7, .inl (cy 1, 1152, .inl (fun _ => 0))), (q8, .inl (cy 1, 36, .inl (fun _ => 0)))] := hD
  refine lv_aload_n hx hb dX11_init_69 rfl (lv_at hl 0 rfl) ?_
  refine lv_sipush (v := 250) hx hb dX11_init_70 (by decide) ?_
  refine my_newa (atype := .int) (ty := .int) (N' := 250) (a0 := (250, .inl (fun _ => 0))) hx hb z3_ rfl hK hP hD hS hA 1 rfl (a0I 250) (by decide) (by decide +kernel) (by decide +kernel) (Nat.le_of_ble_eq_true rfl) (Nat.le_of_ble_eq_true rfl) dX11_init_73 (fun q9 H hP hD hS => ?_)
  have hP : va_P D vwCl [(mm, .inr (11, [.ref q1, .ref q2, .ref q3, .ref q4, .int 0, .int 0, .ref q5, .ref q6, .ref q7, .int 0, .ref q8, .null, .int 0, .int 0, .int 0, .int 0, .int 0, .null, .int 0])), (q1, .inl (cy 1, 122, .inl (fun _ => 0))), (q2, .inl (cy 1, 244, .inl (fun _ => 0))), (q3, .inl (cy 2, 2, .inl (fun _ => 0))), (q4, .inl (cy 1, 3, .inl (fun _ => 0))), (q5, .inl (cy 2, 36, .inl (fun _ => 0))), (q6, .inl (cy 1, 1152, .inl (fun _ => 0))), (q7, .inl (cy 1, 1152, .inl (fun _ => 0))), (q8, .inl (cy 1, 36, .inl (fun _ => 0))), (q9, .inl (cy 1, 250, .inl (fun _ => 0)))] H := hP
  have hD : va_D A [(mm, .inr (11, [.ref q1, .ref q2, .ref q3, .ref q4, .int 0, .int 0, .ref q5, .ref q6, .ref q7, .int 0, .ref q8, .null, .int 0, .int 0, .int 0, .int 0, .int 0, .null, .int 0])), (q1, .inl (cy 1, 122, .inl (fun _ => 0))), (q2, .inl (cy 1, 244, .inl (fun _ => 0))), (q3, .inl (cy 2, 2, .inl (fun _ => 0))), (q4, .inl (cy 1, 3, .inl (fun _ => 0))), (q5, .inl (cy 2, 36, .inl (fun _ => 0))), (q6, .inl (cy 1, 1152, .inl (fun _ => 0))), (q7, .inl (cy 1, 1152, .inl (fun _ => 0))), (q8, .inl (cy 1, 36, .inl (fun _ => 0))), (q9, .inl (cy 1, 250, .inl (fun _ => 0)))] := hD
  refine W.widen (k := 9) (n := 2997) (Nat.le_of_ble_eq_true rfl) (Nat.le_of_ble_eq_true rfl) ?_
  refine va_putF (D := D) (ci := 11) (v := .ref q9) (ty := .array .int) (C := RX11) (T := TX11) (N := 19) hx hb hts zi11_ tyX11 tyX11_ok nmX11 hown hK hP hD hS 0 rfl rfl 11 (by decide) z14_ (fun _ h9 => h9) rfl hin rfl (by decide +kernel) rfl rfl (Nat.le_of_ble_eq_true rfl) dX11_init_75 (fun H locs hP hD hS => ?_)
  have hP : va_P D vwCl [(mm, .inr (11, [.ref q1, .ref q2, .ref q3, .ref q4, .int 0, .int 0, .ref q5, .ref q6, .ref q7, .int 0, .ref q8, .ref q9, .int 0, .int 0, .int 0, .int 0, .int 0, .null, .int 0])), (q1, .inl (cy 1, 122, .inl (fun _ => 0))), (q2, .inl (cy 1, 244, .inl (fun _ => 0))), (q3, .inl (cy 2, 2, .inl (fun _ => 0))), (q4, .inl (cy 1, 3, .inl (fun _ => 0))), (q5, .inl (cy 2, 36, .inl (fun _ => 0))), (q6, .inl (cy 1, 1152, .inl (fun _ => 0))), (q7, .inl (cy 1, 1152, .inl (fun _ => 0))), (q8, .inl (cy 1, 36, .inl (fun _ => 0))), (q9, .inl (cy 1, 250, .inl (fun _ => 0)))] H := hP
  have hD : va_D A [(mm, .inr (11, [.ref q1, .ref q2, .ref q3, .ref q4, .int 0, .int 0, .ref q5, .ref q6, .ref q7, .int 0, .ref q8, .ref q9, .int 0, .int 0, .int 0, .int 0, .int 0, .null, .int 0])), (q1, .inl (cy 1, 122, .inl (fun _ => 0))), (q2, .inl (cy 1, 244, .inl (fun _ => 0))), (q3, .inl (cy 2, 2, .inl (fun _ => 0))), (q4, .inl (cy 1, 3, .inl (fun _ => 0))), (q5, .inl (cy 2, 36, .inl (fun _ => 0))), (q6, .inl (cy 1, 1152, .inl (fun _ => 0))), (q7, .inl (cy 1, 1152, .inl (fun _ => 0))), (q8, .inl (cy 1, 36, .inl (fun _ => 0))), (q9, .inl (cy 1, 250, .inl (fun _ => 0)))] := hD
  refine lv_aload_n hx hb dX11_init_78 rfl (lv_at hl 0 rfl) ?_
  refine lv_bipush (v := 122) hx hb dX11_init_79 (by decide) ?_
  refine my_newa (atype := .int) (ty := .int) (N' := 122) (a0 := (122, .inl (fun _ => 0))) hx hb z3_ rfl hK hP hD hS hA 1 rfl (a0I 122) (by decide) (by decide +kernel) (by decide +kernel) (Nat.le_of_ble_eq_true rfl) (Nat.le_of_ble_eq_true rfl) dX11_init_81 (fun q10 H hP hD hS => ?_)
  have hP : va_P D vwCl [(mm, .inr (11, [.ref q1, .ref q2, .ref q3, .ref q4, .int 0, .int 0, .ref q5, .ref q6, .ref q7, .int 0, .ref q8, .ref q9, .int 0, .int 0, .int 0, .int 0, .int 0, .null, .int 0])), (q1, .inl (cy 1, 122, .inl (fun _ => 0))), (q2, .inl (cy 1, 244, .inl (fun _ => 0))), (q3, .inl (cy 2, 2, .inl (fun _ => 0))), (q4, .inl (cy 1, 3, .inl (fun _ => 0))), (q5, .inl (cy 2, 36, .inl (fun _ => 0))), (q6, .inl (cy 1, 1152, .inl (fun _ => 0))), (q7, .inl (cy 1, 1152, .inl (fun _ => 0))), (q8, .inl (cy 1, 36, .inl (fun _ => 0))), (q9, .inl (cy 1, 250, .inl (fun _ => 0))), (q10, .inl (cy 1, 122, .inl (fun _ => 0)))] H := hP
  have hD : va_D A [(mm, .inr (11, [.ref q1, .ref q2, .ref q3, .ref q4, .int 0, .int 0, .ref q5, .ref q6, .ref q7, .int 0, .ref q8, .ref q9, .int 0, .int 0, .int 0, .int 0, .int 0, .null, .int 0])), (q1, .inl (cy 1, 122, .inl (fun _ => 0))), (q2, .inl (cy 1, 244, .inl (fun _ => 0))), (q3, .inl (cy 2, 2, .inl (fun _ => 0))), (q4, .inl (cy 1, 3, .inl (fun _ => 0))), (q5, .inl (cy 2, 36, .inl (fun _ => 0))), (q6, .inl (cy 1, 1152, .inl (fun _ => 0))), (q7, .inl (cy 1, 1152, .inl (fun _ => 0))), (q8, .inl (cy 1, 36, .inl (fun _ => 0))), (q9, .inl (cy 1, 250, .inl (fun _ => 0))), (q10, .inl (cy 1, 122, .inl (fun _ => 0)))] := hD
  refine W.widen (k := 10) (n := 3119) (Nat.le_of_ble_eq_true rfl) (Nat.le_of_ble_eq_true rfl) ?_
  refine va_putF (D := D) (ci := 11) (v := .ref q10) (ty := .array .int) (C := RX11) (T := TX11) (N := 19) hx hb hts zi11_ tyX11 tyX11_ok nmX11 hown hK hP hD hS 0 rfl rfl 17 (by decide) z15_ (fun _ h9 => h9) rfl hin rfl (by decide +kernel) rfl rfl (Nat.le_of_ble_eq_true rfl) dX11_init_83 (fun H locs hP hD hS => ?_)
  have hP : va_P D vwCl [(mm, .inr (11, [.ref q1, .ref q2, .ref q3, .ref q4, .int 0, .int 0, .ref q5, .ref q6, .ref q7, .int 0, .ref q8, .ref q9, .int 0, .int 0, .int 0, .int 0, .int 0, .ref q10, .int 0])), (q1, .inl (cy 1, 122, .inl (fun _ => 0))), (q2, .inl (cy 1, 244, .inl (fun _ => 0))), (q3, .inl (cy 2, 2, .inl (fun _ => 0))), (q4, .inl (cy 1, 3, .inl (fun _ => 0))), (q5, .inl (cy 2, 36, .inl (fun _ => 0))), (q6, .inl (cy 1, 1152, .inl (fun _ => 0))), (q7, .inl (cy 1, 1152, .inl (fun _ => 0))), (q8, .inl (cy 1, 36, .inl (fun _ => 0))), (q9, .inl (cy 1, 250, .inl (fun _ => 0))), (q10, .inl (cy 1, 122, .inl (fun _ => 0)))] H := hP
  have hD : va_D A [(mm, .inr (11, [.ref q1, .ref q2, .ref q3, .ref q4, .int 0, .int 0, .ref q5, .ref q6, .ref q7, .int 0, .ref q8, .ref q9, .int 0, .int 0, .int 0, .int 0, .int 0, .ref q10, .int 0])), (q1, .inl (cy 1, 122, .inl (fun _ => 0))), (q2, .inl (cy 1, 244, .inl (fun _ => 0))), (q3, .inl (cy 2, 2, .inl (fun _ => 0))), (q4, .inl (cy 1, 3, .inl (fun _ => 0))), (q5, .inl (cy 2, 36, .inl (fun _ => 0))), (q6, .inl (cy 1, 1152, .inl (fun _ => 0))), (q7, .inl (cy 1, 1152, .inl (fun _ => 0))), (q8, .inl (cy 1, 36, .inl (fun _ => 0))), (q9, .inl (cy 1, 250, .inl (fun _ => 0))), (q10, .inl (cy 1, 122, .inl (fun _ => 0)))] := hD
  refine lv_aload_n hx hb dX11_init_86 rfl (lv_at hl 0 rfl) ?_
  refine va_get (D := D) (ci := 11) (v := .ref q1) (C := RX11) (T := TX11) (N := 19) hx hb hts zi11_ hown hK hP 0 rfl rfl 0 (by decide) z4_ (fun _ h9 => h9) rfl dX11_init_87 ?_
  refine lv_bipush (v := 6) hx hb dX11_init_90 (by decide) ?_
  refine lv_bipush (v := 6) hx hb dX11_init_92 (by decide) ?_
  refine wr_v (wr := [(mm, .inr (11, [.ref q1, .ref q2, .ref q3, .ref q4, .int 0, .int 0, .ref q5, .ref q6, .ref q7, .int 0, .ref q8, .ref q9, .int 0, .int 0, .int 0, .int 0, .int 0, .ref q10, .int 0])), (q2, .inl (cy 1, 244, .inl (fun _ => 0))), (q3, .inl (cy 2, 2, .inl (fun _ => 0))), (q4, .inl (cy 1, 3, .inl (fun _ => 0))), (q5, .inl (cy 2, 36, .inl (fun _ => 0))), (q6, .inl (cy 1, 1152, .inl (fun _ => 0))), (q7, .inl (cy 1, 1152, .inl (fun _ => 0))), (q8, .inl (cy 1, 36, .inl (fun _ => 0))), (q9, .inl (cy 1, 250, .inl (fun _ => 0))), (q10, .inl (cy 1, 122, .inl (fun _ => 0)))]) (va_runS (As := [.ref q1, .int 6, .int 6]) (rest := []) ⟨hx, hb, hml, hown, hts⟩ (c_X11_begin l D cy q1 (fun _ => 0) 6 6 _) (va_cwS 3 hts gX11_init_X11_begin rfl rfl rfl (by decide +kernel) ⟨Nat.le_of_ble_eq_true rfl, Nat.le_of_ble_eq_true rfl⟩) (pS hKA (hP.sub (ws' := [(q1, .inl (cy 1, 122, .inl (fun _ => 0)))]) [1] rfl) (hD.sub (ws' := [(q1, .inl (cy 1, 122, .inl (fun _ => 0)))]) [1] (by decide) rfl)) rfl rfl hl.1 rfl (lv_room (Nat.le_of_ble_eq_true rfl)) dX11_init_94 ⟨Nat.le_of_ble_eq_true rfl, Nat.le_of_ble_eq_true rfl⟩) hP hD hS hA [1] [0, 2, 3, 4, 5, 6, 7, 8, 9, 10] rfl rfl (by decide +kernel) (by decide +kernel) (fun ur11 H locs hwr11 hP hD hS => ?_)
  obtain ⟨row12, rfl⟩ : ∃ z, z = ur11 := ⟨_, rfl⟩
  have hP : va_P D vwCl [(mm, .inr (11, [.ref q1, .ref q2, .ref q3, .ref q4, .int 0, .int 0, .ref q5, .ref q6, .ref q7, .int 0, .ref q8, .ref q9, .int 0, .int 0, .int 0, .int 0, .int 0, .ref q10, .int 0])), (q2, .inl (cy 1, 244, .inl (fun _ => 0))), (q3, .inl (cy 2, 2, .inl (fun _ => 0))), (q4, .inl (cy 1, 3, .inl (fun _ => 0))), (q5, .inl (cy 2, 36, .inl (fun _ => 0))), (q6, .inl (cy 1, 1152, .inl (fun _ => 0))), (q7, .inl (cy 1, 1152, .inl (fun _ => 0))), (q8, .inl (cy 1, 36, .inl (fun _ => 0))), (q9, .inl (cy 1, 250, .inl (fun _ => 0))), (q10, .inl (cy 1, 122, .inl (fun _ => 0))), (q1, .inl (cy 1, 122, .inl row12))] H := hP
  have hD : va_D A [(mm, .inr (11, [.ref q1, .ref q2, .ref q3, .ref q4, .int 0, .int 0, .ref q5, .ref q6, .ref q7, .int 0, .ref q8, .ref q9, .int 0, .int 0, .int 0, .int 0, .int 0, .ref q10, .int 0])), (q2, .inl (cy 1, 244, .inl (fun _ => 0))), (q3, .inl (cy 2, 2, .inl (fun _ => 0))), (q4, .inl (cy 1, 3, .inl (fun _ => 0))), (q5, .inl (cy 2, 36, .inl (fun _ => 0))), (q6, .inl (cy 1, 1152, .inl (fun _ => 0))), (q7, .inl (cy 1, 1152, .inl (fun _ => 0))), (q8, .inl (cy 1, 36, .inl (fun _ => 0))), (q9, .inl (cy 1, 250, .inl (fun _ => 0))), (q10, .inl (cy 1, 122, .inl (fun _ => 0))), (q1, .inl (cy 1, 122, .inl row12))] := hD
  refine W.widen (k := 10) (n := 3119) (Nat.le_of_ble_eq_true rfl) (Nat.le_of_ble_eq_true rfl) ?_
  have hP9 := hP.sub (ws' := [(mm, .inr (11, [.ref q1, .ref q2, .ref q3, .ref q4, .int 0, .int 0, .ref q5, .ref q6, .ref q7, .int 0, .ref q8, .ref q9, .int 0, .int 0, .int 0, .int 0, .int 0, .ref q10, .int 0])), (q1, .inl (cy 1, 122, .inl row12)), (q2, .inl (cy 1, 244, .inl (fun _ => 0))), (q3, .inl (cy 2, 2, .inl (fun _ => 0))), (q4, .inl (cy 1, 3, .inl (fun _ => 0))), (q5, .inl (cy 2, 36, .inl (fun _ => 0))), (q6, .inl (cy 1, 1152, .inl (fun _ => 0))), (q7, .inl (cy 1, 1152, .inl (fun _ => 0))), (q8, .inl (cy 1, 36, .inl (fun _ => 0))), (q9, .inl (cy 1, 250, .inl (fun _ => 0))), (q10, .inl (cy 1, 122, .inl (fun _ => 0)))]) [0, 10, 1, 2, 3, 4, 5, 6, 7, 8, 9] rfl
  have hD9 := hD.sub (ws' := [(mm, .inr (11, [.ref q1, .ref q2, .ref q3, .ref q4, .int 0, .int 0, .ref q5, .ref q6, .ref q7, .int 0, .ref q8, .ref q9, .int 0, .int 0, .int 0, .int 0, .int 0, .ref q10, .int 0])), (q1, .inl (cy 1, 122, .inl row12)), (q2, .inl (cy 1, 244, .inl (fun _ => 0))), (q3, .inl (cy 2, 2, .inl (fun _ => 0))), (q4, .inl (cy 1, 3, .inl (fun _ => 0))), (q5, .inl (cy 2, 36, .inl (fun _ => 0))), (q6, .inl (cy 1, 1152, .inl (fun _ => 0))), (q7, .inl (cy 1, 1152, .inl (fun _ => 0))), (q8, .inl (cy 1, 36, .inl (fun _ => 0))), (q9, .inl (cy 1, 250, .inl (fun _ => 0))), (q10, .inl (cy 1, 122, .inl (fun _ => 0)))]) [0, 10, 1, 2, 3, 4, 5, 6, 7, 8, 9] (by decide) rfl
  exact W.vret hx hb hr (fun t ht hW => ⟨⟨(q1, q2, q3, q4, q5, q6, q7, q8, q9, q10, row12), rfl, (by assumption), by rw [ht]; exact hP9, hD9⟩, hS.F ht⟩) hS.2.2 dX11_init_97

set_option maxHeartbeats 4000000 in
set_option maxRecDepth 100000 in
theorem m_maySpeak (l : Launch) (D : va_G) (cy : Nat → ClassId) (mm nw kp ik rf sd fr qu me by_ nx : Nat) (F : Nat → Int32) (sz : Nat) (h4 : F 4 = 0) : Met l yX11_maySpeak wsX11_maySpeak ({ frames := 1, cells := 0, slots := 0, locals := 20 }) (va_Pc [.ref mm] (kPre D cy [(mm, .inr (11, [.ref nw, .ref kp, .ref ik, .ref rf, .int 0, .int 0, .ref sd, .ref fr, .ref qu, .int 0, .ref me, .ref by_, .int 0, .int 0, .int 0, .int 0, .int 0, .ref nx, .int 0])), (nw, .inl (cy 1, 122, .inl F))] sz)) (va_Qi (fun (r : Int32) (_ : Unit) => r = 0) (fun _ _ => True) (fun q : Nat => sz ≤ q)) 0 0 (fun q : Nat => sz ≤ q) := by
  refine Met.ofW (cc := cX11_maySpeak) (maxL := 5) (ret := (some .int)) (by decide) rfl ?_
  intro p e s m args below meth c s₁ B hml hv
  obtain ⟨rfl, hsz, hP, hKA, hD0⟩ := hv
  have hx := B.exec
  have hb := B.bytes
  have hr := B.returns
  have hts := atoms_spec (ws := wsX11_maySpeak) B.pre
  have hown : s.vm.findClass RX11 = some m.cls := findClass_of_methodNamed B.named
  have hlocks := B.notSynchronized
  subst hsz
  have hK := hKA.1
  have hD := hD0
  generalize hAe : (fun q : Nat => s.heap.size ≤ q) = A
  have hA : ∀ q : Nat, s.heap.size ≤ q → A q := fun q h => by rw [← hAe]; exact h
  have hS : va_S A s.heap s.heap [] := va_S.rf
  have hP : va_P D vwCl [(mm, .inr (11, [.ref nw, .ref kp, .ref ik, .ref rf, .int 0, .int 0, .ref sd, .ref fr, .ref qu, .int 0, .ref me, .ref by_, .int 0, .int 0, .int 0, .int 0, .int 0, .ref nx, .int 0])), (nw, .inl (cy 1, 122, .inl F))] s.heap := hP
  have hl := lv_entry ([.ref mm]) (n := 5) (Nat.le_of_ble_eq_true rfl)
  rw [lg_entry_eq]
  generalize (lg_sl ([.ref mm]) ++ List.replicate (5 - (lg_sl ([.ref mm])).length) Slot.unset).toArray = ls at hl ⊢
  have hl : lv_has ls 5 [(0, .ref mm)] := hl
  refine lv_iconst (v := 0) hx hb dX11_maySpeak_0 (by decide) ?_
  refine lv_istore_n (lv' := [(1, .int 0), (0, .ref mm)]) hx hb dX11_maySpeak_1 rfl hl (by decide) rfl (fun ls hl => ?_)
  refine lv_iconst (v := 0) hx hb dX11_maySpeak_2 (by decide) ?_
  refine lv_istore_n (lv' := [(2, .int 0), (1, .int 0), (0, .ref mm)]) hx hb dX11_maySpeak_3 rfl hl (by decide) rfl (fun ls hl => ?_)
  refine lv_iload_n hx hb dX11_maySpeak_4 rfl (lv_at hl 0 rfl) ?_
  refine lv_aload_n hx hb dX11_maySpeak_5 rfl (lv_at hl 2 rfl) ?_
  refine rd_i (va_runV (As := []) (rest := [.int 0]) ⟨hx, hb, hml, hown, hts⟩ (c_X11_people l D cy mm nw kp ik rf sd fr qu me by_ nx F _) (cwV 0 hts gX11_maySpeak_X11_people rfl rfl rfl (by decide +kernel) ⟨Nat.le_of_ble_eq_true rfl, Nat.le_of_ble_eq_true rfl⟩) (pV (ci := 11) (k := 0) hKA (hP.sub (ws' := [(mm, .inr (11, [.ref nw, .ref kp, .ref ik, .ref rf, .int 0, .int 0, .ref sd, .ref fr, .ref qu, .int 0, .ref me, .ref by_, .int 0, .int 0, .int 0, .int 0, .int 0, .ref nx, .int 0])), (nw, .inl (cy 1, 122, .inl F))]) [0, 1] rfl) (hD.sub (ws' := [(mm, .inr (11, [.ref nw, .ref kp, .ref ik, .ref rf, .int 0, .int 0, .ref sd, .ref fr, .ref qu, .int 0, .ref me, .ref by_, .int 0, .int 0, .int 0, .int 0, .int 0, .ref nx, .int 0])), (nw, .inl (cy 1, 122, .inl F))]) [0, 1] (by decide) rfl) rfl rfl) rfl rfl hl.1 rfl (lv_room (Nat.le_of_ble_eq_true rfl)) dX11_maySpeak_6 ⟨Nat.le_of_ble_eq_true rfl, Nat.le_of_ble_eq_true rfl⟩) hP hS hA (fun r1 H locs hwr1 hP hS => ?_)
  obtain rfl : r1 = 0 := by rw [hwr1]; exact h4
  refine lv_icmp_ge (tgt := 72) hx hb dX11_maySpeak_9 (by decide) (fun c2 => ?_) (fun c2 => absurd c2 (by decide))
  refine lv_iload_n hx hb dX11_maySpeak_72 rfl (lv_at hl 1 rfl) ?_
  exact W.iret (v := 0) hx hb hr (fun t ht hW => ⟨⟨0, (), rfl, rfl, trivial⟩, hS.F ht⟩) hS.2.2 dX11_maySpeak_73

set_option maxHeartbeats 4000000 in
set_option maxRecDepth 100000 in
theorem m_judged (l : Launch) (D : va_G) (cy : Nat → ClassId) (mm nw kp ik rf sd fr qu me by_ nx : Nat) (F : Nat → Int32) (x : Int32) (sz : Nat) (h4 : F 4 = 0) : Met l yX11_judged wsX11_judged ({ frames := 1, cells := 0, slots := 0, locals := 20 }) (va_Pc [.ref mm, .int x] (kPre D cy [(mm, .inr (11, [.ref nw, .ref kp, .ref ik, .ref rf, .int 0, .int 0, .ref sd, .ref fr, .ref qu, .int 0, .ref me, .ref by_, .int 0, .int 0, .int 0, .int 0, .int 0, .ref nx, .int 0])), (nw, .inl (cy 1, 122, .inl F))] sz)) (va_Qi (fun (r : Int32) (_ : Unit) => r = (-1)) (fun _ _ => True) (fun q : Nat => sz ≤ q)) 0 0 (fun q : Nat => sz ≤ q) := by
  refine Met.ofW (cc := cX11_judged) (maxL := 4) (ret := (some .int)) (by decide) rfl ?_
  intro p e s m args below meth c s₁ B hml hv
  obtain ⟨rfl, hsz, hP, hKA, hD0⟩ := hv
  have hx := B.exec
  have hb := B.bytes
  have hr := B.returns
  have hts := atoms_spec (ws := wsX11_judged) B.pre
  have hown : s.vm.findClass RX11 = some m.cls := findClass_of_methodNamed B.named
  have hlocks := B.notSynchronized
  subst hsz
  have hK := hKA.1
  have hD := hD0
  generalize hAe : (fun q : Nat => s.heap.size ≤ q) = A
  have hA : ∀ q : Nat, s.heap.size ≤ q → A q := fun q h => by rw [← hAe]; exact h
  have hS : va_S A s.heap s.heap [] := va_S.rf
  have hP : va_P D vwCl [(mm, .inr (11, [.ref nw, .ref kp, .ref ik, .ref rf, .int 0, .int 0, .ref sd, .ref fr, .ref qu, .int 0, .ref me, .ref by_, .int 0, .int 0, .int 0, .int 0, .int 0, .ref nx, .int 0])), (nw, .inl (cy 1, 122, .inl F))] s.heap := hP
  have hl := lv_entry ([.ref mm, .int x]) (n := 4) (Nat.le_of_ble_eq_true rfl)
  rw [lg_entry_eq]
  generalize (lg_sl ([.ref mm, .int x]) ++ List.replicate (4 - (lg_sl ([.ref mm, .int x])).length) Slot.unset).toArray = ls at hl ⊢
  have hl : lv_has ls 4 [(0, .ref mm), (1, .int x)] := hl
  refine lv_iconst (v := 0) hx hb dX11_judged_0 (by decide) ?_
  refine lv_istore_n (lv' := [(2, .int 0), (0, .ref mm), (1, .int x)]) hx hb dX11_judged_1 rfl hl (by decide) rfl (fun ls hl => ?_)
  refine lv_iload_n hx hb dX11_judged_2 rfl (lv_at hl 0 rfl) ?_
  refine lv_aload_n hx hb dX11_judged_3 rfl (lv_at hl 1 rfl) ?_
  refine rd_i (va_runV (As := []) (rest := [.int 0]) ⟨hx, hb, hml, hown, hts⟩ (c_X11_people l D cy mm nw kp ik rf sd fr qu me by_ nx F _) (cwV 0 hts gX11_judged_X11_people rfl rfl rfl (by decide +kernel) ⟨Nat.le_of_ble_eq_true rfl, Nat.le_of_ble_eq_true rfl⟩) (pV (ci := 11) (k := 0) hKA (hP.sub (ws' := [(mm, .inr (11, [.ref nw, .ref kp, .ref ik, .ref rf, .int 0, .int 0, .ref sd, .ref fr, .ref qu, .int 0, .ref me, .ref by_, .int 0, .int 0, .int 0, .int 0, .int 0, .ref nx, .int 0])), (nw, .inl (cy 1, 122, .inl F))]) [0, 1] rfl) (hD.sub (ws' := [(mm, .inr (11, [.ref nw, .ref kp, .ref ik, .ref rf, .int 0, .int 0, .ref sd, .ref fr, .ref qu, .int 0, .ref me, .ref by_, .int 0, .int 0, .int 0, .int 0, .int 0, .ref nx, .int 0])), (nw, .inl (cy 1, 122, .inl F))]) [0, 1] (by decide) rfl) rfl rfl) rfl rfl hl.1 rfl (lv_room (Nat.le_of_ble_eq_true rfl)) dX11_judged_4 ⟨Nat.le_of_ble_eq_true rfl, Nat.le_of_ble_eq_true rfl⟩) hP hS hA (fun r1 H locs hwr1 hP hS => ?_)
  obtain rfl : r1 = 0 := by rw [hwr1]; exact h4
  refine lv_icmp_ge (tgt := 57) hx hb dX11_judged_7 (by decide) (fun c2 => ?_) (fun c2 => absurd c2 (by decide))
  refine lv_iconst (v := (-1)) hx hb dX11_judged_57 (by decide) ?_
  exact W.iret (v := (-1)) hx hb hr (fun t ht hW => ⟨⟨(-1), (), rfl, rfl, trivial⟩, hS.F ht⟩) hS.2.2 dX11_judged_58

set_option maxHeartbeats 4000000 in
set_option maxRecDepth 100000 in
theorem m_isTold (l : Launch) (D : va_G) (cy : Nat → ClassId) (mm nw kp ik rf sd fr qu me by_ nx : Nat) (F : Nat → Int32) (x : Int32) (sz : Nat) (h4 : F 4 = 0) (h92 : F 92 = 0) : Met l yX11_isTold wsX11_isTold ({ frames := 2, cells := 0, slots := 0, locals := 44 }) (va_Pc [.ref mm, .int x] (kPre D cy [(mm, .inr (11, [.ref nw, .ref kp, .ref ik, .ref rf, .int 0, .int 0, .ref sd, .ref fr, .ref qu, .int 0, .ref me, .ref by_, .int 0, .int 0, .int 0, .int 0, .int 0, .ref nx, .int 0])), (nw, .inl (cy 1, 122, .inl F))] sz)) (va_Qi (fun (r : Int32) (_ : Unit) => r = 1) (fun _ _ => True) (fun q : Nat => sz ≤ q)) 0 0 (fun q : Nat => sz ≤ q) := by
  refine Met.ofW (cc := cX11_isTold) (maxL := 7) (ret := (some .boolean)) (by decide) rfl ?_
  intro p e s m args below meth c s₁ B hml hv
  obtain ⟨rfl, hsz, hP, hKA, hD0⟩ := hv
  have hx := B.exec
  have hb := B.bytes
  have hr := B.returns
  have hts := atoms_spec (ws := wsX11_isTold) B.pre
  have hown : s.vm.findClass RX11 = some m.cls := findClass_of_methodNamed B.named
  have hlocks := B.notSynchronized
  subst hsz
  have hK := hKA.1
  have hD := hD0
  generalize hAe : (fun q : Nat => s.heap.size ≤ q) = A
  have hA : ∀ q : Nat, s.heap.size ≤ q → A q := fun q h => by rw [← hAe]; exact h
  have hS : va_S A s.heap s.heap [] := va_S.rf
  have hP : va_P D vwCl [(mm, .inr (11, [.ref nw, .ref kp, .ref ik, .ref rf, .int 0, .int 0, .ref sd, .ref fr, .ref qu, .int 0, .ref me, .ref by_, .int 0, .int 0, .int 0, .int 0, .int 0, .ref nx, .int 0])), (nw, .inl (cy 1, 122, .inl F))] s.heap := hP
  have hl := lv_entry ([.ref mm, .int x]) (n := 7) (Nat.le_of_ble_eq_true rfl)
  rw [lg_entry_eq]
  generalize (lg_sl ([.ref mm, .int x]) ++ List.replicate (7 - (lg_sl ([.ref mm, .int x])).length) Slot.unset).toArray = ls at hl ⊢
  have hl : lv_has ls 7 [(0, .ref mm), (1, .int x)] := hl
  have z0_ := hts (.fieldLink RX11 7 "HeardSeenModel" "now" "[I") (by decide +kernel)
  have zi11_ : ∀ w ∈ u_ws RX11 TX11 19, w ∈ wsX11_isTold := by decide +kernel
  refine lv_aload_n hx hb dX11_isTold_0 rfl (lv_at hl 0 rfl) ?_
  refine rd_i (va_runV (As := []) (rest := []) ⟨hx, hb, hml, hown, hts⟩ (m_maySpeak l D cy mm nw kp ik rf sd fr qu me by_ nx F _ h4) (cwV 0 hts gX11_isTold_X11_maySpeak rfl rfl rfl (by decide +kernel) ⟨Nat.le_of_ble_eq_true rfl, Nat.le_of_ble_eq_true rfl⟩) (pV (ci := 11) (k := 0) hKA (hP.sub (ws' := [(mm, .inr (11, [.ref nw, .ref kp, .ref ik, .ref rf, .int 0, .int 0, .ref sd, .ref fr, .ref qu, .int 0, .ref me, .ref by_, .int 0, .int 0, .int 0, .int 0, .int 0, .ref nx, .int 0])), (nw, .inl (cy 1, 122, .inl F))]) [0, 1] rfl) (hD.sub (ws' := [(mm, .inr (11, [.ref nw, .ref kp, .ref ik, .ref rf, .int 0, .int 0, .ref sd, .ref fr, .ref qu, .int 0, .ref me, .ref by_, .int 0, .int 0, .int 0, .int 0, .int 0, .ref nx, .int 0])), (nw, .inl (cy 1, 122, .inl F))]) [0, 1] (by decide) rfl) rfl rfl) rfl rfl hl.1 rfl (lv_room (Nat.le_of_ble_eq_true rfl)) dX11_isTold_1 ⟨Nat.le_of_ble_eq_true rfl, Nat.le_of_ble_eq_true rfl⟩) hP hS hA (fun r1 H locs hwr1 hP hS => ?_)
  rcases hwr1 with rfl
  · skip
    refine lv_istore_n (lv' := [(2, .int 0), (0, .ref mm), (1, .int x)]) hx hb dX11_isTold_4 rfl hl (by decide) rfl (fun ls hl => ?_)
    refine lv_iconst (v := 1) hx hb dX11_isTold_5 (by decide) ?_
    refine lv_istore_n (lv' := [(3, .int 1), (2, .int 0), (0, .ref mm), (1, .int x)]) hx hb dX11_isTold_6 rfl hl (by decide) rfl (fun ls hl => ?_)
    refine lv_iconst (v := 0) hx hb dX11_isTold_7 (by decide) ?_
    refine lv_istore (lv' := [(4, .int 0), (3, .int 1), (2, .int 0), (0, .ref mm), (1, .int x)]) hx hb dX11_isTold_8 hl (by decide) rfl (fun ls hl => ?_)
    refine lv_iload hx hb dX11_isTold_10 (lv_at hl 0 rfl) ?_
    refine lv_aload_n hx hb dX11_isTold_12 rfl (lv_at hl 3 rfl) ?_
    refine va_get (D := D) (ci := 11) (v := .ref nw) (C := RX11) (T := TX11) (N := 19) hx hb hts zi11_ hown hK hP 0 rfl rfl 0 (by decide) z0_ (fun _ h9 => h9) rfl dX11_isTold_13 ?_
    refine lv_bipush (v := 92) hx hb dX11_isTold_16 (by decide) ?_
    refine my_iald hx hb hK hP 1 1 rfl rfl (by rw [vp_in_iff]; decide +kernel) (k := 92) (by decide +kernel) dX11_isTold_18 ?_
    rw [show F 92 = 0 from h92]
    refine lv_icmp_ge (tgt := 141) hx hb dX11_isTold_19 (by decide) (fun c2 => ?_) (fun c2 => absurd c2 (by decide))
    refine lv_iload_n hx hb dX11_isTold_141 rfl (lv_at hl 1 rfl) ?_
    exact W.zret (v := 1) hx hb hr rfl (fun t ht hW => ⟨⟨1, (), rfl, rfl, trivial⟩, hS.F ht⟩) hS.2.2 dX11_isTold_142

set_option maxHeartbeats 4000000 in
set_option maxRecDepth 100000 in
theorem m_manySpeakers (l : Launch) (D : va_G) (cy : Nat → ClassId) (mm nw kp ik rf sd fr qu me by_ nx : Nat) (F : Nat → Int32) (sz : Nat) (h4 : F 4 = 0) : Met l yX11_manySpeakers wsX11_manySpeakers ({ frames := 2, cells := 0, slots := 0, locals := 44 }) (va_Pc [.ref mm] (kPre D cy [(mm, .inr (11, [.ref nw, .ref kp, .ref ik, .ref rf, .int 0, .int 0, .ref sd, .ref fr, .ref qu, .int 0, .ref me, .ref by_, .int 0, .int 0, .int 0, .int 0, .int 0, .ref nx, .int 0])), (nw, .inl (cy 1, 122, .inl F))] sz)) (va_Qi (fun (r : Int32) (_ : Unit) => r = 0) (fun _ _ => True) (fun q : Nat => sz ≤ q)) 0 0 (fun q : Nat => sz ≤ q) := by
  refine Met.ofW (cc := cX11_manySpeakers) (maxL := 5) (ret := (some .int)) (by decide) rfl ?_
  intro p e s m args below meth c s₁ B hml hv
  obtain ⟨rfl, hsz, hP, hKA, hD0⟩ := hv
  have hx := B.exec
  have hb := B.bytes
  have hr := B.returns
  have hts := atoms_spec (ws := wsX11_manySpeakers) B.pre
  have hown : s.vm.findClass RX11 = some m.cls := findClass_of_methodNamed B.named
  have hlocks := B.notSynchronized
  subst hsz
  have hK := hKA.1
  have hD := hD0
  generalize hAe : (fun q : Nat => s.heap.size ≤ q) = A
  have hA : ∀ q : Nat, s.heap.size ≤ q → A q := fun q h => by rw [← hAe]; exact h
  have hS : va_S A s.heap s.heap [] := va_S.rf
  have hP : va_P D vwCl [(mm, .inr (11, [.ref nw, .ref kp, .ref ik, .ref rf, .int 0, .int 0, .ref sd, .ref fr, .ref qu, .int 0, .ref me, .ref by_, .int 0, .int 0, .int 0, .int 0, .int 0, .ref nx, .int 0])), (nw, .inl (cy 1, 122, .inl F))] s.heap := hP
  have hl := lv_entry ([.ref mm]) (n := 5) (Nat.le_of_ble_eq_true rfl)
  rw [lg_entry_eq]
  generalize (lg_sl ([.ref mm]) ++ List.replicate (5 - (lg_sl ([.ref mm])).length) Slot.unset).toArray = ls at hl ⊢
  have hl : lv_has ls 5 [(0, .ref mm)] := hl
  refine lv_aload_n hx hb dX11_manySpeakers_0 rfl (lv_at hl 0 rfl) ?_
  refine rd_i (va_runV (As := []) (rest := []) ⟨hx, hb, hml, hown, hts⟩ (m_maySpeak l D cy mm nw kp ik rf sd fr qu me by_ nx F _ h4) (cwV 0 hts gX11_manySpeakers_X11_maySpeak rfl rfl rfl (by decide +kernel) ⟨Nat.le_of_ble_eq_true rfl, Nat.le_of_ble_eq_true rfl⟩) (pV (ci := 11) (k := 0) hKA (hP.sub (ws' := [(mm, .inr (11, [.ref nw, .ref kp, .ref ik, .ref rf, .int 0, .int 0, .ref sd, .ref fr, .ref qu, .int 0, .ref me, .ref by_, .int 0, .int 0, .int 0, .int 0, .int 0, .ref nx, .int 0])), (nw, .inl (cy 1, 122, .inl F))]) [0, 1] rfl) (hD.sub (ws' := [(mm, .inr (11, [.ref nw, .ref kp, .ref ik, .ref rf, .int 0, .int 0, .ref sd, .ref fr, .ref qu, .int 0, .ref me, .ref by_, .int 0, .int 0, .int 0, .int 0, .int 0, .ref nx, .int 0])), (nw, .inl (cy 1, 122, .inl F))]) [0, 1] (by decide) rfl) rfl rfl) rfl rfl hl.1 rfl (lv_room (Nat.le_of_ble_eq_true rfl)) dX11_manySpeakers_1 ⟨Nat.le_of_ble_eq_true rfl, Nat.le_of_ble_eq_true rfl⟩) hP hS hA (fun r1 H locs hwr1 hP hS => ?_)
  rcases hwr1 with rfl
  · skip
    refine lv_istore_n (lv' := [(1, .int 0), (0, .ref mm)]) hx hb dX11_manySpeakers_4 rfl hl (by decide) rfl (fun ls hl => ?_)
    refine lv_iconst (v := 1) hx hb dX11_manySpeakers_5 (by decide) ?_
    refine lv_aload_n hx hb dX11_manySpeakers_6 rfl (lv_at hl 1 rfl) ?_
    refine rd_i (va_runV (As := []) (rest := [.int 1]) ⟨hx, hb, hml, hown, hts⟩ (c_X11_people l D cy mm nw kp ik rf sd fr qu me by_ nx F _) (cwV 0 hts gX11_manySpeakers_X11_people rfl rfl rfl (by decide +kernel) ⟨Nat.le_of_ble_eq_true rfl, Nat.le_of_ble_eq_true rfl⟩) (pV (ci := 11) (k := 0) hKA (hP.sub (ws' := [(mm, .inr (11, [.ref nw, .ref kp, .ref ik, .ref rf, .int 0, .int 0, .ref sd, .ref fr, .ref qu, .int 0, .ref me, .ref by_, .int 0, .int 0, .int 0, .int 0, .int 0, .ref nx, .int 0])), (nw, .inl (cy 1, 122, .inl F))]) [0, 1] rfl) (hD.sub (ws' := [(mm, .inr (11, [.ref nw, .ref kp, .ref ik, .ref rf, .int 0, .int 0, .ref sd, .ref fr, .ref qu, .int 0, .ref me, .ref by_, .int 0, .int 0, .int 0, .int 0, .int 0, .ref nx, .int 0])), (nw, .inl (cy 1, 122, .inl F))]) [0, 1] (by decide) rfl) rfl rfl) rfl rfl hl.1 rfl (lv_room (Nat.le_of_ble_eq_true rfl)) dX11_manySpeakers_7 ⟨Nat.le_of_ble_eq_true rfl, Nat.le_of_ble_eq_true rfl⟩) hP hS hA (fun r2 H locs hwr2 hP hS => ?_)
    obtain rfl : r2 = 0 := by rw [hwr2]; exact h4
    refine lv_ishl hx hb dX11_manySpeakers_10 ?_
    refine lv_topi (fun x3 ex3 => ?_)
    obtain rfl : x3 = 1 := by rw [ex3]; decide +kernel
    refine lv_iconst (v := 1) hx hb dX11_manySpeakers_11 (by decide) ?_
    refine lv_isub hx hb dX11_manySpeakers_12 ?_
    refine lv_topi (fun x4 ex4 => ?_)
    obtain rfl : x4 = 0 := by rw [ex4]; decide +kernel
    refine lv_istore_n (lv' := [(2, .int 0), (1, .int 0), (0, .ref mm)]) hx hb dX11_manySpeakers_13 rfl hl (by decide) rfl (fun ls hl => ?_)
    refine lv_iconst (v := 0) hx hb dX11_manySpeakers_14 (by decide) ?_
    refine lv_istore_n (lv' := [(3, .int 0), (2, .int 0), (1, .int 0), (0, .ref mm)]) hx hb dX11_manySpeakers_15 rfl hl (by decide) rfl (fun ls hl => ?_)
    refine lv_iconst (v := 0) hx hb dX11_manySpeakers_16 (by decide) ?_
    refine lv_istore (lv' := [(4, .int 0), (3, .int 0), (2, .int 0), (1, .int 0), (0, .ref mm)]) hx hb dX11_manySpeakers_17 hl (by decide) rfl (fun ls hl => ?_)
    refine lv_iload hx hb dX11_manySpeakers_19 (lv_at hl 0 rfl) ?_
    refine lv_aload_n hx hb dX11_manySpeakers_21 rfl (lv_at hl 4 rfl) ?_
    refine rd_i (va_runV (As := []) (rest := [.int 0]) ⟨hx, hb, hml, hown, hts⟩ (c_X11_people l D cy mm nw kp ik rf sd fr qu me by_ nx F _) (cwV 0 hts gX11_manySpeakers_X11_people rfl rfl rfl (by decide +kernel) ⟨Nat.le_of_ble_eq_true rfl, Nat.le_of_ble_eq_true rfl⟩) (pV (ci := 11) (k := 0) hKA (hP.sub (ws' := [(mm, .inr (11, [.ref nw, .ref kp, .ref ik, .ref rf, .int 0, .int 0, .ref sd, .ref fr, .ref qu, .int 0, .ref me, .ref by_, .int 0, .int 0, .int 0, .int 0, .int 0, .ref nx, .int 0])), (nw, .inl (cy 1, 122, .inl F))]) [0, 1] rfl) (hD.sub (ws' := [(mm, .inr (11, [.ref nw, .ref kp, .ref ik, .ref rf, .int 0, .int 0, .ref sd, .ref fr, .ref qu, .int 0, .ref me, .ref by_, .int 0, .int 0, .int 0, .int 0, .int 0, .ref nx, .int 0])), (nw, .inl (cy 1, 122, .inl F))]) [0, 1] (by decide) rfl) rfl rfl) rfl rfl hl.1 rfl (lv_room (Nat.le_of_ble_eq_true rfl)) dX11_manySpeakers_22 ⟨Nat.le_of_ble_eq_true rfl, Nat.le_of_ble_eq_true rfl⟩) hP hS hA (fun r5 H locs hwr5 hP hS => ?_)
    obtain rfl : r5 = 0 := by rw [hwr5]; exact h4
    refine lv_icmp_ge (tgt := 62) hx hb dX11_manySpeakers_25 (by decide) (fun c6 => ?_) (fun c6 => absurd c6 (by decide))
    refine lv_iload_n hx hb dX11_manySpeakers_62 rfl (lv_at hl 1 rfl) ?_
    exact W.iret (v := 0) hx hb hr (fun t ht hW => ⟨⟨0, (), rfl, rfl, trivial⟩, hS.F ht⟩) hS.2.2 dX11_manySpeakers_63

set_option maxHeartbeats 4000000 in
set_option maxRecDepth 100000 in
theorem m_isClear (l : Launch) (D : va_G) (cy : Nat → ClassId) (mm nw kp ik rf sd fr qu me by_ nx : Nat) (F : Nat → Int32) (x y : Int32) (sz : Nat) (h0 : F 0 = 6) (h1 : F 1 = 6) (h2 : F 2 = 1) (hz : ∀ k, 3 ≤ k → k < 122 → F k = 0) : Met l yX11_isClear wsX11_isClear ({ frames := 1, cells := 0, slots := 0, locals := 20 }) (va_Pc [.ref mm, .int x, .int y] (kPre D cy [(mm, .inr (11, [.ref nw, .ref kp, .ref ik, .ref rf, .int 0, .int 0, .ref sd, .ref fr, .ref qu, .int 0, .ref me, .ref by_, .int 0, .int 0, .int 0, .int 0, .int 0, .ref nx, .int 0])), (nw, .inl (cy 1, 122, .inl F))] sz)) (va_Qi (fun (r : Int32) (_ : Unit) => r = 1) (fun _ _ => True) (fun q : Nat => sz ≤ q)) 0 0 (fun q : Nat => sz ≤ q) := by
  refine Met.ofW (cc := cX11_isClear) (maxL := 5) (ret := (some .boolean)) (by decide) rfl ?_
  intro p e s m args below meth c s₁ B hml hv
  obtain ⟨rfl, hsz, hP, hKA, hD0⟩ := hv
  have hx := B.exec
  have hb := B.bytes
  have hr := B.returns
  have hts := atoms_spec (ws := wsX11_isClear) B.pre
  have hown : s.vm.findClass RX11 = some m.cls := findClass_of_methodNamed B.named
  have hlocks := B.notSynchronized
  subst hsz
  have hK := hKA.1
  have hD := hD0
  generalize hAe : (fun q : Nat => s.heap.size ≤ q) = A
  have hA : ∀ q : Nat, s.heap.size ≤ q → A q := fun q h => by rw [← hAe]; exact h
  have hS : va_S A s.heap s.heap [] := va_S.rf
  have hP : va_P D vwCl [(mm, .inr (11, [.ref nw, .ref kp, .ref ik, .ref rf, .int 0, .int 0, .ref sd, .ref fr, .ref qu, .int 0, .ref me, .ref by_, .int 0, .int 0, .int 0, .int 0, .int 0, .ref nx, .int 0])), (nw, .inl (cy 1, 122, .inl F))] s.heap := hP
  have hl := lv_entry ([.ref mm, .int x, .int y]) (n := 5) (Nat.le_of_ble_eq_true rfl)
  rw [lg_entry_eq]
  generalize (lg_sl ([.ref mm, .int x, .int y]) ++ List.replicate (5 - (lg_sl ([.ref mm, .int x, .int y])).length) Slot.unset).toArray = ls at hl ⊢
  have hl : lv_has ls 5 [(0, .ref mm), (1, .int x), (2, .int y)] := hl
  have z0_ := hts (.fieldLink RX11 7 "HeardSeenModel" "now" "[I") (by decide +kernel)
  have zi11_ : ∀ w ∈ u_ws RX11 TX11 19, w ∈ wsX11_isClear := by decide +kernel
  refine lv_iconst (v := 1) hx hb dX11_isClear_0 (by decide) ?_
  refine lv_istore_n (lv' := [(3, .int 1), (0, .ref mm), (1, .int x), (2, .int y)]) hx hb dX11_isClear_1 rfl hl (by decide) rfl (fun ls hl => ?_)
  refine lv_iconst (v := 0) hx hb dX11_isClear_2 (by decide) ?_
  refine lv_istore (lv' := [(4, .int 0), (3, .int 1), (0, .ref mm), (1, .int x), (2, .int y)]) hx hb dX11_isClear_3 hl (by decide) rfl (fun ls hl => ?_)
  have lp5 : ∀ (n5 : Nat) (k : Nat), k ≤ 36 → 36 - k < n5 → ∀ (H : Heap) (locs : List Loc), va_P D vwCl [(mm, .inr (11, [.ref nw, .ref kp, .ref ik, .ref rf, .int 0, .int 0, .ref sd, .ref fr, .ref qu, .int 0, .ref me, .ref by_, .int 0, .int 0, .int 0, .int 0, .int 0, .ref nx, .int 0])), (nw, .inl (cy 1, 122, .inl F))] H → va_D (fun _ => True) [(mm, .inr (11, [.ref nw, .ref kp, .ref ik, .ref rf, .int 0, .int 0, .ref sd, .ref fr, .ref qu, .int 0, .ref me, .ref by_, .int 0, .int 0, .int 0, .int 0, .int 0, .ref nx, .int 0])), (nw, .inl (cy 1, 122, .inl F))] → va_S A s.heap H locs → ∀ ls : Array Slot, lv_has ls 5 [(0, .ref mm), (1, .int x), (2, .int y), (3, .int 1), (4, .int (nI k))] → W p l e (headSpec wsX11_isClear ({ frames := 1, cells := 0, slots := 0, locals := 20 })).room s m [.ref mm, .int x, .int y].toArray below meth c H locs 0 0 (MQ below (va_Qi (fun (r : Int32) (_ : Unit) => r = 1) (fun _ _ => True) A) [.ref mm, .int x, .int y].toArray s 0 0 A) (F0 m 5 ls []) := by
    intro n5
    induction n5 with
    | zero => intro k hk hm; exact absurd hm (Nat.not_lt_zero _)
    | succ n5 ih5 =>
      intro k hk hm5 H locs hP hD hS ls hl
      refine lv_iload hx hb dX11_isClear_5 (lv_at hl 4 rfl) ?_
      refine lv_aload_n hx hb dX11_isClear_7 rfl (lv_at hl 0 rfl) ?_
      refine rd_i (va_runV (As := []) (rest := [.int (nI k)]) ⟨hx, hb, hml, hown, hts⟩ (c_X11_squares l D cy mm nw kp ik rf sd fr qu me by_ nx F _) (cwV 0 hts gX11_isClear_X11_squares rfl rfl rfl (by decide +kernel) ⟨Nat.le_of_ble_eq_true rfl, Nat.le_of_ble_eq_true rfl⟩) (pV (ci := 11) (k := 0) hKA (hP.sub (ws' := [(mm, .inr (11, [.ref nw, .ref kp, .ref ik, .ref rf, .int 0, .int 0, .ref sd, .ref fr, .ref qu, .int 0, .ref me, .ref by_, .int 0, .int 0, .int 0, .int 0, .int 0, .ref nx, .int 0])), (nw, .inl (cy 1, 122, .inl F))]) [0, 1] rfl) (hD.sub (ws' := [(mm, .inr (11, [.ref nw, .ref kp, .ref ik, .ref rf, .int 0, .int 0, .ref sd, .ref fr, .ref qu, .int 0, .ref me, .ref by_, .int 0, .int 0, .int 0, .int 0, .int 0, .ref nx, .int 0])), (nw, .inl (cy 1, 122, .inl F))]) [0, 1] (by decide) rfl) rfl rfl) rfl rfl hl.1 rfl (lv_room (Nat.le_of_ble_eq_true rfl)) dX11_isClear_8 ⟨Nat.le_of_ble_eq_true rfl, Nat.le_of_ble_eq_true rfl⟩) hP hS hA (fun r1 H locs hwr1 hP hS => ?_)
      obtain rfl : r1 = 36 := by rw [hwr1]; rw [h0, h1]; decide
      refine lv_icmp_ge (tgt := 66) hx hb dX11_isClear_11 (by decide) (fun c2 => ?_) (fun c2 => ?_)
      · skip
        refine lv_iload_n hx hb dX11_isClear_66 rfl (lv_at hl 3 rfl) ?_
        exact W.zret (v := 1) hx hb hr rfl (fun t ht hW => ⟨⟨1, (), rfl, rfl, trivial⟩, hS.F ht⟩) hS.2.2 dX11_isClear_67
      · skip
        have hk36 := nlt_of (n := 36) rfl hk (by decide) (by assumption)
        refine lv_iload_n hx hb dX11_isClear_14 rfl (lv_at hl 3 rfl) ?_
        refine lv_if_eq (tgt := 66) hx hb dX11_isClear_15 (by decide) (fun c3 => absurd c3 (by decide)) (fun c3 => ?_)
        refine lv_aload_n hx hb dX11_isClear_18 rfl (lv_at hl 0 rfl) ?_
        refine va_get (D := D) (ci := 11) (v := .ref nw) (C := RX11) (T := TX11) (N := 19) hx hb hts zi11_ hown hK hP 0 rfl rfl 0 (by decide) z0_ (fun _ h9 => h9) rfl dX11_isClear_19 ?_
        refine lv_bipush (v := 20) hx hb dX11_isClear_22 (by decide) ?_
        refine lv_iload hx hb dX11_isClear_24 (lv_at hl 4 rfl) ?_
        refine lv_iadd hx hb dX11_isClear_26 ?_
        refine lv_topi (fun x4 ex4 => ?_)
        obtain rfl : x4 = nI (20 + k) := by rw [ex4]; exact nI_add _ _
        refine my_iald hx hb hK hP 1 1 rfl rfl (vp_in_nI (by omega) (by decide)) (nI_clamp (by omega)) dX11_isClear_27 ?_
        rw [show F (20 + k) = 0 from hz (20 + k) (by omega) (by omega)]
        refine lv_if_eq (tgt := 54) hx hb dX11_isClear_28 (by decide) (fun c5 => ?_) (fun c5 => absurd c5 (by decide))
        refine lv_iconst (v := 1) hx hb dX11_isClear_54 (by decide) ?_
        refine lv_goto (tgt := 59) hx hb dX11_isClear_55 (by decide) ?_
        refine lv_istore_n (lv' := [(3, .int 1), (0, .ref mm), (1, .int x), (2, .int y), (4, .int (nI k))]) hx hb dX11_isClear_59 rfl hl (by decide) rfl (fun ls hl => ?_)
        refine lv_iinc (v := nI (k + 1)) (lv' := [(4, .int (nI (k + 1))), (3, .int 1), (0, .ref mm), (1, .int x), (2, .int y)]) hx hb dX11_isClear_60 hl (k := 4) rfl (nI_1 _) (by decide) rfl (fun ls hl => ?_)
        refine lv_goto (tgt := 5) hx hb dX11_isClear_63 (by decide) ?_
        exact ih5 (k + 1) (by omega) (by omega) _ _ (hP.sub (ws' := [(mm, .inr (11, [.ref nw, .ref kp, .ref ik, .ref rf, .int 0, .int 0, .ref sd, .ref fr, .ref qu, .int 0, .ref me, .ref by_, .int 0, .int 0, .int 0, .int 0, .int 0, .ref nx, .int 0])), (nw, .inl (cy 1, 122, .inl F))]) [0, 1] rfl) (hD.sub (ws' := [(mm, .inr (11, [.ref nw, .ref kp, .ref ik, .ref rf, .int 0, .int 0, .ref sd, .ref fr, .ref qu, .int 0, .ref me, .ref by_, .int 0, .int 0, .int 0, .int 0, .int 0, .ref nx, .int 0])), (nw, .inl (cy 1, 122, .inl F))]) [0, 1] (by decide) rfl) hS ls (lv_sub hl [2, 3, 4, 1, 0] rfl)
  exact lp5 (36 - 0 + 1) 0 (by omega) (Nat.lt_succ_self _) _ _ (hP.sub (ws' := [(mm, .inr (11, [.ref nw, .ref kp, .ref ik, .ref rf, .int 0, .int 0, .ref sd, .ref fr, .ref qu, .int 0, .ref me, .ref by_, .int 0, .int 0, .int 0, .int 0, .int 0, .ref nx, .int 0])), (nw, .inl (cy 1, 122, .inl F))]) [0, 1] rfl) (hD.sub (ws' := [(mm, .inr (11, [.ref nw, .ref kp, .ref ik, .ref rf, .int 0, .int 0, .ref sd, .ref fr, .ref qu, .int 0, .ref me, .ref by_, .int 0, .int 0, .int 0, .int 0, .int 0, .ref nx, .int 0])), (nw, .inl (cy 1, 122, .inl F))]) [0, 1] (by decide) rfl) hS ls (lv_sub hl [2, 3, 4, 1, 0] rfl)

set_option maxHeartbeats 4000000 in
set_option maxRecDepth 100000 in
theorem m_manyOf20 (l : Launch) (D : va_G) (cy : Nat → ClassId) (mm nw kp ik rf sd fr qu me by_ nx : Nat) (F : Nat → Int32) (sz : Nat) (h0 : F 0 = 6) (h1 : F 1 = 6) (h2 : F 2 = 1) (hz : ∀ k, 3 ≤ k → k < 122 → F k = 0) : Met l yX11_manyOf wsX11_manyOf ({ frames := 1, cells := 0, slots := 0, locals := 20 }) (va_Pc [.ref mm, .int 20] (kPre D cy [(mm, .inr (11, [.ref nw, .ref kp, .ref ik, .ref rf, .int 0, .int 0, .ref sd, .ref fr, .ref qu, .int 0, .ref me, .ref by_, .int 0, .int 0, .int 0, .int 0, .int 0, .ref nx, .int 0])), (nw, .inl (cy 1, 122, .inl F))] sz)) (va_Qi (fun (r : Int32) (_ : Unit) => r = 0) (fun _ _ => True) (fun q : Nat => sz ≤ q)) 0 0 (fun q : Nat => sz ≤ q) := by
  refine Met.ofW (cc := cX11_manyOf) (maxL := 4) (ret := (some .int)) (by decide) rfl ?_
  intro p e s m args below meth c s₁ B hml hv
  obtain ⟨rfl, hsz, hP, hKA, hD0⟩ := hv
  have hx := B.exec
  have hb := B.bytes
  have hr := B.returns
  have hts := atoms_spec (ws := wsX11_manyOf) B.pre
  have hown : s.vm.findClass RX11 = some m.cls := findClass_of_methodNamed B.named
  have hlocks := B.notSynchronized
  subst hsz
  have hK := hKA.1
  have hD := hD0
  generalize hAe : (fun q : Nat => s.heap.size ≤ q) = A
  have hA : ∀ q : Nat, s.heap.size ≤ q → A q := fun q h => by rw [← hAe]; exact h
  have hS : va_S A s.heap s.heap [] := va_S.rf
  have hP : va_P D vwCl [(mm, .inr (11, [.ref nw, .ref kp, .ref ik, .ref rf, .int 0, .int 0, .ref sd, .ref fr, .ref qu, .int 0, .ref me, .ref by_, .int 0, .int 0, .int 0, .int 0, .int 0, .ref nx, .int 0])), (nw, .inl (cy 1, 122, .inl F))] s.heap := hP
  have hl := lv_entry ([.ref mm, .int 20]) (n := 4) (Nat.le_of_ble_eq_true rfl)
  rw [lg_entry_eq]
  generalize (lg_sl ([.ref mm, .int 20]) ++ List.replicate (4 - (lg_sl ([.ref mm, .int 20])).length) Slot.unset).toArray = ls at hl ⊢
  have hl : lv_has ls 4 [(0, .ref mm), (1, .int 20)] := hl
  have z0_ := hts (.fieldLink RX11 7 "HeardSeenModel" "now" "[I") (by decide +kernel)
  have zi11_ : ∀ w ∈ u_ws RX11 TX11 19, w ∈ wsX11_manyOf := by decide +kernel
  refine lv_iconst (v := 0) hx hb dX11_manyOf_0 (by decide) ?_
  refine lv_istore_n (lv' := [(2, .int 0), (0, .ref mm), (1, .int 20)]) hx hb dX11_manyOf_1 rfl hl (by decide) rfl (fun ls hl => ?_)
  refine lv_iconst (v := 0) hx hb dX11_manyOf_2 (by decide) ?_
  refine lv_istore_n (lv' := [(3, .int 0), (2, .int 0), (0, .ref mm), (1, .int 20)]) hx hb dX11_manyOf_3 rfl hl (by decide) rfl (fun ls hl => ?_)
  have lp4 : ∀ (n4 : Nat) (k : Nat), k ≤ 36 → 36 - k < n4 → ∀ (H : Heap) (locs : List Loc), va_P D vwCl [(mm, .inr (11, [.ref nw, .ref kp, .ref ik, .ref rf, .int 0, .int 0, .ref sd, .ref fr, .ref qu, .int 0, .ref me, .ref by_, .int 0, .int 0, .int 0, .int 0, .int 0, .ref nx, .int 0])), (nw, .inl (cy 1, 122, .inl F))] H → va_D (fun _ => True) [(mm, .inr (11, [.ref nw, .ref kp, .ref ik, .ref rf, .int 0, .int 0, .ref sd, .ref fr, .ref qu, .int 0, .ref me, .ref by_, .int 0, .int 0, .int 0, .int 0, .int 0, .ref nx, .int 0])), (nw, .inl (cy 1, 122, .inl F))] → va_S A s.heap H locs → ∀ ls : Array Slot, lv_has ls 4 [(0, .ref mm), (1, .int 20), (2, .int 0), (3, .int (nI k))] → W p l e (headSpec wsX11_manyOf ({ frames := 1, cells := 0, slots := 0, locals := 20 })).room s m [.ref mm, .int 20].toArray below meth c H locs 0 0 (MQ below (va_Qi (fun (r : Int32) (_ : Unit) => r = 0) (fun _ _ => True) A) [.ref mm, .int 20].toArray s 0 0 A) (F0 m 4 ls []) := by
    intro n4
    induction n4 with
    | zero => intro k hk hm; exact absurd hm (Nat.not_lt_zero _)
    | succ n4 ih4 =>
      intro k hk hm4 H locs hP hD hS ls hl
      refine lv_iload_n hx hb dX11_manyOf_4 rfl (lv_at hl 3 rfl) ?_
      refine lv_aload_n hx hb dX11_manyOf_5 rfl (lv_at hl 0 rfl) ?_
      refine rd_i (va_runV (As := []) (rest := [.int (nI k)]) ⟨hx, hb, hml, hown, hts⟩ (c_X11_squares l D cy mm nw kp ik rf sd fr qu me by_ nx F _) (cwV 0 hts gX11_manyOf_X11_squares rfl rfl rfl (by decide +kernel) ⟨Nat.le_of_ble_eq_true rfl, Nat.le_of_ble_eq_true rfl⟩) (pV (ci := 11) (k := 0) hKA (hP.sub (ws' := [(mm, .inr (11, [.ref nw, .ref kp, .ref ik, .ref rf, .int 0, .int 0, .ref sd, .ref fr, .ref qu, .int 0, .ref me, .ref by_, .int 0, .int 0, .int 0, .int 0, .int 0, .ref nx, .int 0])), (nw, .inl (cy 1, 122, .inl F))]) [0, 1] rfl) (hD.sub (ws' := [(mm, .inr (11, [.ref nw, .ref kp, .ref ik, .ref rf, .int 0, .int 0, .ref sd, .ref fr, .ref qu, .int 0, .ref me, .ref by_, .int 0, .int 0, .int 0, .int 0, .int 0, .ref nx, .int 0])), (nw, .inl (cy 1, 122, .inl F))]) [0, 1] (by decide) rfl) rfl rfl) rfl rfl hl.1 rfl (lv_room (Nat.le_of_ble_eq_true rfl)) dX11_manyOf_6 ⟨Nat.le_of_ble_eq_true rfl, Nat.le_of_ble_eq_true rfl⟩) hP hS hA (fun r1 H locs hwr1 hP hS => ?_)
      obtain rfl : r1 = 36 := by rw [hwr1]; rw [h0, h1]; decide
      refine lv_icmp_ge (tgt := 29) hx hb dX11_manyOf_9 (by decide) (fun c2 => ?_) (fun c2 => ?_)
      · skip
        refine lv_iload_n hx hb dX11_manyOf_29 rfl (lv_at hl 2 rfl) ?_
        exact W.iret (v := 0) hx hb hr (fun t ht hW => ⟨⟨0, (), rfl, rfl, trivial⟩, hS.F ht⟩) hS.2.2 dX11_manyOf_30
      · skip
        have hk36 := nlt_of (n := 36) rfl hk (by decide) (by assumption)
        refine lv_iload_n hx hb dX11_manyOf_12 rfl (lv_at hl 2 rfl) ?_
        refine lv_aload_n hx hb dX11_manyOf_13 rfl (lv_at hl 0 rfl) ?_
        refine va_get (D := D) (ci := 11) (v := .ref nw) (C := RX11) (T := TX11) (N := 19) hx hb hts zi11_ hown hK hP 0 rfl rfl 0 (by decide) z0_ (fun _ h9 => h9) rfl dX11_manyOf_14 ?_
        refine lv_iload_n hx hb dX11_manyOf_17 rfl (lv_at hl 1 rfl) ?_
        refine lv_iload_n hx hb dX11_manyOf_18 rfl (lv_at hl 3 rfl) ?_
        refine lv_iadd hx hb dX11_manyOf_19 ?_
        refine lv_topi (fun x3 ex3 => ?_)
        obtain rfl : x3 = nI (20 + k) := by rw [ex3]; exact nI_add _ _
        refine my_iald hx hb hK hP 1 1 rfl rfl (vp_in_nI (by omega) (by decide)) (nI_clamp (by omega)) dX11_manyOf_20 ?_
        rw [show F (20 + k) = 0 from hz (20 + k) (by omega) (by omega)]
        refine lv_iadd hx hb dX11_manyOf_21 ?_
        refine lv_topi (fun x4 ex4 => ?_)
        obtain rfl : x4 = 0 := by rw [ex4]; decide +kernel
        refine lv_istore_n (lv' := [(2, .int 0), (0, .ref mm), (1, .int 20), (3, .int (nI k))]) hx hb dX11_manyOf_22 rfl hl (by decide) rfl (fun ls hl => ?_)
        refine lv_iinc (v := nI (k + 1)) (lv' := [(3, .int (nI (k + 1))), (2, .int 0), (0, .ref mm), (1, .int 20)]) hx hb dX11_manyOf_23 hl (k := 3) rfl (nI_1 _) (by decide) rfl (fun ls hl => ?_)
        refine lv_goto (tgt := 4) hx hb dX11_manyOf_26 (by decide) ?_
        exact ih4 (k + 1) (by omega) (by omega) _ _ (hP.sub (ws' := [(mm, .inr (11, [.ref nw, .ref kp, .ref ik, .ref rf, .int 0, .int 0, .ref sd, .ref fr, .ref qu, .int 0, .ref me, .ref by_, .int 0, .int 0, .int 0, .int 0, .int 0, .ref nx, .int 0])), (nw, .inl (cy 1, 122, .inl F))]) [0, 1] rfl) (hD.sub (ws' := [(mm, .inr (11, [.ref nw, .ref kp, .ref ik, .ref rf, .int 0, .int 0, .ref sd, .ref fr, .ref qu, .int 0, .ref me, .ref by_, .int 0, .int 0, .int 0, .int 0, .int 0, .ref nx, .int 0])), (nw, .inl (cy 1, 122, .inl F))]) [0, 1] (by decide) rfl) hS ls (lv_sub hl [2, 3, 1, 0] rfl)
  exact lp4 (36 - 0 + 1) 0 (by omega) (Nat.lt_succ_self _) _ _ (hP.sub (ws' := [(mm, .inr (11, [.ref nw, .ref kp, .ref ik, .ref rf, .int 0, .int 0, .ref sd, .ref fr, .ref qu, .int 0, .ref me, .ref by_, .int 0, .int 0, .int 0, .int 0, .int 0, .ref nx, .int 0])), (nw, .inl (cy 1, 122, .inl F))]) [0, 1] rfl) (hD.sub (ws' := [(mm, .inr (11, [.ref nw, .ref kp, .ref ik, .ref rf, .int 0, .int 0, .ref sd, .ref fr, .ref qu, .int 0, .ref me, .ref by_, .int 0, .int 0, .int 0, .int 0, .int 0, .ref nx, .int 0])), (nw, .inl (cy 1, 122, .inl F))]) [0, 1] (by decide) rfl) hS ls (lv_sub hl [2, 3, 1, 0] rfl)

set_option maxHeartbeats 4000000 in
set_option maxRecDepth 100000 in
theorem m_manyOf56 (l : Launch) (D : va_G) (cy : Nat → ClassId) (mm nw kp ik rf sd fr qu me by_ nx : Nat) (F : Nat → Int32) (sz : Nat) (h0 : F 0 = 6) (h1 : F 1 = 6) (h2 : F 2 = 1) (hz : ∀ k, 3 ≤ k → k < 122 → F k = 0) : Met l yX11_manyOf wsX11_manyOf ({ frames := 1, cells := 0, slots := 0, locals := 20 }) (va_Pc [.ref mm, .int 56] (kPre D cy [(mm, .inr (11, [.ref nw, .ref kp, .ref ik, .ref rf, .int 0, .int 0, .ref sd, .ref fr, .ref qu, .int 0, .ref me, .ref by_, .int 0, .int 0, .int 0, .int 0, .int 0, .ref nx, .int 0])), (nw, .inl (cy 1, 122, .inl F))] sz)) (va_Qi (fun (r : Int32) (_ : Unit) => r = 0) (fun _ _ => True) (fun q : Nat => sz ≤ q)) 0 0 (fun q : Nat => sz ≤ q) := by
  refine Met.ofW (cc := cX11_manyOf) (maxL := 4) (ret := (some .int)) (by decide) rfl ?_
  intro p e s m args below meth c s₁ B hml hv
  obtain ⟨rfl, hsz, hP, hKA, hD0⟩ := hv
  have hx := B.exec
  have hb := B.bytes
  have hr := B.returns
  have hts := atoms_spec (ws := wsX11_manyOf) B.pre
  have hown : s.vm.findClass RX11 = some m.cls := findClass_of_methodNamed B.named
  have hlocks := B.notSynchronized
  subst hsz
  have hK := hKA.1
  have hD := hD0
  generalize hAe : (fun q : Nat => s.heap.size ≤ q) = A
  have hA : ∀ q : Nat, s.heap.size ≤ q → A q := fun q h => by rw [← hAe]; exact h
  have hS : va_S A s.heap s.heap [] := va_S.rf
  have hP : va_P D vwCl [(mm, .inr (11, [.ref nw, .ref kp, .ref ik, .ref rf, .int 0, .int 0, .ref sd, .ref fr, .ref qu, .int 0, .ref me, .ref by_, .int 0, .int 0, .int 0, .int 0, .int 0, .ref nx, .int 0])), (nw, .inl (cy 1, 122, .inl F))] s.heap := hP
  have hl := lv_entry ([.ref mm, .int 56]) (n := 4) (Nat.le_of_ble_eq_true rfl)
  rw [lg_entry_eq]
  generalize (lg_sl ([.ref mm, .int 56]) ++ List.replicate (4 - (lg_sl ([.ref mm, .int 56])).length) Slot.unset).toArray = ls at hl ⊢
  have hl : lv_has ls 4 [(0, .ref mm), (1, .int 56)] := hl
  have z0_ := hts (.fieldLink RX11 7 "HeardSeenModel" "now" "[I") (by decide +kernel)
  have zi11_ : ∀ w ∈ u_ws RX11 TX11 19, w ∈ wsX11_manyOf := by decide +kernel
  refine lv_iconst (v := 0) hx hb dX11_manyOf_0 (by decide) ?_
  refine lv_istore_n (lv' := [(2, .int 0), (0, .ref mm), (1, .int 56)]) hx hb dX11_manyOf_1 rfl hl (by decide) rfl (fun ls hl => ?_)
  refine lv_iconst (v := 0) hx hb dX11_manyOf_2 (by decide) ?_
  refine lv_istore_n (lv' := [(3, .int 0), (2, .int 0), (0, .ref mm), (1, .int 56)]) hx hb dX11_manyOf_3 rfl hl (by decide) rfl (fun ls hl => ?_)
  have lp4 : ∀ (n4 : Nat) (k : Nat), k ≤ 36 → 36 - k < n4 → ∀ (H : Heap) (locs : List Loc), va_P D vwCl [(mm, .inr (11, [.ref nw, .ref kp, .ref ik, .ref rf, .int 0, .int 0, .ref sd, .ref fr, .ref qu, .int 0, .ref me, .ref by_, .int 0, .int 0, .int 0, .int 0, .int 0, .ref nx, .int 0])), (nw, .inl (cy 1, 122, .inl F))] H → va_D (fun _ => True) [(mm, .inr (11, [.ref nw, .ref kp, .ref ik, .ref rf, .int 0, .int 0, .ref sd, .ref fr, .ref qu, .int 0, .ref me, .ref by_, .int 0, .int 0, .int 0, .int 0, .int 0, .ref nx, .int 0])), (nw, .inl (cy 1, 122, .inl F))] → va_S A s.heap H locs → ∀ ls : Array Slot, lv_has ls 4 [(0, .ref mm), (1, .int 56), (2, .int 0), (3, .int (nI k))] → W p l e (headSpec wsX11_manyOf ({ frames := 1, cells := 0, slots := 0, locals := 20 })).room s m [.ref mm, .int 56].toArray below meth c H locs 0 0 (MQ below (va_Qi (fun (r : Int32) (_ : Unit) => r = 0) (fun _ _ => True) A) [.ref mm, .int 56].toArray s 0 0 A) (F0 m 4 ls []) := by
    intro n4
    induction n4 with
    | zero => intro k hk hm; exact absurd hm (Nat.not_lt_zero _)
    | succ n4 ih4 =>
      intro k hk hm4 H locs hP hD hS ls hl
      refine lv_iload_n hx hb dX11_manyOf_4 rfl (lv_at hl 3 rfl) ?_
      refine lv_aload_n hx hb dX11_manyOf_5 rfl (lv_at hl 0 rfl) ?_
      refine rd_i (va_runV (As := []) (rest := [.int (nI k)]) ⟨hx, hb, hml, hown, hts⟩ (c_X11_squares l D cy mm nw kp ik rf sd fr qu me by_ nx F _) (cwV 0 hts gX11_manyOf_X11_squares rfl rfl rfl (by decide +kernel) ⟨Nat.le_of_ble_eq_true rfl, Nat.le_of_ble_eq_true rfl⟩) (pV (ci := 11) (k := 0) hKA (hP.sub (ws' := [(mm, .inr (11, [.ref nw, .ref kp, .ref ik, .ref rf, .int 0, .int 0, .ref sd, .ref fr, .ref qu, .int 0, .ref me, .ref by_, .int 0, .int 0, .int 0, .int 0, .int 0, .ref nx, .int 0])), (nw, .inl (cy 1, 122, .inl F))]) [0, 1] rfl) (hD.sub (ws' := [(mm, .inr (11, [.ref nw, .ref kp, .ref ik, .ref rf, .int 0, .int 0, .ref sd, .ref fr, .ref qu, .int 0, .ref me, .ref by_, .int 0, .int 0, .int 0, .int 0, .int 0, .ref nx, .int 0])), (nw, .inl (cy 1, 122, .inl F))]) [0, 1] (by decide) rfl) rfl rfl) rfl rfl hl.1 rfl (lv_room (Nat.le_of_ble_eq_true rfl)) dX11_manyOf_6 ⟨Nat.le_of_ble_eq_true rfl, Nat.le_of_ble_eq_true rfl⟩) hP hS hA (fun r1 H locs hwr1 hP hS => ?_)
      obtain rfl : r1 = 36 := by rw [hwr1]; rw [h0, h1]; decide
      refine lv_icmp_ge (tgt := 29) hx hb dX11_manyOf_9 (by decide) (fun c2 => ?_) (fun c2 => ?_)
      · skip
        refine lv_iload_n hx hb dX11_manyOf_29 rfl (lv_at hl 2 rfl) ?_
        exact W.iret (v := 0) hx hb hr (fun t ht hW => ⟨⟨0, (), rfl, rfl, trivial⟩, hS.F ht⟩) hS.2.2 dX11_manyOf_30
      · skip
        have hk36 := nlt_of (n := 36) rfl hk (by decide) (by assumption)
        refine lv_iload_n hx hb dX11_manyOf_12 rfl (lv_at hl 2 rfl) ?_
        refine lv_aload_n hx hb dX11_manyOf_13 rfl (lv_at hl 0 rfl) ?_
        refine va_get (D := D) (ci := 11) (v := .ref nw) (C := RX11) (T := TX11) (N := 19) hx hb hts zi11_ hown hK hP 0 rfl rfl 0 (by decide) z0_ (fun _ h9 => h9) rfl dX11_manyOf_14 ?_
        refine lv_iload_n hx hb dX11_manyOf_17 rfl (lv_at hl 1 rfl) ?_
        refine lv_iload_n hx hb dX11_manyOf_18 rfl (lv_at hl 3 rfl) ?_
        refine lv_iadd hx hb dX11_manyOf_19 ?_
        refine lv_topi (fun x3 ex3 => ?_)
        obtain rfl : x3 = nI (56 + k) := by rw [ex3]; exact nI_add _ _
        refine my_iald hx hb hK hP 1 1 rfl rfl (vp_in_nI (by omega) (by decide)) (nI_clamp (by omega)) dX11_manyOf_20 ?_
        rw [show F (56 + k) = 0 from hz (56 + k) (by omega) (by omega)]
        refine lv_iadd hx hb dX11_manyOf_21 ?_
        refine lv_topi (fun x4 ex4 => ?_)
        obtain rfl : x4 = 0 := by rw [ex4]; decide +kernel
        refine lv_istore_n (lv' := [(2, .int 0), (0, .ref mm), (1, .int 56), (3, .int (nI k))]) hx hb dX11_manyOf_22 rfl hl (by decide) rfl (fun ls hl => ?_)
        refine lv_iinc (v := nI (k + 1)) (lv' := [(3, .int (nI (k + 1))), (2, .int 0), (0, .ref mm), (1, .int 56)]) hx hb dX11_manyOf_23 hl (k := 3) rfl (nI_1 _) (by decide) rfl (fun ls hl => ?_)
        refine lv_goto (tgt := 4) hx hb dX11_manyOf_26 (by decide) ?_
        exact ih4 (k + 1) (by omega) (by omega) _ _ (hP.sub (ws' := [(mm, .inr (11, [.ref nw, .ref kp, .ref ik, .ref rf, .int 0, .int 0, .ref sd, .ref fr, .ref qu, .int 0, .ref me, .ref by_, .int 0, .int 0, .int 0, .int 0, .int 0, .ref nx, .int 0])), (nw, .inl (cy 1, 122, .inl F))]) [0, 1] rfl) (hD.sub (ws' := [(mm, .inr (11, [.ref nw, .ref kp, .ref ik, .ref rf, .int 0, .int 0, .ref sd, .ref fr, .ref qu, .int 0, .ref me, .ref by_, .int 0, .int 0, .int 0, .int 0, .int 0, .ref nx, .int 0])), (nw, .inl (cy 1, 122, .inl F))]) [0, 1] (by decide) rfl) hS ls (lv_sub hl [2, 3, 1, 0] rfl)
  exact lp4 (36 - 0 + 1) 0 (by omega) (Nat.lt_succ_self _) _ _ (hP.sub (ws' := [(mm, .inr (11, [.ref nw, .ref kp, .ref ik, .ref rf, .int 0, .int 0, .ref sd, .ref fr, .ref qu, .int 0, .ref me, .ref by_, .int 0, .int 0, .int 0, .int 0, .int 0, .ref nx, .int 0])), (nw, .inl (cy 1, 122, .inl F))]) [0, 1] rfl) (hD.sub (ws' := [(mm, .inr (11, [.ref nw, .ref kp, .ref ik, .ref rf, .int 0, .int 0, .ref sd, .ref fr, .ref qu, .int 0, .ref me, .ref by_, .int 0, .int 0, .int 0, .int 0, .int 0, .ref nx, .int 0])), (nw, .inl (cy 1, 122, .inl F))]) [0, 1] (by decide) rfl) hS ls (lv_sub hl [2, 3, 1, 0] rfl)

theorem z_c05 {x : Int32} (h0 : ¬ x = 0) (h1 : ¬ x = 1) (h2 : ¬ x = 2) (h3 : ¬ x = 3) (h4 : ¬ x = 4) (h5 : ¬ x = 5) : ¬ (0 ≤ x ∧ x ≤ 5) := by
  intro q
  have a := (z_le _ _).mp q.1
  have b := (z_le _ _).mp q.2
  rw [z_eq] at h0 h1 h2 h3 h4 h5
  have c0 : (0 : Int32).toInt = 0 := by decide
  have c1 : (1 : Int32).toInt = 1 := by decide
  have c2 : (2 : Int32).toInt = 2 := by decide
  have c3 : (3 : Int32).toInt = 3 := by decide
  have c4 : (4 : Int32).toInt = 4 := by decide
  have c5 : (5 : Int32).toInt = 5 := by decide
  omega
theorem z_6 {x : Int32} (h0 : 0 ≤ x) (h6 : x ≤ 6) (h : ¬ (0 ≤ x ∧ x ≤ 5)) : x = 6 := by
  rw [z_eq]
  have c6 : (6 : Int32).toInt = 6 := by decide
  have c5 : (5 : Int32).toInt = 5 := by decide
  have a := (z_le _ _).mp h6
  have b : ¬ x ≤ 5 := fun q => h ⟨h0, q⟩
  rw [z_le] at b
  omega
theorem z_n6 {x : Int32} (h : ¬ (0 ≤ x ∧ x ≤ 6)) : ¬ (0 ≤ x ∧ x ≤ 5) ∧ ¬ x = 6 := by
  refine ⟨fun q => h ⟨q.1, ?_⟩, fun q => h (by rw [q]; decide)⟩
  rw [z_le]
  have c6 : (6 : Int32).toInt = 6 := by decide
  have c5 : (5 : Int32).toInt = 5 := by decide
  have a := (z_le _ _).mp q.2
  omega
theorem z_st {x : Int32} (h0 : 0 ≤ x) (h2 : x ≤ 2) : sp_status x = 0 := by
  have a := (z_le _ _).mp h0
  have b := (z_le _ _).mp h2
  unfold sp_status
  split
  · rfl
  split
  · rfl
  split
  · rfl
  exfalso
  rename_i p q r
  rw [z_eq] at p q r
  have c0 : (0 : Int32).toInt = 0 := by decide
  have c1 : (1 : Int32).toInt = 1 := by decide
  have c2 : (2 : Int32).toInt = 2 := by decide
  omega
theorem z_nst {x : Int32} (h : ¬ (0 ≤ x ∧ x ≤ 2)) : sp_status x = -1 := by
  unfold sp_status
  rw [if_neg (fun q => h (by rw [q]; decide)), if_neg (fun q => h (by rw [q]; decide)), if_neg (fun q => h (by rw [q]; decide))]
theorem z_in3 {x : Int32} (h0 : 0 ≤ x) (h2 : x ≤ 2) : vp_in x 3 := by
  have a := (z_le _ _).mp h0
  have b := (z_le _ _).mp h2
  have c0 : (0 : Int32).toInt = 0 := by decide
  have c2 : (2 : Int32).toInt = 2 := by decide
  rw [vp_in_iff]
  omega
theorem z_cl {x : Int32} (h0 : 0 ≤ x) (h1 : x ≤ 1) : sp_clears x = 0 := by
  have a := (z_le _ _).mp h0
  have b := (z_le _ _).mp h1
  unfold sp_clears
  split
  · rfl
  split
  · rfl
  exfalso
  rename_i p q
  rw [z_eq] at p q
  have c0 : (0 : Int32).toInt = 0 := by decide
  have c1 : (1 : Int32).toInt = 1 := by decide
  omega
theorem z_ncl {x : Int32} (h : ¬ (0 ≤ x ∧ x ≤ 1)) : sp_clears x = -2 := by
  unfold sp_clears
  rw [if_neg (fun q => h (by rw [q]; decide)), if_neg (fun q => h (by rw [q]; decide))]
theorem z_nn2 {q : Int32} (h1 : 0 ≤ q) (h2 : q ≤ 1) : ∃ j : Nat, j < 2 ∧ q = nI j := z_nn (N := 2) (by decide) h1 (by rw [z_lt]; have a := (z_le _ _).mp h2; have c1 : (1 : Int32).toInt = 1 := (by decide); have c2 : (2 : Int32).toInt = 2 := (by decide); omega)

set_option maxHeartbeats 4000000 in
set_option maxRecDepth 100000 in
theorem m_counted (l : Launch) (D : va_G) (cy : Nat → ClassId) (mm nw kp ik rf sd fr qu me by_ nx : Nat) (F : Nat → Int32) (x : Int32) (sz : Nat) (h0 : F 0 = 6) (h1 : F 1 = 6) (h2 : F 2 = 1) (hz : ∀ k, 3 ≤ k → k < 122 → F k = 0) : Met l yX11_counted wsX11_counted ({ frames := 2, cells := 0, slots := 0, locals := 43 }) (va_Pc [.ref mm, .int x] (kPre D cy [(mm, .inr (11, [.ref nw, .ref kp, .ref ik, .ref rf, .int 0, .int 0, .ref sd, .ref fr, .ref qu, .int 0, .ref me, .ref by_, .int 0, .int 0, .int 0, .int 0, .int 0, .ref nx, .int 0])), (nw, .inl (cy 1, 122, .inl F))] sz)) (va_Qi (fun (r : Int32) (_ : Unit) => (r = 0 ∧ 0 ≤ x ∧ x ≤ 5) ∨ (r = 36 ∧ ¬ (0 ≤ x ∧ x ≤ 5))) (fun _ _ => True) (fun q : Nat => sz ≤ q)) 0 0 (fun q : Nat => sz ≤ q) := by
  refine Met.ofW (cc := cX11_counted) (maxL := 2) (ret := (some .int)) (by decide) rfl ?_
  intro p e s m args below meth c s₁ B hml hv
  obtain ⟨rfl, hsz, hP, hKA, hD0⟩ := hv
  have hx := B.exec
  have hb := B.bytes
  have hr := B.returns
  have hts := atoms_spec (ws := wsX11_counted) B.pre
  have hown : s.vm.findClass RX11 = some m.cls := findClass_of_methodNamed B.named
  have hlocks := B.notSynchronized
  subst hsz
  have hK := hKA.1
  have hD := hD0
  generalize hAe : (fun q : Nat => s.heap.size ≤ q) = A
  have hA : ∀ q : Nat, s.heap.size ≤ q → A q := fun q h => by rw [← hAe]; exact h
  have hS : va_S A s.heap s.heap [] := va_S.rf
  have hP : va_P D vwCl [(mm, .inr (11, [.ref nw, .ref kp, .ref ik, .ref rf, .int 0, .int 0, .ref sd, .ref fr, .ref qu, .int 0, .ref me, .ref by_, .int 0, .int 0, .int 0, .int 0, .int 0, .ref nx, .int 0])), (nw, .inl (cy 1, 122, .inl F))] s.heap := hP
  have hl := lv_entry ([.ref mm, .int x]) (n := 2) (Nat.le_of_ble_eq_true rfl)
  rw [lg_entry_eq]
  generalize (lg_sl ([.ref mm, .int x]) ++ List.replicate (2 - (lg_sl ([.ref mm, .int x])).length) Slot.unset).toArray = ls at hl ⊢
  have hl : lv_has ls 2 [(0, .ref mm), (1, .int x)] := hl
  have z0_ := hts (.fieldLink RX11 7 "HeardSeenModel" "now" "[I") (by decide +kernel)
  have zi11_ : ∀ w ∈ u_ws RX11 TX11 19, w ∈ wsX11_counted := by decide +kernel
  have z2_ := hts (.fieldLink RX11 196 "HeardSeenModel" "bytesLong" "I") (by decide +kernel)
  refine lv_iload_n hx hb dX11_counted_0 rfl (lv_at hl 1 rfl) ?_
  by_cases c1 : x = 0
  · skip
    refine lv_tableIn (tgt := 40) hx hb dX11_counted_1 (by rw [c1]; decide) (by rw [c1]; decide) (by rw [c1]; rfl) (by decide) ?_
    refine lv_aload_n hx hb dX11_counted_40 rfl (lv_at hl 0 rfl) ?_
    refine rd_i (va_runV (As := []) (rest := []) ⟨hx, hb, hml, hown, hts⟩ (c_X11_people l D cy mm nw kp ik rf sd fr qu me by_ nx F _) (cwV 0 hts gX11_counted_X11_people rfl rfl rfl (by decide +kernel) ⟨Nat.le_of_ble_eq_true rfl, Nat.le_of_ble_eq_true rfl⟩) (pV (ci := 11) (k := 0) hKA (hP.sub (ws' := [(mm, .inr (11, [.ref nw, .ref kp, .ref ik, .ref rf, .int 0, .int 0, .ref sd, .ref fr, .ref qu, .int 0, .ref me, .ref by_, .int 0, .int 0, .int 0, .int 0, .int 0, .ref nx, .int 0])), (nw, .inl (cy 1, 122, .inl F))]) [0, 1] rfl) (hD.sub (ws' := [(mm, .inr (11, [.ref nw, .ref kp, .ref ik, .ref rf, .int 0, .int 0, .ref sd, .ref fr, .ref qu, .int 0, .ref me, .ref by_, .int 0, .int 0, .int 0, .int 0, .int 0, .ref nx, .int 0])), (nw, .inl (cy 1, 122, .inl F))]) [0, 1] (by decide) rfl) rfl rfl) rfl rfl hl.1 rfl (lv_room (Nat.le_of_ble_eq_true rfl)) dX11_counted_41 ⟨Nat.le_of_ble_eq_true rfl, Nat.le_of_ble_eq_true rfl⟩) hP hS hA (fun r2 H locs hwr2 hP hS => ?_)
    obtain rfl : r2 = 0 := by rw [hwr2]; exact hz 4 (by decide) (by decide)
    exact W.iret (v := 0) hx hb hr (fun t ht hW => ⟨⟨0, (), rfl, (Or.inl ⟨rfl, by rw [c1]; decide, by rw [c1]; decide⟩), trivial⟩, hS.F ht⟩) hS.2.2 dX11_counted_44
  by_cases c3 : x = 1
  · skip
    refine lv_tableIn (tgt := 45) hx hb dX11_counted_1 (by rw [c3]; decide) (by rw [c3]; decide) (by rw [c3]; rfl) (by decide) ?_
    refine lv_aload_n hx hb dX11_counted_45 rfl (lv_at hl 0 rfl) ?_
    refine lv_bipush (v := 20) hx hb dX11_counted_46 (by decide) ?_
    refine rd_i (va_runV (As := [.int 20]) (rest := []) ⟨hx, hb, hml, hown, hts⟩ (m_manyOf20 l D cy mm nw kp ik rf sd fr qu me by_ nx F _ h0 h1 h2 hz) (cwV 1 hts gX11_counted_X11_manyOf rfl rfl rfl (by decide +kernel) ⟨Nat.le_of_ble_eq_true rfl, Nat.le_of_ble_eq_true rfl⟩) (pV (ci := 11) (k := 0) hKA (hP.sub (ws' := [(mm, .inr (11, [.ref nw, .ref kp, .ref ik, .ref rf, .int 0, .int 0, .ref sd, .ref fr, .ref qu, .int 0, .ref me, .ref by_, .int 0, .int 0, .int 0, .int 0, .int 0, .ref nx, .int 0])), (nw, .inl (cy 1, 122, .inl F))]) [0, 1] rfl) (hD.sub (ws' := [(mm, .inr (11, [.ref nw, .ref kp, .ref ik, .ref rf, .int 0, .int 0, .ref sd, .ref fr, .ref qu, .int 0, .ref me, .ref by_, .int 0, .int 0, .int 0, .int 0, .int 0, .ref nx, .int 0])), (nw, .inl (cy 1, 122, .inl F))]) [0, 1] (by decide) rfl) rfl rfl) rfl rfl hl.1 rfl (lv_room (Nat.le_of_ble_eq_true rfl)) dX11_counted_48 ⟨Nat.le_of_ble_eq_true rfl, Nat.le_of_ble_eq_true rfl⟩) hP hS hA (fun r4 H locs hwr4 hP hS => ?_)
    rcases hwr4 with rfl
    · skip
      exact W.iret (v := 0) hx hb hr (fun t ht hW => ⟨⟨0, (), rfl, (Or.inl ⟨rfl, by rw [c3]; decide, by rw [c3]; decide⟩), trivial⟩, hS.F ht⟩) hS.2.2 dX11_counted_51
  by_cases c5 : x = 2
  · skip
    refine lv_tableIn (tgt := 52) hx hb dX11_counted_1 (by rw [c5]; decide) (by rw [c5]; decide) (by rw [c5]; rfl) (by decide) ?_
    refine lv_aload_n hx hb dX11_counted_52 rfl (lv_at hl 0 rfl) ?_
    refine lv_bipush (v := 56) hx hb dX11_counted_53 (by decide) ?_
    refine rd_i (va_runV (As := [.int 56]) (rest := []) ⟨hx, hb, hml, hown, hts⟩ (m_manyOf56 l D cy mm nw kp ik rf sd fr qu me by_ nx F _ h0 h1 h2 hz) (cwV 1 hts gX11_counted_X11_manyOf rfl rfl rfl (by decide +kernel) ⟨Nat.le_of_ble_eq_true rfl, Nat.le_of_ble_eq_true rfl⟩) (pV (ci := 11) (k := 0) hKA (hP.sub (ws' := [(mm, .inr (11, [.ref nw, .ref kp, .ref ik, .ref rf, .int 0, .int 0, .ref sd, .ref fr, .ref qu, .int 0, .ref me, .ref by_, .int 0, .int 0, .int 0, .int 0, .int 0, .ref nx, .int 0])), (nw, .inl (cy 1, 122, .inl F))]) [0, 1] rfl) (hD.sub (ws' := [(mm, .inr (11, [.ref nw, .ref kp, .ref ik, .ref rf, .int 0, .int 0, .ref sd, .ref fr, .ref qu, .int 0, .ref me, .ref by_, .int 0, .int 0, .int 0, .int 0, .int 0, .ref nx, .int 0])), (nw, .inl (cy 1, 122, .inl F))]) [0, 1] (by decide) rfl) rfl rfl) rfl rfl hl.1 rfl (lv_room (Nat.le_of_ble_eq_true rfl)) dX11_counted_55 ⟨Nat.le_of_ble_eq_true rfl, Nat.le_of_ble_eq_true rfl⟩) hP hS hA (fun r6 H locs hwr6 hP hS => ?_)
    rcases hwr6 with rfl
    · skip
      exact W.iret (v := 0) hx hb hr (fun t ht hW => ⟨⟨0, (), rfl, (Or.inl ⟨rfl, by rw [c5]; decide, by rw [c5]; decide⟩), trivial⟩, hS.F ht⟩) hS.2.2 dX11_counted_58
  by_cases c7 : x = 3
  · skip
    refine lv_tableIn (tgt := 59) hx hb dX11_counted_1 (by rw [c7]; decide) (by rw [c7]; decide) (by rw [c7]; rfl) (by decide) ?_
    refine lv_aload_n hx hb dX11_counted_59 rfl (lv_at hl 0 rfl) ?_
    refine va_get (D := D) (ci := 11) (v := .ref nw) (C := RX11) (T := TX11) (N := 19) hx hb hts zi11_ hown hK hP 0 rfl rfl 0 (by decide) z0_ (fun _ h9 => h9) rfl dX11_counted_60 ?_
    refine lv_bipush (v := 92) hx hb dX11_counted_63 (by decide) ?_
    refine my_iald hx hb hK hP 1 1 rfl rfl (by rw [vp_in_iff]; decide +kernel) (k := 92) (by decide +kernel) dX11_counted_65 ?_
    rw [show F 92 = 0 from hz 92 (by decide) (by decide)]
    exact W.iret (v := 0) hx hb hr (fun t ht hW => ⟨⟨0, (), rfl, (Or.inl ⟨rfl, by rw [c7]; decide, by rw [c7]; decide⟩), trivial⟩, hS.F ht⟩) hS.2.2 dX11_counted_66
  by_cases c8 : x = 4
  · skip
    refine lv_tableIn (tgt := 67) hx hb dX11_counted_1 (by rw [c8]; decide) (by rw [c8]; decide) (by rw [c8]; rfl) (by decide) ?_
    refine lv_aload_n hx hb dX11_counted_67 rfl (lv_at hl 0 rfl) ?_
    refine va_get (D := D) (ci := 11) (v := .ref nw) (C := RX11) (T := TX11) (N := 19) hx hb hts zi11_ hown hK hP 0 rfl rfl 0 (by decide) z0_ (fun _ h9 => h9) rfl dX11_counted_68 ?_
    refine lv_bipush (v := 105) hx hb dX11_counted_71 (by decide) ?_
    refine my_iald hx hb hK hP 1 1 rfl rfl (by rw [vp_in_iff]; decide +kernel) (k := 105) (by decide +kernel) dX11_counted_73 ?_
    rw [show F 105 = 0 from hz 105 (by decide) (by decide)]
    exact W.iret (v := 0) hx hb hr (fun t ht hW => ⟨⟨0, (), rfl, (Or.inl ⟨rfl, by rw [c8]; decide, by rw [c8]; decide⟩), trivial⟩, hS.F ht⟩) hS.2.2 dX11_counted_74
  by_cases c9 : x = 5
  · skip
    refine lv_tableIn (tgt := 75) hx hb dX11_counted_1 (by rw [c9]; decide) (by rw [c9]; decide) (by rw [c9]; rfl) (by decide) ?_
    refine lv_aload_n hx hb dX11_counted_75 rfl (lv_at hl 0 rfl) ?_
    refine va_get (D := D) (ci := 11) (v := .int 0) (C := RX11) (T := TX11) (N := 19) hx hb hts zi11_ hown hK hP 0 rfl rfl 12 (by decide) z2_ (fun _ h9 => h9) rfl dX11_counted_76 ?_
    exact W.iret (v := 0) hx hb hr (fun t ht hW => ⟨⟨0, (), rfl, (Or.inl ⟨rfl, by rw [c9]; decide, by rw [c9]; decide⟩), trivial⟩, hS.F ht⟩) hS.2.2 dX11_counted_79
  refine lv_tableOut (tgt := 80) hx hb dX11_counted_1 (by have q0 : ¬ x.toInt = 0 := fun h2 => absurd (Int32.toInt_inj.mp (h2.trans (by decide : (0 : Int) = (0 : Int32).toInt))) (by assumption); have q1 : ¬ x.toInt = 1 := fun h2 => absurd (Int32.toInt_inj.mp (h2.trans (by decide : (1 : Int) = (1 : Int32).toInt))) (by assumption); have q2 : ¬ x.toInt = 2 := fun h2 => absurd (Int32.toInt_inj.mp (h2.trans (by decide : (2 : Int) = (2 : Int32).toInt))) (by assumption); have q3 : ¬ x.toInt = 3 := fun h2 => absurd (Int32.toInt_inj.mp (h2.trans (by decide : (3 : Int) = (3 : Int32).toInt))) (by assumption); have q4 : ¬ x.toInt = 4 := fun h2 => absurd (Int32.toInt_inj.mp (h2.trans (by decide : (4 : Int) = (4 : Int32).toInt))) (by assumption); have q5 : ¬ x.toInt = 5 := fun h2 => absurd (Int32.toInt_inj.mp (h2.trans (by decide : (5 : Int) = (5 : Int32).toInt))) (by assumption); omega) (by decide) ?_
  refine lv_aload_n hx hb dX11_counted_80 rfl (lv_at hl 0 rfl) ?_
  refine rd_i (va_runV (As := []) (rest := []) ⟨hx, hb, hml, hown, hts⟩ (c_X11_squares l D cy mm nw kp ik rf sd fr qu me by_ nx F _) (cwV 0 hts gX11_counted_X11_squares rfl rfl rfl (by decide +kernel) ⟨Nat.le_of_ble_eq_true rfl, Nat.le_of_ble_eq_true rfl⟩) (pV (ci := 11) (k := 0) hKA (hP.sub (ws' := [(mm, .inr (11, [.ref nw, .ref kp, .ref ik, .ref rf, .int 0, .int 0, .ref sd, .ref fr, .ref qu, .int 0, .ref me, .ref by_, .int 0, .int 0, .int 0, .int 0, .int 0, .ref nx, .int 0])), (nw, .inl (cy 1, 122, .inl F))]) [0, 1] rfl) (hD.sub (ws' := [(mm, .inr (11, [.ref nw, .ref kp, .ref ik, .ref rf, .int 0, .int 0, .ref sd, .ref fr, .ref qu, .int 0, .ref me, .ref by_, .int 0, .int 0, .int 0, .int 0, .int 0, .ref nx, .int 0])), (nw, .inl (cy 1, 122, .inl F))]) [0, 1] (by decide) rfl) rfl rfl) rfl rfl hl.1 rfl (lv_room (Nat.le_of_ble_eq_true rfl)) dX11_counted_81 ⟨Nat.le_of_ble_eq_true rfl, Nat.le_of_ble_eq_true rfl⟩) hP hS hA (fun r10 H locs hwr10 hP hS => ?_)
  obtain rfl : r10 = 36 := by rw [hwr10]; rw [h0, h1]; decide
  exact W.iret (v := 36) hx hb hr (fun t ht hW => ⟨⟨36, (), rfl, (Or.inr ⟨rfl, z_c05 (by assumption) (by assumption) (by assumption) (by assumption) (by assumption) (by assumption)⟩), trivial⟩, hS.F ht⟩) hS.2.2 dX11_counted_84

set_option maxHeartbeats 4000000 in
set_option maxRecDepth 100000 in
theorem m_sums (l : Launch) (D : va_G) (cy : Nat → ClassId) (mm nw kp ik rf sd fr qu me by_ nx : Nat) (F : Nat → Int32) (h : Int64) (x : Int32) (sz : Nat)  : Met l yX11_sums wsX11_sums ({ frames := 0, cells := 0, slots := 0, locals := 0 }) (va_Pc [.ref mm, .long h, .int x, .int 0] (kPre D cy [(mm, .inr (11, [.ref nw, .ref kp, .ref ik, .ref rf, .int 0, .int 0, .ref sd, .ref fr, .ref qu, .int 0, .ref me, .ref by_, .int 0, .int 0, .int 0, .int 0, .int 0, .ref nx, .int 0])), (nw, .inl (cy 1, 122, .inl F))] sz)) (va_Ql (fun (r : Int64) (_ : Unit) => r = h) (fun _ _ => True) (fun q : Nat => sz ≤ q)) 0 0 (fun q : Nat => sz ≤ q) := by
  refine Met.ofW (cc := cX11_sums) (maxL := 8) (ret := (some .long)) (by decide) rfl ?_
  intro p e s m args below meth c s₁ B hml hv
  obtain ⟨rfl, hsz, hP, hKA, hD0⟩ := hv
  have hx := B.exec
  have hb := B.bytes
  have hr := B.returns
  have hts := atoms_spec (ws := wsX11_sums) B.pre
  have hown : s.vm.findClass RX11 = some m.cls := findClass_of_methodNamed B.named
  have hlocks := B.notSynchronized
  subst hsz
  have hK := hKA.1
  have hD := hD0
  generalize hAe : (fun q : Nat => s.heap.size ≤ q) = A
  have hA : ∀ q : Nat, s.heap.size ≤ q → A q := fun q h => by rw [← hAe]; exact h
  have hS : va_S A s.heap s.heap [] := va_S.rf
  have hP : va_P D vwCl [(mm, .inr (11, [.ref nw, .ref kp, .ref ik, .ref rf, .int 0, .int 0, .ref sd, .ref fr, .ref qu, .int 0, .ref me, .ref by_, .int 0, .int 0, .int 0, .int 0, .int 0, .ref nx, .int 0])), (nw, .inl (cy 1, 122, .inl F))] s.heap := hP
  have hl := lv_entry ([.ref mm, .long h, .int x, .int 0]) (n := 8) (Nat.le_of_ble_eq_true rfl)
  rw [lg_entry_eq]
  generalize (lg_sl ([.ref mm, .long h, .int x, .int 0]) ++ List.replicate (8 - (lg_sl ([.ref mm, .long h, .int x, .int 0])).length) Slot.unset).toArray = ls at hl ⊢
  have hl : lv_has ls 8 [(0, .ref mm), (1, .long h), (3, .int x), (4, .int 0)] := hl
  refine lv_lload_n hx hb dX11_sums_0 rfl (lv_at hl 1 rfl) ?_
  refine lv_lstore (lv' := [(5, .long h), (0, .ref mm), (1, .long h), (3, .int x), (4, .int 0)]) hx hb dX11_sums_1 hl (by decide) rfl (fun ls hl => ?_)
  refine lv_iconst (v := 0) hx hb dX11_sums_3 (by decide) ?_
  refine lv_istore (lv' := [(7, .int 0), (5, .long h), (0, .ref mm), (1, .long h), (3, .int x), (4, .int 0)]) hx hb dX11_sums_4 hl (by decide) rfl (fun ls hl => ?_)
  refine lv_iload hx hb dX11_sums_6 (lv_at hl 0 rfl) ?_
  refine lv_iload hx hb dX11_sums_8 (lv_at hl 5 rfl) ?_
  refine lv_icmp_ge (tgt := 38) hx hb dX11_sums_10 (by decide) (fun c1 => ?_) (fun c1 => absurd c1 (by decide))
  refine lv_lload hx hb dX11_sums_38 (lv_at hl 1 rfl) ?_
  exact W.lret (v := h) hx hb hr (fun t ht hW => ⟨⟨h, (), rfl, rfl, trivial⟩, hS.F ht⟩) hS.2.2 dX11_sums_40

set_option maxHeartbeats 4000000 in
set_option maxRecDepth 100000 in
theorem m_look (l : Launch) (D : va_G) (cy : Nat → ClassId) (mm nw kp ik rf sd fr qu me by_ nx : Nat) (sz : Nat)  : Met l yX11_look wsX11_look ({ frames := 0, cells := 0, slots := 0, locals := 0 }) (va_Pc [.ref mm, .int 0] (kPre D cy [(mm, .inr (11, [.ref nw, .ref kp, .ref ik, .ref rf, .int 0, .int 0, .ref sd, .ref fr, .ref qu, .int 0, .ref me, .ref by_, .int 0, .int 0, .int 0, .int 0, .int 0, .ref nx, .int 0]))] sz)) (va_Qv (fun (_ : Unit) => True) (fun (u : Unit) t => va_P D vwCl ([(mm, .inr (11, [.ref nw, .ref kp, .ref ik, .ref rf, .int 0, .int 0, .ref sd, .ref fr, .ref qu, .int 0, .ref me, .ref by_, .int 0, .int 0, .int 0, .int 0, .int 0, .ref nx, .int 0]))]) t.heap ∧ va_D (va_A [(mm, .inr (11, [.ref nw, .ref kp, .ref ik, .ref rf, .int 0, .int 0, .ref sd, .ref fr, .ref qu, .int 0, .ref me, .ref by_, .int 0, .int 0, .int 0, .int 0, .int 0, .ref nx, .int 0]))] sz) ([(mm, .inr (11, [.ref nw, .ref kp, .ref ik, .ref rf, .int 0, .int 0, .ref sd, .ref fr, .ref qu, .int 0, .ref me, .ref by_, .int 0, .int 0, .int 0, .int 0, .int 0, .ref nx, .int 0]))])) (va_A [(mm, .inr (11, [.ref nw, .ref kp, .ref ik, .ref rf, .int 0, .int 0, .ref sd, .ref fr, .ref qu, .int 0, .ref me, .ref by_, .int 0, .int 0, .int 0, .int 0, .int 0, .ref nx, .int 0]))] sz)) 0 0 (va_A [(mm, .inr (11, [.ref nw, .ref kp, .ref ik, .ref rf, .int 0, .int 0, .ref sd, .ref fr, .ref qu, .int 0, .ref me, .ref by_, .int 0, .int 0, .int 0, .int 0, .int 0, .ref nx, .int 0]))] sz) := by
  refine Met.ofW (cc := cX11_look) (maxL := 5) (ret := none) (by decide) rfl ?_
  intro p e s m args below meth c s₁ B hml hv
  obtain ⟨rfl, hsz, hP, hKA, hD0⟩ := hv
  have hx := B.exec
  have hb := B.bytes
  have hr := B.returns
  have hts := atoms_spec (ws := wsX11_look) B.pre
  have hown : s.vm.findClass RX11 = some m.cls := findClass_of_methodNamed B.named
  have hlocks := B.notSynchronized
  subst hsz
  have hK := hKA.1
  have hD := hD0.self (sz := s.heap.size)
  generalize hAe : va_A [(mm, .inr (11, [.ref nw, .ref kp, .ref ik, .ref rf, .int 0, .int 0, .ref sd, .ref fr, .ref qu, .int 0, .ref me, .ref by_, .int 0, .int 0, .int 0, .int 0, .int 0, .ref nx, .int 0]))] s.heap.size = A at hD ⊢
  have hA : ∀ q : Nat, s.heap.size ≤ q → A q := fun q h => by rw [← hAe]; exact Or.inr h
  have hS : va_S A s.heap s.heap [] := va_S.rf
  have hP : va_P D vwCl [(mm, .inr (11, [.ref nw, .ref kp, .ref ik, .ref rf, .int 0, .int 0, .ref sd, .ref fr, .ref qu, .int 0, .ref me, .ref by_, .int 0, .int 0, .int 0, .int 0, .int 0, .ref nx, .int 0]))] s.heap := hP
  have hl := lv_entry ([.ref mm, .int 0]) (n := 5) (Nat.le_of_ble_eq_true rfl)
  rw [lg_entry_eq]
  generalize (lg_sl ([.ref mm, .int 0]) ++ List.replicate (5 - (lg_sl ([.ref mm, .int 0])).length) Slot.unset).toArray = ls at hl ⊢
  have hl : lv_has ls 5 [(0, .ref mm), (1, .int 0)] := hl
  have z0_ := hts (.fieldLink RX11 209 "HeardSeenModel" "tokenAt" "I") (by decide +kernel)
  have zi11_ : ∀ w ∈ u_ws RX11 TX11 19, w ∈ wsX11_look := by decide +kernel
  have z2_ := hts (.fieldLink RX11 196 "HeardSeenModel" "bytesLong" "I") (by decide +kernel)
  have z3_ := hts (.fieldLink RX11 212 "HeardSeenModel" "tokenLong" "I") (by decide +kernel)
  have z4_ := hts (.fieldLink RX11 215 "HeardSeenModel" "token" "I") (by decide +kernel)
  have z5_ := hts (.fieldLink RX11 218 "HeardSeenModel" "value" "I") (by decide +kernel)
  refine lv_aload_n hx hb dX11_look_0 rfl (lv_at hl 0 rfl) ?_
  refine lv_iload_n hx hb dX11_look_1 rfl (lv_at hl 1 rfl) ?_
  refine va_put (D := D) (ci := 11) (v := .int 0) (ty := .int) (C := RX11) (T := TX11) (N := 19) hx hb hts zi11_ tyX11 tyX11_ok nmX11 hown hK hP hD hS 0 rfl rfl 13 (by decide) z0_ (fun _ h9 => h9) rfl (by decide +kernel) rfl rfl (Nat.le_of_ble_eq_true rfl) dX11_look_2 (fun H locs hP hD hS => ?_)
  have hP : va_P D vwCl [(mm, .inr (11, [.ref nw, .ref kp, .ref ik, .ref rf, .int 0, .int 0, .ref sd, .ref fr, .ref qu, .int 0, .ref me, .ref by_, .int 0, .int 0, .int 0, .int 0, .int 0, .ref nx, .int 0]))] H := hP
  have hD : va_D A [(mm, .inr (11, [.ref nw, .ref kp, .ref ik, .ref rf, .int 0, .int 0, .ref sd, .ref fr, .ref qu, .int 0, .ref me, .ref by_, .int 0, .int 0, .int 0, .int 0, .int 0, .ref nx, .int 0]))] := hD
  refine lv_aload_n hx hb dX11_look_5 rfl (lv_at hl 0 rfl) ?_
  refine va_get (D := D) (ci := 11) (v := .int 0) (C := RX11) (T := TX11) (N := 19) hx hb hts zi11_ hown hK hP 0 rfl rfl 13 (by decide) z0_ (fun _ h9 => h9) rfl dX11_look_6 ?_
  refine lv_aload_n hx hb dX11_look_9 rfl (lv_at hl 0 rfl) ?_
  refine va_get (D := D) (ci := 11) (v := .int 0) (C := RX11) (T := TX11) (N := 19) hx hb hts zi11_ hown hK hP 0 rfl rfl 12 (by decide) z2_ (fun _ h9 => h9) rfl dX11_look_10 ?_
  refine lv_icmp_ge (tgt := 43) hx hb dX11_look_13 (by decide) (fun c1 => ?_) (fun c1 => absurd c1 (by decide))
  refine lv_aload_n hx hb dX11_look_43 rfl (lv_at hl 0 rfl) ?_
  refine lv_iconst (v := 0) hx hb dX11_look_44 (by decide) ?_
  refine va_put (D := D) (ci := 11) (v := .int 0) (ty := .int) (C := RX11) (T := TX11) (N := 19) hx hb hts zi11_ tyX11 tyX11_ok nmX11 hown hK hP hD hS 0 rfl rfl 14 (by decide) z3_ (fun _ h9 => h9) rfl (by decide +kernel) rfl rfl (Nat.le_of_ble_eq_true rfl) dX11_look_45 (fun H locs hP hD hS => ?_)
  have hP : va_P D vwCl [(mm, .inr (11, [.ref nw, .ref kp, .ref ik, .ref rf, .int 0, .int 0, .ref sd, .ref fr, .ref qu, .int 0, .ref me, .ref by_, .int 0, .int 0, .int 0, .int 0, .int 0, .ref nx, .int 0]))] H := hP
  have hD : va_D A [(mm, .inr (11, [.ref nw, .ref kp, .ref ik, .ref rf, .int 0, .int 0, .ref sd, .ref fr, .ref qu, .int 0, .ref me, .ref by_, .int 0, .int 0, .int 0, .int 0, .int 0, .ref nx, .int 0]))] := hD
  refine lv_aload_n hx hb dX11_look_48 rfl (lv_at hl 0 rfl) ?_
  refine lv_iconst (v := 0) hx hb dX11_look_49 (by decide) ?_
  refine va_put (D := D) (ci := 11) (v := .int 0) (ty := .int) (C := RX11) (T := TX11) (N := 19) hx hb hts zi11_ tyX11 tyX11_ok nmX11 hown hK hP hD hS 0 rfl rfl 15 (by decide) z4_ (fun _ h9 => h9) rfl (by decide +kernel) rfl rfl (Nat.le_of_ble_eq_true rfl) dX11_look_50 (fun H locs hP hD hS => ?_)
  have hP : va_P D vwCl [(mm, .inr (11, [.ref nw, .ref kp, .ref ik, .ref rf, .int 0, .int 0, .ref sd, .ref fr, .ref qu, .int 0, .ref me, .ref by_, .int 0, .int 0, .int 0, .int 0, .int 0, .ref nx, .int 0]))] H := hP
  have hD : va_D A [(mm, .inr (11, [.ref nw, .ref kp, .ref ik, .ref rf, .int 0, .int 0, .ref sd, .ref fr, .ref qu, .int 0, .ref me, .ref by_, .int 0, .int 0, .int 0, .int 0, .int 0, .ref nx, .int 0]))] := hD
  refine lv_aload_n hx hb dX11_look_53 rfl (lv_at hl 0 rfl) ?_
  refine lv_iconst (v := 0) hx hb dX11_look_54 (by decide) ?_
  refine va_put (D := D) (ci := 11) (v := .int 0) (ty := .int) (C := RX11) (T := TX11) (N := 19) hx hb hts zi11_ tyX11 tyX11_ok nmX11 hown hK hP hD hS 0 rfl rfl 16 (by decide) z5_ (fun _ h9 => h9) rfl (by decide +kernel) rfl rfl (Nat.le_of_ble_eq_true rfl) dX11_look_55 (fun H locs hP hD hS => ?_)
  have hP : va_P D vwCl [(mm, .inr (11, [.ref nw, .ref kp, .ref ik, .ref rf, .int 0, .int 0, .ref sd, .ref fr, .ref qu, .int 0, .ref me, .ref by_, .int 0, .int 0, .int 0, .int 0, .int 0, .ref nx, .int 0]))] H := hP
  have hD : va_D A [(mm, .inr (11, [.ref nw, .ref kp, .ref ik, .ref rf, .int 0, .int 0, .ref sd, .ref fr, .ref qu, .int 0, .ref me, .ref by_, .int 0, .int 0, .int 0, .int 0, .int 0, .ref nx, .int 0]))] := hD
  refine lv_aload_n hx hb dX11_look_58 rfl (lv_at hl 0 rfl) ?_
  refine va_get (D := D) (ci := 11) (v := .int 0) (C := RX11) (T := TX11) (N := 19) hx hb hts zi11_ hown hK hP 0 rfl rfl 13 (by decide) z0_ (fun _ h9 => h9) rfl dX11_look_59 ?_
  refine lv_aload_n hx hb dX11_look_62 rfl (lv_at hl 0 rfl) ?_
  refine va_get (D := D) (ci := 11) (v := .int 0) (C := RX11) (T := TX11) (N := 19) hx hb hts zi11_ hown hK hP 0 rfl rfl 12 (by decide) z2_ (fun _ h9 => h9) rfl dX11_look_63 ?_
  refine lv_icmp_ne (tgt := 70) hx hb dX11_look_66 (by decide) (fun c2 => absurd c2 (by decide)) (fun c2 => ?_)
  have hP9 := hP.sub (ws' := [(mm, .inr (11, [.ref nw, .ref kp, .ref ik, .ref rf, .int 0, .int 0, .ref sd, .ref fr, .ref qu, .int 0, .ref me, .ref by_, .int 0, .int 0, .int 0, .int 0, .int 0, .ref nx, .int 0]))]) [0] rfl
  have hD9 := hD.sub (ws' := [(mm, .inr (11, [.ref nw, .ref kp, .ref ik, .ref rf, .int 0, .int 0, .ref sd, .ref fr, .ref qu, .int 0, .ref me, .ref by_, .int 0, .int 0, .int 0, .int 0, .int 0, .ref nx, .int 0]))]) [0] (by decide) rfl
  exact W.vret hx hb hr (fun t ht hW => ⟨⟨(), rfl, trivial, by rw [ht]; exact hP9, hD9⟩, hS.F ht⟩) hS.2.2 dX11_look_69

set_option maxHeartbeats 4000000 in
set_option maxRecDepth 100000 in
theorem m_isWord (l : Launch) (D : va_G) (cy : Nat → ClassId) (mm nw kp ik rf sd fr qu me by_ nx : Nat) (x y z t : Int32) (sz : Nat)  : Met l yX11_isWord wsX11_isWord ({ frames := 0, cells := 0, slots := 0, locals := 0 }) (va_Pc [.ref mm, .int x, .int y, .int z, .int t] (kPre D cy [(mm, .inr (11, [.ref nw, .ref kp, .ref ik, .ref rf, .int 0, .int 0, .ref sd, .ref fr, .ref qu, .int 0, .ref me, .ref by_, .int 0, .int 0, .int 0, .int 0, .int 0, .ref nx, .int 0]))] sz)) (va_Qi (fun (r : Int32) (_ : Unit) => r = 0) (fun _ _ => True) (fun q : Nat => sz ≤ q)) 0 0 (fun q : Nat => sz ≤ q) := by
  refine Met.ofW (cc := cX11_isWord) (maxL := 7) (ret := (some .boolean)) (by decide) rfl ?_
  intro p e s m args below meth c s₁ B hml hv
  obtain ⟨rfl, hsz, hP, hKA, hD0⟩ := hv
  have hx := B.exec
  have hb := B.bytes
  have hr := B.returns
  have hts := atoms_spec (ws := wsX11_isWord) B.pre
  have hown : s.vm.findClass RX11 = some m.cls := findClass_of_methodNamed B.named
  have hlocks := B.notSynchronized
  subst hsz
  have hK := hKA.1
  have hD := hD0
  generalize hAe : (fun q : Nat => s.heap.size ≤ q) = A
  have hA : ∀ q : Nat, s.heap.size ≤ q → A q := fun q h => by rw [← hAe]; exact h
  have hS : va_S A s.heap s.heap [] := va_S.rf
  have hP : va_P D vwCl [(mm, .inr (11, [.ref nw, .ref kp, .ref ik, .ref rf, .int 0, .int 0, .ref sd, .ref fr, .ref qu, .int 0, .ref me, .ref by_, .int 0, .int 0, .int 0, .int 0, .int 0, .ref nx, .int 0]))] s.heap := hP
  have hl := lv_entry ([.ref mm, .int x, .int y, .int z, .int t]) (n := 7) (Nat.le_of_ble_eq_true rfl)
  rw [lg_entry_eq]
  generalize (lg_sl ([.ref mm, .int x, .int y, .int z, .int t]) ++ List.replicate (7 - (lg_sl ([.ref mm, .int x, .int y, .int z, .int t])).length) Slot.unset).toArray = ls at hl ⊢
  have hl : lv_has ls 7 [(0, .ref mm), (1, .int x), (2, .int y), (3, .int z), (4, .int t)] := hl
  have z0_ := hts (.fieldLink RX11 215 "HeardSeenModel" "token" "I") (by decide +kernel)
  have zi11_ : ∀ w ∈ u_ws RX11 TX11 19, w ∈ wsX11_isWord := by decide +kernel
  refine lv_aload_n hx hb dX11_isWord_0 rfl (lv_at hl 0 rfl) ?_
  refine va_get (D := D) (ci := 11) (v := .int 0) (C := RX11) (T := TX11) (N := 19) hx hb hts zi11_ hown hK hP 0 rfl rfl 15 (by decide) z0_ (fun _ h9 => h9) rfl dX11_isWord_1 ?_
  refine lv_iconst (v := 1) hx hb dX11_isWord_4 (by decide) ?_
  refine lv_icmp_ne (tgt := 20) hx hb dX11_isWord_5 (by decide) (fun c1 => ?_) (fun c1 => absurd c1 (by decide))
  refine lv_iconst (v := 0) hx hb dX11_isWord_20 (by decide) ?_
  refine lv_istore (lv' := [(5, .int 0), (0, .ref mm), (1, .int x), (2, .int y), (3, .int z), (4, .int t)]) hx hb dX11_isWord_21 hl (by decide) rfl (fun ls hl => ?_)
  refine lv_iconst (v := 0) hx hb dX11_isWord_23 (by decide) ?_
  refine lv_istore (lv' := [(6, .int 0), (5, .int 0), (0, .ref mm), (1, .int x), (2, .int y), (3, .int z), (4, .int t)]) hx hb dX11_isWord_24 hl (by decide) rfl (fun ls hl => ?_)
  refine lv_iload hx hb dX11_isWord_26 (lv_at hl 0 rfl) ?_
  refine lv_iconst (v := 4) hx hb dX11_isWord_28 (by decide) ?_
  refine lv_icmp_ge (tgt := 96) hx hb dX11_isWord_29 (by decide) (fun c2 => absurd c2 (by decide)) (fun c2 => ?_)
  refine lv_iload hx hb dX11_isWord_32 (lv_at hl 1 rfl) ?_
  refine lv_if_eq (tgt := 96) hx hb dX11_isWord_34 (by decide) (fun c3 => ?_) (fun c3 => absurd c3 (by decide))
  refine lv_iload hx hb dX11_isWord_96 (lv_at hl 1 rfl) ?_
  exact W.zret (v := 0) hx hb hr rfl (fun t ht hW => ⟨⟨0, (), rfl, rfl, trivial⟩, hS.F ht⟩) hS.2.2 dX11_isWord_98

set_option maxHeartbeats 4000000 in
set_option maxRecDepth 100000 in
theorem m_readsGarden (l : Launch) (D : va_G) (cy : Nat → ClassId) (mm nw kp ik rf sd fr qu me by_ nx : Nat) (sz : Nat)  : Met l yX11_readsGarden wsX11_readsGarden ({ frames := 1, cells := 0, slots := 0, locals := 26 }) (va_Pc [.ref mm] (kPre D cy [(mm, .inr (11, [.ref nw, .ref kp, .ref ik, .ref rf, .int 0, .int 0, .ref sd, .ref fr, .ref qu, .int 0, .ref me, .ref by_, .int 0, .int 0, .int 0, .int 0, .int 0, .ref nx, .int 0]))] sz)) (va_Qi (fun (r : Int32) (_ : Unit) => r = 0) (fun _ _ => True) (fun q : Nat => sz ≤ q)) 0 0 (fun q : Nat => sz ≤ q) := by
  refine Met.ofW (cc := cX11_readsGarden) (maxL := 2) (ret := (some .boolean)) (by decide) rfl ?_
  intro p e s m args below meth c s₁ B hml hv
  obtain ⟨rfl, hsz, hP, hKA, hD0⟩ := hv
  have hx := B.exec
  have hb := B.bytes
  have hr := B.returns
  have hts := atoms_spec (ws := wsX11_readsGarden) B.pre
  have hown : s.vm.findClass RX11 = some m.cls := findClass_of_methodNamed B.named
  have hlocks := B.notSynchronized
  subst hsz
  have hK := hKA.1
  have hD := hD0
  generalize hAe : (fun q : Nat => s.heap.size ≤ q) = A
  have hA : ∀ q : Nat, s.heap.size ≤ q → A q := fun q h => by rw [← hAe]; exact h
  have hS : va_S A s.heap s.heap [] := va_S.rf
  have hP : va_P D vwCl [(mm, .inr (11, [.ref nw, .ref kp, .ref ik, .ref rf, .int 0, .int 0, .ref sd, .ref fr, .ref qu, .int 0, .ref me, .ref by_, .int 0, .int 0, .int 0, .int 0, .int 0, .ref nx, .int 0]))] s.heap := hP
  have hl := lv_entry ([.ref mm]) (n := 2) (Nat.le_of_ble_eq_true rfl)
  rw [lg_entry_eq]
  generalize (lg_sl ([.ref mm]) ++ List.replicate (2 - (lg_sl ([.ref mm])).length) Slot.unset).toArray = ls at hl ⊢
  have hl : lv_has ls 2 [(0, .ref mm)] := hl
  refine lv_aload_n hx hb dX11_readsGarden_0 rfl (lv_at hl 0 rfl) ?_
  refine lv_bipush (v := 103) hx hb dX11_readsGarden_1 (by decide) ?_
  refine lv_bipush (v := 97) hx hb dX11_readsGarden_3 (by decide) ?_
  refine lv_bipush (v := 114) hx hb dX11_readsGarden_5 (by decide) ?_
  refine lv_bipush (v := 100) hx hb dX11_readsGarden_7 (by decide) ?_
  refine rd_i (va_runV (As := [.int 103, .int 97, .int 114, .int 100]) (rest := []) ⟨hx, hb, hml, hown, hts⟩ (m_isWord l D cy mm nw kp ik rf sd fr qu me by_ nx 103 97 114 100 _) (cwV 4 hts gX11_readsGarden_X11_isWord rfl rfl rfl (by decide +kernel) ⟨Nat.le_of_ble_eq_true rfl, Nat.le_of_ble_eq_true rfl⟩) (pV (ci := 11) (k := 0) hKA (hP.sub (ws' := [(mm, .inr (11, [.ref nw, .ref kp, .ref ik, .ref rf, .int 0, .int 0, .ref sd, .ref fr, .ref qu, .int 0, .ref me, .ref by_, .int 0, .int 0, .int 0, .int 0, .int 0, .ref nx, .int 0]))]) [0] rfl) (hD.sub (ws' := [(mm, .inr (11, [.ref nw, .ref kp, .ref ik, .ref rf, .int 0, .int 0, .ref sd, .ref fr, .ref qu, .int 0, .ref me, .ref by_, .int 0, .int 0, .int 0, .int 0, .int 0, .ref nx, .int 0]))]) [0] (by decide) rfl) rfl rfl) rfl rfl hl.1 rfl (lv_room (Nat.le_of_ble_eq_true rfl)) dX11_readsGarden_9 ⟨Nat.le_of_ble_eq_true rfl, Nat.le_of_ble_eq_true rfl⟩) hP hS hA (fun r1 H locs hwr1 hP hS => ?_)
  rcases hwr1 with rfl
  · skip
    refine lv_if_eq (tgt := 28) hx hb dX11_readsGarden_12 (by decide) (fun c2 => ?_) (fun c2 => absurd c2 (by decide))
    refine lv_iconst (v := 0) hx hb dX11_readsGarden_28 (by decide) ?_
    exact W.zret (v := 0) hx hb hr rfl (fun t ht hW => ⟨⟨0, (), rfl, rfl, trivial⟩, hS.F ht⟩) hS.2.2 dX11_readsGarden_29

set_option maxHeartbeats 4000000 in
set_option maxRecDepth 100000 in
theorem m_layPerson (l : Launch) (D : va_G) (cy : Nat → ClassId) (nw : Nat) (F : Nat → Int32) (x y z : Int32) (sz : Nat) (h4 : F 4 = 0) : Met l yX11_layPerson wsX11_layPerson ({ frames := 0, cells := 0, slots := 0, locals := 0 }) (va_Pc [.ref nw, .int x, .int y, .int z] (kPre D cy [(nw, .inl (cy 1, 122, .inl F))] sz)) (va_Qv (fun (u : Nat → Int32) => u 4 = 1) (fun (u : Nat → Int32) t => va_P D vwCl ([(nw, .inl (cy 1, 122, .inl u))]) t.heap ∧ va_D (va_A [(nw, .inl (cy 1, 122, .inl F))] sz) ([(nw, .inl (cy 1, 122, .inl u))])) (va_A [(nw, .inl (cy 1, 122, .inl F))] sz)) 0 0 (va_A [(nw, .inl (cy 1, 122, .inl F))] sz) := by
  refine Met.ofW (cc := cX11_layPerson) (maxL := 5) (ret := none) (by decide) rfl ?_
  intro p e s m args below meth c s₁ B hml hv
  obtain ⟨rfl, hsz, hP, hKA, hD0⟩ := hv
  have hx := B.exec
  have hb := B.bytes
  have hr := B.returns
  have hts := atoms_spec (ws := wsX11_layPerson) B.pre
  have hown : s.vm.findClass RX11 = some m.cls := findClass_of_methodNamed B.named
  have hlocks := B.notSynchronized
  subst hsz
  have hK := hKA.1
  have hD := hD0.self (sz := s.heap.size)
  generalize hAe : va_A [(nw, .inl (cy 1, 122, .inl F))] s.heap.size = A at hD ⊢
  have hA : ∀ q : Nat, s.heap.size ≤ q → A q := fun q h => by rw [← hAe]; exact Or.inr h
  have hS : va_S A s.heap s.heap [] := va_S.rf
  have hP : va_P D vwCl [(nw, .inl (cy 1, 122, .inl F))] s.heap := hP
  have hl := lv_entry ([.ref nw, .int x, .int y, .int z]) (n := 5) (Nat.le_of_ble_eq_true rfl)
  rw [lg_entry_eq]
  generalize (lg_sl ([.ref nw, .int x, .int y, .int z]) ++ List.replicate (5 - (lg_sl ([.ref nw, .int x, .int y, .int z])).length) Slot.unset).toArray = ls at hl ⊢
  have hl : lv_has ls 5 [(0, .ref nw), (1, .int x), (2, .int y), (3, .int z)] := hl
  refine lv_iconst (v := 5) hx hb dX11_layPerson_0 (by decide) ?_
  refine lv_iconst (v := 3) hx hb dX11_layPerson_1 (by decide) ?_
  refine lv_aload_n hx hb dX11_layPerson_2 rfl (lv_at hl 0 rfl) ?_
  refine lv_iconst (v := 4) hx hb dX11_layPerson_3 (by decide) ?_
  refine my_iald hx hb hK hP 0 1 rfl rfl (by rw [vp_in_iff]; decide +kernel) (k := 4) (by decide +kernel) dX11_layPerson_4 ?_
  rw [show F 4 = 0 from h4]
  refine lv_imul hx hb dX11_layPerson_5 ?_
  refine lv_topi (fun x1 ex1 => ?_)
  obtain rfl : x1 = 0 := by rw [ex1]; decide +kernel
  refine lv_iadd hx hb dX11_layPerson_6 ?_
  refine lv_topi (fun x2 ex2 => ?_)
  obtain rfl : x2 = 5 := by rw [ex2]; decide +kernel
  refine lv_istore (lv' := [(4, .int 5), (0, .ref nw), (1, .int x), (2, .int y), (3, .int z)]) hx hb dX11_layPerson_7 hl (by decide) rfl (fun ls hl => ?_)
  refine lv_aload_n hx hb dX11_layPerson_9 rfl (lv_at hl 1 rfl) ?_
  refine lv_iload hx hb dX11_layPerson_10 (lv_at hl 0 rfl) ?_
  refine lv_iconst (v := 0) hx hb dX11_layPerson_12 (by decide) ?_
  refine lv_iadd hx hb dX11_layPerson_13 ?_
  refine lv_topi (fun x3 ex3 => ?_)
  obtain rfl : x3 = 5 := by rw [ex3]; decide +kernel
  refine lv_iload_n hx hb dX11_layPerson_14 rfl (lv_at hl 2 rfl) ?_
  refine my_iast hx hb hK hP hD hS 0 1 rfl rfl (by rw [vp_in_iff]; decide +kernel) (k := 5) (by decide +kernel) dX11_layPerson_15 (fun H locs hP hD hS => ?_)
  have hP : va_P D vwCl [(nw, .inl (cy 1, 122, .inl (upd F 5 x)))] H := hP
  have hD : va_D A [(nw, .inl (cy 1, 122, .inl (upd F 5 x)))] := hD
  refine lv_aload_n hx hb dX11_layPerson_16 rfl (lv_at hl 1 rfl) ?_
  refine lv_iload hx hb dX11_layPerson_17 (lv_at hl 0 rfl) ?_
  refine lv_iconst (v := 1) hx hb dX11_layPerson_19 (by decide) ?_
  refine lv_iadd hx hb dX11_layPerson_20 ?_
  refine lv_topi (fun x4 ex4 => ?_)
  obtain rfl : x4 = 6 := by rw [ex4]; decide +kernel
  refine lv_iload_n hx hb dX11_layPerson_21 rfl (lv_at hl 3 rfl) ?_
  refine my_iast hx hb hK hP hD hS 0 1 rfl rfl (by rw [vp_in_iff]; decide +kernel) (k := 6) (by decide +kernel) dX11_layPerson_22 (fun H locs hP hD hS => ?_)
  have hP : va_P D vwCl [(nw, .inl (cy 1, 122, .inl (upd (upd F 5 x) 6 y)))] H := hP
  have hD : va_D A [(nw, .inl (cy 1, 122, .inl (upd (upd F 5 x) 6 y)))] := hD
  refine lv_aload_n hx hb dX11_layPerson_23 rfl (lv_at hl 1 rfl) ?_
  refine lv_iload hx hb dX11_layPerson_24 (lv_at hl 0 rfl) ?_
  refine lv_iconst (v := 2) hx hb dX11_layPerson_26 (by decide) ?_
  refine lv_iadd hx hb dX11_layPerson_27 ?_
  refine lv_topi (fun x5 ex5 => ?_)
  obtain rfl : x5 = 7 := by rw [ex5]; decide +kernel
  refine lv_iload_n hx hb dX11_layPerson_28 rfl (lv_at hl 4 rfl) ?_
  refine my_iast hx hb hK hP hD hS 0 1 rfl rfl (by rw [vp_in_iff]; decide +kernel) (k := 7) (by decide +kernel) dX11_layPerson_29 (fun H locs hP hD hS => ?_)
  have hP : va_P D vwCl [(nw, .inl (cy 1, 122, .inl (upd (upd (upd F 5 x) 6 y) 7 z)))] H := hP
  have hD : va_D A [(nw, .inl (cy 1, 122, .inl (upd (upd (upd F 5 x) 6 y) 7 z)))] := hD
  refine lv_aload_n hx hb dX11_layPerson_30 rfl (lv_at hl 1 rfl) ?_
  refine lv_iconst (v := 4) hx hb dX11_layPerson_31 (by decide) ?_
  refine lv_dup2_11 hx hb dX11_layPerson_32 rfl rfl ?_
  refine my_iald hx hb hK hP 0 1 rfl rfl (by rw [vp_in_iff]; decide +kernel) (k := 4) (by decide +kernel) dX11_layPerson_33 ?_
  rw [show (upd (upd (upd F 5 x) 6 y) 7 z) 4 = 0 from (by rw [u_ne _ _ (by decide), u_ne _ _ (by decide), u_ne _ _ (by decide)]; exact h4)]
  refine lv_iconst (v := 1) hx hb dX11_layPerson_34 (by decide) ?_
  refine lv_iadd hx hb dX11_layPerson_35 ?_
  refine lv_topi (fun x6 ex6 => ?_)
  obtain rfl : x6 = 1 := by rw [ex6]; decide +kernel
  refine my_iast hx hb hK hP hD hS 0 1 rfl rfl (by rw [vp_in_iff]; decide +kernel) (k := 4) (by decide +kernel) dX11_layPerson_36 (fun H locs hP hD hS => ?_)
  have hP : va_P D vwCl [(nw, .inl (cy 1, 122, .inl (upd (upd (upd (upd F 5 x) 6 y) 7 z) 4 1)))] H := hP
  have hD : va_D A [(nw, .inl (cy 1, 122, .inl (upd (upd (upd (upd F 5 x) 6 y) 7 z) 4 1)))] := hD
  have hP9 := hP.sub (ws' := [(nw, .inl (cy 1, 122, .inl (upd (upd (upd (upd F 5 x) 6 y) 7 z) 4 1)))]) [0] rfl
  have hD9 := hD.sub (ws' := [(nw, .inl (cy 1, 122, .inl (upd (upd (upd (upd F 5 x) 6 y) 7 z) 4 1)))]) [0] (by decide) rfl
  exact W.vret hx hb hr (fun t ht hW => ⟨⟨(upd (upd (upd (upd F 5 x) 6 y) 7 z) 4 1), rfl, rfl, by rw [ht]; exact hP9, hD9⟩, hS.F ht⟩) hS.2.2 dX11_layPerson_37
