theorem dX11_read_0 : decode cX11_read 0 = .ok (.aload_n 0, 1) := by decide +kernel
theorem dX11_read_1 : decode cX11_read 1 = .ok (.iconst 0, 1) := by decide +kernel
theorem dX11_read_2 : decode cX11_read 2 = .ok (.putfield 230, 3) := by decide +kernel
theorem dX11_read_5 : decode cX11_read 5 = .ok (.aload_n 0, 1) := by decide +kernel
theorem dX11_read_6 : decode cX11_read 6 = .ok (.iconst 0, 1) := by decide +kernel
set_option maxRecDepth 20000 in
theorem ggX11_read_X11_look : GoodIn wsX11_read wsX11_look := goodIn_r _ [10, 2, 11, 12, 13, 3, 14, 15, 16, 9, 17, 18, 19, 20, 21, 22, 23, 24, 25, 26, 27, 89, 90, 91, 92, 93, 94, 95, 96, 97, 98, 99, 100, 101, 102, 103, 104, 105, 106, 107] (by decide +kernel) (by decide +kernel)
set_option maxRecDepth 20000 in
theorem gX11_read_X11_look : GoodIn wsX11_read (wsV RX11 227 RX11 yX11_look wsX11_look) := goodIn_app (goodIn_of _ (by decide +kernel)) ggX11_read_X11_look
theorem dX11_read_7 : decode cX11_read 7 = .ok (.invokevirtual 227, 3) := by decide +kernel
theorem dX11_read_10 : decode cX11_read 10 = .ok (.aload_n 0, 1) := by decide +kernel
set_option maxRecDepth 20000 in
theorem ggX11_read_X11_readsGarden : GoodIn wsX11_read wsX11_readsGarden := goodIn_r _ [31, 1, 5, 3, 32, 33, 34, 9, 35, 13, 12, 2, 36, 37, 38, 39, 40, 41, 42, 43, 6, 7, 8, 10, 11, 14, 15, 16, 17, 18, 19, 20, 21, 22, 23, 24, 25, 26, 27, 44, 45, 46, 47, 48, 49, 50, 89, 90, 91, 92, 93, 94, 95, 96, 97, 98, 99, 100, 101, 102, 103, 104, 105, 106, 107] (by decide +kernel) (by decide +kernel)
set_option maxRecDepth 20000 in
theorem gX11_read_X11_readsGarden : GoodIn wsX11_read (wsV RX11 265 RX11 yX11_readsGarden wsX11_readsGarden) := goodIn_app (goodIn_of _ (by decide +kernel)) ggX11_read_X11_readsGarden
theorem dX11_read_11 : decode cX11_read 11 = .ok (.invokevirtual 265, 3) := by decide +kernel
theorem dX11_read_14 : decode cX11_read 14 = .ok (.ifCond .ne 11, 3) := by decide +kernel
theorem dX11_read_25 : decode cX11_read 25 = .ok (.aload_n 0, 1) := by decide +kernel
set_option maxRecDepth 20000 in
theorem ggX11_read_X11_goOn : GoodIn wsX11_read wsX11_goOn := goodIn_r _ [43, 2, 13, 6, 7, 8, 9, 10, 11, 12, 3, 14, 15, 16, 17, 18, 19, 20, 21, 22, 23, 24, 25, 26, 27, 89, 90, 91, 92, 93, 94, 95, 96, 97, 98, 99, 100, 101, 102, 103, 104, 105, 106, 107] (by decide +kernel) (by decide +kernel)
set_option maxRecDepth 20000 in
theorem gX11_read_X11_goOn : GoodIn wsX11_read (wsV RX11 233 RX11 yX11_goOn wsX11_goOn) := goodIn_app (goodIn_of _ (by decide +kernel)) ggX11_read_X11_goOn
theorem dX11_read_26 : decode cX11_read 26 = .ok (.invokevirtual 233, 3) := by decide +kernel
theorem dX11_read_29 : decode cX11_read 29 = .ok (.aload_n 0, 1) := by decide +kernel
theorem dX11_read_30 : decode cX11_read 30 = .ok (.getfield 215, 3) := by decide +kernel
theorem dX11_read_33 : decode cX11_read 33 = .ok (.ifCond .eq 33, 3) := by decide +kernel
theorem dX11_read_66 : decode cX11_read 66 = .ok (.iconst 0, 1) := by decide +kernel
theorem dX11_read_67 : decode cX11_read 67 = .ok (.istore_n 1, 1) := by decide +kernel
theorem dX11_read_68 : decode cX11_read 68 = .ok (.iload_n 1, 1) := by decide +kernel
theorem dX11_read_69 : decode cX11_read 69 = .ok (.bipush 122, 2) := by decide +kernel
theorem dX11_read_71 : decode cX11_read 71 = .ok (.if_icmp .ge 21, 3) := by decide +kernel
theorem dX11_read_92 : decode cX11_read 92 = .ok (.aload_n 0, 1) := by decide +kernel
set_option maxRecDepth 20000 in
theorem ggX11_read_X11_people : GoodIn wsX11_read wsX11_people := goodIn_r _ [88, 4, 89, 90, 91, 92, 93, 94, 95, 96, 97, 98, 99, 100, 101, 102, 103, 104, 105, 106, 107] (by decide +kernel) (by decide +kernel)
set_option maxRecDepth 20000 in
theorem gX11_read_X11_people : GoodIn wsX11_read (wsV RX11 53 RX11 yX11_people wsX11_people) := goodIn_app (goodIn_of _ (by decide +kernel)) ggX11_read_X11_people
theorem dX11_read_93 : decode cX11_read 93 = .ok (.invokevirtual 53, 3) := by decide +kernel
theorem dX11_read_96 : decode cX11_read 96 = .ok (.ireturn, 1) := by decide +kernel
theorem dX11_read_74 : decode cX11_read 74 = .ok (.aload_n 0, 1) := by decide +kernel
theorem dX11_read_75 : decode cX11_read 75 = .ok (.getfield 7, 3) := by decide +kernel
theorem dX11_read_78 : decode cX11_read 78 = .ok (.iload_n 1, 1) := by decide +kernel
theorem dX11_read_79 : decode cX11_read 79 = .ok (.aload_n 0, 1) := by decide +kernel
theorem dX11_read_80 : decode cX11_read 80 = .ok (.getfield 38, 3) := by decide +kernel
theorem dX11_read_83 : decode cX11_read 83 = .ok (.iload_n 1, 1) := by decide +kernel
theorem dX11_read_84 : decode cX11_read 84 = .ok (.iaload, 1) := by decide +kernel
theorem dX11_read_85 : decode cX11_read 85 = .ok (.iastore, 1) := by decide +kernel
theorem dX11_read_86 : decode cX11_read 86 = .ok (.iinc 1 1, 3) := by decide +kernel
theorem dX11_read_89 : decode cX11_read 89 = .ok (.goto (-21), 3) := by decide +kernel
theorem dX11_read_36 : decode cX11_read 36 = .ok (.aload_n 0, 1) := by decide +kernel
set_option maxRecDepth 20000 in
theorem ggX11_read_X11_readsItem : GoodIn wsX11_read wsX11_readsItem := goodIn_r _ [54, 5, 1, 32, 33, 34, 9, 35, 3, 13, 12, 2, 36, 37, 38, 39, 55, 56, 57, 58, 14, 40, 41, 42, 43, 6, 7, 8, 10, 11, 15, 16, 17, 18, 19, 20, 21, 22, 23, 24, 25, 26, 27, 59, 60, 61, 62, 63, 64, 65, 66, 67, 68, 69, 44, 45, 46, 47, 70, 71, 72, 73, 74, 75, 76, 77, 78, 79, 80, 81, 82, 83, 84, 89, 90, 91, 92, 93, 94, 95, 96, 97, 98, 99, 100, 101, 102, 103, 104, 105, 106, 107] (by decide +kernel) (by decide +kernel)
set_option maxRecDepth 20000 in
theorem gX11_read_X11_readsItem : GoodIn wsX11_read (wsV RX11 268 RX11 yX11_readsItem wsX11_readsItem) := goodIn_app (goodIn_of _ (by decide +kernel)) ggX11_read_X11_readsItem
theorem dX11_read_37 : decode cX11_read 37 = .ok (.invokevirtual 268, 3) := by decide +kernel
theorem dX11_read_40 : decode cX11_read 40 = .ok (.ifCond .eq 11, 3) := by decide +kernel
theorem dX11_read_51 : decode cX11_read 51 = .ok (.bipush (-10), 2) := by decide +kernel
theorem dX11_read_53 : decode cX11_read 53 = .ok (.aload_n 0, 1) := by decide +kernel
theorem dX11_read_54 : decode cX11_read 54 = .ok (.getfield 209, 3) := by decide +kernel
theorem dX11_read_57 : decode cX11_read 57 = .ok (.isub, 1) := by decide +kernel
theorem dX11_read_58 : decode cX11_read 58 = .ok (.ireturn, 1) := by decide +kernel
theorem dX11_read_43 : decode cX11_read 43 = .ok (.aload_n 0, 1) := by decide +kernel
theorem dX11_read_44 : decode cX11_read 44 = .ok (.getfield 215, 3) := by decide +kernel
theorem dX11_read_47 : decode cX11_read 47 = .ok (.iconst 3, 1) := by decide +kernel
theorem dX11_read_48 : decode cX11_read 48 = .ok (.if_icmp .eq 11, 3) := by decide +kernel
theorem dX11_read_59 : decode cX11_read 59 = .ok (.aload_n 0, 1) := by decide +kernel
theorem dX11_read_60 : decode cX11_read 60 = .ok (.invokevirtual 233, 3) := by decide +kernel
theorem dX11_read_63 : decode cX11_read 63 = .ok (.goto (-34), 3) := by decide +kernel
theorem dX11_read_17 : decode cX11_read 17 = .ok (.bipush (-10), 2) := by decide +kernel
theorem dX11_read_19 : decode cX11_read 19 = .ok (.aload_n 0, 1) := by decide +kernel
theorem dX11_read_20 : decode cX11_read 20 = .ok (.getfield 209, 3) := by decide +kernel
theorem dX11_read_23 : decode cX11_read 23 = .ok (.isub, 1) := by decide +kernel
theorem dX11_read_24 : decode cX11_read 24 = .ok (.ireturn, 1) := by decide +kernel
theorem dX11_wipe_0 : decode cX11_wipe 0 = .ok (.aload_n 0, 1) := by decide +kernel
theorem dX11_wipe_1 : decode cX11_wipe 1 = .ok (.getfield 196, 3) := by decide +kernel
theorem dX11_wipe_4 : decode cX11_wipe 4 = .ok (.istore_n 1, 1) := by decide +kernel
theorem dX11_wipe_5 : decode cX11_wipe 5 = .ok (.aload_n 0, 1) := by decide +kernel
theorem dX11_wipe_6 : decode cX11_wipe 6 = .ok (.iconst 0, 1) := by decide +kernel
theorem dX11_wipe_7 : decode cX11_wipe 7 = .ok (.putfield 196, 3) := by decide +kernel
theorem dX11_wipe_10 : decode cX11_wipe 10 = .ok (.iload_n 1, 1) := by decide +kernel
theorem dX11_wipe_11 : decode cX11_wipe 11 = .ok (.ireturn, 1) := by decide +kernel
theorem dX11_type_0 : decode cX11_type 0 = .ok (.iload_n 3, 1) := by decide +kernel
theorem dX11_type_1 : decode cX11_type 1 = .ok (.i2l, 1) := by decide +kernel
theorem dX11_type_2 : decode cX11_type 2 = .ok (.lconst 1, 1) := by decide +kernel
theorem dX11_type_3 : decode cX11_type 3 = .ok (.ldc2_w 194, 3) := by decide +kernel
set_option maxRecDepth 20000 in
theorem ggX11_type_X11_in : GoodIn wsX11_type wsX11_in := goodIn_r _ [8] (by decide +kernel) (by decide +kernel)
set_option maxRecDepth 20000 in
theorem gX11_type_X11_in : GoodIn wsX11_type (va_wsS RX11 49 yX11_in wsX11_in) := goodIn_app (goodIn_of _ (by decide +kernel)) ggX11_type_X11_in
theorem dX11_type_6 : decode cX11_type 6 = .ok (.invokestatic 49, 3) := by decide +kernel
theorem dX11_type_9 : decode cX11_type 9 = .ok (.ifCond .ne 10, 3) := by decide +kernel
theorem dX11_type_19 : decode cX11_type 19 = .ok (.aload_n 0, 1) := by decide +kernel
theorem dX11_type_20 : decode cX11_type 20 = .ok (.getfield 196, 3) := by decide +kernel
theorem dX11_type_23 : decode cX11_type 23 = .ok (.iload_n 3, 1) := by decide +kernel
theorem dX11_type_24 : decode cX11_type 24 = .ok (.iadd, 1) := by decide +kernel
theorem dX11_type_25 : decode cX11_type 25 = .ok (.sipush 250, 3) := by decide +kernel
theorem dX11_type_28 : decode cX11_type 28 = .ok (.if_icmp .le 8, 3) := by decide +kernel
theorem dX11_type_36 : decode cX11_type 36 = .ok (.iload_n 3, 1) := by decide +kernel
theorem dX11_type_37 : decode cX11_type 37 = .ok (.iconst 1, 1) := by decide +kernel
theorem dX11_type_38 : decode cX11_type 38 = .ok (.isub, 1) := by decide +kernel
theorem dX11_type_39 : decode cX11_type 39 = .ok (.istore 4, 2) := by decide +kernel
theorem dX11_type_41 : decode cX11_type 41 = .ok (.iload 4, 2) := by decide +kernel
theorem dX11_type_43 : decode cX11_type 43 = .ok (.ifCond .lt 40, 3) := by decide +kernel
theorem dX11_type_83 : decode cX11_type 83 = .ok (.aload_n 0, 1) := by decide +kernel
theorem dX11_type_84 : decode cX11_type 84 = .ok (.getfield 196, 3) := by decide +kernel
theorem dX11_type_87 : decode cX11_type 87 = .ok (.ireturn, 1) := by decide +kernel
theorem dX11_type_46 : decode cX11_type 46 = .ok (.aload_n 0, 1) := by decide +kernel
theorem dX11_type_47 : decode cX11_type 47 = .ok (.getfield 35, 3) := by decide +kernel
theorem dX11_type_50 : decode cX11_type 50 = .ok (.aload_n 0, 1) := by decide +kernel
theorem dX11_type_51 : decode cX11_type 51 = .ok (.getfield 196, 3) := by decide +kernel
theorem dX11_type_54 : decode cX11_type 54 = .ok (.lload_n 1, 1) := by decide +kernel
theorem dX11_type_55 : decode cX11_type 55 = .ok (.bipush 8, 2) := by decide +kernel
theorem dX11_type_57 : decode cX11_type 57 = .ok (.iload 4, 2) := by decide +kernel
theorem dX11_type_59 : decode cX11_type 59 = .ok (.imul, 1) := by decide +kernel
theorem dX11_type_60 : decode cX11_type 60 = .ok (.lushr, 1) := by decide +kernel
theorem dX11_type_61 : decode cX11_type 61 = .ok (.ldc2_w 199, 3) := by decide +kernel
theorem dX11_type_64 : decode cX11_type 64 = .ok (.land, 1) := by decide +kernel
theorem dX11_type_65 : decode cX11_type 65 = .ok (.l2i, 1) := by decide +kernel
theorem dX11_type_66 : decode cX11_type 66 = .ok (.iastore, 1) := by decide +kernel
theorem dX11_type_67 : decode cX11_type 67 = .ok (.aload_n 0, 1) := by decide +kernel
theorem dX11_type_68 : decode cX11_type 68 = .ok (.dup, 1) := by decide +kernel
theorem dX11_type_69 : decode cX11_type 69 = .ok (.getfield 196, 3) := by decide +kernel
theorem dX11_type_72 : decode cX11_type 72 = .ok (.iconst 1, 1) := by decide +kernel
theorem dX11_type_73 : decode cX11_type 73 = .ok (.iadd, 1) := by decide +kernel
theorem dX11_type_74 : decode cX11_type 74 = .ok (.putfield 196, 3) := by decide +kernel
theorem dX11_type_77 : decode cX11_type 77 = .ok (.iinc 4 (-1), 3) := by decide +kernel
theorem dX11_type_80 : decode cX11_type 80 = .ok (.goto (-39), 3) := by decide +kernel
theorem dX11_type_31 : decode cX11_type 31 = .ok (.aload_n 0, 1) := by decide +kernel
set_option maxRecDepth 20000 in
theorem ggX11_type_X11_full : GoodIn wsX11_type wsX11_full := goodIn_r _ [17, 13, 18, 19, 20, 21, 22, 23, 24, 25, 26, 27, 28, 29, 30, 31, 32, 33, 34, 35, 36] (by decide +kernel) (by decide +kernel)
set_option maxRecDepth 20000 in
theorem gX11_type_X11_full : GoodIn wsX11_type (wsV RX11 87 RX11 yX11_full wsX11_full) := goodIn_app (goodIn_of _ (by decide +kernel)) ggX11_type_X11_full
theorem dX11_type_32 : decode cX11_type 32 = .ok (.invokevirtual 87, 3) := by decide +kernel
theorem dX11_type_35 : decode cX11_type 35 = .ok (.ireturn, 1) := by decide +kernel
theorem dX11_type_12 : decode cX11_type 12 = .ok (.aload_n 0, 1) := by decide +kernel
theorem dX11_type_13 : decode cX11_type 13 = .ok (.bipush (-2), 2) := by decide +kernel
set_option maxRecDepth 20000 in
theorem ggX11_type_X11_bad : GoodIn wsX11_type wsX11_bad := goodIn_r _ [12, 13, 18, 19, 20, 21, 22, 23, 24, 25, 26, 27, 28, 29, 30, 31, 32, 33, 34, 35, 36] (by decide +kernel) (by decide +kernel)
set_option maxRecDepth 20000 in
theorem gX11_type_X11_bad : GoodIn wsX11_type (wsV RX11 60 RX11 yX11_bad wsX11_bad) := goodIn_app (goodIn_of _ (by decide +kernel)) ggX11_type_X11_bad
theorem dX11_type_15 : decode cX11_type 15 = .ok (.invokevirtual 60, 3) := by decide +kernel
theorem dX11_type_18 : decode cX11_type 18 = .ok (.ireturn, 1) := by decide +kernel
theorem dX11_image_0 : decode cX11_image 0 = .ok (.iload_n 1, 1) := by decide +kernel
theorem dX11_image_1 : decode cX11_image 1 = .ok (.i2l, 1) := by decide +kernel
theorem dX11_image_2 : decode cX11_image 2 = .ok (.lconst 0, 1) := by decide +kernel
theorem dX11_image_3 : decode cX11_image 3 = .ok (.lconst 1, 1) := by decide +kernel
set_option maxRecDepth 20000 in
theorem ggX11_image_X11_in : GoodIn wsX11_image wsX11_in := goodIn_r _ [7] (by decide +kernel) (by decide +kernel)
set_option maxRecDepth 20000 in
theorem gX11_image_X11_in : GoodIn wsX11_image (va_wsS RX11 49 yX11_in wsX11_in) := goodIn_app (goodIn_of _ (by decide +kernel)) ggX11_image_X11_in
theorem dX11_image_4 : decode cX11_image 4 = .ok (.invokestatic 49, 3) := by decide +kernel
theorem dX11_image_7 : decode cX11_image 7 = .ok (.ifCond .ne 10, 3) := by decide +kernel
theorem dX11_image_17 : decode cX11_image 17 = .ok (.iconst 0, 1) := by decide +kernel
theorem dX11_image_18 : decode cX11_image 18 = .ok (.istore_n 2, 1) := by decide +kernel
theorem dX11_image_19 : decode cX11_image 19 = .ok (.iload_n 2, 1) := by decide +kernel
theorem dX11_image_20 : decode cX11_image 20 = .ok (.bipush 122, 2) := by decide +kernel
theorem dX11_image_22 : decode cX11_image 22 = .ok (.if_icmp .ge 26, 3) := by decide +kernel
theorem dX11_image_48 : decode cX11_image 48 = .ok (.aload_n 0, 1) := by decide +kernel
theorem dX11_image_49 : decode cX11_image 49 = .ok (.getfield 16, 3) := by decide +kernel
theorem dX11_image_52 : decode cX11_image 52 = .ok (.iload_n 1, 1) := by decide +kernel
theorem dX11_image_53 : decode cX11_image 53 = .ok (.iconst 1, 1) := by decide +kernel
theorem dX11_image_54 : decode cX11_image 54 = .ok (.bastore, 1) := by decide +kernel
theorem dX11_image_55 : decode cX11_image 55 = .ok (.iconst 1, 1) := by decide +kernel
theorem dX11_image_56 : decode cX11_image 56 = .ok (.ireturn, 1) := by decide +kernel
theorem dX11_image_25 : decode cX11_image 25 = .ok (.aload_n 0, 1) := by decide +kernel
theorem dX11_image_26 : decode cX11_image 26 = .ok (.getfield 13, 3) := by decide +kernel
theorem dX11_image_29 : decode cX11_image 29 = .ok (.bipush 122, 2) := by decide +kernel
theorem dX11_image_31 : decode cX11_image 31 = .ok (.iload_n 1, 1) := by decide +kernel
theorem dX11_image_32 : decode cX11_image 32 = .ok (.imul, 1) := by decide +kernel
theorem dX11_image_33 : decode cX11_image 33 = .ok (.iload_n 2, 1) := by decide +kernel
theorem dX11_image_34 : decode cX11_image 34 = .ok (.iadd, 1) := by decide +kernel
theorem dX11_image_35 : decode cX11_image 35 = .ok (.aload_n 0, 1) := by decide +kernel
theorem dX11_image_36 : decode cX11_image 36 = .ok (.getfield 7, 3) := by decide +kernel
theorem dX11_image_39 : decode cX11_image 39 = .ok (.iload_n 2, 1) := by decide +kernel
theorem dX11_image_40 : decode cX11_image 40 = .ok (.iaload, 1) := by decide +kernel
theorem dX11_image_41 : decode cX11_image 41 = .ok (.iastore, 1) := by decide +kernel
theorem dX11_image_42 : decode cX11_image 42 = .ok (.iinc 2 1, 3) := by decide +kernel
theorem dX11_image_45 : decode cX11_image 45 = .ok (.goto (-26), 3) := by decide +kernel
theorem dX11_image_10 : decode cX11_image 10 = .ok (.aload_n 0, 1) := by decide +kernel
theorem dX11_image_11 : decode cX11_image 11 = .ok (.bipush (-2), 2) := by decide +kernel
set_option maxRecDepth 20000 in
theorem ggX11_image_X11_bad : GoodIn wsX11_image wsX11_bad := goodIn_r _ [11, 12, 13, 14, 15, 16, 17, 18, 19, 20, 21, 22, 23, 24, 25, 26, 27, 28, 29, 30, 31] (by decide +kernel) (by decide +kernel)
set_option maxRecDepth 20000 in
theorem gX11_image_X11_bad : GoodIn wsX11_image (wsV RX11 60 RX11 yX11_bad wsX11_bad) := goodIn_app (goodIn_of _ (by decide +kernel)) ggX11_image_X11_bad
theorem dX11_image_13 : decode cX11_image 13 = .ok (.invokevirtual 60, 3) := by decide +kernel
theorem dX11_image_16 : decode cX11_image 16 = .ok (.ireturn, 1) := by decide +kernel
theorem dX11_from_0 : decode cX11_from 0 = .ok (.iload_n 1, 1) := by decide +kernel
theorem dX11_from_1 : decode cX11_from 1 = .ok (.i2l, 1) := by decide +kernel
theorem dX11_from_2 : decode cX11_from 2 = .ok (.lconst 0, 1) := by decide +kernel
theorem dX11_from_3 : decode cX11_from 3 = .ok (.lconst 1, 1) := by decide +kernel
set_option maxRecDepth 20000 in
theorem ggX11_from_X11_in : GoodIn wsX11_from wsX11_in := goodIn_r _ [7] (by decide +kernel) (by decide +kernel)
set_option maxRecDepth 20000 in
theorem gX11_from_X11_in : GoodIn wsX11_from (va_wsS RX11 49 yX11_in wsX11_in) := goodIn_app (goodIn_of _ (by decide +kernel)) ggX11_from_X11_in
theorem dX11_from_4 : decode cX11_from 4 = .ok (.invokestatic 49, 3) := by decide +kernel
theorem dX11_from_7 : decode cX11_from 7 = .ok (.ifCond .ne 10, 3) := by decide +kernel
theorem dX11_from_17 : decode cX11_from 17 = .ok (.aload_n 0, 1) := by decide +kernel
theorem dX11_from_18 : decode cX11_from 18 = .ok (.getfield 16, 3) := by decide +kernel
theorem dX11_from_21 : decode cX11_from 21 = .ok (.iload_n 1, 1) := by decide +kernel
theorem dX11_from_22 : decode cX11_from 22 = .ok (.baload, 1) := by decide +kernel
theorem dX11_from_23 : decode cX11_from 23 = .ok (.ifCond .ne 10, 3) := by decide +kernel
theorem dX11_from_33 : decode cX11_from 33 = .ok (.iconst 0, 1) := by decide +kernel
theorem dX11_from_34 : decode cX11_from 34 = .ok (.istore_n 2, 1) := by decide +kernel
theorem dX11_from_35 : decode cX11_from 35 = .ok (.iload_n 2, 1) := by decide +kernel
theorem dX11_from_36 : decode cX11_from 36 = .ok (.bipush 122, 2) := by decide +kernel
theorem dX11_from_38 : decode cX11_from 38 = .ok (.if_icmp .ge 26, 3) := by decide +kernel
theorem dX11_from_64 : decode cX11_from 64 = .ok (.iconst 1, 1) := by decide +kernel
theorem dX11_from_65 : decode cX11_from 65 = .ok (.ireturn, 1) := by decide +kernel
theorem dX11_from_41 : decode cX11_from 41 = .ok (.aload_n 0, 1) := by decide +kernel
theorem dX11_from_42 : decode cX11_from 42 = .ok (.getfield 7, 3) := by decide +kernel
theorem dX11_from_45 : decode cX11_from 45 = .ok (.iload_n 2, 1) := by decide +kernel
theorem dX11_from_46 : decode cX11_from 46 = .ok (.aload_n 0, 1) := by decide +kernel
theorem dX11_from_47 : decode cX11_from 47 = .ok (.getfield 13, 3) := by decide +kernel
theorem dX11_from_50 : decode cX11_from 50 = .ok (.bipush 122, 2) := by decide +kernel
theorem dX11_from_52 : decode cX11_from 52 = .ok (.iload_n 1, 1) := by decide +kernel
theorem dX11_from_53 : decode cX11_from 53 = .ok (.imul, 1) := by decide +kernel
theorem dX11_from_54 : decode cX11_from 54 = .ok (.iload_n 2, 1) := by decide +kernel
theorem dX11_from_55 : decode cX11_from 55 = .ok (.iadd, 1) := by decide +kernel
theorem dX11_from_56 : decode cX11_from 56 = .ok (.iaload, 1) := by decide +kernel
theorem dX11_from_57 : decode cX11_from 57 = .ok (.iastore, 1) := by decide +kernel
theorem dX11_from_58 : decode cX11_from 58 = .ok (.iinc 2 1, 3) := by decide +kernel
theorem dX11_from_61 : decode cX11_from 61 = .ok (.goto (-26), 3) := by decide +kernel
theorem dX11_from_26 : decode cX11_from 26 = .ok (.aload_n 0, 1) := by decide +kernel
theorem dX11_from_27 : decode cX11_from 27 = .ok (.bipush (-3), 2) := by decide +kernel
set_option maxRecDepth 20000 in
theorem ggX11_from_X11_no : GoodIn wsX11_from wsX11_no := goodIn_r _ [16, 12, 17, 18, 19, 20, 21, 22, 23, 24, 25, 26, 27, 28, 29, 30, 31, 32, 33, 34, 35] (by decide +kernel) (by decide +kernel)
set_option maxRecDepth 20000 in
theorem gX11_from_X11_no : GoodIn wsX11_from (wsV RX11 72 RX11 yX11_no wsX11_no) := goodIn_app (goodIn_of _ (by decide +kernel)) ggX11_from_X11_no
theorem dX11_from_29 : decode cX11_from 29 = .ok (.invokevirtual 72, 3) := by decide +kernel
theorem dX11_from_32 : decode cX11_from 32 = .ok (.ireturn, 1) := by decide +kernel
theorem dX11_from_10 : decode cX11_from 10 = .ok (.aload_n 0, 1) := by decide +kernel
theorem dX11_from_11 : decode cX11_from 11 = .ok (.bipush (-2), 2) := by decide +kernel
set_option maxRecDepth 20000 in
theorem ggX11_from_X11_bad : GoodIn wsX11_from wsX11_bad := goodIn_r _ [11, 12, 17, 18, 19, 20, 21, 22, 23, 24, 25, 26, 27, 28, 29, 30, 31, 32, 33, 34, 35] (by decide +kernel) (by decide +kernel)
set_option maxRecDepth 20000 in
theorem gX11_from_X11_bad : GoodIn wsX11_from (wsV RX11 60 RX11 yX11_bad wsX11_bad) := goodIn_app (goodIn_of _ (by decide +kernel)) ggX11_from_X11_bad
theorem dX11_from_13 : decode cX11_from 13 = .ok (.invokevirtual 60, 3) := by decide +kernel
theorem dX11_from_16 : decode cX11_from 16 = .ok (.ireturn, 1) := by decide +kernel
set_option maxHeartbeats 4000000 in
set_option maxRecDepth 100000 in
theorem n_X11_read (l : Launch) (D : va_G) (cy : Nat → ClassId) (mm : Nat) (mm_now : Nat) (mm_kept : Nat) (mm_isKept : Nat) (mm_refused : Nat) (mm_lineFrom : Int32) (mm_lineTo : Int32) (mm_stands : Nat) (mm_far : Nat) (mm_queue : Nat) (mm_queued : Int32) (mm_meets : Nat) (mm_bytes : Nat) (bl : Nat) (ta : Nat) (tl : Nat) (mm_token : Int32) (mm_value : Int32) (mm_next : Nat) (tk : Nat) (mm_bytes_f : Nat → Int32) (mm_next_f : Nat → Int32) (mm_now_f : Nat → Int32) (sz : Nat) (hbl : bl ≤ 250) (hN : mN mm_now_f) : Met l yX11_read wsX11_read ({ frames := 7, cells := 0, slots := 0, locals := 154 }) (va_Pc [.ref mm] (kPre D cy [(mm, .inr (11, [.ref mm_now, .ref mm_kept, .ref mm_isKept, .ref mm_refused, .int mm_lineFrom, .int mm_lineTo, .ref mm_stands, .ref mm_far, .ref mm_queue, .int mm_queued, .ref mm_meets, .ref mm_bytes, .int (nI bl), .int (nI ta), .int (nI tl), .int mm_token, .int mm_value, .ref mm_next, .int (nI tk)])), (mm_bytes, .inl (cy 1, 250, .inl mm_bytes_f)), (mm_next, .inl (cy 1, 122, .inl mm_next_f)), (mm_now, .inl (cy 1, 122, .inl mm_now_f))] sz)) (va_Qi (fun (r : Int32) (u : Nat × Nat × Int32 × Int32 × Nat × (Nat → Int32) × (Nat → Int32)) => mN u.2.2.2.2.2.2) (fun (u : Nat × Nat × Int32 × Int32 × Nat × (Nat → Int32) × (Nat → Int32)) t => va_P D vwCl ([(mm, .inr (11, [.ref mm_now, .ref mm_kept, .ref mm_isKept, .ref mm_refused, .int mm_lineFrom, .int mm_lineTo, .ref mm_stands, .ref mm_far, .ref mm_queue, .int mm_queued, .ref mm_meets, .ref mm_bytes, .int (nI bl), .int (nI u.1), .int (nI u.2.1), .int u.2.2.1, .int u.2.2.2.1, .ref mm_next, .int (nI u.2.2.2.2.1)])), (mm_bytes, .inl (cy 1, 250, .inl mm_bytes_f)), (mm_next, .inl (cy 1, 122, .inl u.2.2.2.2.2.1)), (mm_now, .inl (cy 1, 122, .inl u.2.2.2.2.2.2))]) t.heap ∧ va_D (va_A [(mm, .inr (11, [.ref mm_now, .ref mm_kept, .ref mm_isKept, .ref mm_refused, .int mm_lineFrom, .int mm_lineTo, .ref mm_stands, .ref mm_far, .ref mm_queue, .int mm_queued, .ref mm_meets, .ref mm_bytes, .int (nI bl), .int (nI ta), .int (nI tl), .int mm_token, .int mm_value, .ref mm_next, .int (nI tk)])), (mm_bytes, .inl (cy 1, 250, .inl mm_bytes_f)), (mm_next, .inl (cy 1, 122, .inl mm_next_f)), (mm_now, .inl (cy 1, 122, .inl mm_now_f))] sz) ([(mm, .inr (11, [.ref mm_now, .ref mm_kept, .ref mm_isKept, .ref mm_refused, .int mm_lineFrom, .int mm_lineTo, .ref mm_stands, .ref mm_far, .ref mm_queue, .int mm_queued, .ref mm_meets, .ref mm_bytes, .int (nI bl), .int (nI u.1), .int (nI u.2.1), .int u.2.2.1, .int u.2.2.2.1, .ref mm_next, .int (nI u.2.2.2.2.1)])), (mm_bytes, .inl (cy 1, 250, .inl mm_bytes_f)), (mm_next, .inl (cy 1, 122, .inl u.2.2.2.2.2.1)), (mm_now, .inl (cy 1, 122, .inl u.2.2.2.2.2.2))])) (va_A [(mm, .inr (11, [.ref mm_now, .ref mm_kept, .ref mm_isKept, .ref mm_refused, .int mm_lineFrom, .int mm_lineTo, .ref mm_stands, .ref mm_far, .ref mm_queue, .int mm_queued, .ref mm_meets, .ref mm_bytes, .int (nI bl), .int (nI ta), .int (nI tl), .int mm_token, .int mm_value, .ref mm_next, .int (nI tk)])), (mm_bytes, .inl (cy 1, 250, .inl mm_bytes_f)), (mm_next, .inl (cy 1, 122, .inl mm_next_f)), (mm_now, .inl (cy 1, 122, .inl mm_now_f))] sz)) 0 0 (va_A [(mm, .inr (11, [.ref mm_now, .ref mm_kept, .ref mm_isKept, .ref mm_refused, .int mm_lineFrom, .int mm_lineTo, .ref mm_stands, .ref mm_far, .ref mm_queue, .int mm_queued, .ref mm_meets, .ref mm_bytes, .int (nI bl), .int (nI ta), .int (nI tl), .int mm_token, .int mm_value, .ref mm_next, .int (nI tk)])), (mm_bytes, .inl (cy 1, 250, .inl mm_bytes_f)), (mm_next, .inl (cy 1, 122, .inl mm_next_f)), (mm_now, .inl (cy 1, 122, .inl mm_now_f))] sz) := by
  refine Met.ofW (cc := cX11_read) (maxL := 2) (ret := (some .int)) (by decide) rfl ?_
  intro p e s m args below meth c s₁ B hml hv
  obtain ⟨rfl, hsz, hP, hKA, hD0⟩ := hv
  have hx := B.exec
  have hb := B.bytes
  have hr := B.returns
  have hts := atoms_spec (ws := wsX11_read) B.pre
  have hown : s.vm.findClass RX11 = some m.cls := findClass_of_methodNamed B.named
  have hlocks := B.notSynchronized
  subst hsz
  have hK := hKA.1
  have hD := hD0.self (sz := s.heap.size)
  generalize hAe : va_A [(mm, .inr (11, [.ref mm_now, .ref mm_kept, .ref mm_isKept, .ref mm_refused, .int mm_lineFrom, .int mm_lineTo, .ref mm_stands, .ref mm_far, .ref mm_queue, .int mm_queued, .ref mm_meets, .ref mm_bytes, .int (nI bl), .int (nI ta), .int (nI tl), .int mm_token, .int mm_value, .ref mm_next, .int (nI tk)])), (mm_bytes, .inl (cy 1, 250, .inl mm_bytes_f)), (mm_next, .inl (cy 1, 122, .inl mm_next_f)), (mm_now, .inl (cy 1, 122, .inl mm_now_f))] s.heap.size = A at hD ⊢
  have hA : ∀ q : Nat, s.heap.size ≤ q → A q := fun q h => by rw [← hAe]; exact Or.inr h
  have hS : va_S A s.heap s.heap [] := va_S.rf
  have hP : va_P D vwCl [(mm, .inr (11, [.ref mm_now, .ref mm_kept, .ref mm_isKept, .ref mm_refused, .int mm_lineFrom, .int mm_lineTo, .ref mm_stands, .ref mm_far, .ref mm_queue, .int mm_queued, .ref mm_meets, .ref mm_bytes, .int (nI bl), .int (nI ta), .int (nI tl), .int mm_token, .int mm_value, .ref mm_next, .int (nI tk)])), (mm_bytes, .inl (cy 1, 250, .inl mm_bytes_f)), (mm_next, .inl (cy 1, 122, .inl mm_next_f)), (mm_now, .inl (cy 1, 122, .inl mm_now_f))] s.heap := hP
  have hl := lv_entry ([.ref mm]) (n := 2) (Nat.le_of_ble_eq_true rfl)
  rw [lg_entry_eq]
  generalize (lg_sl ([.ref mm]) ++ List.replicate (2 - (lg_sl ([.ref mm])).length) Slot.unset).toArray = ls at hl ⊢
  have hl : lv_has ls 2 [(0, .ref mm)] := hl
  refine qW (fun QF hQF => ?_)
  have z0_ := hts (.fieldLink RX11 230 "HeardSeenModel" "taken" "I") (by decide +kernel)
  have zi11_ : ∀ w ∈ u_ws RX11 TX11 19, w ∈ wsX11_read := by decide +kernel
  have z2_ := hts (.fieldLink RX11 215 "HeardSeenModel" "token" "I") (by decide +kernel)
  have z3_ := hts (.fieldLink RX11 7 "HeardSeenModel" "now" "[I") (by decide +kernel)
  have z4_ := hts (.fieldLink RX11 38 "HeardSeenModel" "next" "[I") (by decide +kernel)
  have z5_ := hts (.fieldLink RX11 209 "HeardSeenModel" "tokenAt" "I") (by decide +kernel)
  refine lv_aload_n hx hb dX11_read_0 rfl (lv_at hl 0 rfl) ?_
  refine lv_iconst (v := 0) hx hb dX11_read_1 (by decide) ?_
  refine va_put (D := D) (ci := 11) (v := .int 0) (ty := .int) (C := RX11) (T := TX11) (N := 19) hx hb hts zi11_ tyX11 tyX11_ok nmX11 hown hK hP hD hS 0 rfl rfl 18 (by decide) z0_ (fun _ h9 => h9) rfl (by decide +kernel) rfl rfl (Nat.le_of_ble_eq_true rfl) dX11_read_2 (fun H locs hP hD hS => ?_)
  have hP : va_P D vwCl [(mm, .inr (11, [.ref mm_now, .ref mm_kept, .ref mm_isKept, .ref mm_refused, .int mm_lineFrom, .int mm_lineTo, .ref mm_stands, .ref mm_far, .ref mm_queue, .int mm_queued, .ref mm_meets, .ref mm_bytes, .int (nI bl), .int (nI ta), .int (nI tl), .int mm_token, .int mm_value, .ref mm_next, .int 0])), (mm_bytes, .inl (cy 1, 250, .inl mm_bytes_f)), (mm_next, .inl (cy 1, 122, .inl mm_next_f)), (mm_now, .inl (cy 1, 122, .inl mm_now_f))] H := hP
  have hD : va_D A [(mm, .inr (11, [.ref mm_now, .ref mm_kept, .ref mm_isKept, .ref mm_refused, .int mm_lineFrom, .int mm_lineTo, .ref mm_stands, .ref mm_far, .ref mm_queue, .int mm_queued, .ref mm_meets, .ref mm_bytes, .int (nI bl), .int (nI ta), .int (nI tl), .int mm_token, .int mm_value, .ref mm_next, .int 0])), (mm_bytes, .inl (cy 1, 250, .inl mm_bytes_f)), (mm_next, .inl (cy 1, 122, .inl mm_next_f)), (mm_now, .inl (cy 1, 122, .inl mm_now_f))] := hD
  refine lv_aload_n hx hb dX11_read_5 rfl (lv_at hl 0 rfl) ?_
  refine lv_iconst (v := 0) hx hb dX11_read_6 (by decide) ?_
  refine wr_v (wr := [(mm_next, .inl (cy 1, 122, .inl mm_next_f)), (mm_now, .inl (cy 1, 122, .inl mm_now_f))]) (va_runV (As := [.int 0]) (rest := []) ⟨hx, hb, hml, hown, hts⟩ (n_X11_look l D cy mm mm_now mm_kept mm_isKept mm_refused mm_lineFrom mm_lineTo mm_stands mm_far mm_queue mm_queued mm_meets mm_bytes bl ta tl mm_token mm_value mm_next 0 mm_bytes_f 0 _ (by first | assumption | omega) (by first | assumption | omega)) (cwV 1 hts gX11_read_X11_look rfl rfl rfl (by decide +kernel) ⟨Nat.le_of_ble_eq_true rfl, Nat.le_of_ble_eq_true rfl⟩) (pV (ci := 11) (k := 0) hKA (hP.sub (ws' := [(mm, .inr (11, [.ref mm_now, .ref mm_kept, .ref mm_isKept, .ref mm_refused, .int mm_lineFrom, .int mm_lineTo, .ref mm_stands, .ref mm_far, .ref mm_queue, .int mm_queued, .ref mm_meets, .ref mm_bytes, .int (nI bl), .int (nI ta), .int (nI tl), .int mm_token, .int mm_value, .ref mm_next, .int 0])), (mm_bytes, .inl (cy 1, 250, .inl mm_bytes_f))]) [0, 1] rfl) (hD.sub (ws' := [(mm, .inr (11, [.ref mm_now, .ref mm_kept, .ref mm_isKept, .ref mm_refused, .int mm_lineFrom, .int mm_lineTo, .ref mm_stands, .ref mm_far, .ref mm_queue, .int mm_queued, .ref mm_meets, .ref mm_bytes, .int (nI bl), .int (nI ta), .int (nI tl), .int mm_token, .int mm_value, .ref mm_next, .int 0])), (mm_bytes, .inl (cy 1, 250, .inl mm_bytes_f))]) [0, 1] (by decide) rfl) rfl rfl) rfl rfl hl.1 rfl (lv_room (Nat.le_of_ble_eq_true rfl)) dX11_read_7 ⟨Nat.le_of_ble_eq_true rfl, Nat.le_of_ble_eq_true rfl⟩) hP hD hS hA [0, 1] [2, 3] rfl rfl (by decide +kernel) (by decide +kernel) (fun ur1 H locs hwr1 hP hD hS => ?_)
  obtain ⟨z2, z3, z4, z5⟩ := ur1
  have hP : va_P D vwCl [(mm_next, .inl (cy 1, 122, .inl mm_next_f)), (mm_now, .inl (cy 1, 122, .inl mm_now_f)), (mm, .inr (11, [.ref mm_now, .ref mm_kept, .ref mm_isKept, .ref mm_refused, .int mm_lineFrom, .int mm_lineTo, .ref mm_stands, .ref mm_far, .ref mm_queue, .int mm_queued, .ref mm_meets, .ref mm_bytes, .int (nI bl), .int (nI z2), .int (nI z3), .int z4, .int z5, .ref mm_next, .int 0])), (mm_bytes, .inl (cy 1, 250, .inl mm_bytes_f))] H := hP
  have hD : va_D A [(mm_next, .inl (cy 1, 122, .inl mm_next_f)), (mm_now, .inl (cy 1, 122, .inl mm_now_f)), (mm, .inr (11, [.ref mm_now, .ref mm_kept, .ref mm_isKept, .ref mm_refused, .int mm_lineFrom, .int mm_lineTo, .ref mm_stands, .ref mm_far, .ref mm_queue, .int mm_queued, .ref mm_meets, .ref mm_bytes, .int (nI bl), .int (nI z2), .int (nI z3), .int z4, .int z5, .ref mm_next, .int 0])), (mm_bytes, .inl (cy 1, 250, .inl mm_bytes_f))] := hD
  have hwr1 : z2 + z3 ≤ bl ∧ (z4 = 0 ∨ 1 ≤ z3) ∧ 0 ≤ z2 := hwr1
  obtain ⟨har1, hbr1, hcr1⟩ := hwr1
  refine lv_aload_n hx hb dX11_read_10 rfl (lv_at hl 0 rfl) ?_
  refine wr_i (wr := [(mm_now, .inl (cy 1, 122, .inl mm_now_f))]) (va_runV (As := []) (rest := []) ⟨hx, hb, hml, hown, hts⟩ (n_X11_readsGarden l D cy mm mm_now mm_kept mm_isKept mm_refused mm_lineFrom mm_lineTo mm_stands mm_far mm_queue mm_queued mm_meets mm_bytes bl z2 z3 z4 z5 mm_next 0 mm_bytes_f mm_next_f _ (by first | assumption | omega) (by first | assumption | omega) (by first | assumption | omega) (by first | assumption | omega)) (cwV 0 hts gX11_read_X11_readsGarden rfl rfl rfl (by decide +kernel) ⟨Nat.le_of_ble_eq_true rfl, Nat.le_of_ble_eq_true rfl⟩) (pV (ci := 11) (k := 0) hKA (hP.sub (ws' := [(mm, .inr (11, [.ref mm_now, .ref mm_kept, .ref mm_isKept, .ref mm_refused, .int mm_lineFrom, .int mm_lineTo, .ref mm_stands, .ref mm_far, .ref mm_queue, .int mm_queued, .ref mm_meets, .ref mm_bytes, .int (nI bl), .int (nI z2), .int (nI z3), .int z4, .int z5, .ref mm_next, .int 0])), (mm_bytes, .inl (cy 1, 250, .inl mm_bytes_f)), (mm_next, .inl (cy 1, 122, .inl mm_next_f))]) [2, 3, 0] rfl) (hD.sub (ws' := [(mm, .inr (11, [.ref mm_now, .ref mm_kept, .ref mm_isKept, .ref mm_refused, .int mm_lineFrom, .int mm_lineTo, .ref mm_stands, .ref mm_far, .ref mm_queue, .int mm_queued, .ref mm_meets, .ref mm_bytes, .int (nI bl), .int (nI z2), .int (nI z3), .int z4, .int z5, .ref mm_next, .int 0])), (mm_bytes, .inl (cy 1, 250, .inl mm_bytes_f)), (mm_next, .inl (cy 1, 122, .inl mm_next_f))]) [2, 3, 0] (by decide) rfl) rfl rfl) rfl rfl hl.1 rfl (lv_room (Nat.le_of_ble_eq_true rfl)) dX11_read_11 ⟨Nat.le_of_ble_eq_true rfl, Nat.le_of_ble_eq_true rfl⟩) hP hD hS hA [2, 3, 0] [1] rfl rfl (by decide +kernel) (by decide +kernel) (fun r6 ur6 H locs hwr6 hP hD hS => ?_)
  obtain ⟨z7, z8, z9, z10, z11, z12⟩ := ur6
  have hP : va_P D vwCl [(mm_now, .inl (cy 1, 122, .inl mm_now_f)), (mm, .inr (11, [.ref mm_now, .ref mm_kept, .ref mm_isKept, .ref mm_refused, .int mm_lineFrom, .int mm_lineTo, .ref mm_stands, .ref mm_far, .ref mm_queue, .int mm_queued, .ref mm_meets, .ref mm_bytes, .int (nI bl), .int (nI z7), .int (nI z8), .int z9, .int z10, .ref mm_next, .int (nI z11)])), (mm_bytes, .inl (cy 1, 250, .inl mm_bytes_f)), (mm_next, .inl (cy 1, 122, .inl z12))] H := hP
  have hD : va_D A [(mm_now, .inl (cy 1, 122, .inl mm_now_f)), (mm, .inr (11, [.ref mm_now, .ref mm_kept, .ref mm_isKept, .ref mm_refused, .int mm_lineFrom, .int mm_lineTo, .ref mm_stands, .ref mm_far, .ref mm_queue, .int mm_queued, .ref mm_meets, .ref mm_bytes, .int (nI bl), .int (nI z7), .int (nI z8), .int z9, .int z10, .ref mm_next, .int (nI z11)])), (mm_bytes, .inl (cy 1, 250, .inl mm_bytes_f)), (mm_next, .inl (cy 1, 122, .inl z12))] := hD
  have hwr6 : (r6 = 1 ∧ (z7 + z8 ≤ bl ∧ (z9 = 0 ∨ 1 ≤ z8) ∧ z2 ≤ z7 ∧ z11 ≤ 35 ∧ mN z12)) ∨ (r6 = 0 ∧ (z7 + z8 ≤ bl ∧ (z9 = 0 ∨ 1 ≤ z8) ∧ z2 ≤ z7 ∧ z11 ≤ 35)) := hwr6
  refine lv_if_ne (tgt := 25) hx hb dX11_read_14 (by decide) (fun c13 => ?_) (fun c13 => ?_)
  · skip
    obtain ⟨hp14, hp15, hp16, hp17, hp18⟩ := z_b1 hwr6 c13
    refine lv_aload_n hx hb dX11_read_25 rfl (lv_at hl 0 rfl) ?_
    refine wr_v (wr := [(mm_now, .inl (cy 1, 122, .inl mm_now_f)), (mm_next, .inl (cy 1, 122, .inl z12))]) (va_runV (As := []) (rest := []) ⟨hx, hb, hml, hown, hts⟩ (n_X11_goOn l D cy mm mm_now mm_kept mm_isKept mm_refused mm_lineFrom mm_lineTo mm_stands mm_far mm_queue mm_queued mm_meets mm_bytes bl z7 z8 z9 z10 mm_next z11 mm_bytes_f _ (by first | assumption | omega) (by first | assumption | omega)) (cwV 0 hts gX11_read_X11_goOn rfl rfl rfl (by decide +kernel) ⟨Nat.le_of_ble_eq_true rfl, Nat.le_of_ble_eq_true rfl⟩) (pV (ci := 11) (k := 0) hKA (hP.sub (ws' := [(mm, .inr (11, [.ref mm_now, .ref mm_kept, .ref mm_isKept, .ref mm_refused, .int mm_lineFrom, .int mm_lineTo, .ref mm_stands, .ref mm_far, .ref mm_queue, .int mm_queued, .ref mm_meets, .ref mm_bytes, .int (nI bl), .int (nI z7), .int (nI z8), .int z9, .int z10, .ref mm_next, .int (nI z11)])), (mm_bytes, .inl (cy 1, 250, .inl mm_bytes_f))]) [1, 2] rfl) (hD.sub (ws' := [(mm, .inr (11, [.ref mm_now, .ref mm_kept, .ref mm_isKept, .ref mm_refused, .int mm_lineFrom, .int mm_lineTo, .ref mm_stands, .ref mm_far, .ref mm_queue, .int mm_queued, .ref mm_meets, .ref mm_bytes, .int (nI bl), .int (nI z7), .int (nI z8), .int z9, .int z10, .ref mm_next, .int (nI z11)])), (mm_bytes, .inl (cy 1, 250, .inl mm_bytes_f))]) [1, 2] (by decide) rfl) rfl rfl) rfl rfl hl.1 rfl (lv_room (Nat.le_of_ble_eq_true rfl)) dX11_read_26 ⟨Nat.le_of_ble_eq_true rfl, Nat.le_of_ble_eq_true rfl⟩) hP hD hS hA [1, 2] [0, 3] rfl rfl (by decide +kernel) (by decide +kernel) (fun ur19 H locs hwr19 hP hD hS => ?_)
    obtain ⟨z20, z21, z22, z23⟩ := ur19
    have hP : va_P D vwCl [(mm_now, .inl (cy 1, 122, .inl mm_now_f)), (mm_next, .inl (cy 1, 122, .inl z12)), (mm, .inr (11, [.ref mm_now, .ref mm_kept, .ref mm_isKept, .ref mm_refused, .int mm_lineFrom, .int mm_lineTo, .ref mm_stands, .ref mm_far, .ref mm_queue, .int mm_queued, .ref mm_meets, .ref mm_bytes, .int (nI bl), .int (nI z20), .int (nI z21), .int z22, .int z23, .ref mm_next, .int (nI z11)])), (mm_bytes, .inl (cy 1, 250, .inl mm_bytes_f))] H := hP
    have hD : va_D A [(mm_now, .inl (cy 1, 122, .inl mm_now_f)), (mm_next, .inl (cy 1, 122, .inl z12)), (mm, .inr (11, [.ref mm_now, .ref mm_kept, .ref mm_isKept, .ref mm_refused, .int mm_lineFrom, .int mm_lineTo, .ref mm_stands, .ref mm_far, .ref mm_queue, .int mm_queued, .ref mm_meets, .ref mm_bytes, .int (nI bl), .int (nI z20), .int (nI z21), .int z22, .int z23, .ref mm_next, .int (nI z11)])), (mm_bytes, .inl (cy 1, 250, .inl mm_bytes_f))] := hD
    have hwr19 : z20 + z21 ≤ bl ∧ (z22 = 0 ∨ 1 ≤ z21) ∧ z7 + z8 ≤ z20 := hwr19
    obtain ⟨har19, hbr19, hcr19⟩ := hwr19
    have lp29 : ∀ (n29 : Nat) (u_mm_13_29 : Nat) (u_mm_14_29 : Nat) (u_mm_18_29 : Nat) (y_mm_next_29 : Nat → Int32) (u_mm_15_29 : Int32) (u_mm_16_29 : Int32) (i1 : u_mm_13_29 + u_mm_14_29 ≤ bl) (i2 : u_mm_15_29 = 0 ∨ 1 ≤ u_mm_14_29) (i3 : u_mm_18_29 ≤ 35) (i4 : mN y_mm_next_29), 251 - u_mm_13_29 < n29 → ∀ (H : Heap) (locs : List Loc), va_P D vwCl [(mm_now, .inl (cy 1, 122, .inl mm_now_f)), (mm_next, .inl (cy 1, 122, .inl y_mm_next_29)), (mm, .inr (11, [.ref mm_now, .ref mm_kept, .ref mm_isKept, .ref mm_refused, .int mm_lineFrom, .int mm_lineTo, .ref mm_stands, .ref mm_far, .ref mm_queue, .int mm_queued, .ref mm_meets, .ref mm_bytes, .int (nI bl), .int (nI u_mm_13_29), .int (nI u_mm_14_29), .int u_mm_15_29, .int u_mm_16_29, .ref mm_next, .int (nI u_mm_18_29)])), (mm_bytes, .inl (cy 1, 250, .inl mm_bytes_f))] H → va_D A [(mm_now, .inl (cy 1, 122, .inl mm_now_f)), (mm_next, .inl (cy 1, 122, .inl y_mm_next_29)), (mm, .inr (11, [.ref mm_now, .ref mm_kept, .ref mm_isKept, .ref mm_refused, .int mm_lineFrom, .int mm_lineTo, .ref mm_stands, .ref mm_far, .ref mm_queue, .int mm_queued, .ref mm_meets, .ref mm_bytes, .int (nI bl), .int (nI u_mm_13_29), .int (nI u_mm_14_29), .int u_mm_15_29, .int u_mm_16_29, .ref mm_next, .int (nI u_mm_18_29)])), (mm_bytes, .inl (cy 1, 250, .inl mm_bytes_f))] → va_S A s.heap H locs → ∀ ls : Array Slot, lv_has ls 2 [(0, .ref mm)] → W p l e (headSpec wsX11_read ({ frames := 7, cells := 0, slots := 0, locals := 154 })).room s m [.ref mm].toArray below meth c H locs 0 0 QF (F0 m 29 ls []) := by
      intro n29
      induction n29 with
      | zero => intro u_mm_13_29 u_mm_14_29 u_mm_18_29 y_mm_next_29 u_mm_15_29 u_mm_16_29 i1 i2 i3 i4 hm; exact absurd hm (Nat.not_lt_zero _)
      | succ n29 ih29 =>
        intro u_mm_13_29 u_mm_14_29 u_mm_18_29 y_mm_next_29 u_mm_15_29 u_mm_16_29 i1 i2 i3 i4 hm29 H locs hP hD hS ls hl
        refine lv_aload_n hx hb dX11_read_29 rfl (lv_at hl 0 rfl) ?_
        refine va_get (D := D) (ci := 11) (v := .int u_mm_15_29) (C := RX11) (T := TX11) (N := 19) hx hb hts zi11_ hown hK hP 2 rfl rfl 15 (by decide) z2_ (fun _ h9 => h9) rfl dX11_read_30 ?_
        refine lv_if_eq (tgt := 66) hx hb dX11_read_33 (by decide) (fun c24 => ?_) (fun c24 => ?_)
        · skip
          refine lv_iconst (v := 0) hx hb dX11_read_66 (by decide) ?_
          refine lv_istore_n (lv' := [(1, .int 0), (0, .ref mm)]) hx hb dX11_read_67 rfl hl (by decide) rfl (fun ls hl => ?_)
          have lp68 : ∀ (n68 : Nat) (v1_68 : Nat) (y_mm_now_68 : Nat → Int32) (hv1_68 : v1_68 < 2147483648) (hk : v1_68 ≤ 122) (hcp : ∀ j, j < v1_68 → y_mm_now_68 j = y_mm_next_29 j), 2147483648 - v1_68 < n68 → ∀ (H : Heap) (locs : List Loc), va_P D vwCl [(mm_now, .inl (cy 1, 122, .inl y_mm_now_68)), (mm_next, .inl (cy 1, 122, .inl y_mm_next_29)), (mm, .inr (11, [.ref mm_now, .ref mm_kept, .ref mm_isKept, .ref mm_refused, .int mm_lineFrom, .int mm_lineTo, .ref mm_stands, .ref mm_far, .ref mm_queue, .int mm_queued, .ref mm_meets, .ref mm_bytes, .int (nI bl), .int (nI u_mm_13_29), .int (nI u_mm_14_29), .int u_mm_15_29, .int u_mm_16_29, .ref mm_next, .int (nI u_mm_18_29)])), (mm_bytes, .inl (cy 1, 250, .inl mm_bytes_f))] H → va_D A [(mm_now, .inl (cy 1, 122, .inl y_mm_now_68)), (mm_next, .inl (cy 1, 122, .inl y_mm_next_29)), (mm, .inr (11, [.ref mm_now, .ref mm_kept, .ref mm_isKept, .ref mm_refused, .int mm_lineFrom, .int mm_lineTo, .ref mm_stands, .ref mm_far, .ref mm_queue, .int mm_queued, .ref mm_meets, .ref mm_bytes, .int (nI bl), .int (nI u_mm_13_29), .int (nI u_mm_14_29), .int u_mm_15_29, .int u_mm_16_29, .ref mm_next, .int (nI u_mm_18_29)])), (mm_bytes, .inl (cy 1, 250, .inl mm_bytes_f))] → va_S A s.heap H locs → ∀ ls : Array Slot, lv_has ls 2 [(1, .int (nI v1_68)), (0, .ref mm)] → W p l e (headSpec wsX11_read ({ frames := 7, cells := 0, slots := 0, locals := 154 })).room s m [.ref mm].toArray below meth c H locs 0 0 QF (F0 m 68 ls []) := by
            intro n68
            induction n68 with
            | zero => intro v1_68 y_mm_now_68 hv1_68 hk hcp hm; exact absurd hm (Nat.not_lt_zero _)
            | succ n68 ih68 =>
              intro v1_68 y_mm_now_68 hv1_68 hk hcp hm68 H locs hP hD hS ls hl
              refine lv_iload_n hx hb dX11_read_68 rfl (lv_at hl 0 rfl) ?_
              refine lv_bipush (v := 122) hx hb dX11_read_69 (by decide) ?_
              refine lv_icmp_ge (tgt := 92) hx hb dX11_read_71 (by decide) (fun c25 => ?_) (fun c25 => ?_)
              · skip
                have hNN : mN y_mm_now_68 := mN.copy (F := y_mm_next_29) (by assumption) (fun j hj => hcp j (by have q := nge_of (n := 122) rfl hk (by decide) (by assumption); omega))
                obtain ⟨yW, yH, yS, yP, hY⟩ := hNN
                refine lv_aload_n hx hb dX11_read_92 rfl (lv_at hl 1 rfl) ?_
                refine rd_i (va_runV (As := []) (rest := []) ⟨hx, hb, hml, hown, hts⟩ (n_X11_people l D cy yW yH yS yP mm mm_now mm_kept mm_isKept mm_refused mm_lineFrom mm_lineTo mm_stands mm_far mm_queue mm_queued mm_meets mm_bytes bl u_mm_13_29 u_mm_14_29 u_mm_15_29 u_mm_16_29 mm_next u_mm_18_29 y_mm_now_68 _ (by first | assumption | omega)) (cwV 0 hts gX11_read_X11_people rfl rfl rfl (by decide +kernel) ⟨Nat.le_of_ble_eq_true rfl, Nat.le_of_ble_eq_true rfl⟩) (pV (ci := 11) (k := 0) hKA (hP.sub (ws' := [(mm, .inr (11, [.ref mm_now, .ref mm_kept, .ref mm_isKept, .ref mm_refused, .int mm_lineFrom, .int mm_lineTo, .ref mm_stands, .ref mm_far, .ref mm_queue, .int mm_queued, .ref mm_meets, .ref mm_bytes, .int (nI bl), .int (nI u_mm_13_29), .int (nI u_mm_14_29), .int u_mm_15_29, .int u_mm_16_29, .ref mm_next, .int (nI u_mm_18_29)])), (mm_now, .inl (cy 1, 122, .inl y_mm_now_68))]) [2, 0] rfl) (hD.sub (ws' := [(mm, .inr (11, [.ref mm_now, .ref mm_kept, .ref mm_isKept, .ref mm_refused, .int mm_lineFrom, .int mm_lineTo, .ref mm_stands, .ref mm_far, .ref mm_queue, .int mm_queued, .ref mm_meets, .ref mm_bytes, .int (nI bl), .int (nI u_mm_13_29), .int (nI u_mm_14_29), .int u_mm_15_29, .int u_mm_16_29, .ref mm_next, .int (nI u_mm_18_29)])), (mm_now, .inl (cy 1, 122, .inl y_mm_now_68))]) [2, 0] (by decide) rfl) rfl rfl) rfl rfl hl.1 rfl (lv_room (Nat.le_of_ble_eq_true rfl)) dX11_read_93 ⟨Nat.le_of_ble_eq_true rfl, Nat.le_of_ble_eq_true rfl⟩) hP hS hA (fun r26 H locs hwr26 hP hS => ?_)
                have hwr26 : r26 = nI yP := hwr26
                subst hwr26
                subst hQF
                have hP9 := hP.sub (ws' := [(mm, .inr (11, [.ref mm_now, .ref mm_kept, .ref mm_isKept, .ref mm_refused, .int mm_lineFrom, .int mm_lineTo, .ref mm_stands, .ref mm_far, .ref mm_queue, .int mm_queued, .ref mm_meets, .ref mm_bytes, .int (nI bl), .int (nI u_mm_13_29), .int (nI u_mm_14_29), .int u_mm_15_29, .int u_mm_16_29, .ref mm_next, .int (nI u_mm_18_29)])), (mm_bytes, .inl (cy 1, 250, .inl mm_bytes_f)), (mm_next, .inl (cy 1, 122, .inl y_mm_next_29)), (mm_now, .inl (cy 1, 122, .inl y_mm_now_68))]) [2, 3, 1, 0] rfl
                have hD9 := hD.sub (ws' := [(mm, .inr (11, [.ref mm_now, .ref mm_kept, .ref mm_isKept, .ref mm_refused, .int mm_lineFrom, .int mm_lineTo, .ref mm_stands, .ref mm_far, .ref mm_queue, .int mm_queued, .ref mm_meets, .ref mm_bytes, .int (nI bl), .int (nI u_mm_13_29), .int (nI u_mm_14_29), .int u_mm_15_29, .int u_mm_16_29, .ref mm_next, .int (nI u_mm_18_29)])), (mm_bytes, .inl (cy 1, 250, .inl mm_bytes_f)), (mm_next, .inl (cy 1, 122, .inl y_mm_next_29)), (mm_now, .inl (cy 1, 122, .inl y_mm_now_68))]) [2, 3, 1, 0] (by decide) rfl
                exact W.iret (v := nI yP) hx hb hr (fun t ht hW => ⟨⟨nI yP, (u_mm_13_29, u_mm_14_29, u_mm_15_29, u_mm_16_29, u_mm_18_29, y_mm_next_29, y_mm_now_68), rfl, ⟨_, _, _, _, hY⟩, by rw [ht]; exact hP9, hD9⟩, hS.F ht⟩) hS.2.2 dX11_read_96
              · skip
                have hk71 := ltN (n := 122) (x := 122) (k := v1_68) (by decide) (by assumption) (by assumption)
                refine lv_aload_n hx hb dX11_read_74 rfl (lv_at hl 1 rfl) ?_
                refine va_get (D := D) (ci := 11) (v := .ref mm_now) (C := RX11) (T := TX11) (N := 19) hx hb hts zi11_ hown hK hP 2 rfl rfl 0 (by decide) z3_ (fun _ h9 => h9) rfl dX11_read_75 ?_
                refine lv_iload_n hx hb dX11_read_78 rfl (lv_at hl 0 rfl) ?_
                refine lv_aload_n hx hb dX11_read_79 rfl (lv_at hl 1 rfl) ?_
                refine va_get (D := D) (ci := 11) (v := .ref mm_next) (C := RX11) (T := TX11) (N := 19) hx hb hts zi11_ hown hK hP 2 rfl rfl 17 (by decide) z4_ (fun _ h9 => h9) rfl dX11_read_80 ?_
                refine lv_iload_n hx hb dX11_read_83 rfl (lv_at hl 0 rfl) ?_
                refine my_iald hx hb hK hP 1 1 rfl rfl (by first | exact in_ge (N := 122) (by decide) (by omega) (by assumption) | exact vp_in_nI (by omega) (by omega)) (nI_clamp (by omega)) dX11_read_84 ?_
                refine lv_topi (fun x27 ex27 => ?_)
                refine my_iast hx hb hK hP hD hS 0 1 rfl rfl (by first | exact in_ge (N := 122) (by decide) (by omega) (by assumption) | exact vp_in_nI (by omega) (by omega)) (nI_clamp (by omega)) dX11_read_85 (fun H locs hP hD hS => ?_)
                have hP : va_P D vwCl [(mm_now, .inl (cy 1, 122, .inl (upd y_mm_now_68 v1_68 x27))), (mm_next, .inl (cy 1, 122, .inl y_mm_next_29)), (mm, .inr (11, [.ref mm_now, .ref mm_kept, .ref mm_isKept, .ref mm_refused, .int mm_lineFrom, .int mm_lineTo, .ref mm_stands, .ref mm_far, .ref mm_queue, .int mm_queued, .ref mm_meets, .ref mm_bytes, .int (nI bl), .int (nI u_mm_13_29), .int (nI u_mm_14_29), .int u_mm_15_29, .int u_mm_16_29, .ref mm_next, .int (nI u_mm_18_29)])), (mm_bytes, .inl (cy 1, 250, .inl mm_bytes_f))] H := hP
                have hD : va_D A [(mm_now, .inl (cy 1, 122, .inl (upd y_mm_now_68 v1_68 x27))), (mm_next, .inl (cy 1, 122, .inl y_mm_next_29)), (mm, .inr (11, [.ref mm_now, .ref mm_kept, .ref mm_isKept, .ref mm_refused, .int mm_lineFrom, .int mm_lineTo, .ref mm_stands, .ref mm_far, .ref mm_queue, .int mm_queued, .ref mm_meets, .ref mm_bytes, .int (nI bl), .int (nI u_mm_13_29), .int (nI u_mm_14_29), .int u_mm_15_29, .int u_mm_16_29, .ref mm_next, .int (nI u_mm_18_29)])), (mm_bytes, .inl (cy 1, 250, .inl mm_bytes_f))] := hD
                refine lv_iinc (v := nI (v1_68 + 1)) (lv' := [(1, .int (nI (v1_68 + 1))), (0, .ref mm)]) hx hb dX11_read_86 hl (k := 0) rfl (nI_1 _) (by decide) rfl (fun ls hl => ?_)
                refine lv_goto (tgt := 68) hx hb dX11_read_89 (by decide) ?_
                exact ih68 (v1_68 + 1) (upd y_mm_now_68 v1_68 x27) (by first | omega | exact nlt_max hv1_68 (by assumption)) (by omega) (fun j hj => if q : j = v1_68 then (by subst q; exact (ur_eq _ _ _).trans ex27) else (by rw [ur_ne _ _ q]; exact hcp j (by omega))) (by first | omega | (have := nlt_max hv1_68 (by assumption); omega)) _ _ hP hD hS ls hl
          exact lp68 (2147483648 - 0 + 1) 0 mm_now_f (by first | omega | exact nlt_max (by assumption) (by assumption)) (by omega) (fun j hj => absurd hj (Nat.not_lt_zero j)) (Nat.lt_succ_self _) _ _ hP hD hS ls hl
        · skip
          refine lv_aload_n hx hb dX11_read_36 rfl (lv_at hl 0 rfl) ?_
          refine wr_i (wr := [(mm_now, .inl (cy 1, 122, .inl mm_now_f))]) (va_runV (As := []) (rest := []) ⟨hx, hb, hml, hown, hts⟩ (n_X11_readsItem l D cy mm mm_now mm_kept mm_isKept mm_refused mm_lineFrom mm_lineTo mm_stands mm_far mm_queue mm_queued mm_meets mm_bytes bl u_mm_13_29 u_mm_14_29 u_mm_15_29 u_mm_16_29 mm_next u_mm_18_29 mm_bytes_f y_mm_next_29 _ (by first | assumption | omega) (by first | assumption | omega) (by first | assumption | omega) (by first | assumption | omega) (by first | assumption | omega)) (cwV 0 hts gX11_read_X11_readsItem rfl rfl rfl (by decide +kernel) ⟨Nat.le_of_ble_eq_true rfl, Nat.le_of_ble_eq_true rfl⟩) (pV (ci := 11) (k := 0) hKA (hP.sub (ws' := [(mm, .inr (11, [.ref mm_now, .ref mm_kept, .ref mm_isKept, .ref mm_refused, .int mm_lineFrom, .int mm_lineTo, .ref mm_stands, .ref mm_far, .ref mm_queue, .int mm_queued, .ref mm_meets, .ref mm_bytes, .int (nI bl), .int (nI u_mm_13_29), .int (nI u_mm_14_29), .int u_mm_15_29, .int u_mm_16_29, .ref mm_next, .int (nI u_mm_18_29)])), (mm_bytes, .inl (cy 1, 250, .inl mm_bytes_f)), (mm_next, .inl (cy 1, 122, .inl y_mm_next_29))]) [2, 3, 1] rfl) (hD.sub (ws' := [(mm, .inr (11, [.ref mm_now, .ref mm_kept, .ref mm_isKept, .ref mm_refused, .int mm_lineFrom, .int mm_lineTo, .ref mm_stands, .ref mm_far, .ref mm_queue, .int mm_queued, .ref mm_meets, .ref mm_bytes, .int (nI bl), .int (nI u_mm_13_29), .int (nI u_mm_14_29), .int u_mm_15_29, .int u_mm_16_29, .ref mm_next, .int (nI u_mm_18_29)])), (mm_bytes, .inl (cy 1, 250, .inl mm_bytes_f)), (mm_next, .inl (cy 1, 122, .inl y_mm_next_29))]) [2, 3, 1] (by decide) rfl) rfl rfl) rfl rfl hl.1 rfl (lv_room (Nat.le_of_ble_eq_true rfl)) dX11_read_37 ⟨Nat.le_of_ble_eq_true rfl, Nat.le_of_ble_eq_true rfl⟩) hP hD hS hA [2, 3, 1] [0] rfl rfl (by decide +kernel) (by decide +kernel) (fun r28 ur28 H locs hwr28 hP hD hS => ?_)
          obtain ⟨z29, z30, z31, z32, z33, z34⟩ := ur28
          have hP : va_P D vwCl [(mm_now, .inl (cy 1, 122, .inl mm_now_f)), (mm, .inr (11, [.ref mm_now, .ref mm_kept, .ref mm_isKept, .ref mm_refused, .int mm_lineFrom, .int mm_lineTo, .ref mm_stands, .ref mm_far, .ref mm_queue, .int mm_queued, .ref mm_meets, .ref mm_bytes, .int (nI bl), .int (nI z29), .int (nI z30), .int z31, .int z32, .ref mm_next, .int (nI z33)])), (mm_bytes, .inl (cy 1, 250, .inl mm_bytes_f)), (mm_next, .inl (cy 1, 122, .inl z34))] H := hP
          have hD : va_D A [(mm_now, .inl (cy 1, 122, .inl mm_now_f)), (mm, .inr (11, [.ref mm_now, .ref mm_kept, .ref mm_isKept, .ref mm_refused, .int mm_lineFrom, .int mm_lineTo, .ref mm_stands, .ref mm_far, .ref mm_queue, .int mm_queued, .ref mm_meets, .ref mm_bytes, .int (nI bl), .int (nI z29), .int (nI z30), .int z31, .int z32, .ref mm_next, .int (nI z33)])), (mm_bytes, .inl (cy 1, 250, .inl mm_bytes_f)), (mm_next, .inl (cy 1, 122, .inl z34))] := hD
          have hwr28 : (r28 = 1 ∧ (z29 + z30 ≤ bl ∧ (z31 = 0 ∨ 1 ≤ z30) ∧ u_mm_13_29 ≤ z29 ∧ z33 ≤ 35 ∧ mN z34)) ∨ (r28 = 0 ∧ (z29 + z30 ≤ bl ∧ (z31 = 0 ∨ 1 ≤ z30) ∧ u_mm_13_29 ≤ z29 ∧ z33 ≤ 35 ∧ mN z34)) := hwr28
          refine lv_if_eq (tgt := 51) hx hb dX11_read_40 (by decide) (fun c35 => ?_) (fun c35 => ?_)
          · skip
            obtain ⟨hq36, hq37, hq38, hq39, hq40⟩ := z_b0 hwr28 c35
            refine lv_bipush (v := (-10)) hx hb dX11_read_51 (by decide) ?_
            refine lv_aload_n hx hb dX11_read_53 rfl (lv_at hl 0 rfl) ?_
            refine va_get (D := D) (ci := 11) (v := .int (nI z29)) (C := RX11) (T := TX11) (N := 19) hx hb hts zi11_ hown hK hP 1 rfl rfl 13 (by decide) z5_ (fun _ h9 => h9) rfl dX11_read_54 ?_
            refine lv_isub hx hb dX11_read_57 ?_
            refine lv_topi (fun x41 ex41 => ?_)
            subst hQF
            have hP9 := hP.sub (ws' := [(mm, .inr (11, [.ref mm_now, .ref mm_kept, .ref mm_isKept, .ref mm_refused, .int mm_lineFrom, .int mm_lineTo, .ref mm_stands, .ref mm_far, .ref mm_queue, .int mm_queued, .ref mm_meets, .ref mm_bytes, .int (nI bl), .int (nI z29), .int (nI z30), .int z31, .int z32, .ref mm_next, .int (nI z33)])), (mm_bytes, .inl (cy 1, 250, .inl mm_bytes_f)), (mm_next, .inl (cy 1, 122, .inl z34)), (mm_now, .inl (cy 1, 122, .inl mm_now_f))]) [1, 2, 3, 0] rfl
            have hD9 := hD.sub (ws' := [(mm, .inr (11, [.ref mm_now, .ref mm_kept, .ref mm_isKept, .ref mm_refused, .int mm_lineFrom, .int mm_lineTo, .ref mm_stands, .ref mm_far, .ref mm_queue, .int mm_queued, .ref mm_meets, .ref mm_bytes, .int (nI bl), .int (nI z29), .int (nI z30), .int z31, .int z32, .ref mm_next, .int (nI z33)])), (mm_bytes, .inl (cy 1, 250, .inl mm_bytes_f)), (mm_next, .inl (cy 1, 122, .inl z34)), (mm_now, .inl (cy 1, 122, .inl mm_now_f))]) [1, 2, 3, 0] (by decide) rfl
            exact W.iret (v := x41) hx hb hr (fun t ht hW => ⟨⟨x41, (z29, z30, z31, z32, z33, z34, mm_now_f), rfl, hN, by rw [ht]; exact hP9, hD9⟩, hS.F ht⟩) hS.2.2 dX11_read_58
          · skip
            obtain ⟨hp42, hp43, hp44, hp45, hp46⟩ := z_b1 hwr28 c35
            refine lv_aload_n hx hb dX11_read_43 rfl (lv_at hl 0 rfl) ?_
            refine va_get (D := D) (ci := 11) (v := .int z31) (C := RX11) (T := TX11) (N := 19) hx hb hts zi11_ hown hK hP 1 rfl rfl 15 (by decide) z2_ (fun _ h9 => h9) rfl dX11_read_44 ?_
            refine lv_iconst (v := 3) hx hb dX11_read_47 (by decide) ?_
            refine lv_icmp_eq (tgt := 59) hx hb dX11_read_48 (by decide) (fun c47 => ?_) (fun c47 => ?_)
            · skip
              have hl3 := z_t3 (t := z31) (n := z30) (by assumption) (by assumption)
              refine lv_aload_n hx hb dX11_read_59 rfl (lv_at hl 0 rfl) ?_
              refine wr_v (wr := [(mm_now, .inl (cy 1, 122, .inl mm_now_f)), (mm_next, .inl (cy 1, 122, .inl z34))]) (va_runV (As := []) (rest := []) ⟨hx, hb, hml, hown, hts⟩ (n_X11_goOn l D cy mm mm_now mm_kept mm_isKept mm_refused mm_lineFrom mm_lineTo mm_stands mm_far mm_queue mm_queued mm_meets mm_bytes bl z29 z30 z31 z32 mm_next z33 mm_bytes_f _ (by first | assumption | omega) (by first | assumption | omega)) (cwV 0 hts gX11_read_X11_goOn rfl rfl rfl (by decide +kernel) ⟨Nat.le_of_ble_eq_true rfl, Nat.le_of_ble_eq_true rfl⟩) (pV (ci := 11) (k := 0) hKA (hP.sub (ws' := [(mm, .inr (11, [.ref mm_now, .ref mm_kept, .ref mm_isKept, .ref mm_refused, .int mm_lineFrom, .int mm_lineTo, .ref mm_stands, .ref mm_far, .ref mm_queue, .int mm_queued, .ref mm_meets, .ref mm_bytes, .int (nI bl), .int (nI z29), .int (nI z30), .int z31, .int z32, .ref mm_next, .int (nI z33)])), (mm_bytes, .inl (cy 1, 250, .inl mm_bytes_f))]) [1, 2] rfl) (hD.sub (ws' := [(mm, .inr (11, [.ref mm_now, .ref mm_kept, .ref mm_isKept, .ref mm_refused, .int mm_lineFrom, .int mm_lineTo, .ref mm_stands, .ref mm_far, .ref mm_queue, .int mm_queued, .ref mm_meets, .ref mm_bytes, .int (nI bl), .int (nI z29), .int (nI z30), .int z31, .int z32, .ref mm_next, .int (nI z33)])), (mm_bytes, .inl (cy 1, 250, .inl mm_bytes_f))]) [1, 2] (by decide) rfl) rfl rfl) rfl rfl hl.1 rfl (lv_room (Nat.le_of_ble_eq_true rfl)) dX11_read_60 ⟨Nat.le_of_ble_eq_true rfl, Nat.le_of_ble_eq_true rfl⟩) hP hD hS hA [1, 2] [0, 3] rfl rfl (by decide +kernel) (by decide +kernel) (fun ur48 H locs hwr48 hP hD hS => ?_)
              obtain ⟨z49, z50, z51, z52⟩ := ur48
              have hP : va_P D vwCl [(mm_now, .inl (cy 1, 122, .inl mm_now_f)), (mm_next, .inl (cy 1, 122, .inl z34)), (mm, .inr (11, [.ref mm_now, .ref mm_kept, .ref mm_isKept, .ref mm_refused, .int mm_lineFrom, .int mm_lineTo, .ref mm_stands, .ref mm_far, .ref mm_queue, .int mm_queued, .ref mm_meets, .ref mm_bytes, .int (nI bl), .int (nI z49), .int (nI z50), .int z51, .int z52, .ref mm_next, .int (nI z33)])), (mm_bytes, .inl (cy 1, 250, .inl mm_bytes_f))] H := hP
              have hD : va_D A [(mm_now, .inl (cy 1, 122, .inl mm_now_f)), (mm_next, .inl (cy 1, 122, .inl z34)), (mm, .inr (11, [.ref mm_now, .ref mm_kept, .ref mm_isKept, .ref mm_refused, .int mm_lineFrom, .int mm_lineTo, .ref mm_stands, .ref mm_far, .ref mm_queue, .int mm_queued, .ref mm_meets, .ref mm_bytes, .int (nI bl), .int (nI z49), .int (nI z50), .int z51, .int z52, .ref mm_next, .int (nI z33)])), (mm_bytes, .inl (cy 1, 250, .inl mm_bytes_f))] := hD
              have hwr48 : z49 + z50 ≤ bl ∧ (z51 = 0 ∨ 1 ≤ z50) ∧ z29 + z30 ≤ z49 := hwr48
              obtain ⟨har48, hbr48, hcr48⟩ := hwr48
              refine lv_goto (tgt := 29) hx hb dX11_read_63 (by decide) ?_
              exact ih29 z49 z50 z33 z34 z51 z52 (by omega) (by assumption) (by omega) (by assumption) (by omega) _ _ hP hD hS ls hl
            · skip
              refine lv_bipush (v := (-10)) hx hb dX11_read_51 (by decide) ?_
              refine lv_aload_n hx hb dX11_read_53 rfl (lv_at hl 0 rfl) ?_
              refine va_get (D := D) (ci := 11) (v := .int (nI z29)) (C := RX11) (T := TX11) (N := 19) hx hb hts zi11_ hown hK hP 1 rfl rfl 13 (by decide) z5_ (fun _ h9 => h9) rfl dX11_read_54 ?_
              refine lv_isub hx hb dX11_read_57 ?_
              refine lv_topi (fun x53 ex53 => ?_)
              subst hQF
              have hP9 := hP.sub (ws' := [(mm, .inr (11, [.ref mm_now, .ref mm_kept, .ref mm_isKept, .ref mm_refused, .int mm_lineFrom, .int mm_lineTo, .ref mm_stands, .ref mm_far, .ref mm_queue, .int mm_queued, .ref mm_meets, .ref mm_bytes, .int (nI bl), .int (nI z29), .int (nI z30), .int z31, .int z32, .ref mm_next, .int (nI z33)])), (mm_bytes, .inl (cy 1, 250, .inl mm_bytes_f)), (mm_next, .inl (cy 1, 122, .inl z34)), (mm_now, .inl (cy 1, 122, .inl mm_now_f))]) [1, 2, 3, 0] rfl
              have hD9 := hD.sub (ws' := [(mm, .inr (11, [.ref mm_now, .ref mm_kept, .ref mm_isKept, .ref mm_refused, .int mm_lineFrom, .int mm_lineTo, .ref mm_stands, .ref mm_far, .ref mm_queue, .int mm_queued, .ref mm_meets, .ref mm_bytes, .int (nI bl), .int (nI z29), .int (nI z30), .int z31, .int z32, .ref mm_next, .int (nI z33)])), (mm_bytes, .inl (cy 1, 250, .inl mm_bytes_f)), (mm_next, .inl (cy 1, 122, .inl z34)), (mm_now, .inl (cy 1, 122, .inl mm_now_f))]) [1, 2, 3, 0] (by decide) rfl
              exact W.iret (v := x53) hx hb hr (fun t ht hW => ⟨⟨x53, (z29, z30, z31, z32, z33, z34, mm_now_f), rfl, hN, by rw [ht]; exact hP9, hD9⟩, hS.F ht⟩) hS.2.2 dX11_read_58
    exact lp29 (251 - z20 + 1) z20 z21 z11 z12 z22 z23 (by omega) (by assumption) (by omega) (by assumption) (Nat.lt_succ_self _) _ _ hP hD hS ls hl
  · skip
    obtain ⟨hq54, hq55, hq56, hq57⟩ := z_b0 hwr6 c13
    refine lv_bipush (v := (-10)) hx hb dX11_read_17 (by decide) ?_
    refine lv_aload_n hx hb dX11_read_19 rfl (lv_at hl 0 rfl) ?_
    refine va_get (D := D) (ci := 11) (v := .int (nI z7)) (C := RX11) (T := TX11) (N := 19) hx hb hts zi11_ hown hK hP 1 rfl rfl 13 (by decide) z5_ (fun _ h9 => h9) rfl dX11_read_20 ?_
    refine lv_isub hx hb dX11_read_23 ?_
    refine lv_topi (fun x58 ex58 => ?_)
    subst hQF
    have hP9 := hP.sub (ws' := [(mm, .inr (11, [.ref mm_now, .ref mm_kept, .ref mm_isKept, .ref mm_refused, .int mm_lineFrom, .int mm_lineTo, .ref mm_stands, .ref mm_far, .ref mm_queue, .int mm_queued, .ref mm_meets, .ref mm_bytes, .int (nI bl), .int (nI z7), .int (nI z8), .int z9, .int z10, .ref mm_next, .int (nI z11)])), (mm_bytes, .inl (cy 1, 250, .inl mm_bytes_f)), (mm_next, .inl (cy 1, 122, .inl z12)), (mm_now, .inl (cy 1, 122, .inl mm_now_f))]) [1, 2, 3, 0] rfl
    have hD9 := hD.sub (ws' := [(mm, .inr (11, [.ref mm_now, .ref mm_kept, .ref mm_isKept, .ref mm_refused, .int mm_lineFrom, .int mm_lineTo, .ref mm_stands, .ref mm_far, .ref mm_queue, .int mm_queued, .ref mm_meets, .ref mm_bytes, .int (nI bl), .int (nI z7), .int (nI z8), .int z9, .int z10, .ref mm_next, .int (nI z11)])), (mm_bytes, .inl (cy 1, 250, .inl mm_bytes_f)), (mm_next, .inl (cy 1, 122, .inl z12)), (mm_now, .inl (cy 1, 122, .inl mm_now_f))]) [1, 2, 3, 0] (by decide) rfl
    exact W.iret (v := x58) hx hb hr (fun t ht hW => ⟨⟨x58, (z7, z8, z9, z10, z11, z12, mm_now_f), rfl, hN, by rw [ht]; exact hP9, hD9⟩, hS.F ht⟩) hS.2.2 dX11_read_24

set_option maxHeartbeats 4000000 in
set_option maxRecDepth 100000 in
theorem n_X11_wipe (l : Launch) (D : va_G) (cy : Nat → ClassId) (mm : Nat) (mm_now : Nat) (mm_kept : Nat) (mm_isKept : Nat) (mm_refused : Nat) (mm_lineFrom : Int32) (mm_lineTo : Int32) (mm_stands : Nat) (mm_far : Nat) (mm_queue : Nat) (mm_queued : Int32) (mm_meets : Nat) (mm_bytes : Nat) (bl : Nat) (ta : Nat) (tl : Nat) (mm_token : Int32) (mm_value : Int32) (mm_next : Nat) (tk : Nat) (sz : Nat)  : Met l yX11_wipe wsX11_wipe ({ frames := 0, cells := 0, slots := 0, locals := 0 }) (va_Pc [.ref mm] (kPre D cy [(mm, .inr (11, [.ref mm_now, .ref mm_kept, .ref mm_isKept, .ref mm_refused, .int mm_lineFrom, .int mm_lineTo, .ref mm_stands, .ref mm_far, .ref mm_queue, .int mm_queued, .ref mm_meets, .ref mm_bytes, .int (nI bl), .int (nI ta), .int (nI tl), .int mm_token, .int mm_value, .ref mm_next, .int (nI tk)]))] sz)) (va_Qi (fun (r : Int32) (u : Nat) => r = nI bl ∧ u = 0) (fun (u : Nat) t => va_P D vwCl ([(mm, .inr (11, [.ref mm_now, .ref mm_kept, .ref mm_isKept, .ref mm_refused, .int mm_lineFrom, .int mm_lineTo, .ref mm_stands, .ref mm_far, .ref mm_queue, .int mm_queued, .ref mm_meets, .ref mm_bytes, .int (nI u), .int (nI ta), .int (nI tl), .int mm_token, .int mm_value, .ref mm_next, .int (nI tk)]))]) t.heap ∧ va_D (va_A [(mm, .inr (11, [.ref mm_now, .ref mm_kept, .ref mm_isKept, .ref mm_refused, .int mm_lineFrom, .int mm_lineTo, .ref mm_stands, .ref mm_far, .ref mm_queue, .int mm_queued, .ref mm_meets, .ref mm_bytes, .int (nI bl), .int (nI ta), .int (nI tl), .int mm_token, .int mm_value, .ref mm_next, .int (nI tk)]))] sz) ([(mm, .inr (11, [.ref mm_now, .ref mm_kept, .ref mm_isKept, .ref mm_refused, .int mm_lineFrom, .int mm_lineTo, .ref mm_stands, .ref mm_far, .ref mm_queue, .int mm_queued, .ref mm_meets, .ref mm_bytes, .int (nI u), .int (nI ta), .int (nI tl), .int mm_token, .int mm_value, .ref mm_next, .int (nI tk)]))])) (va_A [(mm, .inr (11, [.ref mm_now, .ref mm_kept, .ref mm_isKept, .ref mm_refused, .int mm_lineFrom, .int mm_lineTo, .ref mm_stands, .ref mm_far, .ref mm_queue, .int mm_queued, .ref mm_meets, .ref mm_bytes, .int (nI bl), .int (nI ta), .int (nI tl), .int mm_token, .int mm_value, .ref mm_next, .int (nI tk)]))] sz)) 0 0 (va_A [(mm, .inr (11, [.ref mm_now, .ref mm_kept, .ref mm_isKept, .ref mm_refused, .int mm_lineFrom, .int mm_lineTo, .ref mm_stands, .ref mm_far, .ref mm_queue, .int mm_queued, .ref mm_meets, .ref mm_bytes, .int (nI bl), .int (nI ta), .int (nI tl), .int mm_token, .int mm_value, .ref mm_next, .int (nI tk)]))] sz) := by
  refine Met.ofW (cc := cX11_wipe) (maxL := 2) (ret := (some .int)) (by decide) rfl ?_
  intro p e s m args below meth c s₁ B hml hv
  obtain ⟨rfl, hsz, hP, hKA, hD0⟩ := hv
  have hx := B.exec
  have hb := B.bytes
  have hr := B.returns
  have hts := atoms_spec (ws := wsX11_wipe) B.pre
  have hown : s.vm.findClass RX11 = some m.cls := findClass_of_methodNamed B.named
  have hlocks := B.notSynchronized
  subst hsz
  have hK := hKA.1
  have hD := hD0.self (sz := s.heap.size)
  generalize hAe : va_A [(mm, .inr (11, [.ref mm_now, .ref mm_kept, .ref mm_isKept, .ref mm_refused, .int mm_lineFrom, .int mm_lineTo, .ref mm_stands, .ref mm_far, .ref mm_queue, .int mm_queued, .ref mm_meets, .ref mm_bytes, .int (nI bl), .int (nI ta), .int (nI tl), .int mm_token, .int mm_value, .ref mm_next, .int (nI tk)]))] s.heap.size = A at hD ⊢
  have hA : ∀ q : Nat, s.heap.size ≤ q → A q := fun q h => by rw [← hAe]; exact Or.inr h
  have hS : va_S A s.heap s.heap [] := va_S.rf
  have hP : va_P D vwCl [(mm, .inr (11, [.ref mm_now, .ref mm_kept, .ref mm_isKept, .ref mm_refused, .int mm_lineFrom, .int mm_lineTo, .ref mm_stands, .ref mm_far, .ref mm_queue, .int mm_queued, .ref mm_meets, .ref mm_bytes, .int (nI bl), .int (nI ta), .int (nI tl), .int mm_token, .int mm_value, .ref mm_next, .int (nI tk)]))] s.heap := hP
  have hl := lv_entry ([.ref mm]) (n := 2) (Nat.le_of_ble_eq_true rfl)
  rw [lg_entry_eq]
  generalize (lg_sl ([.ref mm]) ++ List.replicate (2 - (lg_sl ([.ref mm])).length) Slot.unset).toArray = ls at hl ⊢
  have hl : lv_has ls 2 [(0, .ref mm)] := hl
  refine qW (fun QF hQF => ?_)
  have z0_ := hts (.fieldLink RX11 196 "HeardSeenModel" "bytesLong" "I") (by decide +kernel)
  have zi11_ : ∀ w ∈ u_ws RX11 TX11 19, w ∈ wsX11_wipe := by decide +kernel
  refine lv_aload_n hx hb dX11_wipe_0 rfl (lv_at hl 0 rfl) ?_
  refine va_get (D := D) (ci := 11) (v := .int (nI bl)) (C := RX11) (T := TX11) (N := 19) hx hb hts zi11_ hown hK hP 0 rfl rfl 12 (by decide) z0_ (fun _ h9 => h9) rfl dX11_wipe_1 ?_
  refine lv_istore_n (lv' := [(1, .int (nI bl)), (0, .ref mm)]) hx hb dX11_wipe_4 rfl hl (by decide) rfl (fun ls hl => ?_)
  refine lv_aload_n hx hb dX11_wipe_5 rfl (lv_at hl 1 rfl) ?_
  refine lv_iconst (v := 0) hx hb dX11_wipe_6 (by decide) ?_
  refine va_put (D := D) (ci := 11) (v := .int 0) (ty := .int) (C := RX11) (T := TX11) (N := 19) hx hb hts zi11_ tyX11 tyX11_ok nmX11 hown hK hP hD hS 0 rfl rfl 12 (by decide) z0_ (fun _ h9 => h9) rfl (by decide +kernel) rfl rfl (Nat.le_of_ble_eq_true rfl) dX11_wipe_7 (fun H locs hP hD hS => ?_)
  have hP : va_P D vwCl [(mm, .inr (11, [.ref mm_now, .ref mm_kept, .ref mm_isKept, .ref mm_refused, .int mm_lineFrom, .int mm_lineTo, .ref mm_stands, .ref mm_far, .ref mm_queue, .int mm_queued, .ref mm_meets, .ref mm_bytes, .int 0, .int (nI ta), .int (nI tl), .int mm_token, .int mm_value, .ref mm_next, .int (nI tk)]))] H := hP
  have hD : va_D A [(mm, .inr (11, [.ref mm_now, .ref mm_kept, .ref mm_isKept, .ref mm_refused, .int mm_lineFrom, .int mm_lineTo, .ref mm_stands, .ref mm_far, .ref mm_queue, .int mm_queued, .ref mm_meets, .ref mm_bytes, .int 0, .int (nI ta), .int (nI tl), .int mm_token, .int mm_value, .ref mm_next, .int (nI tk)]))] := hD
  refine lv_iload_n hx hb dX11_wipe_10 rfl (lv_at hl 0 rfl) ?_
  subst hQF
  have hP9 := hP
  have hD9 := hD
  exact W.iret (v := nI bl) hx hb hr (fun t ht hW => ⟨⟨nI bl, 0, rfl, ⟨rfl, rfl⟩, by rw [ht]; exact hP9, hD9⟩, hS.F ht⟩) hS.2.2 dX11_wipe_11

set_option maxHeartbeats 4000000 in
set_option maxRecDepth 100000 in
theorem n_X11_type (l : Launch) (D : va_G) (cy : Nat → ClassId) (mm : Nat) (mm_now : Nat) (mm_kept : Nat) (mm_isKept : Nat) (mm_refused : Nat) (mm_lineFrom : Int32) (mm_lineTo : Int32) (mm_stands : Nat) (mm_far : Nat) (mm_queue : Nat) (mm_queued : Int32) (mm_meets : Nat) (mm_bytes : Nat) (bl : Nat) (ta : Nat) (tl : Nat) (mm_token : Int32) (mm_value : Int32) (mm_next : Nat) (tk : Nat) (mm_bytes_f : Nat → Int32) (mm_refused_f : Nat → Int32) (px : Int64) (py : Int32) (sz : Nat) (hbl : bl ≤ 250) : Met l yX11_type wsX11_type ({ frames := 1, cells := 0, slots := 0, locals := 25 }) (va_Pc [.ref mm, .long px, .int py] (kPre D cy [(mm, .inr (11, [.ref mm_now, .ref mm_kept, .ref mm_isKept, .ref mm_refused, .int mm_lineFrom, .int mm_lineTo, .ref mm_stands, .ref mm_far, .ref mm_queue, .int mm_queued, .ref mm_meets, .ref mm_bytes, .int (nI bl), .int (nI ta), .int (nI tl), .int mm_token, .int mm_value, .ref mm_next, .int (nI tk)])), (mm_bytes, .inl (cy 1, 250, .inl mm_bytes_f)), (mm_refused, .inl (cy 1, 3, .inl mm_refused_f))] sz)) (va_Qi (fun (r : Int32) (u : Nat × (Nat → Int32) × (Nat → Int32)) => r = tyR bl py ∧ u.1 = tyN bl py ∧ u.1 ≤ 250) (fun (u : Nat × (Nat → Int32) × (Nat → Int32)) t => va_P D vwCl ([(mm, .inr (11, [.ref mm_now, .ref mm_kept, .ref mm_isKept, .ref mm_refused, .int mm_lineFrom, .int mm_lineTo, .ref mm_stands, .ref mm_far, .ref mm_queue, .int mm_queued, .ref mm_meets, .ref mm_bytes, .int (nI u.1), .int (nI ta), .int (nI tl), .int mm_token, .int mm_value, .ref mm_next, .int (nI tk)])), (mm_bytes, .inl (cy 1, 250, .inl u.2.1)), (mm_refused, .inl (cy 1, 3, .inl u.2.2))]) t.heap ∧ va_D (va_A [(mm, .inr (11, [.ref mm_now, .ref mm_kept, .ref mm_isKept, .ref mm_refused, .int mm_lineFrom, .int mm_lineTo, .ref mm_stands, .ref mm_far, .ref mm_queue, .int mm_queued, .ref mm_meets, .ref mm_bytes, .int (nI bl), .int (nI ta), .int (nI tl), .int mm_token, .int mm_value, .ref mm_next, .int (nI tk)])), (mm_bytes, .inl (cy 1, 250, .inl mm_bytes_f)), (mm_refused, .inl (cy 1, 3, .inl mm_refused_f))] sz) ([(mm, .inr (11, [.ref mm_now, .ref mm_kept, .ref mm_isKept, .ref mm_refused, .int mm_lineFrom, .int mm_lineTo, .ref mm_stands, .ref mm_far, .ref mm_queue, .int mm_queued, .ref mm_meets, .ref mm_bytes, .int (nI u.1), .int (nI ta), .int (nI tl), .int mm_token, .int mm_value, .ref mm_next, .int (nI tk)])), (mm_bytes, .inl (cy 1, 250, .inl u.2.1)), (mm_refused, .inl (cy 1, 3, .inl u.2.2))])) (va_A [(mm, .inr (11, [.ref mm_now, .ref mm_kept, .ref mm_isKept, .ref mm_refused, .int mm_lineFrom, .int mm_lineTo, .ref mm_stands, .ref mm_far, .ref mm_queue, .int mm_queued, .ref mm_meets, .ref mm_bytes, .int (nI bl), .int (nI ta), .int (nI tl), .int mm_token, .int mm_value, .ref mm_next, .int (nI tk)])), (mm_bytes, .inl (cy 1, 250, .inl mm_bytes_f)), (mm_refused, .inl (cy 1, 3, .inl mm_refused_f))] sz)) 0 0 (va_A [(mm, .inr (11, [.ref mm_now, .ref mm_kept, .ref mm_isKept, .ref mm_refused, .int mm_lineFrom, .int mm_lineTo, .ref mm_stands, .ref mm_far, .ref mm_queue, .int mm_queued, .ref mm_meets, .ref mm_bytes, .int (nI bl), .int (nI ta), .int (nI tl), .int mm_token, .int mm_value, .ref mm_next, .int (nI tk)])), (mm_bytes, .inl (cy 1, 250, .inl mm_bytes_f)), (mm_refused, .inl (cy 1, 3, .inl mm_refused_f))] sz) := by
  refine Met.ofW (cc := cX11_type) (maxL := 5) (ret := (some .int)) (by decide) rfl ?_
  intro p e s m args below meth c s₁ B hml hv
  obtain ⟨rfl, hsz, hP, hKA, hD0⟩ := hv
  have hx := B.exec
  have hb := B.bytes
  have hr := B.returns
  have hts := atoms_spec (ws := wsX11_type) B.pre
  have hown : s.vm.findClass RX11 = some m.cls := findClass_of_methodNamed B.named
  have hlocks := B.notSynchronized
  subst hsz
  have hK := hKA.1
  have hD := hD0.self (sz := s.heap.size)
  generalize hAe : va_A [(mm, .inr (11, [.ref mm_now, .ref mm_kept, .ref mm_isKept, .ref mm_refused, .int mm_lineFrom, .int mm_lineTo, .ref mm_stands, .ref mm_far, .ref mm_queue, .int mm_queued, .ref mm_meets, .ref mm_bytes, .int (nI bl), .int (nI ta), .int (nI tl), .int mm_token, .int mm_value, .ref mm_next, .int (nI tk)])), (mm_bytes, .inl (cy 1, 250, .inl mm_bytes_f)), (mm_refused, .inl (cy 1, 3, .inl mm_refused_f))] s.heap.size = A at hD ⊢
  have hA : ∀ q : Nat, s.heap.size ≤ q → A q := fun q h => by rw [← hAe]; exact Or.inr h
  have hS : va_S A s.heap s.heap [] := va_S.rf
  have hP : va_P D vwCl [(mm, .inr (11, [.ref mm_now, .ref mm_kept, .ref mm_isKept, .ref mm_refused, .int mm_lineFrom, .int mm_lineTo, .ref mm_stands, .ref mm_far, .ref mm_queue, .int mm_queued, .ref mm_meets, .ref mm_bytes, .int (nI bl), .int (nI ta), .int (nI tl), .int mm_token, .int mm_value, .ref mm_next, .int (nI tk)])), (mm_bytes, .inl (cy 1, 250, .inl mm_bytes_f)), (mm_refused, .inl (cy 1, 3, .inl mm_refused_f))] s.heap := hP
  have hl := lv_entry ([.ref mm, .long px, .int py]) (n := 5) (Nat.le_of_ble_eq_true rfl)
  rw [lg_entry_eq]
  generalize (lg_sl ([.ref mm, .long px, .int py]) ++ List.replicate (5 - (lg_sl ([.ref mm, .long px, .int py])).length) Slot.unset).toArray = ls at hl ⊢
  have hl : lv_has ls 5 [(0, .ref mm), (1, .long px), (3, .int py)] := hl
  refine qW (fun QF hQF => ?_)
  have z0_ := hts (.constantLong RX11 194 8) (by decide +kernel)
  have z1_ := hts (.fieldLink RX11 196 "HeardSeenModel" "bytesLong" "I") (by decide +kernel)
  have zi11_ : ∀ w ∈ u_ws RX11 TX11 19, w ∈ wsX11_type := by decide +kernel
  have z3_ := hts (.fieldLink RX11 35 "HeardSeenModel" "bytes" "[I") (by decide +kernel)
  have z4_ := hts (.constantLong RX11 199 255) (by decide +kernel)
  refine lv_iload_n hx hb dX11_type_0 rfl (lv_at hl 2 rfl) ?_
  refine lv_i2l hx hb dX11_type_1 rfl ?_
  refine lv_lconst (v := 1) hx hb dX11_type_2 (by decide) ?_
  refine lv_ldc2 hx hb hown z0_ dX11_type_3 ?_
  refine rd_i (va_runS (As := [.long py.toInt64, .long 1, .long 8]) (rest := []) ⟨hx, hb, hml, hown, hts⟩ (n_X11_in l D cy py.toInt64 (1) (8) _ ) (va_cwS 3 hts gX11_type_X11_in rfl rfl rfl (by decide +kernel) ⟨Nat.le_of_ble_eq_true rfl, Nat.le_of_ble_eq_true rfl⟩) (pS hKA pE (dE (A := A))) rfl rfl hl.1 rfl (lv_room (Nat.le_of_ble_eq_true rfl)) dX11_type_6 ⟨Nat.le_of_ble_eq_true rfl, Nat.le_of_ble_eq_true rfl⟩) hP hS hA (fun r1 H locs hwr1 hP hS => ?_)
  have hwr1 : (r1 = 1 ∧ ((1) ≤ py.toInt64 ∧ py.toInt64 ≤ (8))) ∨ (r1 = 0 ∧ (¬ ((1) ≤ py.toInt64 ∧ py.toInt64 ≤ (8)))) := hwr1
  refine lv_if_ne (tgt := 19) hx hb dX11_type_9 (by decide) (fun c2 => ?_) (fun c2 => ?_)
  · skip
    obtain ⟨hp3, hp4⟩ := z_b1 hwr1 c2
    obtain ⟨j5, gj5, hj5, ej5⟩ := z_rng (lo := 1) (hi := 8) (by decide) (by decide) hp3 hp4
    refine lv_aload_n hx hb dX11_type_19 rfl (lv_at hl 0 rfl) ?_
    refine va_get (D := D) (ci := 11) (v := .int (nI bl)) (C := RX11) (T := TX11) (N := 19) hx hb hts zi11_ hown hK hP 0 rfl rfl 12 (by decide) z1_ (fun _ h9 => h9) rfl dX11_type_20 ?_
    refine lv_iload_n hx hb dX11_type_23 rfl (lv_at hl 2 rfl) ?_
    refine W.eq (g2 := F0 m 24 ls [.int (nI j5), .int (nI bl)]) (congrArg (fun v9 : Int32 => F0 m 24 ls [.int v9, .int (nI bl)]) ej5) ?_
    refine lv_iadd hx hb dX11_type_24 ?_
    refine lv_topi (fun x6 ex6 => ?_)
    obtain rfl : x6 = nI (bl + j5) := by rw [ex6]; exact nI_add _ _
    refine lv_sipush (v := 250) hx hb dX11_type_25 (by decide) ?_
    refine lv_icmp_le (tgt := 36) hx hb dX11_type_28 (by decide) (fun c7 => ?_) (fun c7 => ?_)
    · skip
      have hle := (nI_leI (a := bl + j5) (b := 250) (by omega) (by omega)).mp (by assumption)
      refine lv_iload_n hx hb dX11_type_36 rfl (lv_at hl 2 rfl) ?_
      refine W.eq (g2 := F0 m 37 ls [.int (nI j5)]) (congrArg (fun v9 : Int32 => F0 m 37 ls [.int v9]) ej5) ?_
      refine lv_iconst (v := 1) hx hb dX11_type_37 (by decide) ?_
      refine lv_isub hx hb dX11_type_38 ?_
      refine lv_topi (fun x8 ex8 => ?_)
      obtain rfl : x8 = nI (j5 - 1) := by rw [ex8]; exact pk_sub (a := j5) (b := 1) (by omega)
      refine lv_istore (lv' := [(4, .int (nI (j5 - 1))), (0, .ref mm), (1, .long px), (3, .int py)]) hx hb dX11_type_39 hl (by decide) rfl (fun ls hl => ?_)
      have lp41 : ∀ (n41 : Nat) (u_mm_12_41 : Nat) (v4_41 : Int32) (y_mm_bytes_41 : Nat → Int32) (hr1 : (u_mm_12_41 : Int) + (v4_41 : Int32).toInt + 1 = bl + j5) (hr2 : -1 ≤ (v4_41 : Int32).toInt), ((v4_41 : Int32).toInt + 1).toNat < n41 → ∀ (H : Heap) (locs : List Loc), va_P D vwCl [(mm, .inr (11, [.ref mm_now, .ref mm_kept, .ref mm_isKept, .ref mm_refused, .int mm_lineFrom, .int mm_lineTo, .ref mm_stands, .ref mm_far, .ref mm_queue, .int mm_queued, .ref mm_meets, .ref mm_bytes, .int (nI u_mm_12_41), .int (nI ta), .int (nI tl), .int mm_token, .int mm_value, .ref mm_next, .int (nI tk)])), (mm_bytes, .inl (cy 1, 250, .inl y_mm_bytes_41)), (mm_refused, .inl (cy 1, 3, .inl mm_refused_f))] H → va_D A [(mm, .inr (11, [.ref mm_now, .ref mm_kept, .ref mm_isKept, .ref mm_refused, .int mm_lineFrom, .int mm_lineTo, .ref mm_stands, .ref mm_far, .ref mm_queue, .int mm_queued, .ref mm_meets, .ref mm_bytes, .int (nI u_mm_12_41), .int (nI ta), .int (nI tl), .int mm_token, .int mm_value, .ref mm_next, .int (nI tk)])), (mm_bytes, .inl (cy 1, 250, .inl y_mm_bytes_41)), (mm_refused, .inl (cy 1, 3, .inl mm_refused_f))] → va_S A s.heap H locs → ∀ ls : Array Slot, lv_has ls 5 [(4, .int v4_41), (0, .ref mm), (1, .long px), (3, .int py)] → W p l e (headSpec wsX11_type ({ frames := 1, cells := 0, slots := 0, locals := 25 })).room s m [.ref mm, .long px, .int py].toArray below meth c H locs 0 0 QF (F0 m 41 ls []) := by
        intro n41
        induction n41 with
        | zero => intro u_mm_12_41 v4_41 y_mm_bytes_41 hr1 hr2 hm; exact absurd hm (Nat.not_lt_zero _)
        | succ n41 ih41 =>
          intro u_mm_12_41 v4_41 y_mm_bytes_41 hr1 hr2 hm41 H locs hP hD hS ls hl
          refine lv_iload hx hb dX11_type_41 (lv_at hl 0 rfl) ?_
          refine lv_if_lt (tgt := 83) hx hb dX11_type_43 (by decide) (fun c9 => ?_) (fun c9 => ?_)
          · skip
            have hneg : (v4_41 : Int32).toInt < 0 := (z_lt _ _).mp (by assumption)
            have hend : u_mm_12_41 = bl + j5 := by omega
            refine lv_aload_n hx hb dX11_type_83 rfl (lv_at hl 1 rfl) ?_
            refine va_get (D := D) (ci := 11) (v := .int (nI u_mm_12_41)) (C := RX11) (T := TX11) (N := 19) hx hb hts zi11_ hown hK hP 0 rfl rfl 12 (by decide) z1_ (fun _ h9 => h9) rfl dX11_type_84 ?_
            subst hQF
            have hP9 := hP
            have hD9 := hD
            exact W.iret (v := nI u_mm_12_41) hx hb hr (fun t ht hW => ⟨⟨nI u_mm_12_41, (u_mm_12_41, y_mm_bytes_41, mm_refused_f), rfl, ⟨(ty_ok (ln := bl) (m := u_mm_12_41) (n18 ej5 gj5 hj5).1 (n18 ej5 gj5 hj5).2 ej5 hj5 hend hle).1, (ty_ok (ln := bl) (m := u_mm_12_41) (n18 ej5 gj5 hj5).1 (n18 ej5 gj5 hj5).2 ej5 hj5 hend hle).2, (by show u_mm_12_41 ≤ 250; omega)⟩, by rw [ht]; exact hP9, hD9⟩, hS.F ht⟩) hS.2.2 dX11_type_87
          · skip
            have hpos : 0 ≤ (v4_41 : Int32).toInt := by have q := (by assumption : ¬ v4_41 < 0); rw [z_lt] at q; have h0 : (0 : Int32).toInt = 0 := (by decide); omega
            refine lv_aload_n hx hb dX11_type_46 rfl (lv_at hl 1 rfl) ?_
            refine va_get (D := D) (ci := 11) (v := .ref mm_bytes) (C := RX11) (T := TX11) (N := 19) hx hb hts zi11_ hown hK hP 0 rfl rfl 11 (by decide) z3_ (fun _ h9 => h9) rfl dX11_type_47 ?_
            refine lv_aload_n hx hb dX11_type_50 rfl (lv_at hl 1 rfl) ?_
            refine va_get (D := D) (ci := 11) (v := .int (nI u_mm_12_41)) (C := RX11) (T := TX11) (N := 19) hx hb hts zi11_ hown hK hP 0 rfl rfl 12 (by decide) z1_ (fun _ h9 => h9) rfl dX11_type_51 ?_
            refine lv_lload_n hx hb dX11_type_54 rfl (lv_at hl 2 rfl) ?_
            refine lv_bipush (v := 8) hx hb dX11_type_55 (by decide) ?_
            refine lv_iload hx hb dX11_type_57 (lv_at hl 0 rfl) ?_
            refine lv_imul hx hb dX11_type_59 ?_
            refine lv_lushr hx hb dX11_type_60 rfl ?_
            refine lv_ldc2 hx hb hown z4_ dX11_type_61 ?_
            refine lv_land hx hb dX11_type_64 ?_
            refine lv_l2i hx hb dX11_type_65 rfl ?_
            refine lv_topi (fun x10 ex10 => ?_)
            refine my_iast hx hb hK hP hD hS 1 1 rfl rfl (by first | exact in_ge (N := 250) (by decide) (by omega) (by assumption) | exact vp_in_nI (by omega) (by omega)) (nI_clamp (by omega)) dX11_type_66 (fun H locs hP hD hS => ?_)
            have hP : va_P D vwCl [(mm, .inr (11, [.ref mm_now, .ref mm_kept, .ref mm_isKept, .ref mm_refused, .int mm_lineFrom, .int mm_lineTo, .ref mm_stands, .ref mm_far, .ref mm_queue, .int mm_queued, .ref mm_meets, .ref mm_bytes, .int (nI u_mm_12_41), .int (nI ta), .int (nI tl), .int mm_token, .int mm_value, .ref mm_next, .int (nI tk)])), (mm_bytes, .inl (cy 1, 250, .inl (upd y_mm_bytes_41 u_mm_12_41 x10))), (mm_refused, .inl (cy 1, 3, .inl mm_refused_f))] H := hP
            have hD : va_D A [(mm, .inr (11, [.ref mm_now, .ref mm_kept, .ref mm_isKept, .ref mm_refused, .int mm_lineFrom, .int mm_lineTo, .ref mm_stands, .ref mm_far, .ref mm_queue, .int mm_queued, .ref mm_meets, .ref mm_bytes, .int (nI u_mm_12_41), .int (nI ta), .int (nI tl), .int mm_token, .int mm_value, .ref mm_next, .int (nI tk)])), (mm_bytes, .inl (cy 1, 250, .inl (upd y_mm_bytes_41 u_mm_12_41 x10))), (mm_refused, .inl (cy 1, 3, .inl mm_refused_f))] := hD
            refine lv_aload_n hx hb dX11_type_67 rfl (lv_at hl 1 rfl) ?_
            refine lv_dup hx hb dX11_type_68 rfl ?_
            refine va_get (D := D) (ci := 11) (v := .int (nI u_mm_12_41)) (C := RX11) (T := TX11) (N := 19) hx hb hts zi11_ hown hK hP 0 rfl rfl 12 (by decide) z1_ (fun _ h9 => h9) rfl dX11_type_69 ?_
            refine lv_iconst (v := 1) hx hb dX11_type_72 (by decide) ?_
            refine lv_iadd hx hb dX11_type_73 ?_
            refine lv_topi (fun x11 ex11 => ?_)
            obtain rfl : x11 = nI (u_mm_12_41 + 1) := by rw [ex11]; exact nI_add _ _
            refine va_put (D := D) (ci := 11) (v := .int (nI (u_mm_12_41 + 1))) (ty := .int) (C := RX11) (T := TX11) (N := 19) hx hb hts zi11_ tyX11 tyX11_ok nmX11 hown hK hP hD hS 0 rfl rfl 12 (by decide) z1_ (fun _ h9 => h9) rfl (by decide +kernel) rfl rfl (Nat.le_of_ble_eq_true rfl) dX11_type_74 (fun H locs hP hD hS => ?_)
            have hP : va_P D vwCl [(mm, .inr (11, [.ref mm_now, .ref mm_kept, .ref mm_isKept, .ref mm_refused, .int mm_lineFrom, .int mm_lineTo, .ref mm_stands, .ref mm_far, .ref mm_queue, .int mm_queued, .ref mm_meets, .ref mm_bytes, .int (nI (u_mm_12_41 + 1)), .int (nI ta), .int (nI tl), .int mm_token, .int mm_value, .ref mm_next, .int (nI tk)])), (mm_bytes, .inl (cy 1, 250, .inl (upd y_mm_bytes_41 u_mm_12_41 x10))), (mm_refused, .inl (cy 1, 3, .inl mm_refused_f))] H := hP
            have hD : va_D A [(mm, .inr (11, [.ref mm_now, .ref mm_kept, .ref mm_isKept, .ref mm_refused, .int mm_lineFrom, .int mm_lineTo, .ref mm_stands, .ref mm_far, .ref mm_queue, .int mm_queued, .ref mm_meets, .ref mm_bytes, .int (nI (u_mm_12_41 + 1)), .int (nI ta), .int (nI tl), .int mm_token, .int mm_value, .ref mm_next, .int (nI tk)])), (mm_bytes, .inl (cy 1, 250, .inl (upd y_mm_bytes_41 u_mm_12_41 x10))), (mm_refused, .inl (cy 1, 3, .inl mm_refused_f))] := hD
            obtain ⟨x12, ex12⟩ : ∃ y : Int32, y = v4_41 + (-1) := ⟨_, rfl⟩
            refine lv_iinc (v := x12) (lv' := [(4, .int x12), (0, .ref mm), (1, .long px), (3, .int py)]) hx hb dX11_type_77 hl (k := 0) rfl (by rw [ex12]; rfl) (by decide) rfl (fun ls hl => ?_)
            refine lv_goto (tgt := 41) hx hb dX11_type_80 (by decide) ?_
            exact ih41 (u_mm_12_41 + 1) x12 (upd y_mm_bytes_41 u_mm_12_41 x10) (by have q := z_dn (by assumption) ex12; omega) (by have q := z_dn (by assumption) ex12; omega) (by have q := z_dn (by assumption) ex12; omega) _ _ hP hD hS ls hl
      exact lp41 (((nI (j5 - 1) : Int32).toInt + 1).toNat + 1) bl (nI (j5 - 1)) mm_bytes_f (by rw [nI_toInt (by omega)]; omega) (by rw [nI_toInt (by omega)]; omega) (Nat.lt_succ_self _) _ _ hP hD hS ls hl
    · skip
      have hgt : ¬ bl + j5 ≤ 250 := fun q => absurd ((nI_leI (a := bl + j5) (b := 250) (by omega) (by omega)).mpr q) (by assumption)
      refine lv_aload_n hx hb dX11_type_31 rfl (lv_at hl 0 rfl) ?_
      refine wr_i (wr := [(mm_bytes, .inl (cy 1, 250, .inl mm_bytes_f))]) (va_runV (As := []) (rest := []) ⟨hx, hb, hml, hown, hts⟩ (n_X11_full l D cy mm mm_now mm_kept mm_isKept mm_refused mm_lineFrom mm_lineTo mm_stands mm_far mm_queue mm_queued mm_meets mm_bytes bl ta tl mm_token mm_value mm_next tk mm_refused_f _ ) (cwV 0 hts gX11_type_X11_full rfl rfl rfl (by decide +kernel) ⟨Nat.le_of_ble_eq_true rfl, Nat.le_of_ble_eq_true rfl⟩) (pV (ci := 11) (k := 0) hKA (hP.sub (ws' := [(mm, .inr (11, [.ref mm_now, .ref mm_kept, .ref mm_isKept, .ref mm_refused, .int mm_lineFrom, .int mm_lineTo, .ref mm_stands, .ref mm_far, .ref mm_queue, .int mm_queued, .ref mm_meets, .ref mm_bytes, .int (nI bl), .int (nI ta), .int (nI tl), .int mm_token, .int mm_value, .ref mm_next, .int (nI tk)])), (mm_refused, .inl (cy 1, 3, .inl mm_refused_f))]) [0, 2] rfl) (hD.sub (ws' := [(mm, .inr (11, [.ref mm_now, .ref mm_kept, .ref mm_isKept, .ref mm_refused, .int mm_lineFrom, .int mm_lineTo, .ref mm_stands, .ref mm_far, .ref mm_queue, .int mm_queued, .ref mm_meets, .ref mm_bytes, .int (nI bl), .int (nI ta), .int (nI tl), .int mm_token, .int mm_value, .ref mm_next, .int (nI tk)])), (mm_refused, .inl (cy 1, 3, .inl mm_refused_f))]) [0, 2] (by decide) rfl) rfl rfl) rfl rfl hl.1 rfl (lv_room (Nat.le_of_ble_eq_true rfl)) dX11_type_32 ⟨Nat.le_of_ble_eq_true rfl, Nat.le_of_ble_eq_true rfl⟩) hP hD hS hA [0, 2] [1] rfl rfl (by decide +kernel) (by decide +kernel) (fun r13 ur13 H locs hwr13 hP hD hS => ?_)
      obtain ⟨z14, rfl⟩ : ∃ z, z = ur13 := ⟨_, rfl⟩
      have hP : va_P D vwCl [(mm_bytes, .inl (cy 1, 250, .inl mm_bytes_f)), (mm, .inr (11, [.ref mm_now, .ref mm_kept, .ref mm_isKept, .ref mm_refused, .int mm_lineFrom, .int mm_lineTo, .ref mm_stands, .ref mm_far, .ref mm_queue, .int mm_queued, .ref mm_meets, .ref mm_bytes, .int (nI bl), .int (nI ta), .int (nI tl), .int mm_token, .int mm_value, .ref mm_next, .int (nI tk)])), (mm_refused, .inl (cy 1, 3, .inl z14))] H := hP
      have hD : va_D A [(mm_bytes, .inl (cy 1, 250, .inl mm_bytes_f)), (mm, .inr (11, [.ref mm_now, .ref mm_kept, .ref mm_isKept, .ref mm_refused, .int mm_lineFrom, .int mm_lineTo, .ref mm_stands, .ref mm_far, .ref mm_queue, .int mm_queued, .ref mm_meets, .ref mm_bytes, .int (nI bl), .int (nI ta), .int (nI tl), .int mm_token, .int mm_value, .ref mm_next, .int (nI tk)])), (mm_refused, .inl (cy 1, 3, .inl z14))] := hD
      have hwr13 : r13 = -4 := hwr13
      subst hwr13
      subst hQF
      have hP9 := hP.sub (ws' := [(mm, .inr (11, [.ref mm_now, .ref mm_kept, .ref mm_isKept, .ref mm_refused, .int mm_lineFrom, .int mm_lineTo, .ref mm_stands, .ref mm_far, .ref mm_queue, .int mm_queued, .ref mm_meets, .ref mm_bytes, .int (nI bl), .int (nI ta), .int (nI tl), .int mm_token, .int mm_value, .ref mm_next, .int (nI tk)])), (mm_bytes, .inl (cy 1, 250, .inl mm_bytes_f)), (mm_refused, .inl (cy 1, 3, .inl z14))]) [1, 0, 2] rfl
      have hD9 := hD.sub (ws' := [(mm, .inr (11, [.ref mm_now, .ref mm_kept, .ref mm_isKept, .ref mm_refused, .int mm_lineFrom, .int mm_lineTo, .ref mm_stands, .ref mm_far, .ref mm_queue, .int mm_queued, .ref mm_meets, .ref mm_bytes, .int (nI bl), .int (nI ta), .int (nI tl), .int mm_token, .int mm_value, .ref mm_next, .int (nI tk)])), (mm_bytes, .inl (cy 1, 250, .inl mm_bytes_f)), (mm_refused, .inl (cy 1, 3, .inl z14))]) [1, 0, 2] (by decide) rfl
      exact W.iret (v := (-4)) hx hb hr (fun t ht hW => ⟨⟨(-4), (bl, mm_bytes_f, z14), rfl, ⟨(ty_full (ln := bl) (m := bl) (n18 ej5 gj5 hj5).1 (n18 ej5 gj5 hj5).2 ej5 hj5 rfl hgt).1, (ty_full (ln := bl) (m := bl) (n18 ej5 gj5 hj5).1 (n18 ej5 gj5 hj5).2 ej5 hj5 rfl hgt).2, hbl⟩, by rw [ht]; exact hP9, hD9⟩, hS.F ht⟩) hS.2.2 dX11_type_35
  · skip
    have hq15 := z_b0 hwr1 c2
    refine lv_aload_n hx hb dX11_type_12 rfl (lv_at hl 0 rfl) ?_
    refine lv_bipush (v := (-2)) hx hb dX11_type_13 (by decide) ?_
    refine wr_i (wr := [(mm_bytes, .inl (cy 1, 250, .inl mm_bytes_f))]) (va_runV (As := [.int (-2)]) (rest := []) ⟨hx, hb, hml, hown, hts⟩ (n_X11_bad l D cy mm mm_now mm_kept mm_isKept mm_refused mm_lineFrom mm_lineTo mm_stands mm_far mm_queue mm_queued mm_meets mm_bytes bl ta tl mm_token mm_value mm_next tk mm_refused_f (-2) _ ) (cwV 1 hts gX11_type_X11_bad rfl rfl rfl (by decide +kernel) ⟨Nat.le_of_ble_eq_true rfl, Nat.le_of_ble_eq_true rfl⟩) (pV (ci := 11) (k := 0) hKA (hP.sub (ws' := [(mm, .inr (11, [.ref mm_now, .ref mm_kept, .ref mm_isKept, .ref mm_refused, .int mm_lineFrom, .int mm_lineTo, .ref mm_stands, .ref mm_far, .ref mm_queue, .int mm_queued, .ref mm_meets, .ref mm_bytes, .int (nI bl), .int (nI ta), .int (nI tl), .int mm_token, .int mm_value, .ref mm_next, .int (nI tk)])), (mm_refused, .inl (cy 1, 3, .inl mm_refused_f))]) [0, 2] rfl) (hD.sub (ws' := [(mm, .inr (11, [.ref mm_now, .ref mm_kept, .ref mm_isKept, .ref mm_refused, .int mm_lineFrom, .int mm_lineTo, .ref mm_stands, .ref mm_far, .ref mm_queue, .int mm_queued, .ref mm_meets, .ref mm_bytes, .int (nI bl), .int (nI ta), .int (nI tl), .int mm_token, .int mm_value, .ref mm_next, .int (nI tk)])), (mm_refused, .inl (cy 1, 3, .inl mm_refused_f))]) [0, 2] (by decide) rfl) rfl rfl) rfl rfl hl.1 rfl (lv_room (Nat.le_of_ble_eq_true rfl)) dX11_type_15 ⟨Nat.le_of_ble_eq_true rfl, Nat.le_of_ble_eq_true rfl⟩) hP hD hS hA [0, 2] [1] rfl rfl (by decide +kernel) (by decide +kernel) (fun r16 ur16 H locs hwr16 hP hD hS => ?_)
    obtain ⟨z17, rfl⟩ : ∃ z, z = ur16 := ⟨_, rfl⟩
    have hP : va_P D vwCl [(mm_bytes, .inl (cy 1, 250, .inl mm_bytes_f)), (mm, .inr (11, [.ref mm_now, .ref mm_kept, .ref mm_isKept, .ref mm_refused, .int mm_lineFrom, .int mm_lineTo, .ref mm_stands, .ref mm_far, .ref mm_queue, .int mm_queued, .ref mm_meets, .ref mm_bytes, .int (nI bl), .int (nI ta), .int (nI tl), .int mm_token, .int mm_value, .ref mm_next, .int (nI tk)])), (mm_refused, .inl (cy 1, 3, .inl z17))] H := hP
    have hD : va_D A [(mm_bytes, .inl (cy 1, 250, .inl mm_bytes_f)), (mm, .inr (11, [.ref mm_now, .ref mm_kept, .ref mm_isKept, .ref mm_refused, .int mm_lineFrom, .int mm_lineTo, .ref mm_stands, .ref mm_far, .ref mm_queue, .int mm_queued, .ref mm_meets, .ref mm_bytes, .int (nI bl), .int (nI ta), .int (nI tl), .int mm_token, .int mm_value, .ref mm_next, .int (nI tk)])), (mm_refused, .inl (cy 1, 3, .inl z17))] := hD
    have hwr16 : r16 = (-2) := hwr16
    subst hwr16
    subst hQF
    have hP9 := hP.sub (ws' := [(mm, .inr (11, [.ref mm_now, .ref mm_kept, .ref mm_isKept, .ref mm_refused, .int mm_lineFrom, .int mm_lineTo, .ref mm_stands, .ref mm_far, .ref mm_queue, .int mm_queued, .ref mm_meets, .ref mm_bytes, .int (nI bl), .int (nI ta), .int (nI tl), .int mm_token, .int mm_value, .ref mm_next, .int (nI tk)])), (mm_bytes, .inl (cy 1, 250, .inl mm_bytes_f)), (mm_refused, .inl (cy 1, 3, .inl z17))]) [1, 0, 2] rfl
    have hD9 := hD.sub (ws' := [(mm, .inr (11, [.ref mm_now, .ref mm_kept, .ref mm_isKept, .ref mm_refused, .int mm_lineFrom, .int mm_lineTo, .ref mm_stands, .ref mm_far, .ref mm_queue, .int mm_queued, .ref mm_meets, .ref mm_bytes, .int (nI bl), .int (nI ta), .int (nI tl), .int mm_token, .int mm_value, .ref mm_next, .int (nI tk)])), (mm_bytes, .inl (cy 1, 250, .inl mm_bytes_f)), (mm_refused, .inl (cy 1, 3, .inl z17))]) [1, 0, 2] (by decide) rfl
    exact W.iret (v := (-2)) hx hb hr (fun t ht hW => ⟨⟨(-2), (bl, mm_bytes_f, z17), rfl, ⟨(tyb (by assumption)).1, (tyb (by assumption)).2, hbl⟩, by rw [ht]; exact hP9, hD9⟩, hS.F ht⟩) hS.2.2 dX11_type_18

set_option maxHeartbeats 4000000 in
set_option maxRecDepth 100000 in
theorem n_X11_image (l : Launch) (D : va_G) (cy : Nat → ClassId) (mm : Nat) (mm_now : Nat) (mm_kept : Nat) (mm_isKept : Nat) (mm_refused : Nat) (mm_lineFrom : Int32) (mm_lineTo : Int32) (mm_stands : Nat) (mm_far : Nat) (mm_queue : Nat) (mm_queued : Int32) (mm_meets : Nat) (mm_bytes : Nat) (bl : Nat) (ta : Nat) (tl : Nat) (mm_token : Int32) (mm_value : Int32) (mm_next : Nat) (tk : Nat) (mm_now_f : Nat → Int32) (mm_kept_f : Nat → Int32) (mm_isKept_f : Nat → Int32) (mm_refused_f : Nat → Int32) (px : Int32) (sz : Nat) (hN : mN mm_now_f) (hkI : kI mm_kept_f mm_isKept_f) : Met l yX11_image wsX11_image ({ frames := 1, cells := 0, slots := 0, locals := 25 }) (va_Pc [.ref mm, .int px] (kPre D cy [(mm, .inr (11, [.ref mm_now, .ref mm_kept, .ref mm_isKept, .ref mm_refused, .int mm_lineFrom, .int mm_lineTo, .ref mm_stands, .ref mm_far, .ref mm_queue, .int mm_queued, .ref mm_meets, .ref mm_bytes, .int (nI bl), .int (nI ta), .int (nI tl), .int mm_token, .int mm_value, .ref mm_next, .int (nI tk)])), (mm_now, .inl (cy 1, 122, .inl mm_now_f)), (mm_kept, .inl (cy 1, 244, .inl mm_kept_f)), (mm_isKept, .inl (cy 2, 2, .inl mm_isKept_f)), (mm_refused, .inl (cy 1, 3, .inl mm_refused_f))] sz)) (va_Qi (fun (r : Int32) (u : (Nat → Int32) × (Nat → Int32) × (Nat → Int32)) => r = sp_01 px 1 ∧ kI u.1 u.2.1 ∧ ikN mm_isKept_f u.2.1 px) (fun (u : (Nat → Int32) × (Nat → Int32) × (Nat → Int32)) t => va_P D vwCl ([(mm, .inr (11, [.ref mm_now, .ref mm_kept, .ref mm_isKept, .ref mm_refused, .int mm_lineFrom, .int mm_lineTo, .ref mm_stands, .ref mm_far, .ref mm_queue, .int mm_queued, .ref mm_meets, .ref mm_bytes, .int (nI bl), .int (nI ta), .int (nI tl), .int mm_token, .int mm_value, .ref mm_next, .int (nI tk)])), (mm_now, .inl (cy 1, 122, .inl mm_now_f)), (mm_kept, .inl (cy 1, 244, .inl u.1)), (mm_isKept, .inl (cy 2, 2, .inl u.2.1)), (mm_refused, .inl (cy 1, 3, .inl u.2.2))]) t.heap ∧ va_D (va_A [(mm, .inr (11, [.ref mm_now, .ref mm_kept, .ref mm_isKept, .ref mm_refused, .int mm_lineFrom, .int mm_lineTo, .ref mm_stands, .ref mm_far, .ref mm_queue, .int mm_queued, .ref mm_meets, .ref mm_bytes, .int (nI bl), .int (nI ta), .int (nI tl), .int mm_token, .int mm_value, .ref mm_next, .int (nI tk)])), (mm_now, .inl (cy 1, 122, .inl mm_now_f)), (mm_kept, .inl (cy 1, 244, .inl mm_kept_f)), (mm_isKept, .inl (cy 2, 2, .inl mm_isKept_f)), (mm_refused, .inl (cy 1, 3, .inl mm_refused_f))] sz) ([(mm, .inr (11, [.ref mm_now, .ref mm_kept, .ref mm_isKept, .ref mm_refused, .int mm_lineFrom, .int mm_lineTo, .ref mm_stands, .ref mm_far, .ref mm_queue, .int mm_queued, .ref mm_meets, .ref mm_bytes, .int (nI bl), .int (nI ta), .int (nI tl), .int mm_token, .int mm_value, .ref mm_next, .int (nI tk)])), (mm_now, .inl (cy 1, 122, .inl mm_now_f)), (mm_kept, .inl (cy 1, 244, .inl u.1)), (mm_isKept, .inl (cy 2, 2, .inl u.2.1)), (mm_refused, .inl (cy 1, 3, .inl u.2.2))])) (va_A [(mm, .inr (11, [.ref mm_now, .ref mm_kept, .ref mm_isKept, .ref mm_refused, .int mm_lineFrom, .int mm_lineTo, .ref mm_stands, .ref mm_far, .ref mm_queue, .int mm_queued, .ref mm_meets, .ref mm_bytes, .int (nI bl), .int (nI ta), .int (nI tl), .int mm_token, .int mm_value, .ref mm_next, .int (nI tk)])), (mm_now, .inl (cy 1, 122, .inl mm_now_f)), (mm_kept, .inl (cy 1, 244, .inl mm_kept_f)), (mm_isKept, .inl (cy 2, 2, .inl mm_isKept_f)), (mm_refused, .inl (cy 1, 3, .inl mm_refused_f))] sz)) 0 0 (va_A [(mm, .inr (11, [.ref mm_now, .ref mm_kept, .ref mm_isKept, .ref mm_refused, .int mm_lineFrom, .int mm_lineTo, .ref mm_stands, .ref mm_far, .ref mm_queue, .int mm_queued, .ref mm_meets, .ref mm_bytes, .int (nI bl), .int (nI ta), .int (nI tl), .int mm_token, .int mm_value, .ref mm_next, .int (nI tk)])), (mm_now, .inl (cy 1, 122, .inl mm_now_f)), (mm_kept, .inl (cy 1, 244, .inl mm_kept_f)), (mm_isKept, .inl (cy 2, 2, .inl mm_isKept_f)), (mm_refused, .inl (cy 1, 3, .inl mm_refused_f))] sz) := by
  refine Met.ofW (cc := cX11_image) (maxL := 3) (ret := (some .int)) (by decide) rfl ?_
  intro p e s m args below meth c s₁ B hml hv
  obtain ⟨rfl, hsz, hP, hKA, hD0⟩ := hv
  have hx := B.exec
  have hb := B.bytes
  have hr := B.returns
  have hts := atoms_spec (ws := wsX11_image) B.pre
  have hown : s.vm.findClass RX11 = some m.cls := findClass_of_methodNamed B.named
  have hlocks := B.notSynchronized
  subst hsz
  have hK := hKA.1
  have hD := hD0.self (sz := s.heap.size)
  generalize hAe : va_A [(mm, .inr (11, [.ref mm_now, .ref mm_kept, .ref mm_isKept, .ref mm_refused, .int mm_lineFrom, .int mm_lineTo, .ref mm_stands, .ref mm_far, .ref mm_queue, .int mm_queued, .ref mm_meets, .ref mm_bytes, .int (nI bl), .int (nI ta), .int (nI tl), .int mm_token, .int mm_value, .ref mm_next, .int (nI tk)])), (mm_now, .inl (cy 1, 122, .inl mm_now_f)), (mm_kept, .inl (cy 1, 244, .inl mm_kept_f)), (mm_isKept, .inl (cy 2, 2, .inl mm_isKept_f)), (mm_refused, .inl (cy 1, 3, .inl mm_refused_f))] s.heap.size = A at hD ⊢
  have hA : ∀ q : Nat, s.heap.size ≤ q → A q := fun q h => by rw [← hAe]; exact Or.inr h
  have hS : va_S A s.heap s.heap [] := va_S.rf
  have hP : va_P D vwCl [(mm, .inr (11, [.ref mm_now, .ref mm_kept, .ref mm_isKept, .ref mm_refused, .int mm_lineFrom, .int mm_lineTo, .ref mm_stands, .ref mm_far, .ref mm_queue, .int mm_queued, .ref mm_meets, .ref mm_bytes, .int (nI bl), .int (nI ta), .int (nI tl), .int mm_token, .int mm_value, .ref mm_next, .int (nI tk)])), (mm_now, .inl (cy 1, 122, .inl mm_now_f)), (mm_kept, .inl (cy 1, 244, .inl mm_kept_f)), (mm_isKept, .inl (cy 2, 2, .inl mm_isKept_f)), (mm_refused, .inl (cy 1, 3, .inl mm_refused_f))] s.heap := hP
  have hl := lv_entry ([.ref mm, .int px]) (n := 3) (Nat.le_of_ble_eq_true rfl)
  rw [lg_entry_eq]
  generalize (lg_sl ([.ref mm, .int px]) ++ List.replicate (3 - (lg_sl ([.ref mm, .int px])).length) Slot.unset).toArray = ls at hl ⊢
  have hl : lv_has ls 3 [(0, .ref mm), (1, .int px)] := hl
  refine qW (fun QF hQF => ?_)
  have z0_ := hts (.fieldLink RX11 13 "HeardSeenModel" "kept" "[I") (by decide +kernel)
  have zi11_ : ∀ w ∈ u_ws RX11 TX11 19, w ∈ wsX11_image := by decide +kernel
  have z2_ := hts (.fieldLink RX11 7 "HeardSeenModel" "now" "[I") (by decide +kernel)
  have z3_ := hts (.fieldLink RX11 16 "HeardSeenModel" "isKept" "[Z") (by decide +kernel)
  refine lv_iload_n hx hb dX11_image_0 rfl (lv_at hl 1 rfl) ?_
  refine lv_i2l hx hb dX11_image_1 rfl ?_
  refine lv_lconst (v := 0) hx hb dX11_image_2 (by decide) ?_
  refine lv_lconst (v := 1) hx hb dX11_image_3 (by decide) ?_
  refine rd_i (va_runS (As := [.long px.toInt64, .long 0, .long 1]) (rest := []) ⟨hx, hb, hml, hown, hts⟩ (n_X11_in l D cy px.toInt64 (0) (1) _ ) (va_cwS 3 hts gX11_image_X11_in rfl rfl rfl (by decide +kernel) ⟨Nat.le_of_ble_eq_true rfl, Nat.le_of_ble_eq_true rfl⟩) (pS hKA pE (dE (A := A))) rfl rfl hl.1 rfl (lv_room (Nat.le_of_ble_eq_true rfl)) dX11_image_4 ⟨Nat.le_of_ble_eq_true rfl, Nat.le_of_ble_eq_true rfl⟩) hP hS hA (fun r1 H locs hwr1 hP hS => ?_)
  have hwr1 : (r1 = 1 ∧ ((0) ≤ px.toInt64 ∧ px.toInt64 ≤ (1))) ∨ (r1 = 0 ∧ (¬ ((0) ≤ px.toInt64 ∧ px.toInt64 ≤ (1)))) := hwr1
  refine lv_if_ne (tgt := 17) hx hb dX11_image_7 (by decide) (fun c2 => ?_) (fun c2 => ?_)
  · skip
    obtain ⟨hp3, hp4⟩ := z_b1 hwr1 c2
    obtain ⟨j5, gj5, hj5, ej5⟩ := z_rng (lo := 0) (hi := 1) (by decide) (by decide) hp3 hp4
    refine lv_iconst (v := 0) hx hb dX11_image_17 (by decide) ?_
    refine lv_istore_n (lv' := [(2, .int 0), (0, .ref mm), (1, .int px)]) hx hb dX11_image_18 rfl hl (by decide) rfl (fun ls hl => ?_)
    have lp19 : ∀ (n19 : Nat) (v2_19 : Nat) (y_mm_kept_19 : Nat → Int32) (hv2_19 : v2_19 < 2147483648) (hk : v2_19 ≤ 122) (hc1 : ∀ m, m < v2_19 → y_mm_kept_19 (122 * j5 + m) = mm_now_f m) (hc2 : ∀ n, (n < 122 * j5 ∨ 122 * j5 + 122 ≤ n) → y_mm_kept_19 n = mm_kept_f n), 2147483648 - v2_19 < n19 → ∀ (H : Heap) (locs : List Loc), va_P D vwCl [(mm, .inr (11, [.ref mm_now, .ref mm_kept, .ref mm_isKept, .ref mm_refused, .int mm_lineFrom, .int mm_lineTo, .ref mm_stands, .ref mm_far, .ref mm_queue, .int mm_queued, .ref mm_meets, .ref mm_bytes, .int (nI bl), .int (nI ta), .int (nI tl), .int mm_token, .int mm_value, .ref mm_next, .int (nI tk)])), (mm_now, .inl (cy 1, 122, .inl mm_now_f)), (mm_kept, .inl (cy 1, 244, .inl y_mm_kept_19)), (mm_isKept, .inl (cy 2, 2, .inl mm_isKept_f)), (mm_refused, .inl (cy 1, 3, .inl mm_refused_f))] H → va_D A [(mm, .inr (11, [.ref mm_now, .ref mm_kept, .ref mm_isKept, .ref mm_refused, .int mm_lineFrom, .int mm_lineTo, .ref mm_stands, .ref mm_far, .ref mm_queue, .int mm_queued, .ref mm_meets, .ref mm_bytes, .int (nI bl), .int (nI ta), .int (nI tl), .int mm_token, .int mm_value, .ref mm_next, .int (nI tk)])), (mm_now, .inl (cy 1, 122, .inl mm_now_f)), (mm_kept, .inl (cy 1, 244, .inl y_mm_kept_19)), (mm_isKept, .inl (cy 2, 2, .inl mm_isKept_f)), (mm_refused, .inl (cy 1, 3, .inl mm_refused_f))] → va_S A s.heap H locs → ∀ ls : Array Slot, lv_has ls 3 [(2, .int (nI v2_19)), (0, .ref mm), (1, .int px)] → W p l e (headSpec wsX11_image ({ frames := 1, cells := 0, slots := 0, locals := 25 })).room s m [.ref mm, .int px].toArray below meth c H locs 0 0 QF (F0 m 19 ls []) := by
      intro n19
      induction n19 with
      | zero => intro v2_19 y_mm_kept_19 hv2_19 hk hc1 hc2 hm; exact absurd hm (Nat.not_lt_zero _)
      | succ n19 ih19 =>
        intro v2_19 y_mm_kept_19 hv2_19 hk hc1 hc2 hm19 H locs hP hD hS ls hl
        refine lv_iload_n hx hb dX11_image_19 rfl (lv_at hl 0 rfl) ?_
        refine lv_bipush (v := 122) hx hb dX11_image_20 (by decide) ?_
        refine lv_icmp_ge (tgt := 48) hx hb dX11_image_22 (by decide) (fun c6 => ?_) (fun c6 => ?_)
        · skip
          refine lv_aload_n hx hb dX11_image_48 rfl (lv_at hl 1 rfl) ?_
          refine va_get (D := D) (ci := 11) (v := .ref mm_isKept) (C := RX11) (T := TX11) (N := 19) hx hb hts zi11_ hown hK hP 0 rfl rfl 2 (by decide) z3_ (fun _ h9 => h9) rfl dX11_image_49 ?_
          refine lv_iload_n hx hb dX11_image_52 rfl (lv_at hl 2 rfl) ?_
          refine W.eq (g2 := F0 m 53 ls [.int (nI j5), .ref mm_isKept]) (congrArg (fun v9 : Int32 => F0 m 53 ls [.int v9, .ref mm_isKept]) ej5) ?_
          refine lv_iconst (v := 1) hx hb dX11_image_53 (by decide) ?_
          refine my_zast hx hb hK hP hD hS 3 2 rfl rfl (by first | exact in_ge (N := 2) (by decide) (by omega) (by assumption) | exact vp_in_nI (by omega) (by omega)) (nI_clamp (by omega)) dX11_image_54 (fun H locs hP hD hS => ?_)
          have hP : va_P D vwCl [(mm, .inr (11, [.ref mm_now, .ref mm_kept, .ref mm_isKept, .ref mm_refused, .int mm_lineFrom, .int mm_lineTo, .ref mm_stands, .ref mm_far, .ref mm_queue, .int mm_queued, .ref mm_meets, .ref mm_bytes, .int (nI bl), .int (nI ta), .int (nI tl), .int mm_token, .int mm_value, .ref mm_next, .int (nI tk)])), (mm_now, .inl (cy 1, 122, .inl mm_now_f)), (mm_kept, .inl (cy 1, 244, .inl y_mm_kept_19)), (mm_isKept, .inl (cy 2, 2, .inl (upd mm_isKept_f j5 (vp_nar .boolean 1)))), (mm_refused, .inl (cy 1, 3, .inl mm_refused_f))] H := hP
          have hD : va_D A [(mm, .inr (11, [.ref mm_now, .ref mm_kept, .ref mm_isKept, .ref mm_refused, .int mm_lineFrom, .int mm_lineTo, .ref mm_stands, .ref mm_far, .ref mm_queue, .int mm_queued, .ref mm_meets, .ref mm_bytes, .int (nI bl), .int (nI ta), .int (nI tl), .int mm_token, .int mm_value, .ref mm_next, .int (nI tk)])), (mm_now, .inl (cy 1, 122, .inl mm_now_f)), (mm_kept, .inl (cy 1, 244, .inl y_mm_kept_19)), (mm_isKept, .inl (cy 2, 2, .inl (upd mm_isKept_f j5 (vp_nar .boolean 1)))), (mm_refused, .inl (cy 1, 3, .inl mm_refused_f))] := hD
          refine lv_iconst (v := 1) hx hb dX11_image_55 (by decide) ?_
          subst hQF
          have hP9 := hP
          have hD9 := hD
          exact W.iret (v := 1) hx hb hr (fun t ht hW => ⟨⟨1, (y_mm_kept_19, upd mm_isKept_f j5 (vp_nar .boolean 1), mm_refused_f), rfl, (imK ej5 hj5 (by rfl) hkI hN (fun m hm => hc1 m (by have q := nge_of (n := 122) rfl hk (by decide) (by assumption); omega)) hc2), by rw [ht]; exact hP9, hD9⟩, hS.F ht⟩) hS.2.2 dX11_image_56
        · skip
          have hk22 := ltN (n := 122) (x := 122) (k := v2_19) (by decide) (by assumption) (by assumption)
          refine lv_aload_n hx hb dX11_image_25 rfl (lv_at hl 1 rfl) ?_
          refine va_get (D := D) (ci := 11) (v := .ref mm_kept) (C := RX11) (T := TX11) (N := 19) hx hb hts zi11_ hown hK hP 0 rfl rfl 1 (by decide) z0_ (fun _ h9 => h9) rfl dX11_image_26 ?_
          refine lv_bipush (v := 122) hx hb dX11_image_29 (by decide) ?_
          refine lv_iload_n hx hb dX11_image_31 rfl (lv_at hl 2 rfl) ?_
          refine W.eq (g2 := F0 m 32 ls [.int (nI j5), .int 122, .ref mm_kept]) (congrArg (fun v9 : Int32 => F0 m 32 ls [.int v9, .int 122, .ref mm_kept]) ej5) ?_
          refine lv_imul hx hb dX11_image_32 ?_
          refine lv_topi (fun x7 ex7 => ?_)
          obtain rfl : x7 = nI (122 * j5) := by rw [ex7]; exact pk_mul _ _
          refine lv_iload_n hx hb dX11_image_33 rfl (lv_at hl 0 rfl) ?_
          refine lv_iadd hx hb dX11_image_34 ?_
          refine lv_topi (fun x8 ex8 => ?_)
          obtain rfl : x8 = nI ((122 * j5) + v2_19) := by rw [ex8]; exact nI_add _ _
          refine lv_aload_n hx hb dX11_image_35 rfl (lv_at hl 1 rfl) ?_
          refine va_get (D := D) (ci := 11) (v := .ref mm_now) (C := RX11) (T := TX11) (N := 19) hx hb hts zi11_ hown hK hP 0 rfl rfl 0 (by decide) z2_ (fun _ h9 => h9) rfl dX11_image_36 ?_
          refine lv_iload_n hx hb dX11_image_39 rfl (lv_at hl 0 rfl) ?_
          refine my_iald hx hb hK hP 1 1 rfl rfl (by first | exact in_ge (N := 122) (by decide) (by omega) (by assumption) | exact vp_in_nI (by omega) (by omega)) (nI_clamp (by omega)) dX11_image_40 ?_
          refine lv_topi (fun x9 ex9 => ?_)
          refine my_iast hx hb hK hP hD hS 2 1 rfl rfl (by first | exact in_ge (N := 244) (by decide) (by omega) (by assumption) | exact vp_in_nI (by omega) (by omega)) (nI_clamp (by omega)) dX11_image_41 (fun H locs hP hD hS => ?_)
          have hP : va_P D vwCl [(mm, .inr (11, [.ref mm_now, .ref mm_kept, .ref mm_isKept, .ref mm_refused, .int mm_lineFrom, .int mm_lineTo, .ref mm_stands, .ref mm_far, .ref mm_queue, .int mm_queued, .ref mm_meets, .ref mm_bytes, .int (nI bl), .int (nI ta), .int (nI tl), .int mm_token, .int mm_value, .ref mm_next, .int (nI tk)])), (mm_now, .inl (cy 1, 122, .inl mm_now_f)), (mm_kept, .inl (cy 1, 244, .inl (upd y_mm_kept_19 ((122 * j5) + v2_19) x9))), (mm_isKept, .inl (cy 2, 2, .inl mm_isKept_f)), (mm_refused, .inl (cy 1, 3, .inl mm_refused_f))] H := hP
          have hD : va_D A [(mm, .inr (11, [.ref mm_now, .ref mm_kept, .ref mm_isKept, .ref mm_refused, .int mm_lineFrom, .int mm_lineTo, .ref mm_stands, .ref mm_far, .ref mm_queue, .int mm_queued, .ref mm_meets, .ref mm_bytes, .int (nI bl), .int (nI ta), .int (nI tl), .int mm_token, .int mm_value, .ref mm_next, .int (nI tk)])), (mm_now, .inl (cy 1, 122, .inl mm_now_f)), (mm_kept, .inl (cy 1, 244, .inl (upd y_mm_kept_19 ((122 * j5) + v2_19) x9))), (mm_isKept, .inl (cy 2, 2, .inl mm_isKept_f)), (mm_refused, .inl (cy 1, 3, .inl mm_refused_f))] := hD
          refine lv_iinc (v := nI (v2_19 + 1)) (lv' := [(2, .int (nI (v2_19 + 1))), (0, .ref mm), (1, .int px)]) hx hb dX11_image_42 hl (k := 0) rfl (nI_1 _) (by decide) rfl (fun ls hl => ?_)
          refine lv_goto (tgt := 19) hx hb dX11_image_45 (by decide) ?_
          exact ih19 (v2_19 + 1) (upd y_mm_kept_19 ((122 * j5) + v2_19) x9) (by first | omega | exact nlt_max hv2_19 (by assumption)) (by omega) (fun m hm => if q : m = v2_19 then (by subst q; exact (ur_eq _ _ _).trans ex9) else (by rw [ur_ne _ _ (by omega)]; exact hc1 m (by omega))) (fun n hn => by rw [ur_ne _ _ (by omega)]; exact hc2 n hn) (by first | omega | (have := nlt_max hv2_19 (by assumption); omega)) _ _ hP hD hS ls hl
    exact lp19 (2147483648 - 0 + 1) 0 mm_kept_f (by first | omega | exact nlt_max (by assumption) (by assumption)) (by omega) (fun m hm => absurd hm (Nat.not_lt_zero m)) (fun n _ => rfl) (Nat.lt_succ_self _) _ _ hP hD hS ls hl
  · skip
    have hq10 := z_b0 hwr1 c2
    refine lv_aload_n hx hb dX11_image_10 rfl (lv_at hl 0 rfl) ?_
    refine lv_bipush (v := (-2)) hx hb dX11_image_11 (by decide) ?_
    refine wr_i (wr := [(mm_now, .inl (cy 1, 122, .inl mm_now_f)), (mm_kept, .inl (cy 1, 244, .inl mm_kept_f)), (mm_isKept, .inl (cy 2, 2, .inl mm_isKept_f))]) (va_runV (As := [.int (-2)]) (rest := []) ⟨hx, hb, hml, hown, hts⟩ (n_X11_bad l D cy mm mm_now mm_kept mm_isKept mm_refused mm_lineFrom mm_lineTo mm_stands mm_far mm_queue mm_queued mm_meets mm_bytes bl ta tl mm_token mm_value mm_next tk mm_refused_f (-2) _ ) (cwV 1 hts gX11_image_X11_bad rfl rfl rfl (by decide +kernel) ⟨Nat.le_of_ble_eq_true rfl, Nat.le_of_ble_eq_true rfl⟩) (pV (ci := 11) (k := 0) hKA (hP.sub (ws' := [(mm, .inr (11, [.ref mm_now, .ref mm_kept, .ref mm_isKept, .ref mm_refused, .int mm_lineFrom, .int mm_lineTo, .ref mm_stands, .ref mm_far, .ref mm_queue, .int mm_queued, .ref mm_meets, .ref mm_bytes, .int (nI bl), .int (nI ta), .int (nI tl), .int mm_token, .int mm_value, .ref mm_next, .int (nI tk)])), (mm_refused, .inl (cy 1, 3, .inl mm_refused_f))]) [0, 4] rfl) (hD.sub (ws' := [(mm, .inr (11, [.ref mm_now, .ref mm_kept, .ref mm_isKept, .ref mm_refused, .int mm_lineFrom, .int mm_lineTo, .ref mm_stands, .ref mm_far, .ref mm_queue, .int mm_queued, .ref mm_meets, .ref mm_bytes, .int (nI bl), .int (nI ta), .int (nI tl), .int mm_token, .int mm_value, .ref mm_next, .int (nI tk)])), (mm_refused, .inl (cy 1, 3, .inl mm_refused_f))]) [0, 4] (by decide) rfl) rfl rfl) rfl rfl hl.1 rfl (lv_room (Nat.le_of_ble_eq_true rfl)) dX11_image_13 ⟨Nat.le_of_ble_eq_true rfl, Nat.le_of_ble_eq_true rfl⟩) hP hD hS hA [0, 4] [1, 2, 3] rfl rfl (by decide +kernel) (by decide +kernel) (fun r11 ur11 H locs hwr11 hP hD hS => ?_)
    obtain ⟨z12, rfl⟩ : ∃ z, z = ur11 := ⟨_, rfl⟩
    have hP : va_P D vwCl [(mm_now, .inl (cy 1, 122, .inl mm_now_f)), (mm_kept, .inl (cy 1, 244, .inl mm_kept_f)), (mm_isKept, .inl (cy 2, 2, .inl mm_isKept_f)), (mm, .inr (11, [.ref mm_now, .ref mm_kept, .ref mm_isKept, .ref mm_refused, .int mm_lineFrom, .int mm_lineTo, .ref mm_stands, .ref mm_far, .ref mm_queue, .int mm_queued, .ref mm_meets, .ref mm_bytes, .int (nI bl), .int (nI ta), .int (nI tl), .int mm_token, .int mm_value, .ref mm_next, .int (nI tk)])), (mm_refused, .inl (cy 1, 3, .inl z12))] H := hP
    have hD : va_D A [(mm_now, .inl (cy 1, 122, .inl mm_now_f)), (mm_kept, .inl (cy 1, 244, .inl mm_kept_f)), (mm_isKept, .inl (cy 2, 2, .inl mm_isKept_f)), (mm, .inr (11, [.ref mm_now, .ref mm_kept, .ref mm_isKept, .ref mm_refused, .int mm_lineFrom, .int mm_lineTo, .ref mm_stands, .ref mm_far, .ref mm_queue, .int mm_queued, .ref mm_meets, .ref mm_bytes, .int (nI bl), .int (nI ta), .int (nI tl), .int mm_token, .int mm_value, .ref mm_next, .int (nI tk)])), (mm_refused, .inl (cy 1, 3, .inl z12))] := hD
    have hwr11 : r11 = (-2) := hwr11
    subst hwr11
    subst hQF
    have hP9 := hP.sub (ws' := [(mm, .inr (11, [.ref mm_now, .ref mm_kept, .ref mm_isKept, .ref mm_refused, .int mm_lineFrom, .int mm_lineTo, .ref mm_stands, .ref mm_far, .ref mm_queue, .int mm_queued, .ref mm_meets, .ref mm_bytes, .int (nI bl), .int (nI ta), .int (nI tl), .int mm_token, .int mm_value, .ref mm_next, .int (nI tk)])), (mm_now, .inl (cy 1, 122, .inl mm_now_f)), (mm_kept, .inl (cy 1, 244, .inl mm_kept_f)), (mm_isKept, .inl (cy 2, 2, .inl mm_isKept_f)), (mm_refused, .inl (cy 1, 3, .inl z12))]) [3, 0, 1, 2, 4] rfl
    have hD9 := hD.sub (ws' := [(mm, .inr (11, [.ref mm_now, .ref mm_kept, .ref mm_isKept, .ref mm_refused, .int mm_lineFrom, .int mm_lineTo, .ref mm_stands, .ref mm_far, .ref mm_queue, .int mm_queued, .ref mm_meets, .ref mm_bytes, .int (nI bl), .int (nI ta), .int (nI tl), .int mm_token, .int mm_value, .ref mm_next, .int (nI tk)])), (mm_now, .inl (cy 1, 122, .inl mm_now_f)), (mm_kept, .inl (cy 1, 244, .inl mm_kept_f)), (mm_isKept, .inl (cy 2, 2, .inl mm_isKept_f)), (mm_refused, .inl (cy 1, 3, .inl z12))]) [3, 0, 1, 2, 4] (by decide) rfl
    exact W.iret (v := (-2)) hx hb hr (fun t ht hW => ⟨⟨(-2), (mm_kept_f, mm_isKept_f, z12), rfl, ⟨s01b (by assumption), hkI, ikb (by assumption)⟩, by rw [ht]; exact hP9, hD9⟩, hS.F ht⟩) hS.2.2 dX11_image_16

set_option maxHeartbeats 4000000 in
set_option maxRecDepth 100000 in
theorem n_X11_from (l : Launch) (D : va_G) (cy : Nat → ClassId) (mm : Nat) (mm_now : Nat) (mm_kept : Nat) (mm_isKept : Nat) (mm_refused : Nat) (mm_lineFrom : Int32) (mm_lineTo : Int32) (mm_stands : Nat) (mm_far : Nat) (mm_queue : Nat) (mm_queued : Int32) (mm_meets : Nat) (mm_bytes : Nat) (bl : Nat) (ta : Nat) (tl : Nat) (mm_token : Int32) (mm_value : Int32) (mm_next : Nat) (tk : Nat) (mm_isKept_f : Nat → Int32) (mm_now_f : Nat → Int32) (mm_kept_f : Nat → Int32) (mm_refused_f : Nat → Int32) (px : Int32) (sz : Nat) (hN : mN mm_now_f) (hkI : kI mm_kept_f mm_isKept_f) : Met l yX11_from wsX11_from ({ frames := 1, cells := 0, slots := 0, locals := 25 }) (va_Pc [.ref mm, .int px] (kPre D cy [(mm, .inr (11, [.ref mm_now, .ref mm_kept, .ref mm_isKept, .ref mm_refused, .int mm_lineFrom, .int mm_lineTo, .ref mm_stands, .ref mm_far, .ref mm_queue, .int mm_queued, .ref mm_meets, .ref mm_bytes, .int (nI bl), .int (nI ta), .int (nI tl), .int mm_token, .int mm_value, .ref mm_next, .int (nI tk)])), (mm_isKept, .inl (cy 2, 2, .inl mm_isKept_f)), (mm_now, .inl (cy 1, 122, .inl mm_now_f)), (mm_kept, .inl (cy 1, 244, .inl mm_kept_f)), (mm_refused, .inl (cy 1, 3, .inl mm_refused_f))] sz)) (va_Qi (fun (r : Int32) (u : (Nat → Int32) × (Nat → Int32)) => r = mR mm_isKept_f px ∧ mN u.1) (fun (u : (Nat → Int32) × (Nat → Int32)) t => va_P D vwCl ([(mm, .inr (11, [.ref mm_now, .ref mm_kept, .ref mm_isKept, .ref mm_refused, .int mm_lineFrom, .int mm_lineTo, .ref mm_stands, .ref mm_far, .ref mm_queue, .int mm_queued, .ref mm_meets, .ref mm_bytes, .int (nI bl), .int (nI ta), .int (nI tl), .int mm_token, .int mm_value, .ref mm_next, .int (nI tk)])), (mm_isKept, .inl (cy 2, 2, .inl mm_isKept_f)), (mm_now, .inl (cy 1, 122, .inl u.1)), (mm_kept, .inl (cy 1, 244, .inl mm_kept_f)), (mm_refused, .inl (cy 1, 3, .inl u.2))]) t.heap ∧ va_D (va_A [(mm, .inr (11, [.ref mm_now, .ref mm_kept, .ref mm_isKept, .ref mm_refused, .int mm_lineFrom, .int mm_lineTo, .ref mm_stands, .ref mm_far, .ref mm_queue, .int mm_queued, .ref mm_meets, .ref mm_bytes, .int (nI bl), .int (nI ta), .int (nI tl), .int mm_token, .int mm_value, .ref mm_next, .int (nI tk)])), (mm_isKept, .inl (cy 2, 2, .inl mm_isKept_f)), (mm_now, .inl (cy 1, 122, .inl mm_now_f)), (mm_kept, .inl (cy 1, 244, .inl mm_kept_f)), (mm_refused, .inl (cy 1, 3, .inl mm_refused_f))] sz) ([(mm, .inr (11, [.ref mm_now, .ref mm_kept, .ref mm_isKept, .ref mm_refused, .int mm_lineFrom, .int mm_lineTo, .ref mm_stands, .ref mm_far, .ref mm_queue, .int mm_queued, .ref mm_meets, .ref mm_bytes, .int (nI bl), .int (nI ta), .int (nI tl), .int mm_token, .int mm_value, .ref mm_next, .int (nI tk)])), (mm_isKept, .inl (cy 2, 2, .inl mm_isKept_f)), (mm_now, .inl (cy 1, 122, .inl u.1)), (mm_kept, .inl (cy 1, 244, .inl mm_kept_f)), (mm_refused, .inl (cy 1, 3, .inl u.2))])) (va_A [(mm, .inr (11, [.ref mm_now, .ref mm_kept, .ref mm_isKept, .ref mm_refused, .int mm_lineFrom, .int mm_lineTo, .ref mm_stands, .ref mm_far, .ref mm_queue, .int mm_queued, .ref mm_meets, .ref mm_bytes, .int (nI bl), .int (nI ta), .int (nI tl), .int mm_token, .int mm_value, .ref mm_next, .int (nI tk)])), (mm_isKept, .inl (cy 2, 2, .inl mm_isKept_f)), (mm_now, .inl (cy 1, 122, .inl mm_now_f)), (mm_kept, .inl (cy 1, 244, .inl mm_kept_f)), (mm_refused, .inl (cy 1, 3, .inl mm_refused_f))] sz)) 0 0 (va_A [(mm, .inr (11, [.ref mm_now, .ref mm_kept, .ref mm_isKept, .ref mm_refused, .int mm_lineFrom, .int mm_lineTo, .ref mm_stands, .ref mm_far, .ref mm_queue, .int mm_queued, .ref mm_meets, .ref mm_bytes, .int (nI bl), .int (nI ta), .int (nI tl), .int mm_token, .int mm_value, .ref mm_next, .int (nI tk)])), (mm_isKept, .inl (cy 2, 2, .inl mm_isKept_f)), (mm_now, .inl (cy 1, 122, .inl mm_now_f)), (mm_kept, .inl (cy 1, 244, .inl mm_kept_f)), (mm_refused, .inl (cy 1, 3, .inl mm_refused_f))] sz) := by
  refine Met.ofW (cc := cX11_from) (maxL := 3) (ret := (some .int)) (by decide) rfl ?_
  intro p e s m args below meth c s₁ B hml hv
  obtain ⟨rfl, hsz, hP, hKA, hD0⟩ := hv
  have hx := B.exec
  have hb := B.bytes
  have hr := B.returns
  have hts := atoms_spec (ws := wsX11_from) B.pre
  have hown : s.vm.findClass RX11 = some m.cls := findClass_of_methodNamed B.named
  have hlocks := B.notSynchronized
  subst hsz
  have hK := hKA.1
  have hD := hD0.self (sz := s.heap.size)
  generalize hAe : va_A [(mm, .inr (11, [.ref mm_now, .ref mm_kept, .ref mm_isKept, .ref mm_refused, .int mm_lineFrom, .int mm_lineTo, .ref mm_stands, .ref mm_far, .ref mm_queue, .int mm_queued, .ref mm_meets, .ref mm_bytes, .int (nI bl), .int (nI ta), .int (nI tl), .int mm_token, .int mm_value, .ref mm_next, .int (nI tk)])), (mm_isKept, .inl (cy 2, 2, .inl mm_isKept_f)), (mm_now, .inl (cy 1, 122, .inl mm_now_f)), (mm_kept, .inl (cy 1, 244, .inl mm_kept_f)), (mm_refused, .inl (cy 1, 3, .inl mm_refused_f))] s.heap.size = A at hD ⊢
  have hA : ∀ q : Nat, s.heap.size ≤ q → A q := fun q h => by rw [← hAe]; exact Or.inr h
  have hS : va_S A s.heap s.heap [] := va_S.rf
  have hP : va_P D vwCl [(mm, .inr (11, [.ref mm_now, .ref mm_kept, .ref mm_isKept, .ref mm_refused, .int mm_lineFrom, .int mm_lineTo, .ref mm_stands, .ref mm_far, .ref mm_queue, .int mm_queued, .ref mm_meets, .ref mm_bytes, .int (nI bl), .int (nI ta), .int (nI tl), .int mm_token, .int mm_value, .ref mm_next, .int (nI tk)])), (mm_isKept, .inl (cy 2, 2, .inl mm_isKept_f)), (mm_now, .inl (cy 1, 122, .inl mm_now_f)), (mm_kept, .inl (cy 1, 244, .inl mm_kept_f)), (mm_refused, .inl (cy 1, 3, .inl mm_refused_f))] s.heap := hP
  have hl := lv_entry ([.ref mm, .int px]) (n := 3) (Nat.le_of_ble_eq_true rfl)
  rw [lg_entry_eq]
  generalize (lg_sl ([.ref mm, .int px]) ++ List.replicate (3 - (lg_sl ([.ref mm, .int px])).length) Slot.unset).toArray = ls at hl ⊢
  have hl : lv_has ls 3 [(0, .ref mm), (1, .int px)] := hl
  refine qW (fun QF hQF => ?_)
  have z0_ := hts (.fieldLink RX11 16 "HeardSeenModel" "isKept" "[Z") (by decide +kernel)
  have zi11_ : ∀ w ∈ u_ws RX11 TX11 19, w ∈ wsX11_from := by decide +kernel
  have z2_ := hts (.fieldLink RX11 7 "HeardSeenModel" "now" "[I") (by decide +kernel)
  have z3_ := hts (.fieldLink RX11 13 "HeardSeenModel" "kept" "[I") (by decide +kernel)
  refine lv_iload_n hx hb dX11_from_0 rfl (lv_at hl 1 rfl) ?_
  refine lv_i2l hx hb dX11_from_1 rfl ?_
  refine lv_lconst (v := 0) hx hb dX11_from_2 (by decide) ?_
  refine lv_lconst (v := 1) hx hb dX11_from_3 (by decide) ?_
  refine rd_i (va_runS (As := [.long px.toInt64, .long 0, .long 1]) (rest := []) ⟨hx, hb, hml, hown, hts⟩ (n_X11_in l D cy px.toInt64 (0) (1) _ ) (va_cwS 3 hts gX11_from_X11_in rfl rfl rfl (by decide +kernel) ⟨Nat.le_of_ble_eq_true rfl, Nat.le_of_ble_eq_true rfl⟩) (pS hKA pE (dE (A := A))) rfl rfl hl.1 rfl (lv_room (Nat.le_of_ble_eq_true rfl)) dX11_from_4 ⟨Nat.le_of_ble_eq_true rfl, Nat.le_of_ble_eq_true rfl⟩) hP hS hA (fun r1 H locs hwr1 hP hS => ?_)
  have hwr1 : (r1 = 1 ∧ ((0) ≤ px.toInt64 ∧ px.toInt64 ≤ (1))) ∨ (r1 = 0 ∧ (¬ ((0) ≤ px.toInt64 ∧ px.toInt64 ≤ (1)))) := hwr1
  refine lv_if_ne (tgt := 17) hx hb dX11_from_7 (by decide) (fun c2 => ?_) (fun c2 => ?_)
  · skip
    obtain ⟨hp3, hp4⟩ := z_b1 hwr1 c2
    obtain ⟨j5, gj5, hj5, ej5⟩ := z_rng (lo := 0) (hi := 1) (by decide) (by decide) hp3 hp4
    refine lv_aload_n hx hb dX11_from_17 rfl (lv_at hl 0 rfl) ?_
    refine va_get (D := D) (ci := 11) (v := .ref mm_isKept) (C := RX11) (T := TX11) (N := 19) hx hb hts zi11_ hown hK hP 0 rfl rfl 2 (by decide) z0_ (fun _ h9 => h9) rfl dX11_from_18 ?_
    refine lv_iload_n hx hb dX11_from_21 rfl (lv_at hl 1 rfl) ?_
    refine W.eq (g2 := F0 m 22 ls [.int (nI j5), .ref mm_isKept]) (congrArg (fun v9 : Int32 => F0 m 22 ls [.int v9, .ref mm_isKept]) ej5) ?_
    refine my_zald hx hb hK hP 1 2 rfl rfl (by first | exact in_ge (N := 2) (by decide) (by omega) (by assumption) | exact vp_in_nI (by omega) (by omega)) (nI_clamp (by omega)) dX11_from_22 ?_
    refine lv_if_ne (tgt := 33) hx hb dX11_from_23 (by decide) (fun c6 => ?_) (fun c6 => ?_)
    · skip
      refine lv_iconst (v := 0) hx hb dX11_from_33 (by decide) ?_
      refine lv_istore_n (lv' := [(2, .int 0), (0, .ref mm), (1, .int px)]) hx hb dX11_from_34 rfl hl (by decide) rfl (fun ls hl => ?_)
      have lp35 : ∀ (n35 : Nat) (v2_35 : Nat) (y_mm_now_35 : Nat → Int32) (hv2_35 : v2_35 < 2147483648) (hk : v2_35 ≤ 122) (hc1 : ∀ m, m < v2_35 → y_mm_now_35 m = mm_kept_f (122 * j5 + m)), 2147483648 - v2_35 < n35 → ∀ (H : Heap) (locs : List Loc), va_P D vwCl [(mm, .inr (11, [.ref mm_now, .ref mm_kept, .ref mm_isKept, .ref mm_refused, .int mm_lineFrom, .int mm_lineTo, .ref mm_stands, .ref mm_far, .ref mm_queue, .int mm_queued, .ref mm_meets, .ref mm_bytes, .int (nI bl), .int (nI ta), .int (nI tl), .int mm_token, .int mm_value, .ref mm_next, .int (nI tk)])), (mm_isKept, .inl (cy 2, 2, .inl mm_isKept_f)), (mm_now, .inl (cy 1, 122, .inl y_mm_now_35)), (mm_kept, .inl (cy 1, 244, .inl mm_kept_f)), (mm_refused, .inl (cy 1, 3, .inl mm_refused_f))] H → va_D A [(mm, .inr (11, [.ref mm_now, .ref mm_kept, .ref mm_isKept, .ref mm_refused, .int mm_lineFrom, .int mm_lineTo, .ref mm_stands, .ref mm_far, .ref mm_queue, .int mm_queued, .ref mm_meets, .ref mm_bytes, .int (nI bl), .int (nI ta), .int (nI tl), .int mm_token, .int mm_value, .ref mm_next, .int (nI tk)])), (mm_isKept, .inl (cy 2, 2, .inl mm_isKept_f)), (mm_now, .inl (cy 1, 122, .inl y_mm_now_35)), (mm_kept, .inl (cy 1, 244, .inl mm_kept_f)), (mm_refused, .inl (cy 1, 3, .inl mm_refused_f))] → va_S A s.heap H locs → ∀ ls : Array Slot, lv_has ls 3 [(2, .int (nI v2_35)), (0, .ref mm), (1, .int px)] → W p l e (headSpec wsX11_from ({ frames := 1, cells := 0, slots := 0, locals := 25 })).room s m [.ref mm, .int px].toArray below meth c H locs 0 0 QF (F0 m 35 ls []) := by
        intro n35
        induction n35 with
        | zero => intro v2_35 y_mm_now_35 hv2_35 hk hc1 hm; exact absurd hm (Nat.not_lt_zero _)
        | succ n35 ih35 =>
          intro v2_35 y_mm_now_35 hv2_35 hk hc1 hm35 H locs hP hD hS ls hl
          refine lv_iload_n hx hb dX11_from_35 rfl (lv_at hl 0 rfl) ?_
          refine lv_bipush (v := 122) hx hb dX11_from_36 (by decide) ?_
          refine lv_icmp_ge (tgt := 64) hx hb dX11_from_38 (by decide) (fun c7 => ?_) (fun c7 => ?_)
          · skip
            have hNN : mN y_mm_now_35 := (hkI j5 (by omega)).resolve_left (by assumption) |>.copy (fun m hm => hc1 m (by have q := nge_of (n := 122) rfl hk (by decide) (by assumption); omega))
            refine lv_iconst (v := 1) hx hb dX11_from_64 (by decide) ?_
            subst hQF
            have hP9 := hP
            have hD9 := hD
            exact W.iret (v := 1) hx hb hr (fun t ht hW => ⟨⟨1, (y_mm_now_35, mm_refused_f), rfl, ⟨frY ej5 hj5 (by assumption), hNN⟩, by rw [ht]; exact hP9, hD9⟩, hS.F ht⟩) hS.2.2 dX11_from_65
          · skip
            have hk38 := ltN (n := 122) (x := 122) (k := v2_35) (by decide) (by assumption) (by assumption)
            refine lv_aload_n hx hb dX11_from_41 rfl (lv_at hl 1 rfl) ?_
            refine va_get (D := D) (ci := 11) (v := .ref mm_now) (C := RX11) (T := TX11) (N := 19) hx hb hts zi11_ hown hK hP 0 rfl rfl 0 (by decide) z2_ (fun _ h9 => h9) rfl dX11_from_42 ?_
            refine lv_iload_n hx hb dX11_from_45 rfl (lv_at hl 0 rfl) ?_
            refine lv_aload_n hx hb dX11_from_46 rfl (lv_at hl 1 rfl) ?_
            refine va_get (D := D) (ci := 11) (v := .ref mm_kept) (C := RX11) (T := TX11) (N := 19) hx hb hts zi11_ hown hK hP 0 rfl rfl 1 (by decide) z3_ (fun _ h9 => h9) rfl dX11_from_47 ?_
            refine lv_bipush (v := 122) hx hb dX11_from_50 (by decide) ?_
            refine lv_iload_n hx hb dX11_from_52 rfl (lv_at hl 2 rfl) ?_
            refine W.eq (g2 := F0 m 53 ls [.int (nI j5), .int 122, .ref mm_kept, .int (nI v2_35), .ref mm_now]) (congrArg (fun v9 : Int32 => F0 m 53 ls [.int v9, .int 122, .ref mm_kept, .int (nI v2_35), .ref mm_now]) ej5) ?_
            refine lv_imul hx hb dX11_from_53 ?_
            refine lv_topi (fun x8 ex8 => ?_)
            obtain rfl : x8 = nI (122 * j5) := by rw [ex8]; exact pk_mul _ _
            refine lv_iload_n hx hb dX11_from_54 rfl (lv_at hl 0 rfl) ?_
            refine lv_iadd hx hb dX11_from_55 ?_
            refine lv_topi (fun x9 ex9 => ?_)
            obtain rfl : x9 = nI ((122 * j5) + v2_35) := by rw [ex9]; exact nI_add _ _
            refine my_iald hx hb hK hP 3 1 rfl rfl (by first | exact in_ge (N := 244) (by decide) (by omega) (by assumption) | exact vp_in_nI (by omega) (by omega)) (nI_clamp (by omega)) dX11_from_56 ?_
            refine lv_topi (fun x10 ex10 => ?_)
            refine my_iast hx hb hK hP hD hS 2 1 rfl rfl (by first | exact in_ge (N := 122) (by decide) (by omega) (by assumption) | exact vp_in_nI (by omega) (by omega)) (nI_clamp (by omega)) dX11_from_57 (fun H locs hP hD hS => ?_)
            have hP : va_P D vwCl [(mm, .inr (11, [.ref mm_now, .ref mm_kept, .ref mm_isKept, .ref mm_refused, .int mm_lineFrom, .int mm_lineTo, .ref mm_stands, .ref mm_far, .ref mm_queue, .int mm_queued, .ref mm_meets, .ref mm_bytes, .int (nI bl), .int (nI ta), .int (nI tl), .int mm_token, .int mm_value, .ref mm_next, .int (nI tk)])), (mm_isKept, .inl (cy 2, 2, .inl mm_isKept_f)), (mm_now, .inl (cy 1, 122, .inl (upd y_mm_now_35 v2_35 x10))), (mm_kept, .inl (cy 1, 244, .inl mm_kept_f)), (mm_refused, .inl (cy 1, 3, .inl mm_refused_f))] H := hP
            have hD : va_D A [(mm, .inr (11, [.ref mm_now, .ref mm_kept, .ref mm_isKept, .ref mm_refused, .int mm_lineFrom, .int mm_lineTo, .ref mm_stands, .ref mm_far, .ref mm_queue, .int mm_queued, .ref mm_meets, .ref mm_bytes, .int (nI bl), .int (nI ta), .int (nI tl), .int mm_token, .int mm_value, .ref mm_next, .int (nI tk)])), (mm_isKept, .inl (cy 2, 2, .inl mm_isKept_f)), (mm_now, .inl (cy 1, 122, .inl (upd y_mm_now_35 v2_35 x10))), (mm_kept, .inl (cy 1, 244, .inl mm_kept_f)), (mm_refused, .inl (cy 1, 3, .inl mm_refused_f))] := hD
            refine lv_iinc (v := nI (v2_35 + 1)) (lv' := [(2, .int (nI (v2_35 + 1))), (0, .ref mm), (1, .int px)]) hx hb dX11_from_58 hl (k := 0) rfl (nI_1 _) (by decide) rfl (fun ls hl => ?_)
            refine lv_goto (tgt := 35) hx hb dX11_from_61 (by decide) ?_
            exact ih35 (v2_35 + 1) (upd y_mm_now_35 v2_35 x10) (by first | omega | exact nlt_max hv2_35 (by assumption)) (by omega) (fun m hm => if q : m = v2_35 then (by subst q; exact (ur_eq _ _ _).trans ex10) else (by rw [ur_ne _ _ (by omega)]; exact hc1 m (by omega))) (by first | omega | (have := nlt_max hv2_35 (by assumption); omega)) _ _ hP hD hS ls hl
      exact lp35 (2147483648 - 0 + 1) 0 mm_now_f (by first | omega | exact nlt_max (by assumption) (by assumption)) (by omega) (fun m hm => absurd hm (Nat.not_lt_zero m)) (Nat.lt_succ_self _) _ _ hP hD hS ls hl
    · skip
      refine lv_aload_n hx hb dX11_from_26 rfl (lv_at hl 0 rfl) ?_
      refine lv_bipush (v := (-3)) hx hb dX11_from_27 (by decide) ?_
      refine wr_i (wr := [(mm_isKept, .inl (cy 2, 2, .inl mm_isKept_f)), (mm_now, .inl (cy 1, 122, .inl mm_now_f)), (mm_kept, .inl (cy 1, 244, .inl mm_kept_f))]) (va_runV (As := [.int (-3)]) (rest := []) ⟨hx, hb, hml, hown, hts⟩ (n_X11_no l D cy mm mm_now mm_kept mm_isKept mm_refused mm_lineFrom mm_lineTo mm_stands mm_far mm_queue mm_queued mm_meets mm_bytes bl ta tl mm_token mm_value mm_next tk mm_refused_f (-3) _ ) (cwV 1 hts gX11_from_X11_no rfl rfl rfl (by decide +kernel) ⟨Nat.le_of_ble_eq_true rfl, Nat.le_of_ble_eq_true rfl⟩) (pV (ci := 11) (k := 0) hKA (hP.sub (ws' := [(mm, .inr (11, [.ref mm_now, .ref mm_kept, .ref mm_isKept, .ref mm_refused, .int mm_lineFrom, .int mm_lineTo, .ref mm_stands, .ref mm_far, .ref mm_queue, .int mm_queued, .ref mm_meets, .ref mm_bytes, .int (nI bl), .int (nI ta), .int (nI tl), .int mm_token, .int mm_value, .ref mm_next, .int (nI tk)])), (mm_refused, .inl (cy 1, 3, .inl mm_refused_f))]) [0, 4] rfl) (hD.sub (ws' := [(mm, .inr (11, [.ref mm_now, .ref mm_kept, .ref mm_isKept, .ref mm_refused, .int mm_lineFrom, .int mm_lineTo, .ref mm_stands, .ref mm_far, .ref mm_queue, .int mm_queued, .ref mm_meets, .ref mm_bytes, .int (nI bl), .int (nI ta), .int (nI tl), .int mm_token, .int mm_value, .ref mm_next, .int (nI tk)])), (mm_refused, .inl (cy 1, 3, .inl mm_refused_f))]) [0, 4] (by decide) rfl) rfl rfl) rfl rfl hl.1 rfl (lv_room (Nat.le_of_ble_eq_true rfl)) dX11_from_29 ⟨Nat.le_of_ble_eq_true rfl, Nat.le_of_ble_eq_true rfl⟩) hP hD hS hA [0, 4] [1, 2, 3] rfl rfl (by decide +kernel) (by decide +kernel) (fun r11 ur11 H locs hwr11 hP hD hS => ?_)
      obtain ⟨z12, rfl⟩ : ∃ z, z = ur11 := ⟨_, rfl⟩
      have hP : va_P D vwCl [(mm_isKept, .inl (cy 2, 2, .inl mm_isKept_f)), (mm_now, .inl (cy 1, 122, .inl mm_now_f)), (mm_kept, .inl (cy 1, 244, .inl mm_kept_f)), (mm, .inr (11, [.ref mm_now, .ref mm_kept, .ref mm_isKept, .ref mm_refused, .int mm_lineFrom, .int mm_lineTo, .ref mm_stands, .ref mm_far, .ref mm_queue, .int mm_queued, .ref mm_meets, .ref mm_bytes, .int (nI bl), .int (nI ta), .int (nI tl), .int mm_token, .int mm_value, .ref mm_next, .int (nI tk)])), (mm_refused, .inl (cy 1, 3, .inl z12))] H := hP
      have hD : va_D A [(mm_isKept, .inl (cy 2, 2, .inl mm_isKept_f)), (mm_now, .inl (cy 1, 122, .inl mm_now_f)), (mm_kept, .inl (cy 1, 244, .inl mm_kept_f)), (mm, .inr (11, [.ref mm_now, .ref mm_kept, .ref mm_isKept, .ref mm_refused, .int mm_lineFrom, .int mm_lineTo, .ref mm_stands, .ref mm_far, .ref mm_queue, .int mm_queued, .ref mm_meets, .ref mm_bytes, .int (nI bl), .int (nI ta), .int (nI tl), .int mm_token, .int mm_value, .ref mm_next, .int (nI tk)])), (mm_refused, .inl (cy 1, 3, .inl z12))] := hD
      have hwr11 : r11 = (-3) := hwr11
      subst hwr11
      subst hQF
      have hP9 := hP.sub (ws' := [(mm, .inr (11, [.ref mm_now, .ref mm_kept, .ref mm_isKept, .ref mm_refused, .int mm_lineFrom, .int mm_lineTo, .ref mm_stands, .ref mm_far, .ref mm_queue, .int mm_queued, .ref mm_meets, .ref mm_bytes, .int (nI bl), .int (nI ta), .int (nI tl), .int mm_token, .int mm_value, .ref mm_next, .int (nI tk)])), (mm_isKept, .inl (cy 2, 2, .inl mm_isKept_f)), (mm_now, .inl (cy 1, 122, .inl mm_now_f)), (mm_kept, .inl (cy 1, 244, .inl mm_kept_f)), (mm_refused, .inl (cy 1, 3, .inl z12))]) [3, 0, 1, 2, 4] rfl
      have hD9 := hD.sub (ws' := [(mm, .inr (11, [.ref mm_now, .ref mm_kept, .ref mm_isKept, .ref mm_refused, .int mm_lineFrom, .int mm_lineTo, .ref mm_stands, .ref mm_far, .ref mm_queue, .int mm_queued, .ref mm_meets, .ref mm_bytes, .int (nI bl), .int (nI ta), .int (nI tl), .int mm_token, .int mm_value, .ref mm_next, .int (nI tk)])), (mm_isKept, .inl (cy 2, 2, .inl mm_isKept_f)), (mm_now, .inl (cy 1, 122, .inl mm_now_f)), (mm_kept, .inl (cy 1, 244, .inl mm_kept_f)), (mm_refused, .inl (cy 1, 3, .inl z12))]) [3, 0, 1, 2, 4] (by decide) rfl
      exact W.iret (v := (-3)) hx hb hr (fun t ht hW => ⟨⟨(-3), (mm_now_f, z12), rfl, ⟨frN ej5 hj5 (by assumption), hN⟩, by rw [ht]; exact hP9, hD9⟩, hS.F ht⟩) hS.2.2 dX11_from_32
  · skip
    have hq13 := z_b0 hwr1 c2
    refine lv_aload_n hx hb dX11_from_10 rfl (lv_at hl 0 rfl) ?_
    refine lv_bipush (v := (-2)) hx hb dX11_from_11 (by decide) ?_
    refine wr_i (wr := [(mm_isKept, .inl (cy 2, 2, .inl mm_isKept_f)), (mm_now, .inl (cy 1, 122, .inl mm_now_f)), (mm_kept, .inl (cy 1, 244, .inl mm_kept_f))]) (va_runV (As := [.int (-2)]) (rest := []) ⟨hx, hb, hml, hown, hts⟩ (n_X11_bad l D cy mm mm_now mm_kept mm_isKept mm_refused mm_lineFrom mm_lineTo mm_stands mm_far mm_queue mm_queued mm_meets mm_bytes bl ta tl mm_token mm_value mm_next tk mm_refused_f (-2) _ ) (cwV 1 hts gX11_from_X11_bad rfl rfl rfl (by decide +kernel) ⟨Nat.le_of_ble_eq_true rfl, Nat.le_of_ble_eq_true rfl⟩) (pV (ci := 11) (k := 0) hKA (hP.sub (ws' := [(mm, .inr (11, [.ref mm_now, .ref mm_kept, .ref mm_isKept, .ref mm_refused, .int mm_lineFrom, .int mm_lineTo, .ref mm_stands, .ref mm_far, .ref mm_queue, .int mm_queued, .ref mm_meets, .ref mm_bytes, .int (nI bl), .int (nI ta), .int (nI tl), .int mm_token, .int mm_value, .ref mm_next, .int (nI tk)])), (mm_refused, .inl (cy 1, 3, .inl mm_refused_f))]) [0, 4] rfl) (hD.sub (ws' := [(mm, .inr (11, [.ref mm_now, .ref mm_kept, .ref mm_isKept, .ref mm_refused, .int mm_lineFrom, .int mm_lineTo, .ref mm_stands, .ref mm_far, .ref mm_queue, .int mm_queued, .ref mm_meets, .ref mm_bytes, .int (nI bl), .int (nI ta), .int (nI tl), .int mm_token, .int mm_value, .ref mm_next, .int (nI tk)])), (mm_refused, .inl (cy 1, 3, .inl mm_refused_f))]) [0, 4] (by decide) rfl) rfl rfl) rfl rfl hl.1 rfl (lv_room (Nat.le_of_ble_eq_true rfl)) dX11_from_13 ⟨Nat.le_of_ble_eq_true rfl, Nat.le_of_ble_eq_true rfl⟩) hP hD hS hA [0, 4] [1, 2, 3] rfl rfl (by decide +kernel) (by decide +kernel) (fun r14 ur14 H locs hwr14 hP hD hS => ?_)
    obtain ⟨z15, rfl⟩ : ∃ z, z = ur14 := ⟨_, rfl⟩
    have hP : va_P D vwCl [(mm_isKept, .inl (cy 2, 2, .inl mm_isKept_f)), (mm_now, .inl (cy 1, 122, .inl mm_now_f)), (mm_kept, .inl (cy 1, 244, .inl mm_kept_f)), (mm, .inr (11, [.ref mm_now, .ref mm_kept, .ref mm_isKept, .ref mm_refused, .int mm_lineFrom, .int mm_lineTo, .ref mm_stands, .ref mm_far, .ref mm_queue, .int mm_queued, .ref mm_meets, .ref mm_bytes, .int (nI bl), .int (nI ta), .int (nI tl), .int mm_token, .int mm_value, .ref mm_next, .int (nI tk)])), (mm_refused, .inl (cy 1, 3, .inl z15))] H := hP
    have hD : va_D A [(mm_isKept, .inl (cy 2, 2, .inl mm_isKept_f)), (mm_now, .inl (cy 1, 122, .inl mm_now_f)), (mm_kept, .inl (cy 1, 244, .inl mm_kept_f)), (mm, .inr (11, [.ref mm_now, .ref mm_kept, .ref mm_isKept, .ref mm_refused, .int mm_lineFrom, .int mm_lineTo, .ref mm_stands, .ref mm_far, .ref mm_queue, .int mm_queued, .ref mm_meets, .ref mm_bytes, .int (nI bl), .int (nI ta), .int (nI tl), .int mm_token, .int mm_value, .ref mm_next, .int (nI tk)])), (mm_refused, .inl (cy 1, 3, .inl z15))] := hD
    have hwr14 : r14 = (-2) := hwr14
    subst hwr14
    subst hQF
    have hP9 := hP.sub (ws' := [(mm, .inr (11, [.ref mm_now, .ref mm_kept, .ref mm_isKept, .ref mm_refused, .int mm_lineFrom, .int mm_lineTo, .ref mm_stands, .ref mm_far, .ref mm_queue, .int mm_queued, .ref mm_meets, .ref mm_bytes, .int (nI bl), .int (nI ta), .int (nI tl), .int mm_token, .int mm_value, .ref mm_next, .int (nI tk)])), (mm_isKept, .inl (cy 2, 2, .inl mm_isKept_f)), (mm_now, .inl (cy 1, 122, .inl mm_now_f)), (mm_kept, .inl (cy 1, 244, .inl mm_kept_f)), (mm_refused, .inl (cy 1, 3, .inl z15))]) [3, 0, 1, 2, 4] rfl
    have hD9 := hD.sub (ws' := [(mm, .inr (11, [.ref mm_now, .ref mm_kept, .ref mm_isKept, .ref mm_refused, .int mm_lineFrom, .int mm_lineTo, .ref mm_stands, .ref mm_far, .ref mm_queue, .int mm_queued, .ref mm_meets, .ref mm_bytes, .int (nI bl), .int (nI ta), .int (nI tl), .int mm_token, .int mm_value, .ref mm_next, .int (nI tk)])), (mm_isKept, .inl (cy 2, 2, .inl mm_isKept_f)), (mm_now, .inl (cy 1, 122, .inl mm_now_f)), (mm_kept, .inl (cy 1, 244, .inl mm_kept_f)), (mm_refused, .inl (cy 1, 3, .inl z15))]) [3, 0, 1, 2, 4] (by decide) rfl
    exact W.iret (v := (-2)) hx hb hr (fun t ht hW => ⟨⟨(-2), (mm_now_f, z15), rfl, ⟨mRb (by assumption), hN⟩, by rw [ht]; exact hP9, hD9⟩, hS.F ht⟩) hS.2.2 dX11_from_16
