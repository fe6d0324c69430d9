theorem dJ13_bitCount_95d88_0 : decode cJ13_bitCount_95d88 0 = .ok (.lload_n 0, 1) := by decide +kernel
theorem dJ13_bitCount_95d88_1 : decode cJ13_bitCount_95d88 1 = .ok (.lload_n 0, 1) := by decide +kernel
theorem dJ13_bitCount_95d88_2 : decode cJ13_bitCount_95d88 2 = .ok (.iconst 1, 1) := by decide +kernel
theorem dJ13_bitCount_95d88_3 : decode cJ13_bitCount_95d88 3 = .ok (.lushr, 1) := by decide +kernel
theorem dJ13_bitCount_95d88_4 : decode cJ13_bitCount_95d88 4 = .ok (.ldc2_w 314, 3) := by decide +kernel
theorem dJ13_bitCount_95d88_7 : decode cJ13_bitCount_95d88 7 = .ok (.land, 1) := by decide +kernel
theorem dJ13_bitCount_95d88_8 : decode cJ13_bitCount_95d88 8 = .ok (.lsub, 1) := by decide +kernel
theorem dJ13_bitCount_95d88_9 : decode cJ13_bitCount_95d88 9 = .ok (.lstore_n 0, 1) := by decide +kernel
theorem dJ13_bitCount_95d88_10 : decode cJ13_bitCount_95d88 10 = .ok (.lload_n 0, 1) := by decide +kernel
theorem dJ13_bitCount_95d88_11 : decode cJ13_bitCount_95d88 11 = .ok (.ldc2_w 316, 3) := by decide +kernel
theorem dJ13_bitCount_95d88_14 : decode cJ13_bitCount_95d88 14 = .ok (.land, 1) := by decide +kernel
theorem dJ13_bitCount_95d88_15 : decode cJ13_bitCount_95d88 15 = .ok (.lload_n 0, 1) := by decide +kernel
theorem dJ13_bitCount_95d88_16 : decode cJ13_bitCount_95d88 16 = .ok (.iconst 2, 1) := by decide +kernel
theorem dJ13_bitCount_95d88_17 : decode cJ13_bitCount_95d88 17 = .ok (.lushr, 1) := by decide +kernel
theorem dJ13_bitCount_95d88_18 : decode cJ13_bitCount_95d88 18 = .ok (.ldc2_w 316, 3) := by decide +kernel
theorem dJ13_bitCount_95d88_21 : decode cJ13_bitCount_95d88 21 = .ok (.land, 1) := by decide +kernel
theorem dJ13_bitCount_95d88_22 : decode cJ13_bitCount_95d88 22 = .ok (.ladd, 1) := by decide +kernel
theorem dJ13_bitCount_95d88_23 : decode cJ13_bitCount_95d88 23 = .ok (.lstore_n 0, 1) := by decide +kernel
theorem dJ13_bitCount_95d88_24 : decode cJ13_bitCount_95d88 24 = .ok (.lload_n 0, 1) := by decide +kernel
theorem dJ13_bitCount_95d88_25 : decode cJ13_bitCount_95d88 25 = .ok (.lload_n 0, 1) := by decide +kernel
theorem dJ13_bitCount_95d88_26 : decode cJ13_bitCount_95d88 26 = .ok (.iconst 4, 1) := by decide +kernel
theorem dJ13_bitCount_95d88_27 : decode cJ13_bitCount_95d88 27 = .ok (.lushr, 1) := by decide +kernel
theorem dJ13_bitCount_95d88_28 : decode cJ13_bitCount_95d88 28 = .ok (.ladd, 1) := by decide +kernel
theorem dJ13_bitCount_95d88_29 : decode cJ13_bitCount_95d88 29 = .ok (.ldc2_w 318, 3) := by decide +kernel
theorem dJ13_bitCount_95d88_32 : decode cJ13_bitCount_95d88 32 = .ok (.land, 1) := by decide +kernel
theorem dJ13_bitCount_95d88_33 : decode cJ13_bitCount_95d88 33 = .ok (.lstore_n 0, 1) := by decide +kernel
theorem dJ13_bitCount_95d88_34 : decode cJ13_bitCount_95d88 34 = .ok (.lload_n 0, 1) := by decide +kernel
theorem dJ13_bitCount_95d88_35 : decode cJ13_bitCount_95d88 35 = .ok (.lload_n 0, 1) := by decide +kernel
theorem dJ13_bitCount_95d88_36 : decode cJ13_bitCount_95d88 36 = .ok (.bipush 8, 2) := by decide +kernel
theorem dJ13_bitCount_95d88_38 : decode cJ13_bitCount_95d88 38 = .ok (.lushr, 1) := by decide +kernel
theorem dJ13_bitCount_95d88_39 : decode cJ13_bitCount_95d88 39 = .ok (.ladd, 1) := by decide +kernel
theorem dJ13_bitCount_95d88_40 : decode cJ13_bitCount_95d88 40 = .ok (.lstore_n 0, 1) := by decide +kernel
theorem dJ13_bitCount_95d88_41 : decode cJ13_bitCount_95d88 41 = .ok (.lload_n 0, 1) := by decide +kernel
theorem dJ13_bitCount_95d88_42 : decode cJ13_bitCount_95d88 42 = .ok (.lload_n 0, 1) := by decide +kernel
theorem dJ13_bitCount_95d88_43 : decode cJ13_bitCount_95d88 43 = .ok (.bipush 16, 2) := by decide +kernel
theorem dJ13_bitCount_95d88_45 : decode cJ13_bitCount_95d88 45 = .ok (.lushr, 1) := by decide +kernel
theorem dJ13_bitCount_95d88_46 : decode cJ13_bitCount_95d88 46 = .ok (.ladd, 1) := by decide +kernel
theorem dJ13_bitCount_95d88_47 : decode cJ13_bitCount_95d88 47 = .ok (.lstore_n 0, 1) := by decide +kernel
theorem dJ13_bitCount_95d88_48 : decode cJ13_bitCount_95d88 48 = .ok (.lload_n 0, 1) := by decide +kernel
theorem dJ13_bitCount_95d88_49 : decode cJ13_bitCount_95d88 49 = .ok (.lload_n 0, 1) := by decide +kernel
theorem dJ13_bitCount_95d88_50 : decode cJ13_bitCount_95d88 50 = .ok (.bipush 32, 2) := by decide +kernel
theorem dJ13_bitCount_95d88_52 : decode cJ13_bitCount_95d88 52 = .ok (.lushr, 1) := by decide +kernel
theorem dJ13_bitCount_95d88_53 : decode cJ13_bitCount_95d88 53 = .ok (.ladd, 1) := by decide +kernel
theorem dJ13_bitCount_95d88_54 : decode cJ13_bitCount_95d88 54 = .ok (.lstore_n 0, 1) := by decide +kernel
theorem dJ13_bitCount_95d88_55 : decode cJ13_bitCount_95d88 55 = .ok (.lload_n 0, 1) := by decide +kernel
theorem dJ13_bitCount_95d88_56 : decode cJ13_bitCount_95d88 56 = .ok (.l2i, 1) := by decide +kernel
theorem dJ13_bitCount_95d88_57 : decode cJ13_bitCount_95d88 57 = .ok (.bipush 127, 2) := by decide +kernel
theorem dJ13_bitCount_95d88_59 : decode cJ13_bitCount_95d88 59 = .ok (.iand, 1) := by decide +kernel
theorem dJ13_bitCount_95d88_60 : decode cJ13_bitCount_95d88 60 = .ok (.ireturn, 1) := by decide +kernel
theorem dX10_howMany_0 : decode cX10_howMany 0 = .ok (.iload_n 1, 1) := by decide +kernel
theorem dX10_howMany_1 : decode cX10_howMany 1 = .ok (.tableswitch 105 0 6 #[43, 51, 62, 73, 81, 89, 97], 43) := by decide +kernel
theorem dX10_howMany_44 : decode cX10_howMany 44 = .ok (.aload_n 0, 1) := by decide +kernel
theorem dX10_howMany_45 : decode cX10_howMany 45 = .ok (.getfield 10, 3) := by decide +kernel
theorem dX10_howMany_48 : decode cX10_howMany 48 = .ok (.getfield 137, 3) := by decide +kernel
theorem dX10_howMany_51 : decode cX10_howMany 51 = .ok (.ireturn, 1) := by decide +kernel
theorem dX10_howMany_52 : decode cX10_howMany 52 = .ok (.aload_n 0, 1) := by decide +kernel
theorem dX10_howMany_53 : decode cX10_howMany 53 = .ok (.getfield 10, 3) := by decide +kernel
theorem dX10_howMany_56 : decode cX10_howMany 56 = .ok (.getfield 224, 3) := by decide +kernel
set_option maxRecDepth 20000 in
theorem ggX10_howMany_J13_bitCount_95d88 : GoodIn wsX10_howMany wsJ13_bitCount_95d88 := goodIn_r _ [12, 13, 14, 15] (by decide +kernel) (by decide +kernel)
set_option maxRecDepth 20000 in
theorem gX10_howMany_J13_bitCount_95d88 : GoodIn wsX10_howMany (va_wsS RX10 198 yJ13_bitCount_95d88 wsJ13_bitCount_95d88) := goodIn_app (goodIn_of _ (by decide +kernel)) ggX10_howMany_J13_bitCount_95d88
theorem dX10_howMany_59 : decode cX10_howMany 59 = .ok (.invokestatic 198, 3) := by decide +kernel
theorem dX10_howMany_62 : decode cX10_howMany 62 = .ok (.ireturn, 1) := by decide +kernel
theorem dX10_howMany_63 : decode cX10_howMany 63 = .ok (.aload_n 0, 1) := by decide +kernel
theorem dX10_howMany_64 : decode cX10_howMany 64 = .ok (.getfield 10, 3) := by decide +kernel
theorem dX10_howMany_67 : decode cX10_howMany 67 = .ok (.getfield 228, 3) := by decide +kernel
theorem dX10_howMany_70 : decode cX10_howMany 70 = .ok (.invokestatic 198, 3) := by decide +kernel
theorem dX10_howMany_73 : decode cX10_howMany 73 = .ok (.ireturn, 1) := by decide +kernel
theorem dX10_howMany_74 : decode cX10_howMany 74 = .ok (.aload_n 0, 1) := by decide +kernel
theorem dX10_howMany_75 : decode cX10_howMany 75 = .ok (.getfield 10, 3) := by decide +kernel
theorem dX10_howMany_78 : decode cX10_howMany 78 = .ok (.getfield 117, 3) := by decide +kernel
theorem dX10_howMany_81 : decode cX10_howMany 81 = .ok (.ireturn, 1) := by decide +kernel
theorem dX10_howMany_82 : decode cX10_howMany 82 = .ok (.aload_n 0, 1) := by decide +kernel
theorem dX10_howMany_83 : decode cX10_howMany 83 = .ok (.getfield 10, 3) := by decide +kernel
theorem dX10_howMany_86 : decode cX10_howMany 86 = .ok (.getfield 120, 3) := by decide +kernel
theorem dX10_howMany_89 : decode cX10_howMany 89 = .ok (.ireturn, 1) := by decide +kernel
theorem dX10_howMany_90 : decode cX10_howMany 90 = .ok (.aload_n 0, 1) := by decide +kernel
theorem dX10_howMany_91 : decode cX10_howMany 91 = .ok (.getfield 26, 3) := by decide +kernel
theorem dX10_howMany_94 : decode cX10_howMany 94 = .ok (.getfield 127, 3) := by decide +kernel
theorem dX10_howMany_97 : decode cX10_howMany 97 = .ok (.ireturn, 1) := by decide +kernel
theorem dX10_howMany_98 : decode cX10_howMany 98 = .ok (.aload_n 0, 1) := by decide +kernel
theorem dX10_howMany_99 : decode cX10_howMany 99 = .ok (.getfield 10, 3) := by decide +kernel
set_option maxRecDepth 20000 in
theorem ggX10_howMany_X3_squareCount : GoodIn wsX10_howMany wsX3_squareCount := goodIn_r _ [20, 21, 22, 32, 33, 34, 35, 36, 37, 38, 39, 40, 41, 42, 43, 44, 45, 46, 47] (by decide +kernel) (by decide +kernel)
set_option maxRecDepth 20000 in
theorem gX10_howMany_X3_squareCount : GoodIn wsX10_howMany (wsV RX10 60 RX3 yX3_squareCount wsX3_squareCount) := goodIn_app (goodIn_of _ (by decide +kernel)) ggX10_howMany_X3_squareCount
theorem dX10_howMany_102 : decode cX10_howMany 102 = .ok (.invokevirtual 60, 3) := by decide +kernel
theorem dX10_howMany_105 : decode cX10_howMany 105 = .ok (.ireturn, 1) := by decide +kernel
theorem dX10_howMany_106 : decode cX10_howMany 106 = .ok (.iconst (-1), 1) := by decide +kernel
theorem dX10_howMany_107 : decode cX10_howMany 107 = .ok (.ireturn, 1) := by decide +kernel
theorem dX10_count_0 : decode cX10_count 0 = .ok (.aload_n 0, 1) := by decide +kernel
theorem dX10_count_1 : decode cX10_count 1 = .ok (.iload_n 1, 1) := by decide +kernel
set_option maxRecDepth 20000 in
theorem ggX10_count_X10_howMany : GoodIn wsX10_count wsX10_howMany := goodIn_r _ [5, 6, 7, 8, 9, 10, 11, 12, 13, 14, 15, 16, 17, 18, 19, 20, 21, 22, 23, 24, 25, 26, 27, 33, 34, 35, 36, 37, 38, 39, 40, 41, 42, 43, 44, 45, 46, 47, 48, 49, 50, 51, 52, 53, 54, 55, 56, 57, 58, 59, 60, 61, 62, 63, 64] (by decide +kernel) (by decide +kernel)
set_option maxRecDepth 20000 in
theorem gX10_count_X10_howMany : GoodIn wsX10_count (wsV RX10 213 RX10 yX10_howMany wsX10_howMany) := goodIn_app (goodIn_of _ (by decide +kernel)) ggX10_count_X10_howMany
theorem dX10_count_2 : decode cX10_count 2 = .ok (.invokevirtual 213, 3) := by decide +kernel
theorem dX10_count_5 : decode cX10_count 5 = .ok (.istore_n 2, 1) := by decide +kernel
theorem dX10_count_6 : decode cX10_count 6 = .ok (.iload_n 2, 1) := by decide +kernel
theorem dX10_count_7 : decode cX10_count 7 = .ok (.iconst (-1), 1) := by decide +kernel
theorem dX10_count_8 : decode cX10_count 8 = .ok (.if_icmp .ne 12, 3) := by decide +kernel
theorem dX10_count_20 : decode cX10_count 20 = .ok (.iload_n 2, 1) := by decide +kernel
theorem dX10_count_21 : decode cX10_count 21 = .ok (.ireturn, 1) := by decide +kernel
theorem dX10_count_11 : decode cX10_count 11 = .ok (.aload_n 0, 1) := by decide +kernel
theorem dX10_count_12 : decode cX10_count 12 = .ok (.bipush (-2), 2) := by decide +kernel
set_option maxRecDepth 20000 in
theorem ggX10_count_X10_refuseBad : GoodIn wsX10_count wsX10_refuseBad := goodIn_r _ [31, 32, 33, 34, 35, 36, 37, 38, 39, 40, 41] (by decide +kernel) (by decide +kernel)
set_option maxRecDepth 20000 in
theorem gX10_count_X10_refuseBad : GoodIn wsX10_count (wsV RX10 52 RX10 yX10_refuseBad wsX10_refuseBad) := goodIn_app (goodIn_of _ (by decide +kernel)) ggX10_count_X10_refuseBad
theorem dX10_count_14 : decode cX10_count 14 = .ok (.invokevirtual 52, 3) := by decide +kernel
theorem dX10_count_17 : decode cX10_count 17 = .ok (.goto 4, 3) := by decide +kernel
theorem dX10_digest_0 : decode cX10_digest 0 = .ok (.ldc2_w 216, 3) := by decide +kernel
theorem dX10_digest_3 : decode cX10_digest 3 = .ok (.lstore_n 1, 1) := by decide +kernel
theorem dX10_digest_4 : decode cX10_digest 4 = .ok (.iconst 0, 1) := by decide +kernel
theorem dX10_digest_5 : decode cX10_digest 5 = .ok (.istore_n 3, 1) := by decide +kernel
theorem dX10_digest_6 : decode cX10_digest 6 = .ok (.iload_n 3, 1) := by decide +kernel
theorem dX10_digest_7 : decode cX10_digest 7 = .ok (.bipush 6, 2) := by decide +kernel
theorem dX10_digest_9 : decode cX10_digest 9 = .ok (.if_icmp .gt 22, 3) := by decide +kernel
theorem dX10_digest_12 : decode cX10_digest 12 = .ok (.ldc2_w 218, 3) := by decide +kernel
theorem dX10_digest_15 : decode cX10_digest 15 = .ok (.lload_n 1, 1) := by decide +kernel
theorem dX10_digest_16 : decode cX10_digest 16 = .ok (.lmul, 1) := by decide +kernel
theorem dX10_digest_17 : decode cX10_digest 17 = .ok (.aload_n 0, 1) := by decide +kernel
theorem dX10_digest_18 : decode cX10_digest 18 = .ok (.iload_n 3, 1) := by decide +kernel
set_option maxRecDepth 20000 in
theorem ggX10_digest_X10_howMany : GoodIn wsX10_digest wsX10_howMany := goodIn_r _ [8, 3, 9, 10, 11, 12, 13, 14, 15, 16, 17, 18, 19, 20, 21, 22, 23, 24, 25, 26, 27, 28, 29, 56, 57, 58, 59, 60, 61, 62, 63, 64, 65, 66, 67, 68, 69, 70, 71, 72, 73, 74, 75, 76, 77, 78, 79, 80, 81, 82, 83, 84, 85, 86, 87] (by decide +kernel) (by decide +kernel)
set_option maxRecDepth 20000 in
theorem gX10_digest_X10_howMany : GoodIn wsX10_digest (wsV RX10 213 RX10 yX10_howMany wsX10_howMany) := goodIn_app (goodIn_of _ (by decide +kernel)) ggX10_digest_X10_howMany
theorem dX10_digest_19 : decode cX10_digest 19 = .ok (.invokevirtual 213, 3) := by decide +kernel
theorem dX10_digest_22 : decode cX10_digest 22 = .ok (.i2l, 1) := by decide +kernel
theorem dX10_digest_23 : decode cX10_digest 23 = .ok (.ladd, 1) := by decide +kernel
theorem dX10_digest_24 : decode cX10_digest 24 = .ok (.lstore_n 1, 1) := by decide +kernel
theorem dX10_digest_25 : decode cX10_digest 25 = .ok (.iinc 3 1, 3) := by decide +kernel
theorem dX10_digest_28 : decode cX10_digest 28 = .ok (.goto (-22), 3) := by decide +kernel
theorem dX10_digest_31 : decode cX10_digest 31 = .ok (.aload_n 0, 1) := by decide +kernel
theorem dX10_digest_32 : decode cX10_digest 32 = .ok (.getfield 10, 3) := by decide +kernel
theorem dX10_digest_35 : decode cX10_digest 35 = .ok (.lload_n 1, 1) := by decide +kernel
set_option maxRecDepth 20000 in
theorem ggX10_digest_X3_digestAfter : GoodIn wsX10_digest wsX3_digestAfter := goodIn_r _ [33, 34, 28, 35, 36, 37, 38, 39, 40, 41, 42, 43, 44, 45, 46, 47, 24, 25, 26, 27, 29, 48, 49, 50, 51, 52, 53, 54, 7, 55, 65, 66, 67, 68, 69, 70, 71, 72, 73, 74, 75, 76, 77, 78, 79, 80] (by decide +kernel) (by decide +kernel)
set_option maxRecDepth 20000 in
theorem gX10_digest_X3_digestAfter : GoodIn wsX10_digest (wsV RX10 220 RX3 yX3_digestAfter wsX3_digestAfter) := goodIn_app (goodIn_of _ (by decide +kernel)) ggX10_digest_X3_digestAfter
theorem dX10_digest_36 : decode cX10_digest 36 = .ok (.invokevirtual 220, 3) := by decide +kernel
theorem dX10_digest_39 : decode cX10_digest 39 = .ok (.lreturn, 1) := by decide +kernel
theorem dX3_copyFrom_0 : decode cX3_copyFrom 0 = .ok (.aload_n 0, 1) := by decide +kernel
theorem dX3_copyFrom_1 : decode cX3_copyFrom 1 = .ok (.aload_n 1, 1) := by decide +kernel
theorem dX3_copyFrom_2 : decode cX3_copyFrom 2 = .ok (.getfield 33, 3) := by decide +kernel
theorem dX3_copyFrom_5 : decode cX3_copyFrom 5 = .ok (.putfield 33, 3) := by decide +kernel
theorem dX3_copyFrom_8 : decode cX3_copyFrom 8 = .ok (.aload_n 0, 1) := by decide +kernel
theorem dX3_copyFrom_9 : decode cX3_copyFrom 9 = .ok (.aload_n 1, 1) := by decide +kernel
theorem dX3_copyFrom_10 : decode cX3_copyFrom 10 = .ok (.getfield 37, 3) := by decide +kernel
theorem dX3_copyFrom_13 : decode cX3_copyFrom 13 = .ok (.putfield 37, 3) := by decide +kernel
theorem dX3_copyFrom_16 : decode cX3_copyFrom 16 = .ok (.aload_n 0, 1) := by decide +kernel
theorem dX3_copyFrom_17 : decode cX3_copyFrom 17 = .ok (.aload_n 1, 1) := by decide +kernel
theorem dX3_copyFrom_18 : decode cX3_copyFrom 18 = .ok (.getfield 40, 3) := by decide +kernel
theorem dX3_copyFrom_21 : decode cX3_copyFrom 21 = .ok (.putfield 40, 3) := by decide +kernel
theorem dX3_copyFrom_24 : decode cX3_copyFrom 24 = .ok (.aload_n 0, 1) := by decide +kernel
theorem dX3_copyFrom_25 : decode cX3_copyFrom 25 = .ok (.aload_n 1, 1) := by decide +kernel
theorem dX3_copyFrom_26 : decode cX3_copyFrom 26 = .ok (.getfield 43, 3) := by decide +kernel
theorem dX3_copyFrom_29 : decode cX3_copyFrom 29 = .ok (.putfield 43, 3) := by decide +kernel
theorem dX3_copyFrom_32 : decode cX3_copyFrom 32 = .ok (.aload_n 0, 1) := by decide +kernel
theorem dX3_copyFrom_33 : decode cX3_copyFrom 33 = .ok (.aload_n 1, 1) := by decide +kernel
theorem dX3_copyFrom_34 : decode cX3_copyFrom 34 = .ok (.getfield 46, 3) := by decide +kernel
theorem dX3_copyFrom_37 : decode cX3_copyFrom 37 = .ok (.putfield 46, 3) := by decide +kernel
theorem dX3_copyFrom_40 : decode cX3_copyFrom 40 = .ok (.aload_n 0, 1) := by decide +kernel
theorem dX3_copyFrom_41 : decode cX3_copyFrom 41 = .ok (.aload_n 1, 1) := by decide +kernel
theorem dX3_copyFrom_42 : decode cX3_copyFrom 42 = .ok (.getfield 50, 3) := by decide +kernel
theorem dX3_copyFrom_45 : decode cX3_copyFrom 45 = .ok (.putfield 50, 3) := by decide +kernel
theorem dX3_copyFrom_48 : decode cX3_copyFrom 48 = .ok (.aload_n 0, 1) := by decide +kernel
theorem dX3_copyFrom_49 : decode cX3_copyFrom 49 = .ok (.aload_n 1, 1) := by decide +kernel
theorem dX3_copyFrom_50 : decode cX3_copyFrom 50 = .ok (.getfield 53, 3) := by decide +kernel
theorem dX3_copyFrom_53 : decode cX3_copyFrom 53 = .ok (.putfield 53, 3) := by decide +kernel
theorem dX3_copyFrom_56 : decode cX3_copyFrom 56 = .ok (.aload_n 0, 1) := by decide +kernel
theorem dX3_copyFrom_57 : decode cX3_copyFrom 57 = .ok (.aload_n 1, 1) := by decide +kernel
theorem dX3_copyFrom_58 : decode cX3_copyFrom 58 = .ok (.getfield 56, 3) := by decide +kernel
theorem dX3_copyFrom_61 : decode cX3_copyFrom 61 = .ok (.putfield 56, 3) := by decide +kernel
theorem dX3_copyFrom_64 : decode cX3_copyFrom 64 = .ok (.aload_n 0, 1) := by decide +kernel
theorem dX3_copyFrom_65 : decode cX3_copyFrom 65 = .ok (.aload_n 1, 1) := by decide +kernel
theorem dX3_copyFrom_66 : decode cX3_copyFrom 66 = .ok (.getfield 59, 3) := by decide +kernel
theorem dX3_copyFrom_69 : decode cX3_copyFrom 69 = .ok (.putfield 59, 3) := by decide +kernel
theorem dX3_copyFrom_72 : decode cX3_copyFrom 72 = .ok (.aload_n 1, 1) := by decide +kernel
theorem dX3_copyFrom_73 : decode cX3_copyFrom 73 = .ok (.getfield 9, 3) := by decide +kernel
theorem dX3_copyFrom_76 : decode cX3_copyFrom 76 = .ok (.iconst 0, 1) := by decide +kernel
theorem dX3_copyFrom_77 : decode cX3_copyFrom 77 = .ok (.aload_n 0, 1) := by decide +kernel
theorem dX3_copyFrom_78 : decode cX3_copyFrom 78 = .ok (.getfield 9, 3) := by decide +kernel
theorem dX3_copyFrom_81 : decode cX3_copyFrom 81 = .ok (.iconst 0, 1) := by decide +kernel
theorem dX3_copyFrom_82 : decode cX3_copyFrom 82 = .ok (.iconst 5, 1) := by decide +kernel
theorem dX3_copyFrom_83 : decode cX3_copyFrom 83 = .ok (.invokestatic 62, 3) := by decide +kernel
theorem dX3_copyFrom_86 : decode cX3_copyFrom 86 = .ok (.aload_n 1, 1) := by decide +kernel
theorem dX3_copyFrom_87 : decode cX3_copyFrom 87 = .ok (.getfield 15, 3) := by decide +kernel
theorem dX3_copyFrom_90 : decode cX3_copyFrom 90 = .ok (.iconst 0, 1) := by decide +kernel
theorem dX3_copyFrom_91 : decode cX3_copyFrom 91 = .ok (.aload_n 0, 1) := by decide +kernel
theorem dX3_copyFrom_92 : decode cX3_copyFrom 92 = .ok (.getfield 15, 3) := by decide +kernel
theorem dX3_copyFrom_95 : decode cX3_copyFrom 95 = .ok (.iconst 0, 1) := by decide +kernel
theorem dX3_copyFrom_96 : decode cX3_copyFrom 96 = .ok (.iconst 5, 1) := by decide +kernel
theorem dX3_copyFrom_97 : decode cX3_copyFrom 97 = .ok (.invokestatic 62, 3) := by decide +kernel
theorem dX3_copyFrom_100 : decode cX3_copyFrom 100 = .ok (.aload_n 1, 1) := by decide +kernel
theorem dX3_copyFrom_101 : decode cX3_copyFrom 101 = .ok (.getfield 18, 3) := by decide +kernel
theorem dX3_copyFrom_104 : decode cX3_copyFrom 104 = .ok (.iconst 0, 1) := by decide +kernel
theorem dX3_copyFrom_105 : decode cX3_copyFrom 105 = .ok (.aload_n 0, 1) := by decide +kernel
theorem dX3_copyFrom_106 : decode cX3_copyFrom 106 = .ok (.getfield 18, 3) := by decide +kernel
theorem dX3_copyFrom_109 : decode cX3_copyFrom 109 = .ok (.iconst 0, 1) := by decide +kernel
theorem dX3_copyFrom_110 : decode cX3_copyFrom 110 = .ok (.iconst 5, 1) := by decide +kernel
theorem dX3_copyFrom_111 : decode cX3_copyFrom 111 = .ok (.invokestatic 62, 3) := by decide +kernel
theorem dX3_copyFrom_114 : decode cX3_copyFrom 114 = .ok (.aload_n 1, 1) := by decide +kernel
theorem dX3_copyFrom_115 : decode cX3_copyFrom 115 = .ok (.getfield 21, 3) := by decide +kernel
theorem dX3_copyFrom_118 : decode cX3_copyFrom 118 = .ok (.iconst 0, 1) := by decide +kernel
theorem dX3_copyFrom_119 : decode cX3_copyFrom 119 = .ok (.aload_n 0, 1) := by decide +kernel
theorem dX3_copyFrom_120 : decode cX3_copyFrom 120 = .ok (.getfield 21, 3) := by decide +kernel
theorem dX3_copyFrom_123 : decode cX3_copyFrom 123 = .ok (.iconst 0, 1) := by decide +kernel
theorem dX3_copyFrom_124 : decode cX3_copyFrom 124 = .ok (.bipush 6, 2) := by decide +kernel
theorem dX3_copyFrom_126 : decode cX3_copyFrom 126 = .ok (.invokestatic 62, 3) := by decide +kernel
theorem dX3_copyFrom_129 : decode cX3_copyFrom 129 = .ok (.aload_n 1, 1) := by decide +kernel
theorem dX3_copyFrom_130 : decode cX3_copyFrom 130 = .ok (.getfield 24, 3) := by decide +kernel
theorem dX3_copyFrom_133 : decode cX3_copyFrom 133 = .ok (.iconst 0, 1) := by decide +kernel
theorem dX3_copyFrom_134 : decode cX3_copyFrom 134 = .ok (.aload_n 0, 1) := by decide +kernel
theorem dX3_copyFrom_135 : decode cX3_copyFrom 135 = .ok (.getfield 24, 3) := by decide +kernel
theorem dX3_copyFrom_138 : decode cX3_copyFrom 138 = .ok (.iconst 0, 1) := by decide +kernel
theorem dX3_copyFrom_139 : decode cX3_copyFrom 139 = .ok (.bipush 6, 2) := by decide +kernel
theorem dX3_copyFrom_141 : decode cX3_copyFrom 141 = .ok (.invokestatic 62, 3) := by decide +kernel
theorem dX3_copyFrom_144 : decode cX3_copyFrom 144 = .ok (.aload_n 1, 1) := by decide +kernel
theorem dX3_copyFrom_145 : decode cX3_copyFrom 145 = .ok (.getfield 27, 3) := by decide +kernel
theorem dX3_copyFrom_148 : decode cX3_copyFrom 148 = .ok (.iconst 0, 1) := by decide +kernel
theorem dX3_copyFrom_149 : decode cX3_copyFrom 149 = .ok (.aload_n 0, 1) := by decide +kernel
theorem dX3_copyFrom_150 : decode cX3_copyFrom 150 = .ok (.getfield 27, 3) := by decide +kernel
theorem dX3_copyFrom_153 : decode cX3_copyFrom 153 = .ok (.iconst 0, 1) := by decide +kernel
theorem dX3_copyFrom_154 : decode cX3_copyFrom 154 = .ok (.bipush 8, 2) := by decide +kernel
theorem dX3_copyFrom_156 : decode cX3_copyFrom 156 = .ok (.invokestatic 62, 3) := by decide +kernel
theorem dX3_copyFrom_159 : decode cX3_copyFrom 159 = .ok (.aload_n 1, 1) := by decide +kernel
theorem dX3_copyFrom_160 : decode cX3_copyFrom 160 = .ok (.getfield 30, 3) := by decide +kernel
theorem dX3_copyFrom_163 : decode cX3_copyFrom 163 = .ok (.iconst 0, 1) := by decide +kernel
theorem dX3_copyFrom_164 : decode cX3_copyFrom 164 = .ok (.aload_n 0, 1) := by decide +kernel
theorem dX3_copyFrom_165 : decode cX3_copyFrom 165 = .ok (.getfield 30, 3) := by decide +kernel
theorem dX3_copyFrom_168 : decode cX3_copyFrom 168 = .ok (.iconst 0, 1) := by decide +kernel
theorem dX3_copyFrom_169 : decode cX3_copyFrom 169 = .ok (.bipush 8, 2) := by decide +kernel
theorem dX3_copyFrom_171 : decode cX3_copyFrom 171 = .ok (.invokestatic 62, 3) := by decide +kernel
theorem dX3_copyFrom_174 : decode cX3_copyFrom 174 = .ok (.return_, 1) := by decide +kernel
theorem dX10_image_0 : decode cX10_image 0 = .ok (.iload_n 1, 1) := by decide +kernel
theorem dX10_image_1 : decode cX10_image 1 = .ok (.iconst 0, 1) := by decide +kernel
theorem dX10_image_2 : decode cX10_image 2 = .ok (.aload_n 0, 1) := by decide +kernel
theorem dX10_image_3 : decode cX10_image 3 = .ok (.getfield 19, 3) := by decide +kernel
theorem dX10_image_6 : decode cX10_image 6 = .ok (.arraylength, 1) := by decide +kernel
theorem dX10_image_7 : decode cX10_image 7 = .ok (.iconst 1, 1) := by decide +kernel
theorem dX10_image_8 : decode cX10_image 8 = .ok (.isub, 1) := by decide +kernel
set_option maxRecDepth 20000 in
theorem ggX10_image_X10_isWithin : GoodIn wsX10_image wsX10_isWithin := goodIn_r _ [9] (by decide +kernel) (by decide +kernel)
set_option maxRecDepth 20000 in
theorem gX10_image_X10_isWithin : GoodIn wsX10_image (va_wsS RX10 48 yX10_isWithin wsX10_isWithin) := goodIn_app (goodIn_of _ (by decide +kernel)) ggX10_image_X10_isWithin
theorem dX10_image_9 : decode cX10_image 9 = .ok (.invokestatic 48, 3) := by decide +kernel
theorem dX10_image_12 : decode cX10_image 12 = .ok (.ifCond .ne 10, 3) := by decide +kernel
theorem dX10_image_22 : decode cX10_image 22 = .ok (.aload_n 0, 1) := by decide +kernel
theorem dX10_image_23 : decode cX10_image 23 = .ok (.getfield 19, 3) := by decide +kernel
theorem dX10_image_26 : decode cX10_image 26 = .ok (.iload_n 1, 1) := by decide +kernel
theorem dX10_image_27 : decode cX10_image 27 = .ok (.aaload, 1) := by decide +kernel
theorem dX10_image_28 : decode cX10_image 28 = .ok (.astore_n 2, 1) := by decide +kernel
theorem dX10_image_29 : decode cX10_image 29 = .ok (.aload_n 2, 1) := by decide +kernel
theorem dX10_image_30 : decode cX10_image 30 = .ok (.ifnonnull 18, 3) := by decide +kernel
theorem dX10_image_33 : decode cX10_image 33 = .ok (.new 7, 3) := by decide +kernel
theorem dX10_image_36 : decode cX10_image 36 = .ok (.dup, 1) := by decide +kernel
set_option maxRecDepth 20000 in
theorem ggX10_image_X3_init : GoodIn wsX10_image wsX3_init := goodIn_r _ [17, 18, 19, 20, 21, 22, 23, 24, 25, 26, 27, 28, 29, 30, 31, 55, 56, 57, 58, 59, 60, 61, 62, 63, 64, 65, 66, 67, 68, 69, 70] (by decide +kernel) (by decide +kernel)
set_option maxRecDepth 20000 in
theorem gX10_image_X3_init : GoodIn wsX10_image (wsX3_init) := ggX10_image_X3_init
theorem dX10_image_37 : decode cX10_image 37 = .ok (.invokespecial 9, 3) := by decide +kernel
theorem dX10_image_40 : decode cX10_image 40 = .ok (.astore_n 2, 1) := by decide +kernel
theorem dX10_image_41 : decode cX10_image 41 = .ok (.aload_n 0, 1) := by decide +kernel
theorem dX10_image_42 : decode cX10_image 42 = .ok (.getfield 19, 3) := by decide +kernel
theorem dX10_image_45 : decode cX10_image 45 = .ok (.iload_n 1, 1) := by decide +kernel
theorem dX10_image_46 : decode cX10_image 46 = .ok (.aload_n 2, 1) := by decide +kernel
theorem dX10_image_47 : decode cX10_image 47 = .ok (.aastore, 1) := by decide +kernel
theorem dX10_image_48 : decode cX10_image 48 = .ok (.aload_n 2, 1) := by decide +kernel
theorem dX10_image_49 : decode cX10_image 49 = .ok (.aload_n 0, 1) := by decide +kernel
theorem dX10_image_50 : decode cX10_image 50 = .ok (.getfield 10, 3) := by decide +kernel
set_option maxRecDepth 20000 in
theorem ggX10_image_X3_copyFrom : GoodIn wsX10_image wsX3_copyFrom := goodIn_r _ [35, 29, 30, 31, 36, 37, 38, 39, 40, 41, 22, 42, 43, 44, 45, 23, 24, 25, 26, 27, 28, 55, 56, 57, 58, 59, 60, 61, 62, 63, 64, 65, 66, 67, 68, 69, 70] (by decide +kernel) (by decide +kernel)
set_option maxRecDepth 20000 in
theorem gX10_image_X3_copyFrom : GoodIn wsX10_image (wsV RX10 134 RX3 yX3_copyFrom wsX3_copyFrom) := goodIn_app (goodIn_of _ (by decide +kernel)) ggX10_image_X3_copyFrom
theorem dX10_image_53 : decode cX10_image 53 = .ok (.invokevirtual 134, 3) := by decide +kernel
theorem dX10_image_56 : decode cX10_image 56 = .ok (.iconst 1, 1) := by decide +kernel
theorem dX10_image_57 : decode cX10_image 57 = .ok (.ireturn, 1) := by decide +kernel
theorem dX10_image_15 : decode cX10_image 15 = .ok (.aload_n 0, 1) := by decide +kernel
theorem dX10_image_16 : decode cX10_image 16 = .ok (.bipush (-2), 2) := by decide +kernel
set_option maxRecDepth 20000 in
theorem ggX10_image_X10_refuseBad : GoodIn wsX10_image wsX10_refuseBad := goodIn_r _ [13, 14, 46, 47, 48, 49, 50, 51, 52, 53, 54] (by decide +kernel) (by decide +kernel)
set_option maxRecDepth 20000 in
theorem gX10_image_X10_refuseBad : GoodIn wsX10_image (wsV RX10 52 RX10 yX10_refuseBad wsX10_refuseBad) := goodIn_app (goodIn_of _ (by decide +kernel)) ggX10_image_X10_refuseBad
theorem dX10_image_18 : decode cX10_image 18 = .ok (.invokevirtual 52, 3) := by decide +kernel
theorem dX10_image_21 : decode cX10_image 21 = .ok (.ireturn, 1) := by decide +kernel
set_option maxHeartbeats 4000000 in
set_option maxRecDepth 100000 in
theorem c0_bitCount (l : Launch) (D : va_G) (cy : Nat → ClassId)  (sz : Nat)  : Met l yJ13_bitCount_95d88 wsJ13_bitCount_95d88 ({ frames := 0, cells := 0, slots := 0, locals := 0 }) (va_Pc [.long 0] (kPre D cy [] sz)) (va_Qi (fun (r : Int32) (_ : Unit) => r = 0) (fun _ _ => True) (fun q : Nat => sz ≤ q)) 0 0 (fun q : Nat => sz ≤ q) := by
  refine Met.ofW (cc := cJ13_bitCount_95d88) (maxL := 2) (ret := (some .int)) (by decide) rfl ?_
  intro p e s m args below meth c s₁ B hml hv
  obtain ⟨rfl, hsz, hP, hKA, hD0⟩ := hv
  have hx := B.exec
  have hb := B.bytes
  have hr := B.returns
  have hts := atoms_spec (ws := wsJ13_bitCount_95d88) B.pre
  have hown : s.vm.findClass RJ13 = some m.cls := findClass_of_methodNamed B.named
  have hlocks := B.notSynchronized
  subst hsz
  have hK := hKA.1
  have hD := hD0
  generalize hAe : (fun q : Nat => s.heap.size ≤ q) = A
  have hA : ∀ q : Nat, s.heap.size ≤ q → A q := fun q h => by rw [← hAe]; exact h
  have hS : va_S A s.heap s.heap [] := va_S.rf
  have hP : va_P D vwCl [] s.heap := hP
  have hl := lv_entry ([.long 0]) (n := 2) (Nat.le_of_ble_eq_true rfl)
  rw [lg_entry_eq]
  generalize (lg_sl ([.long 0]) ++ List.replicate (2 - (lg_sl ([.long 0])).length) Slot.unset).toArray = ls at hl ⊢
  have hl : lv_has ls 2 [(0, .long 0)] := hl
  have z0_ := hts (.constantLong RJ13 314 6148914691236517205) (by decide +kernel)
  have z1_ := hts (.constantLong RJ13 316 3689348814741910323) (by decide +kernel)
  have z2_ := hts (.constantLong RJ13 318 1085102592571150095) (by decide +kernel)
  refine lv_lload_n hx hb dJ13_bitCount_95d88_0 rfl (lv_at hl 0 rfl) ?_
  refine lv_lload_n hx hb dJ13_bitCount_95d88_1 rfl (lv_at hl 0 rfl) ?_
  refine lv_iconst (v := 1) hx hb dJ13_bitCount_95d88_2 (by decide) ?_
  refine lv_lushr hx hb dJ13_bitCount_95d88_3 rfl ?_
  refine lv_topl (fun x1 ex1 => ?_)
  obtain rfl : x1 = 0 := by rw [ex1]; decide +kernel
  refine lv_ldc2 hx hb hown z0_ dJ13_bitCount_95d88_4 ?_
  refine lv_land hx hb dJ13_bitCount_95d88_7 ?_
  refine lv_topl (fun x2 ex2 => ?_)
  obtain rfl : x2 = 0 := by rw [ex2]; decide +kernel
  refine lv_lsub hx hb dJ13_bitCount_95d88_8 ?_
  refine lv_topl (fun x3 ex3 => ?_)
  obtain rfl : x3 = 0 := by rw [ex3]; decide +kernel
  refine lv_lstore_n (lv' := [(0, .long 0)]) hx hb dJ13_bitCount_95d88_9 rfl hl (by decide) rfl (fun ls hl => ?_)
  refine lv_lload_n hx hb dJ13_bitCount_95d88_10 rfl (lv_at hl 0 rfl) ?_
  refine lv_ldc2 hx hb hown z1_ dJ13_bitCount_95d88_11 ?_
  refine lv_land hx hb dJ13_bitCount_95d88_14 ?_
  refine lv_topl (fun x4 ex4 => ?_)
  obtain rfl : x4 = 0 := by rw [ex4]; decide +kernel
  refine lv_lload_n hx hb dJ13_bitCount_95d88_15 rfl (lv_at hl 0 rfl) ?_
  refine lv_iconst (v := 2) hx hb dJ13_bitCount_95d88_16 (by decide) ?_
  refine lv_lushr hx hb dJ13_bitCount_95d88_17 rfl ?_
  refine lv_topl (fun x5 ex5 => ?_)
  obtain rfl : x5 = 0 := by rw [ex5]; decide +kernel
  refine lv_ldc2 hx hb hown z1_ dJ13_bitCount_95d88_18 ?_
  refine lv_land hx hb dJ13_bitCount_95d88_21 ?_
  refine lv_topl (fun x6 ex6 => ?_)
  obtain rfl : x6 = 0 := by rw [ex6]; decide +kernel
  refine lv_ladd hx hb dJ13_bitCount_95d88_22 ?_
  refine lv_topl (fun x7 ex7 => ?_)
  obtain rfl : x7 = 0 := by rw [ex7]; decide +kernel
  refine lv_lstore_n (lv' := [(0, .long 0)]) hx hb dJ13_bitCount_95d88_23 rfl hl (by decide) rfl (fun ls hl => ?_)
  refine lv_lload_n hx hb dJ13_bitCount_95d88_24 rfl (lv_at hl 0 rfl) ?_
  refine lv_lload_n hx hb dJ13_bitCount_95d88_25 rfl (lv_at hl 0 rfl) ?_
  refine lv_iconst (v := 4) hx hb dJ13_bitCount_95d88_26 (by decide) ?_
  refine lv_lushr hx hb dJ13_bitCount_95d88_27 rfl ?_
  refine lv_topl (fun x8 ex8 => ?_)
  obtain rfl : x8 = 0 := by rw [ex8]; decide +kernel
  refine lv_ladd hx hb dJ13_bitCount_95d88_28 ?_
  refine lv_topl (fun x9 ex9 => ?_)
  obtain rfl : x9 = 0 := by rw [ex9]; decide +kernel
  refine lv_ldc2 hx hb hown z2_ dJ13_bitCount_95d88_29 ?_
  refine lv_land hx hb dJ13_bitCount_95d88_32 ?_
  refine lv_topl (fun x10 ex10 => ?_)
  obtain rfl : x10 = 0 := by rw [ex10]; decide +kernel
  refine lv_lstore_n (lv' := [(0, .long 0)]) hx hb dJ13_bitCount_95d88_33 rfl hl (by decide) rfl (fun ls hl => ?_)
  refine lv_lload_n hx hb dJ13_bitCount_95d88_34 rfl (lv_at hl 0 rfl) ?_
  refine lv_lload_n hx hb dJ13_bitCount_95d88_35 rfl (lv_at hl 0 rfl) ?_
  refine lv_bipush (v := 8) hx hb dJ13_bitCount_95d88_36 (by decide) ?_
  refine lv_lushr hx hb dJ13_bitCount_95d88_38 rfl ?_
  refine lv_topl (fun x11 ex11 => ?_)
  obtain rfl : x11 = 0 := by rw [ex11]; decide +kernel
  refine lv_ladd hx hb dJ13_bitCount_95d88_39 ?_
  refine lv_topl (fun x12 ex12 => ?_)
  obtain rfl : x12 = 0 := by rw [ex12]; decide +kernel
  refine lv_lstore_n (lv' := [(0, .long 0)]) hx hb dJ13_bitCount_95d88_40 rfl hl (by decide) rfl (fun ls hl => ?_)
  refine lv_lload_n hx hb dJ13_bitCount_95d88_41 rfl (lv_at hl 0 rfl) ?_
  refine lv_lload_n hx hb dJ13_bitCount_95d88_42 rfl (lv_at hl 0 rfl) ?_
  refine lv_bipush (v := 16) hx hb dJ13_bitCount_95d88_43 (by decide) ?_
  refine lv_lushr hx hb dJ13_bitCount_95d88_45 rfl ?_
  refine lv_topl (fun x13 ex13 => ?_)
  obtain rfl : x13 = 0 := by rw [ex13]; decide +kernel
  refine lv_ladd hx hb dJ13_bitCount_95d88_46 ?_
  refine lv_topl (fun x14 ex14 => ?_)
  obtain rfl : x14 = 0 := by rw [ex14]; decide +kernel
  refine lv_lstore_n (lv' := [(0, .long 0)]) hx hb dJ13_bitCount_95d88_47 rfl hl (by decide) rfl (fun ls hl => ?_)
  refine lv_lload_n hx hb dJ13_bitCount_95d88_48 rfl (lv_at hl 0 rfl) ?_
  refine lv_lload_n hx hb dJ13_bitCount_95d88_49 rfl (lv_at hl 0 rfl) ?_
  refine lv_bipush (v := 32) hx hb dJ13_bitCount_95d88_50 (by decide) ?_
  refine lv_lushr hx hb dJ13_bitCount_95d88_52 rfl ?_
  refine lv_topl (fun x15 ex15 => ?_)
  obtain rfl : x15 = 0 := by rw [ex15]; decide +kernel
  refine lv_ladd hx hb dJ13_bitCount_95d88_53 ?_
  refine lv_topl (fun x16 ex16 => ?_)
  obtain rfl : x16 = 0 := by rw [ex16]; decide +kernel
  refine lv_lstore_n (lv' := [(0, .long 0)]) hx hb dJ13_bitCount_95d88_54 rfl hl (by decide) rfl (fun ls hl => ?_)
  refine lv_lload_n hx hb dJ13_bitCount_95d88_55 rfl (lv_at hl 0 rfl) ?_
  refine lv_l2i hx hb dJ13_bitCount_95d88_56 rfl ?_
  refine lv_topi (fun x17 ex17 => ?_)
  obtain rfl : x17 = 0 := by rw [ex17]; decide +kernel
  refine lv_bipush (v := 127) hx hb dJ13_bitCount_95d88_57 (by decide) ?_
  refine lv_iand hx hb dJ13_bitCount_95d88_59 ?_
  refine lv_topi (fun x18 ex18 => ?_)
  obtain rfl : x18 = 0 := by rw [ex18]; decide +kernel
  exact W.iret (v := 0) hx hb hr (fun t ht hW => ⟨⟨0, (), rfl, rfl, trivial⟩, hS.F ht⟩) hS.2.2 dJ13_bitCount_95d88_60

set_option maxHeartbeats 4000000 in
set_option maxRecDepth 100000 in
theorem c0_howMany (l : Launch) (D : va_G) (cy : Nat → ClassId) (h g df im pn w pa : Nat) (b : Nat) (k0 k1 k2 k3 k4 k5 k6 : Nat) (x : Int32) (sz : Nat)  : Met l yX10_howMany wsX10_howMany ({ frames := 1, cells := 0, slots := 0, locals := 21 }) (va_Pc [.ref h, .int x] (kPre D cy [(h, .inr (10, [.ref g, .ref df, .ref im, .ref pn, .ref w, .ref pa, .int 0, .int 0, .int 0])), (g, .inr (3, [.int 6, .int 6, .int 1, .int 0, .long 0, .long 0, .int 0, .int 0, .int 0, .ref k0, .ref k1, .ref k2, .ref k3, .ref k4, .ref k5, .ref k6])), (pn, .inr (8, [.ref b, .int 0, .int 0, .int 0, .int 0, .int 0, .int 0]))] sz)) (va_Qi (fun (r : Int32) (_ : Unit) => (r = 0 ∧ 0 ≤ x ∧ x ≤ 5) ∨ (r = 36 ∧ x = 6) ∨ (r = -1 ∧ ¬ (0 ≤ x ∧ x ≤ 5) ∧ ¬ x = 6)) (fun _ _ => True) (fun q : Nat => sz ≤ q)) 0 0 (fun q : Nat => sz ≤ q) := by
  refine Met.ofW (cc := cX10_howMany) (maxL := 2) (ret := (some .int)) (by decide) rfl ?_
  intro p e s m args below meth c s₁ B hml hv
  obtain ⟨rfl, hsz, hP, hKA, hD0⟩ := hv
  have hx := B.exec
  have hb := B.bytes
  have hr := B.returns
  have hts := atoms_spec (ws := wsX10_howMany) B.pre
  have hown : s.vm.findClass RX10 = some m.cls := findClass_of_methodNamed B.named
  have hlocks := B.notSynchronized
  subst hsz
  have hK := hKA.1
  have hD := hD0
  generalize hAe : (fun q : Nat => s.heap.size ≤ q) = A
  have hA : ∀ q : Nat, s.heap.size ≤ q → A q := fun q h => by rw [← hAe]; exact h
  have hS : va_S A s.heap s.heap [] := va_S.rf
  have hP : va_P D vwCl [(h, .inr (10, [.ref g, .ref df, .ref im, .ref pn, .ref w, .ref pa, .int 0, .int 0, .int 0])), (g, .inr (3, [.int 6, .int 6, .int 1, .int 0, .long 0, .long 0, .int 0, .int 0, .int 0, .ref k0, .ref k1, .ref k2, .ref k3, .ref k4, .ref k5, .ref k6])), (pn, .inr (8, [.ref b, .int 0, .int 0, .int 0, .int 0, .int 0, .int 0]))] s.heap := hP
  have hl := lv_entry ([.ref h, .int x]) (n := 2) (Nat.le_of_ble_eq_true rfl)
  rw [lg_entry_eq]
  generalize (lg_sl ([.ref h, .int x]) ++ List.replicate (2 - (lg_sl ([.ref h, .int x])).length) Slot.unset).toArray = ls at hl ⊢
  have hl : lv_has ls 2 [(0, .ref h), (1, .int x)] := hl
  have z0_ := hts (.fieldLink RX10 10 "HeardSeen" "now" "LHeardSeen$Garden;") (by decide +kernel)
  have zi10_ : ∀ w ∈ u_ws RX10 TX10 9, w ∈ wsX10_howMany := by decide +kernel
  have z2_ := hts (.fieldLink RX10 137 "HeardSeen$Garden" "people" "I") (by decide +kernel)
  have zi3_ : ∀ w ∈ u_ws RX3 TX3 16, w ∈ wsX10_howMany := by decide +kernel
  have z4_ := hts (.fieldLink RX10 224 "HeardSeen$Garden" "hedges" "J") (by decide +kernel)
  have z5_ := hts (.fieldLink RX10 228 "HeardSeen$Garden" "fountains" "J") (by decide +kernel)
  have z6_ := hts (.fieldLink RX10 117 "HeardSeen$Garden" "tellings" "I") (by decide +kernel)
  have z7_ := hts (.fieldLink RX10 120 "HeardSeen$Garden" "reports" "I") (by decide +kernel)
  have z8_ := hts (.fieldLink RX10 26 "HeardSeen" "plan" "LHeardSeen$Plan;") (by decide +kernel)
  have z9_ := hts (.fieldLink RX10 127 "HeardSeen$Plan" "length" "I") (by decide +kernel)
  have zi8_ : ∀ w ∈ u_ws RX8 TX8 7, w ∈ wsX10_howMany := by decide +kernel
  refine lv_iload_n hx hb dX10_howMany_0 rfl (lv_at hl 1 rfl) ?_
  by_cases c1 : x = 0
  · skip
    refine lv_tableIn (tgt := 44) hx hb dX10_howMany_1 (by rw [c1]; decide) (by rw [c1]; decide) (by rw [c1]; rfl) (by decide) ?_
    refine lv_aload_n hx hb dX10_howMany_44 rfl (lv_at hl 0 rfl) ?_
    refine va_get (D := D) (ci := 10) (v := .ref g) (C := RX10) (T := TX10) (N := 9) hx hb hts zi10_ hown hK hP 0 rfl rfl 0 (by decide) z0_ (fun _ h9 => h9) rfl dX10_howMany_45 ?_
    refine va_get (D := D) (ci := 3) (v := .int 0) (C := RX3) (T := TX3) (N := 16) hx hb hts zi3_ hown hK hP 1 rfl rfl 6 (by decide) z2_ (fun _ h9 => h9) rfl dX10_howMany_48 ?_
    exact W.iret (v := 0) hx hb hr (fun t ht hW => ⟨⟨0, (), rfl, (Or.inl ⟨rfl, by rw [c1]; decide, by rw [c1]; decide⟩), trivial⟩, hS.F ht⟩) hS.2.2 dX10_howMany_51
  by_cases c2 : x = 1
  · skip
    refine lv_tableIn (tgt := 52) hx hb dX10_howMany_1 (by rw [c2]; decide) (by rw [c2]; decide) (by rw [c2]; rfl) (by decide) ?_
    refine lv_aload_n hx hb dX10_howMany_52 rfl (lv_at hl 0 rfl) ?_
    refine va_get (D := D) (ci := 10) (v := .ref g) (C := RX10) (T := TX10) (N := 9) hx hb hts zi10_ hown hK hP 0 rfl rfl 0 (by decide) z0_ (fun _ h9 => h9) rfl dX10_howMany_53 ?_
    refine va_get (D := D) (ci := 3) (v := .long 0) (C := RX3) (T := TX3) (N := 16) hx hb hts zi3_ hown hK hP 1 rfl rfl 4 (by decide) z4_ (fun _ h9 => h9) rfl dX10_howMany_56 ?_
    refine rd_i (va_runS (As := [.long 0]) (rest := []) ⟨hx, hb, hml, hown, hts⟩ (c0_bitCount l D cy _) (va_cwS 1 hts gX10_howMany_J13_bitCount_95d88 rfl rfl rfl (by decide +kernel) ⟨Nat.le_of_ble_eq_true rfl, Nat.le_of_ble_eq_true rfl⟩) (pS hKA pE (dE (A := A))) rfl rfl hl.1 rfl (lv_room (Nat.le_of_ble_eq_true rfl)) dX10_howMany_59 ⟨Nat.le_of_ble_eq_true rfl, Nat.le_of_ble_eq_true rfl⟩) hP hS hA (fun r3 H locs hwr3 hP hS => ?_)
    rcases hwr3 with rfl
    · skip
      exact W.iret (v := 0) hx hb hr (fun t ht hW => ⟨⟨0, (), rfl, (Or.inl ⟨rfl, by rw [c2]; decide, by rw [c2]; decide⟩), trivial⟩, hS.F ht⟩) hS.2.2 dX10_howMany_62
  by_cases c4 : x = 2
  · skip
    refine lv_tableIn (tgt := 63) hx hb dX10_howMany_1 (by rw [c4]; decide) (by rw [c4]; decide) (by rw [c4]; rfl) (by decide) ?_
    refine lv_aload_n hx hb dX10_howMany_63 rfl (lv_at hl 0 rfl) ?_
    refine va_get (D := D) (ci := 10) (v := .ref g) (C := RX10) (T := TX10) (N := 9) hx hb hts zi10_ hown hK hP 0 rfl rfl 0 (by decide) z0_ (fun _ h9 => h9) rfl dX10_howMany_64 ?_
    refine va_get (D := D) (ci := 3) (v := .long 0) (C := RX3) (T := TX3) (N := 16) hx hb hts zi3_ hown hK hP 1 rfl rfl 5 (by decide) z5_ (fun _ h9 => h9) rfl dX10_howMany_67 ?_
    refine rd_i (va_runS (As := [.long 0]) (rest := []) ⟨hx, hb, hml, hown, hts⟩ (c0_bitCount l D cy _) (va_cwS 1 hts gX10_howMany_J13_bitCount_95d88 rfl rfl rfl (by decide +kernel) ⟨Nat.le_of_ble_eq_true rfl, Nat.le_of_ble_eq_true rfl⟩) (pS hKA pE (dE (A := A))) rfl rfl hl.1 rfl (lv_room (Nat.le_of_ble_eq_true rfl)) dX10_howMany_70 ⟨Nat.le_of_ble_eq_true rfl, Nat.le_of_ble_eq_true rfl⟩) hP hS hA (fun r5 H locs hwr5 hP hS => ?_)
    rcases hwr5 with rfl
    · skip
      exact W.iret (v := 0) hx hb hr (fun t ht hW => ⟨⟨0, (), rfl, (Or.inl ⟨rfl, by rw [c4]; decide, by rw [c4]; decide⟩), trivial⟩, hS.F ht⟩) hS.2.2 dX10_howMany_73
  by_cases c6 : x = 3
  · skip
    refine lv_tableIn (tgt := 74) hx hb dX10_howMany_1 (by rw [c6]; decide) (by rw [c6]; decide) (by rw [c6]; rfl) (by decide) ?_
    refine lv_aload_n hx hb dX10_howMany_74 rfl (lv_at hl 0 rfl) ?_
    refine va_get (D := D) (ci := 10) (v := .ref g) (C := RX10) (T := TX10) (N := 9) hx hb hts zi10_ hown hK hP 0 rfl rfl 0 (by decide) z0_ (fun _ h9 => h9) rfl dX10_howMany_75 ?_
    refine va_get (D := D) (ci := 3) (v := .int 0) (C := RX3) (T := TX3) (N := 16) hx hb hts zi3_ hown hK hP 1 rfl rfl 7 (by decide) z6_ (fun _ h9 => h9) rfl dX10_howMany_78 ?_
    exact W.iret (v := 0) hx hb hr (fun t ht hW => ⟨⟨0, (), rfl, (Or.inl ⟨rfl, by rw [c6]; decide, by rw [c6]; decide⟩), trivial⟩, hS.F ht⟩) hS.2.2 dX10_howMany_81
  by_cases c7 : x = 4
  · skip
    refine lv_tableIn (tgt := 82) hx hb dX10_howMany_1 (by rw [c7]; decide) (by rw [c7]; decide) (by rw [c7]; rfl) (by decide) ?_
    refine lv_aload_n hx hb dX10_howMany_82 rfl (lv_at hl 0 rfl) ?_
    refine va_get (D := D) (ci := 10) (v := .ref g) (C := RX10) (T := TX10) (N := 9) hx hb hts zi10_ hown hK hP 0 rfl rfl 0 (by decide) z0_ (fun _ h9 => h9) rfl dX10_howMany_83 ?_
    refine va_get (D := D) (ci := 3) (v := .int 0) (C := RX3) (T := TX3) (N := 16) hx hb hts zi3_ hown hK hP 1 rfl rfl 8 (by decide) z7_ (fun _ h9 => h9) rfl dX10_howMany_86 ?_
    exact W.iret (v := 0) hx hb hr (fun t ht hW => ⟨⟨0, (), rfl, (Or.inl ⟨rfl, by rw [c7]; decide, by rw [c7]; decide⟩), trivial⟩, hS.F ht⟩) hS.2.2 dX10_howMany_89
  by_cases c8 : x = 5
  · skip
    refine lv_tableIn (tgt := 90) hx hb dX10_howMany_1 (by rw [c8]; decide) (by rw [c8]; decide) (by rw [c8]; rfl) (by decide) ?_
    refine lv_aload_n hx hb dX10_howMany_90 rfl (lv_at hl 0 rfl) ?_
    refine va_get (D := D) (ci := 10) (v := .ref pn) (C := RX10) (T := TX10) (N := 9) hx hb hts zi10_ hown hK hP 0 rfl rfl 3 (by decide) z8_ (fun _ h9 => h9) rfl dX10_howMany_91 ?_
    refine va_get (D := D) (ci := 8) (v := .int 0) (C := RX8) (T := TX8) (N := 7) hx hb hts zi8_ hown hK hP 2 rfl rfl 1 (by decide) z9_ (fun _ h9 => h9) rfl dX10_howMany_94 ?_
    exact W.iret (v := 0) hx hb hr (fun t ht hW => ⟨⟨0, (), rfl, (Or.inl ⟨rfl, by rw [c8]; decide, by rw [c8]; decide⟩), trivial⟩, hS.F ht⟩) hS.2.2 dX10_howMany_97
  by_cases c9 : x = 6
  · skip
    refine lv_tableIn (tgt := 98) hx hb dX10_howMany_1 (by rw [c9]; decide) (by rw [c9]; decide) (by rw [c9]; rfl) (by decide) ?_
    refine lv_aload_n hx hb dX10_howMany_98 rfl (lv_at hl 0 rfl) ?_
    refine va_get (D := D) (ci := 10) (v := .ref g) (C := RX10) (T := TX10) (N := 9) hx hb hts zi10_ hown hK hP 0 rfl rfl 0 (by decide) z0_ (fun _ h9 => h9) rfl dX10_howMany_99 ?_
    refine rd_i (va_runV (As := []) (rest := []) ⟨hx, hb, hml, hown, hts⟩ (c_X3_squareCount l D cy g 6 6 1 0 0 0 0 0 0 k0 k1 k2 k3 k4 k5 k6 _) (cwV 0 hts gX10_howMany_X3_squareCount rfl rfl rfl (by decide +kernel) ⟨Nat.le_of_ble_eq_true rfl, Nat.le_of_ble_eq_true rfl⟩) (pV (ci := 3) (k := 0) hKA (hP.sub (ws' := [(g, .inr (3, [.int 6, .int 6, .int 1, .int 0, .long 0, .long 0, .int 0, .int 0, .int 0, .ref k0, .ref k1, .ref k2, .ref k3, .ref k4, .ref k5, .ref k6]))]) [1] rfl) (hD.sub (ws' := [(g, .inr (3, [.int 6, .int 6, .int 1, .int 0, .long 0, .long 0, .int 0, .int 0, .int 0, .ref k0, .ref k1, .ref k2, .ref k3, .ref k4, .ref k5, .ref k6]))]) [1] (by decide) rfl) rfl rfl) rfl rfl hl.1 rfl (lv_room (Nat.le_of_ble_eq_true rfl)) dX10_howMany_102 ⟨Nat.le_of_ble_eq_true rfl, Nat.le_of_ble_eq_true rfl⟩) hP hS hA (fun r10 H locs hwr10 hP hS => ?_)
    obtain rfl : r10 = 36 := by rw [hwr10]; decide
    exact W.iret (v := 36) hx hb hr (fun t ht hW => ⟨⟨36, (), rfl, (Or.inr (Or.inl ⟨rfl, by assumption⟩)), trivial⟩, hS.F ht⟩) hS.2.2 dX10_howMany_105
  refine lv_tableOut (tgt := 106) hx hb dX10_howMany_1 (by have q0 : ¬ x.toInt = 0 := fun h2 => absurd (Int32.toInt_inj.mp (h2.trans (by decide : (0 : Int) = (0 : Int32).toInt))) (by assumption); have q1 : ¬ x.toInt = 1 := fun h2 => absurd (Int32.toInt_inj.mp (h2.trans (by decide : (1 : Int) = (1 : Int32).toInt))) (by assumption); have q2 : ¬ x.toInt = 2 := fun h2 => absurd (Int32.toInt_inj.mp (h2.trans (by decide : (2 : Int) = (2 : Int32).toInt))) (by assumption); have q3 : ¬ x.toInt = 3 := fun h2 => absurd (Int32.toInt_inj.mp (h2.trans (by decide : (3 : Int) = (3 : Int32).toInt))) (by assumption); have q4 : ¬ x.toInt = 4 := fun h2 => absurd (Int32.toInt_inj.mp (h2.trans (by decide : (4 : Int) = (4 : Int32).toInt))) (by assumption); have q5 : ¬ x.toInt = 5 := fun h2 => absurd (Int32.toInt_inj.mp (h2.trans (by decide : (5 : Int) = (5 : Int32).toInt))) (by assumption); have q6 : ¬ x.toInt = 6 := fun h2 => absurd (Int32.toInt_inj.mp (h2.trans (by decide : (6 : Int) = (6 : Int32).toInt))) (by assumption); omega) (by decide) ?_
  refine lv_iconst (v := (-1)) hx hb dX10_howMany_106 (by decide) ?_
  exact W.iret (v := (-1)) hx hb hr (fun t ht hW => ⟨⟨(-1), (), rfl, (Or.inr (Or.inr ⟨rfl, (fun q => by have a := (z_le _ _).mp q.1; have b := (z_le _ _).mp q.2; have h0 : (0 : Int32).toInt = 0 := (by decide); have h5 : (5 : Int32).toInt = 5 := (by decide); have q0 : ¬ x.toInt = 0 := fun h2 => absurd (Int32.toInt_inj.mp (h2.trans (by decide : (0 : Int) = (0 : Int32).toInt))) (by assumption); have q1 : ¬ x.toInt = 1 := fun h2 => absurd (Int32.toInt_inj.mp (h2.trans (by decide : (1 : Int) = (1 : Int32).toInt))) (by assumption); have q2 : ¬ x.toInt = 2 := fun h2 => absurd (Int32.toInt_inj.mp (h2.trans (by decide : (2 : Int) = (2 : Int32).toInt))) (by assumption); have q3 : ¬ x.toInt = 3 := fun h2 => absurd (Int32.toInt_inj.mp (h2.trans (by decide : (3 : Int) = (3 : Int32).toInt))) (by assumption); have q4 : ¬ x.toInt = 4 := fun h2 => absurd (Int32.toInt_inj.mp (h2.trans (by decide : (4 : Int) = (4 : Int32).toInt))) (by assumption); have q5 : ¬ x.toInt = 5 := fun h2 => absurd (Int32.toInt_inj.mp (h2.trans (by decide : (5 : Int) = (5 : Int32).toInt))) (by assumption); have q6 : ¬ x.toInt = 6 := fun h2 => absurd (Int32.toInt_inj.mp (h2.trans (by decide : (6 : Int) = (6 : Int32).toInt))) (by assumption); omega), by assumption⟩)), trivial⟩, hS.F ht⟩) hS.2.2 dX10_howMany_107

set_option maxHeartbeats 4000000 in
set_option maxRecDepth 100000 in
theorem tp_count (l : Launch) (D : va_G) (cy : Nat → ClassId) (h g df im pn w pa : Nat) (b : Nat) (k0 k1 k2 k3 k4 k5 k6 : Nat) (x : Int32) (sz : Nat)  : Met l yX10_count wsX10_count ({ frames := 2, cells := 0, slots := 0, locals := 42 }) (va_Pc [.ref h, .int x] (kPre D cy [(h, .inr (10, [.ref g, .ref df, .ref im, .ref pn, .ref w, .ref pa, .int 0, .int 0, .int 0])), (g, .inr (3, [.int 6, .int 6, .int 1, .int 0, .long 0, .long 0, .int 0, .int 0, .int 0, .ref k0, .ref k1, .ref k2, .ref k3, .ref k4, .ref k5, .ref k6])), (pn, .inr (8, [.ref b, .int 0, .int 0, .int 0, .int 0, .int 0, .int 0]))] sz)) (va_Qi (fun (r : Int32) (_ : Unit) => r = sp_count x) (fun (u : Unit) t => va_P D vwCl ([]) t.heap ∧ va_D (va_A [(h, .inr (10, [.ref g, .ref df, .ref im, .ref pn, .ref w, .ref pa, .int 0, .int 0, .int 0])), (g, .inr (3, [.int 6, .int 6, .int 1, .int 0, .long 0, .long 0, .int 0, .int 0, .int 0, .ref k0, .ref k1, .ref k2, .ref k3, .ref k4, .ref k5, .ref k6])), (pn, .inr (8, [.ref b, .int 0, .int 0, .int 0, .int 0, .int 0, .int 0]))] sz) ([])) (va_A [(h, .inr (10, [.ref g, .ref df, .ref im, .ref pn, .ref w, .ref pa, .int 0, .int 0, .int 0])), (g, .inr (3, [.int 6, .int 6, .int 1, .int 0, .long 0, .long 0, .int 0, .int 0, .int 0, .ref k0, .ref k1, .ref k2, .ref k3, .ref k4, .ref k5, .ref k6])), (pn, .inr (8, [.ref b, .int 0, .int 0, .int 0, .int 0, .int 0, .int 0]))] sz)) 0 0 (va_A [(h, .inr (10, [.ref g, .ref df, .ref im, .ref pn, .ref w, .ref pa, .int 0, .int 0, .int 0])), (g, .inr (3, [.int 6, .int 6, .int 1, .int 0, .long 0, .long 0, .int 0, .int 0, .int 0, .ref k0, .ref k1, .ref k2, .ref k3, .ref k4, .ref k5, .ref k6])), (pn, .inr (8, [.ref b, .int 0, .int 0, .int 0, .int 0, .int 0, .int 0]))] sz) := by
  refine Met.ofW (cc := cX10_count) (maxL := 3) (ret := (some .int)) (by decide) rfl ?_
  intro p e s m args below meth c s₁ B hml hv
  obtain ⟨rfl, hsz, hP, hKA, hD0⟩ := hv
  have hx := B.exec
  have hb := B.bytes
  have hr := B.returns
  have hts := atoms_spec (ws := wsX10_count) B.pre
  have hown : s.vm.findClass RX10 = some m.cls := findClass_of_methodNamed B.named
  have hlocks := B.notSynchronized
  subst hsz
  have hK := hKA.1
  have hD := hD0.self (sz := s.heap.size)
  generalize hAe : va_A [(h, .inr (10, [.ref g, .ref df, .ref im, .ref pn, .ref w, .ref pa, .int 0, .int 0, .int 0])), (g, .inr (3, [.int 6, .int 6, .int 1, .int 0, .long 0, .long 0, .int 0, .int 0, .int 0, .ref k0, .ref k1, .ref k2, .ref k3, .ref k4, .ref k5, .ref k6])), (pn, .inr (8, [.ref b, .int 0, .int 0, .int 0, .int 0, .int 0, .int 0]))] s.heap.size = A at hD ⊢
  have hA : ∀ q : Nat, s.heap.size ≤ q → A q := fun q h => by rw [← hAe]; exact Or.inr h
  have hS : va_S A s.heap s.heap [] := va_S.rf
  have hP : va_P D vwCl [(h, .inr (10, [.ref g, .ref df, .ref im, .ref pn, .ref w, .ref pa, .int 0, .int 0, .int 0])), (g, .inr (3, [.int 6, .int 6, .int 1, .int 0, .long 0, .long 0, .int 0, .int 0, .int 0, .ref k0, .ref k1, .ref k2, .ref k3, .ref k4, .ref k5, .ref k6])), (pn, .inr (8, [.ref b, .int 0, .int 0, .int 0, .int 0, .int 0, .int 0]))] s.heap := hP
  have hl := lv_entry ([.ref h, .int x]) (n := 3) (Nat.le_of_ble_eq_true rfl)
  rw [lg_entry_eq]
  generalize (lg_sl ([.ref h, .int x]) ++ List.replicate (3 - (lg_sl ([.ref h, .int x])).length) Slot.unset).toArray = ls at hl ⊢
  have hl : lv_has ls 3 [(0, .ref h), (1, .int x)] := hl
  refine lv_aload_n hx hb dX10_count_0 rfl (lv_at hl 0 rfl) ?_
  refine lv_iload_n hx hb dX10_count_1 rfl (lv_at hl 1 rfl) ?_
  refine rd_i (va_runV (As := [.int x]) (rest := []) ⟨hx, hb, hml, hown, hts⟩ (c0_howMany l D cy h g df im pn w pa b k0 k1 k2 k3 k4 k5 k6 x _) (cwV 1 hts gX10_count_X10_howMany rfl rfl rfl (by decide +kernel) ⟨Nat.le_of_ble_eq_true rfl, Nat.le_of_ble_eq_true rfl⟩) (pV (ci := 10) (k := 0) hKA (hP.sub (ws' := [(h, .inr (10, [.ref g, .ref df, .ref im, .ref pn, .ref w, .ref pa, .int 0, .int 0, .int 0])), (g, .inr (3, [.int 6, .int 6, .int 1, .int 0, .long 0, .long 0, .int 0, .int 0, .int 0, .ref k0, .ref k1, .ref k2, .ref k3, .ref k4, .ref k5, .ref k6])), (pn, .inr (8, [.ref b, .int 0, .int 0, .int 0, .int 0, .int 0, .int 0]))]) [0, 1, 2] rfl) (hD.sub (ws' := [(h, .inr (10, [.ref g, .ref df, .ref im, .ref pn, .ref w, .ref pa, .int 0, .int 0, .int 0])), (g, .inr (3, [.int 6, .int 6, .int 1, .int 0, .long 0, .long 0, .int 0, .int 0, .int 0, .ref k0, .ref k1, .ref k2, .ref k3, .ref k4, .ref k5, .ref k6])), (pn, .inr (8, [.ref b, .int 0, .int 0, .int 0, .int 0, .int 0, .int 0]))]) [0, 1, 2] (by decide) rfl) rfl rfl) rfl rfl hl.1 rfl (lv_room (Nat.le_of_ble_eq_true rfl)) dX10_count_2 ⟨Nat.le_of_ble_eq_true rfl, Nat.le_of_ble_eq_true rfl⟩) hP hS hA (fun r1 H locs hwr1 hP hS => ?_)
  rcases hwr1 with ⟨rfl, har1, hbr1⟩ | ⟨rfl, her1⟩ | ⟨rfl, hnr1, hmr1⟩
  · skip
    refine lv_istore_n (lv' := [(2, .int 0), (0, .ref h), (1, .int x)]) hx hb dX10_count_5 rfl hl (by decide) rfl (fun ls hl => ?_)
    refine lv_iload_n hx hb dX10_count_6 rfl (lv_at hl 0 rfl) ?_
    refine lv_iconst (v := (-1)) hx hb dX10_count_7 (by decide) ?_
    refine lv_icmp_ne (tgt := 20) hx hb dX10_count_8 (by decide) (fun c2 => ?_) (fun c2 => absurd c2 (by decide))
    refine lv_iload_n hx hb dX10_count_20 rfl (lv_at hl 0 rfl) ?_
    have hP9 := hP.sub (ws' := []) [] rfl
    have hD9 := hD.sub (ws' := []) [] (by decide) rfl
    exact W.iret (v := 0) hx hb hr (fun t ht hW => ⟨⟨0, (), rfl, (by simp [sp_count, har1, hbr1]), by rw [ht]; exact hP9, hD9⟩, hS.F ht⟩) hS.2.2 dX10_count_21
  · skip
    refine lv_istore_n (lv' := [(2, .int 36), (0, .ref h), (1, .int x)]) hx hb dX10_count_5 rfl hl (by decide) rfl (fun ls hl => ?_)
    refine lv_iload_n hx hb dX10_count_6 rfl (lv_at hl 0 rfl) ?_
    refine lv_iconst (v := (-1)) hx hb dX10_count_7 (by decide) ?_
    refine lv_icmp_ne (tgt := 20) hx hb dX10_count_8 (by decide) (fun c3 => ?_) (fun c3 => absurd c3 (by decide))
    refine lv_iload_n hx hb dX10_count_20 rfl (lv_at hl 0 rfl) ?_
    have hP9 := hP.sub (ws' := []) [] rfl
    have hD9 := hD.sub (ws' := []) [] (by decide) rfl
    exact W.iret (v := 36) hx hb hr (fun t ht hW => ⟨⟨36, (), rfl, (by simp [sp_count, her1]), by rw [ht]; exact hP9, hD9⟩, hS.F ht⟩) hS.2.2 dX10_count_21
  · skip
    refine lv_istore_n (lv' := [(2, .int (-1)), (0, .ref h), (1, .int x)]) hx hb dX10_count_5 rfl hl (by decide) rfl (fun ls hl => ?_)
    refine lv_iload_n hx hb dX10_count_6 rfl (lv_at hl 0 rfl) ?_
    refine lv_iconst (v := (-1)) hx hb dX10_count_7 (by decide) ?_
    refine lv_icmp_ne (tgt := 20) hx hb dX10_count_8 (by decide) (fun c4 => absurd c4 (by decide)) (fun c4 => ?_)
    refine lv_aload_n hx hb dX10_count_11 rfl (lv_at hl 1 rfl) ?_
    refine lv_bipush (v := (-2)) hx hb dX10_count_12 (by decide) ?_
    refine wr_i (wr := [(g, .inr (3, [.int 6, .int 6, .int 1, .int 0, .long 0, .long 0, .int 0, .int 0, .int 0, .ref k0, .ref k1, .ref k2, .ref k3, .ref k4, .ref k5, .ref k6])), (pn, .inr (8, [.ref b, .int 0, .int 0, .int 0, .int 0, .int 0, .int 0]))]) (va_runV (As := [.int (-2)]) (rest := []) ⟨hx, hb, hml, hown, hts⟩ (c_X10_refuseBad l D cy h g df im pn w pa 0 0 0 (-2) _) (cwV 1 hts gX10_count_X10_refuseBad rfl rfl rfl (by decide +kernel) ⟨Nat.le_of_ble_eq_true rfl, Nat.le_of_ble_eq_true rfl⟩) (pV (ci := 10) (k := 0) hKA (hP.sub (ws' := [(h, .inr (10, [.ref g, .ref df, .ref im, .ref pn, .ref w, .ref pa, .int 0, .int 0, .int 0]))]) [0] rfl) (hD.sub (ws' := [(h, .inr (10, [.ref g, .ref df, .ref im, .ref pn, .ref w, .ref pa, .int 0, .int 0, .int 0]))]) [0] (by decide) rfl) rfl rfl) rfl rfl hl.1 rfl (lv_room (Nat.le_of_ble_eq_true rfl)) dX10_count_14 ⟨Nat.le_of_ble_eq_true rfl, Nat.le_of_ble_eq_true rfl⟩) hP hD hS hA [0] [1, 2] rfl rfl (by decide +kernel) (by decide +kernel) (fun r5 ur5 H locs hwr5 hP hD hS => ?_)
    have hP : va_P D vwCl [(g, .inr (3, [.int 6, .int 6, .int 1, .int 0, .long 0, .long 0, .int 0, .int 0, .int 0, .ref k0, .ref k1, .ref k2, .ref k3, .ref k4, .ref k5, .ref k6])), (pn, .inr (8, [.ref b, .int 0, .int 0, .int 0, .int 0, .int 0, .int 0])), (h, .inr (10, [.ref g, .ref df, .ref im, .ref pn, .ref w, .ref pa, .int (0 + 1), .int 0, .int 0]))] H := hP
    have hD : va_D A [(g, .inr (3, [.int 6, .int 6, .int 1, .int 0, .long 0, .long 0, .int 0, .int 0, .int 0, .ref k0, .ref k1, .ref k2, .ref k3, .ref k4, .ref k5, .ref k6])), (pn, .inr (8, [.ref b, .int 0, .int 0, .int 0, .int 0, .int 0, .int 0])), (h, .inr (10, [.ref g, .ref df, .ref im, .ref pn, .ref w, .ref pa, .int (0 + 1), .int 0, .int 0]))] := hD
    subst hwr5
    refine lv_goto (tgt := 21) hx hb dX10_count_17 (by decide) ?_
    have hP9 := hP.sub (ws' := []) [] rfl
    have hD9 := hD.sub (ws' := []) [] (by decide) rfl
    exact W.iret (v := (-2)) hx hb hr (fun t ht hW => ⟨⟨(-2), (), rfl, (by simp [sp_count, hnr1, hmr1]), by rw [ht]; exact hP9, hD9⟩, hS.F ht⟩) hS.2.2 dX10_count_21

set_option maxHeartbeats 4000000 in
set_option maxRecDepth 100000 in
theorem tp_digest (l : Launch) (D : va_G) (cy : Nat → ClassId) (h g df im pn w pa : Nat) (b : Nat) (k0 k1 k2 k3 k4 k5 k6 : Nat) (sz : Nat)  : Met l yX10_digest wsX10_digest ({ frames := 3, cells := 0, slots := 0, locals := 67 }) (va_Pc [.ref h] (kPre D cy [(h, .inr (10, [.ref g, .ref df, .ref im, .ref pn, .ref w, .ref pa, .int 0, .int 0, .int 0])), (g, .inr (3, [.int 6, .int 6, .int 1, .int 0, .long 0, .long 0, .int 0, .int 0, .int 0, .ref k0, .ref k1, .ref k2, .ref k3, .ref k4, .ref k5, .ref k6])), (pn, .inr (8, [.ref b, .int 0, .int 0, .int 0, .int 0, .int 0, .int 0]))] sz)) (va_Ql (fun (r : Int64) (_ : Unit) => r = dgF (31 * (31 * (31 * 20441872284509 + 6) + 1) + 0) 36) (fun (u : Unit) t => va_P D vwCl ([]) t.heap ∧ va_D (va_A [(h, .inr (10, [.ref g, .ref df, .ref im, .ref pn, .ref w, .ref pa, .int 0, .int 0, .int 0])), (g, .inr (3, [.int 6, .int 6, .int 1, .int 0, .long 0, .long 0, .int 0, .int 0, .int 0, .ref k0, .ref k1, .ref k2, .ref k3, .ref k4, .ref k5, .ref k6])), (pn, .inr (8, [.ref b, .int 0, .int 0, .int 0, .int 0, .int 0, .int 0]))] sz) ([])) (va_A [(h, .inr (10, [.ref g, .ref df, .ref im, .ref pn, .ref w, .ref pa, .int 0, .int 0, .int 0])), (g, .inr (3, [.int 6, .int 6, .int 1, .int 0, .long 0, .long 0, .int 0, .int 0, .int 0, .ref k0, .ref k1, .ref k2, .ref k3, .ref k4, .ref k5, .ref k6])), (pn, .inr (8, [.ref b, .int 0, .int 0, .int 0, .int 0, .int 0, .int 0]))] sz)) 0 0 (va_A [(h, .inr (10, [.ref g, .ref df, .ref im, .ref pn, .ref w, .ref pa, .int 0, .int 0, .int 0])), (g, .inr (3, [.int 6, .int 6, .int 1, .int 0, .long 0, .long 0, .int 0, .int 0, .int 0, .ref k0, .ref k1, .ref k2, .ref k3, .ref k4, .ref k5, .ref k6])), (pn, .inr (8, [.ref b, .int 0, .int 0, .int 0, .int 0, .int 0, .int 0]))] sz) := by
  refine Met.ofW (cc := cX10_digest) (maxL := 4) (ret := (some .long)) (by decide) rfl ?_
  intro p e s m args below meth c s₁ B hml hv
  obtain ⟨rfl, hsz, hP, hKA, hD0⟩ := hv
  have hx := B.exec
  have hb := B.bytes
  have hr := B.returns
  have hts := atoms_spec (ws := wsX10_digest) B.pre
  have hown : s.vm.findClass RX10 = some m.cls := findClass_of_methodNamed B.named
  have hlocks := B.notSynchronized
  subst hsz
  have hK := hKA.1
  have hD := hD0.self (sz := s.heap.size)
  generalize hAe : va_A [(h, .inr (10, [.ref g, .ref df, .ref im, .ref pn, .ref w, .ref pa, .int 0, .int 0, .int 0])), (g, .inr (3, [.int 6, .int 6, .int 1, .int 0, .long 0, .long 0, .int 0, .int 0, .int 0, .ref k0, .ref k1, .ref k2, .ref k3, .ref k4, .ref k5, .ref k6])), (pn, .inr (8, [.ref b, .int 0, .int 0, .int 0, .int 0, .int 0, .int 0]))] s.heap.size = A at hD ⊢
  have hA : ∀ q : Nat, s.heap.size ≤ q → A q := fun q h => by rw [← hAe]; exact Or.inr h
  have hS : va_S A s.heap s.heap [] := va_S.rf
  have hP : va_P D vwCl [(h, .inr (10, [.ref g, .ref df, .ref im, .ref pn, .ref w, .ref pa, .int 0, .int 0, .int 0])), (g, .inr (3, [.int 6, .int 6, .int 1, .int 0, .long 0, .long 0, .int 0, .int 0, .int 0, .ref k0, .ref k1, .ref k2, .ref k3, .ref k4, .ref k5, .ref k6])), (pn, .inr (8, [.ref b, .int 0, .int 0, .int 0, .int 0, .int 0, .int 0]))] s.heap := hP
  have hl := lv_entry ([.ref h]) (n := 4) (Nat.le_of_ble_eq_true rfl)
  rw [lg_entry_eq]
  generalize (lg_sl ([.ref h]) ++ List.replicate (4 - (lg_sl ([.ref h])).length) Slot.unset).toArray = ls at hl ⊢
  have hl : lv_has ls 4 [(0, .ref h)] := hl
  have z0_ := hts (.constantLong RX10 216 743) (by decide +kernel)
  have z1_ := hts (.constantLong RX10 218 31) (by decide +kernel)
  have z2_ := hts (.fieldLink RX10 10 "HeardSeen" "now" "LHeardSeen$Garden;") (by decide +kernel)
  have zi10_ : ∀ w ∈ u_ws RX10 TX10 9, w ∈ wsX10_digest := by decide +kernel
  refine lv_ldc2 hx hb hown z0_ dX10_digest_0 ?_
  refine lv_lstore_n (lv' := [(1, .long 743), (0, .ref h)]) hx hb dX10_digest_3 rfl hl (by decide) rfl (fun ls hl => ?_)
  refine lv_iconst (v := 0) hx hb dX10_digest_4 (by decide) ?_
  refine lv_istore_n (lv' := [(3, .int 0), (1, .long 743), (0, .ref h)]) hx hb dX10_digest_5 rfl hl (by decide) rfl (fun ls hl => ?_)
  refine lv_iload_n hx hb dX10_digest_6 rfl (lv_at hl 0 rfl) ?_
  refine lv_bipush (v := 6) hx hb dX10_digest_7 (by decide) ?_
  refine lv_icmp_gt (tgt := 31) hx hb dX10_digest_9 (by decide) (fun c1 => absurd c1 (by decide)) (fun c1 => ?_)
  refine lv_ldc2 hx hb hown z1_ dX10_digest_12 ?_
  refine lv_lload_n hx hb dX10_digest_15 rfl (lv_at hl 1 rfl) ?_
  refine lv_lmul hx hb dX10_digest_16 ?_
  refine lv_topl (fun x2 ex2 => ?_)
  obtain rfl : x2 = 23033 := by rw [ex2]; decide +kernel
  refine lv_aload_n hx hb dX10_digest_17 rfl (lv_at hl 2 rfl) ?_
  refine lv_iload_n hx hb dX10_digest_18 rfl (lv_at hl 0 rfl) ?_
  refine rd_i (va_runV (As := [.int 0]) (rest := [.long 23033]) ⟨hx, hb, hml, hown, hts⟩ (c0_howMany l D cy h g df im pn w pa b k0 k1 k2 k3 k4 k5 k6 0 _) (cwV 1 hts gX10_digest_X10_howMany rfl rfl rfl (by decide +kernel) ⟨Nat.le_of_ble_eq_true rfl, Nat.le_of_ble_eq_true rfl⟩) (pV (ci := 10) (k := 0) hKA (hP.sub (ws' := [(h, .inr (10, [.ref g, .ref df, .ref im, .ref pn, .ref w, .ref pa, .int 0, .int 0, .int 0])), (g, .inr (3, [.int 6, .int 6, .int 1, .int 0, .long 0, .long 0, .int 0, .int 0, .int 0, .ref k0, .ref k1, .ref k2, .ref k3, .ref k4, .ref k5, .ref k6])), (pn, .inr (8, [.ref b, .int 0, .int 0, .int 0, .int 0, .int 0, .int 0]))]) [0, 1, 2] rfl) (hD.sub (ws' := [(h, .inr (10, [.ref g, .ref df, .ref im, .ref pn, .ref w, .ref pa, .int 0, .int 0, .int 0])), (g, .inr (3, [.int 6, .int 6, .int 1, .int 0, .long 0, .long 0, .int 0, .int 0, .int 0, .ref k0, .ref k1, .ref k2, .ref k3, .ref k4, .ref k5, .ref k6])), (pn, .inr (8, [.ref b, .int 0, .int 0, .int 0, .int 0, .int 0, .int 0]))]) [0, 1, 2] (by decide) rfl) rfl rfl) rfl rfl hl.1 rfl (lv_room (Nat.le_of_ble_eq_true rfl)) dX10_digest_19 ⟨Nat.le_of_ble_eq_true rfl, Nat.le_of_ble_eq_true rfl⟩) hP hS hA (fun r3 H locs hwr3 hP hS => ?_)
  rcases hwr3 with ⟨rfl, har3, hbr3⟩ | ⟨rfl, her3⟩ | ⟨rfl, hnr3, hmr3⟩
  · skip
    refine lv_i2l hx hb dX10_digest_22 rfl ?_
    refine lv_topl (fun x4 ex4 => ?_)
    obtain rfl : x4 = 0 := by rw [ex4]; decide +kernel
    refine lv_ladd hx hb dX10_digest_23 ?_
    refine lv_topl (fun x5 ex5 => ?_)
    obtain rfl : x5 = 23033 := by rw [ex5]; decide +kernel
    refine lv_lstore_n (lv' := [(1, .long 23033), (3, .int 0), (0, .ref h)]) hx hb dX10_digest_24 rfl hl (by decide) rfl (fun ls hl => ?_)
    refine lv_iinc (v := 1) (lv' := [(3, .int 1), (1, .long 23033), (0, .ref h)]) hx hb dX10_digest_25 hl (k := 1) rfl (by decide) (by decide) rfl (fun ls hl => ?_)
    refine lv_goto (tgt := 6) hx hb dX10_digest_28 (by decide) ?_
    refine lv_iload_n hx hb dX10_digest_6 rfl (lv_at hl 0 rfl) ?_
    refine lv_bipush (v := 6) hx hb dX10_digest_7 (by decide) ?_
    refine lv_icmp_gt (tgt := 31) hx hb dX10_digest_9 (by decide) (fun c6 => absurd c6 (by decide)) (fun c6 => ?_)
    refine lv_ldc2 hx hb hown z1_ dX10_digest_12 ?_
    refine lv_lload_n hx hb dX10_digest_15 rfl (lv_at hl 1 rfl) ?_
    refine lv_lmul hx hb dX10_digest_16 ?_
    refine lv_topl (fun x7 ex7 => ?_)
    obtain rfl : x7 = 714023 := by rw [ex7]; decide +kernel
    refine lv_aload_n hx hb dX10_digest_17 rfl (lv_at hl 2 rfl) ?_
    refine lv_iload_n hx hb dX10_digest_18 rfl (lv_at hl 0 rfl) ?_
    refine rd_i (va_runV (As := [.int 1]) (rest := [.long 714023]) ⟨hx, hb, hml, hown, hts⟩ (c0_howMany l D cy h g df im pn w pa b k0 k1 k2 k3 k4 k5 k6 1 _) (cwV 1 hts gX10_digest_X10_howMany rfl rfl rfl (by decide +kernel) ⟨Nat.le_of_ble_eq_true rfl, Nat.le_of_ble_eq_true rfl⟩) (pV (ci := 10) (k := 0) hKA (hP.sub (ws' := [(h, .inr (10, [.ref g, .ref df, .ref im, .ref pn, .ref w, .ref pa, .int 0, .int 0, .int 0])), (g, .inr (3, [.int 6, .int 6, .int 1, .int 0, .long 0, .long 0, .int 0, .int 0, .int 0, .ref k0, .ref k1, .ref k2, .ref k3, .ref k4, .ref k5, .ref k6])), (pn, .inr (8, [.ref b, .int 0, .int 0, .int 0, .int 0, .int 0, .int 0]))]) [0, 1, 2] rfl) (hD.sub (ws' := [(h, .inr (10, [.ref g, .ref df, .ref im, .ref pn, .ref w, .ref pa, .int 0, .int 0, .int 0])), (g, .inr (3, [.int 6, .int 6, .int 1, .int 0, .long 0, .long 0, .int 0, .int 0, .int 0, .ref k0, .ref k1, .ref k2, .ref k3, .ref k4, .ref k5, .ref k6])), (pn, .inr (8, [.ref b, .int 0, .int 0, .int 0, .int 0, .int 0, .int 0]))]) [0, 1, 2] (by decide) rfl) rfl rfl) rfl rfl hl.1 rfl (lv_room (Nat.le_of_ble_eq_true rfl)) dX10_digest_19 ⟨Nat.le_of_ble_eq_true rfl, Nat.le_of_ble_eq_true rfl⟩) hP hS hA (fun r8 H locs hwr8 hP hS => ?_)
    rcases hwr8 with ⟨rfl, har8, hbr8⟩ | ⟨rfl, her8⟩ | ⟨rfl, hnr8, hmr8⟩
    · skip
      refine lv_i2l hx hb dX10_digest_22 rfl ?_
      refine lv_topl (fun x9 ex9 => ?_)
      obtain rfl : x9 = 0 := by rw [ex9]; decide +kernel
      refine lv_ladd hx hb dX10_digest_23 ?_
      refine lv_topl (fun x10 ex10 => ?_)
      obtain rfl : x10 = 714023 := by rw [ex10]; decide +kernel
      refine lv_lstore_n (lv' := [(1, .long 714023), (3, .int 1), (0, .ref h)]) hx hb dX10_digest_24 rfl hl (by decide) rfl (fun ls hl => ?_)
      refine lv_iinc (v := 2) (lv' := [(3, .int 2), (1, .long 714023), (0, .ref h)]) hx hb dX10_digest_25 hl (k := 1) rfl (by decide) (by decide) rfl (fun ls hl => ?_)
      refine lv_goto (tgt := 6) hx hb dX10_digest_28 (by decide) ?_
      refine lv_iload_n hx hb dX10_digest_6 rfl (lv_at hl 0 rfl) ?_
      refine lv_bipush (v := 6) hx hb dX10_digest_7 (by decide) ?_
      refine lv_icmp_gt (tgt := 31) hx hb dX10_digest_9 (by decide) (fun c11 => absurd c11 (by decide)) (fun c11 => ?_)
      refine lv_ldc2 hx hb hown z1_ dX10_digest_12 ?_
      refine lv_lload_n hx hb dX10_digest_15 rfl (lv_at hl 1 rfl) ?_
      refine lv_lmul hx hb dX10_digest_16 ?_
      refine lv_topl (fun x12 ex12 => ?_)
      obtain rfl : x12 = 22134713 := by rw [ex12]; decide +kernel
      refine lv_aload_n hx hb dX10_digest_17 rfl (lv_at hl 2 rfl) ?_
      refine lv_iload_n hx hb dX10_digest_18 rfl (lv_at hl 0 rfl) ?_
      refine rd_i (va_runV (As := [.int 2]) (rest := [.long 22134713]) ⟨hx, hb, hml, hown, hts⟩ (c0_howMany l D cy h g df im pn w pa b k0 k1 k2 k3 k4 k5 k6 2 _) (cwV 1 hts gX10_digest_X10_howMany rfl rfl rfl (by decide +kernel) ⟨Nat.le_of_ble_eq_true rfl, Nat.le_of_ble_eq_true rfl⟩) (pV (ci := 10) (k := 0) hKA (hP.sub (ws' := [(h, .inr (10, [.ref g, .ref df, .ref im, .ref pn, .ref w, .ref pa, .int 0, .int 0, .int 0])), (g, .inr (3, [.int 6, .int 6, .int 1, .int 0, .long 0, .long 0, .int 0, .int 0, .int 0, .ref k0, .ref k1, .ref k2, .ref k3, .ref k4, .ref k5, .ref k6])), (pn, .inr (8, [.ref b, .int 0, .int 0, .int 0, .int 0, .int 0, .int 0]))]) [0, 1, 2] rfl) (hD.sub (ws' := [(h, .inr (10, [.ref g, .ref df, .ref im, .ref pn, .ref w, .ref pa, .int 0, .int 0, .int 0])), (g, .inr (3, [.int 6, .int 6, .int 1, .int 0, .long 0, .long 0, .int 0, .int 0, .int 0, .ref k0, .ref k1, .ref k2, .ref k3, .ref k4, .ref k5, .ref k6])), (pn, .inr (8, [.ref b, .int 0, .int 0, .int 0, .int 0, .int 0, .int 0]))]) [0, 1, 2] (by decide) rfl) rfl rfl) rfl rfl hl.1 rfl (lv_room (Nat.le_of_ble_eq_true rfl)) dX10_digest_19 ⟨Nat.le_of_ble_eq_true rfl, Nat.le_of_ble_eq_true rfl⟩) hP hS hA (fun r13 H locs hwr13 hP hS => ?_)
      rcases hwr13 with ⟨rfl, har13, hbr13⟩ | ⟨rfl, her13⟩ | ⟨rfl, hnr13, hmr13⟩
      · skip
        refine lv_i2l hx hb dX10_digest_22 rfl ?_
        refine lv_topl (fun x14 ex14 => ?_)
        obtain rfl : x14 = 0 := by rw [ex14]; decide +kernel
        refine lv_ladd hx hb dX10_digest_23 ?_
        refine lv_topl (fun x15 ex15 => ?_)
        obtain rfl : x15 = 22134713 := by rw [ex15]; decide +kernel
        refine lv_lstore_n (lv' := [(1, .long 22134713), (3, .int 2), (0, .ref h)]) hx hb dX10_digest_24 rfl hl (by decide) rfl (fun ls hl => ?_)
        refine lv_iinc (v := 3) (lv' := [(3, .int 3), (1, .long 22134713), (0, .ref h)]) hx hb dX10_digest_25 hl (k := 1) rfl (by decide) (by decide) rfl (fun ls hl => ?_)
        refine lv_goto (tgt := 6) hx hb dX10_digest_28 (by decide) ?_
        refine lv_iload_n hx hb dX10_digest_6 rfl (lv_at hl 0 rfl) ?_
        refine lv_bipush (v := 6) hx hb dX10_digest_7 (by decide) ?_
        refine lv_icmp_gt (tgt := 31) hx hb dX10_digest_9 (by decide) (fun c16 => absurd c16 (by decide)) (fun c16 => ?_)
        refine lv_ldc2 hx hb hown z1_ dX10_digest_12 ?_
        refine lv_lload_n hx hb dX10_digest_15 rfl (lv_at hl 1 rfl) ?_
        refine lv_lmul hx hb dX10_digest_16 ?_
        refine lv_topl (fun x17 ex17 => ?_)
        obtain rfl : x17 = 686176103 := by rw [ex17]; decide +kernel
        refine lv_aload_n hx hb dX10_digest_17 rfl (lv_at hl 2 rfl) ?_
        refine lv_iload_n hx hb dX10_digest_18 rfl (lv_at hl 0 rfl) ?_
        refine rd_i (va_runV (As := [.int 3]) (rest := [.long 686176103]) ⟨hx, hb, hml, hown, hts⟩ (c0_howMany l D cy h g df im pn w pa b k0 k1 k2 k3 k4 k5 k6 3 _) (cwV 1 hts gX10_digest_X10_howMany rfl rfl rfl (by decide +kernel) ⟨Nat.le_of_ble_eq_true rfl, Nat.le_of_ble_eq_true rfl⟩) (pV (ci := 10) (k := 0) hKA (hP.sub (ws' := [(h, .inr (10, [.ref g, .ref df, .ref im, .ref pn, .ref w, .ref pa, .int 0, .int 0, .int 0])), (g, .inr (3, [.int 6, .int 6, .int 1, .int 0, .long 0, .long 0, .int 0, .int 0, .int 0, .ref k0, .ref k1, .ref k2, .ref k3, .ref k4, .ref k5, .ref k6])), (pn, .inr (8, [.ref b, .int 0, .int 0, .int 0, .int 0, .int 0, .int 0]))]) [0, 1, 2] rfl) (hD.sub (ws' := [(h, .inr (10, [.ref g, .ref df, .ref im, .ref pn, .ref w, .ref pa, .int 0, .int 0, .int 0])), (g, .inr (3, [.int 6, .int 6, .int 1, .int 0, .long 0, .long 0, .int 0, .int 0, .int 0, .ref k0, .ref k1, .ref k2, .ref k3, .ref k4, .ref k5, .ref k6])), (pn, .inr (8, [.ref b, .int 0, .int 0, .int 0, .int 0, .int 0, .int 0]))]) [0, 1, 2] (by decide) rfl) rfl rfl) rfl rfl hl.1 rfl (lv_room (Nat.le_of_ble_eq_true rfl)) dX10_digest_19 ⟨Nat.le_of_ble_eq_true rfl, Nat.le_of_ble_eq_true rfl⟩) hP hS hA (fun r18 H locs hwr18 hP hS => ?_)
        rcases hwr18 with ⟨rfl, har18, hbr18⟩ | ⟨rfl, her18⟩ | ⟨rfl, hnr18, hmr18⟩
        · skip
          refine lv_i2l hx hb dX10_digest_22 rfl ?_
          refine lv_topl (fun x19 ex19 => ?_)
          obtain rfl : x19 = 0 := by rw [ex19]; decide +kernel
          refine lv_ladd hx hb dX10_digest_23 ?_
          refine lv_topl (fun x20 ex20 => ?_)
          obtain rfl : x20 = 686176103 := by rw [ex20]; decide +kernel
          refine lv_lstore_n (lv' := [(1, .long 686176103), (3, .int 3), (0, .ref h)]) hx hb dX10_digest_24 rfl hl (by decide) rfl (fun ls hl => ?_)
          refine lv_iinc (v := 4) (lv' := [(3, .int 4), (1, .long 686176103), (0, .ref h)]) hx hb dX10_digest_25 hl (k := 1) rfl (by decide) (by decide) rfl (fun ls hl => ?_)
          refine lv_goto (tgt := 6) hx hb dX10_digest_28 (by decide) ?_
          refine lv_iload_n hx hb dX10_digest_6 rfl (lv_at hl 0 rfl) ?_
          refine lv_bipush (v := 6) hx hb dX10_digest_7 (by decide) ?_
          refine lv_icmp_gt (tgt := 31) hx hb dX10_digest_9 (by decide) (fun c21 => absurd c21 (by decide)) (fun c21 => ?_)
          refine lv_ldc2 hx hb hown z1_ dX10_digest_12 ?_
          refine lv_lload_n hx hb dX10_digest_15 rfl (lv_at hl 1 rfl) ?_
          refine lv_lmul hx hb dX10_digest_16 ?_
          refine lv_topl (fun x22 ex22 => ?_)
          obtain rfl : x22 = 21271459193 := by rw [ex22]; decide +kernel
          refine lv_aload_n hx hb dX10_digest_17 rfl (lv_at hl 2 rfl) ?_
          refine lv_iload_n hx hb dX10_digest_18 rfl (lv_at hl 0 rfl) ?_
          refine rd_i (va_runV (As := [.int 4]) (rest := [.long 21271459193]) ⟨hx, hb, hml, hown, hts⟩ (c0_howMany l D cy h g df im pn w pa b k0 k1 k2 k3 k4 k5 k6 4 _) (cwV 1 hts gX10_digest_X10_howMany rfl rfl rfl (by decide +kernel) ⟨Nat.le_of_ble_eq_true rfl, Nat.le_of_ble_eq_true rfl⟩) (pV (ci := 10) (k := 0) hKA (hP.sub (ws' := [(h, .inr (10, [.ref g, .ref df, .ref im, .ref pn, .ref w, .ref pa, .int 0, .int 0, .int 0])), (g, .inr (3, [.int 6, .int 6, .int 1, .int 0, .long 0, .long 0, .int 0, .int 0, .int 0, .ref k0, .ref k1, .ref k2, .ref k3, .ref k4, .ref k5, .ref k6])), (pn, .inr (8, [.ref b, .int 0, .int 0, .int 0, .int 0, .int 0, .int 0]))]) [0, 1, 2] rfl) (hD.sub (ws' := [(h, .inr (10, [.ref g, .ref df, .ref im, .ref pn, .ref w, .ref pa, .int 0, .int 0, .int 0])), (g, .inr (3, [.int 6, .int 6, .int 1, .int 0, .long 0, .long 0, .int 0, .int 0, .int 0, .ref k0, .ref k1, .ref k2, .ref k3, .ref k4, .ref k5, .ref k6])), (pn, .inr (8, [.ref b, .int 0, .int 0, .int 0, .int 0, .int 0, .int 0]))]) [0, 1, 2] (by decide) rfl) rfl rfl) rfl rfl hl.1 rfl (lv_room (Nat.le_of_ble_eq_true rfl)) dX10_digest_19 ⟨Nat.le_of_ble_eq_true rfl, Nat.le_of_ble_eq_true rfl⟩) hP hS hA (fun r23 H locs hwr23 hP hS => ?_)
          rcases hwr23 with ⟨rfl, har23, hbr23⟩ | ⟨rfl, her23⟩ | ⟨rfl, hnr23, hmr23⟩
          · skip
            refine lv_i2l hx hb dX10_digest_22 rfl ?_
            refine lv_topl (fun x24 ex24 => ?_)
            obtain rfl : x24 = 0 := by rw [ex24]; decide +kernel
            refine lv_ladd hx hb dX10_digest_23 ?_
            refine lv_topl (fun x25 ex25 => ?_)
            obtain rfl : x25 = 21271459193 := by rw [ex25]; decide +kernel
            refine lv_lstore_n (lv' := [(1, .long 21271459193), (3, .int 4), (0, .ref h)]) hx hb dX10_digest_24 rfl hl (by decide) rfl (fun ls hl => ?_)
            refine lv_iinc (v := 5) (lv' := [(3, .int 5), (1, .long 21271459193), (0, .ref h)]) hx hb dX10_digest_25 hl (k := 1) rfl (by decide) (by decide) rfl (fun ls hl => ?_)
            refine lv_goto (tgt := 6) hx hb dX10_digest_28 (by decide) ?_
            refine lv_iload_n hx hb dX10_digest_6 rfl (lv_at hl 0 rfl) ?_
            refine lv_bipush (v := 6) hx hb dX10_digest_7 (by decide) ?_
            refine lv_icmp_gt (tgt := 31) hx hb dX10_digest_9 (by decide) (fun c26 => absurd c26 (by decide)) (fun c26 => ?_)
            refine lv_ldc2 hx hb hown z1_ dX10_digest_12 ?_
            refine lv_lload_n hx hb dX10_digest_15 rfl (lv_at hl 1 rfl) ?_
            refine lv_lmul hx hb dX10_digest_16 ?_
            refine lv_topl (fun x27 ex27 => ?_)
            obtain rfl : x27 = 659415234983 := by rw [ex27]; decide +kernel
            refine lv_aload_n hx hb dX10_digest_17 rfl (lv_at hl 2 rfl) ?_
            refine lv_iload_n hx hb dX10_digest_18 rfl (lv_at hl 0 rfl) ?_
            refine rd_i (va_runV (As := [.int 5]) (rest := [.long 659415234983]) ⟨hx, hb, hml, hown, hts⟩ (c0_howMany l D cy h g df im pn w pa b k0 k1 k2 k3 k4 k5 k6 5 _) (cwV 1 hts gX10_digest_X10_howMany rfl rfl rfl (by decide +kernel) ⟨Nat.le_of_ble_eq_true rfl, Nat.le_of_ble_eq_true rfl⟩) (pV (ci := 10) (k := 0) hKA (hP.sub (ws' := [(h, .inr (10, [.ref g, .ref df, .ref im, .ref pn, .ref w, .ref pa, .int 0, .int 0, .int 0])), (g, .inr (3, [.int 6, .int 6, .int 1, .int 0, .long 0, .long 0, .int 0, .int 0, .int 0, .ref k0, .ref k1, .ref k2, .ref k3, .ref k4, .ref k5, .ref k6])), (pn, .inr (8, [.ref b, .int 0, .int 0, .int 0, .int 0, .int 0, .int 0]))]) [0, 1, 2] rfl) (hD.sub (ws' := [(h, .inr (10, [.ref g, .ref df, .ref im, .ref pn, .ref w, .ref pa, .int 0, .int 0, .int 0])), (g, .inr (3, [.int 6, .int 6, .int 1, .int 0, .long 0, .long 0, .int 0, .int 0, .int 0, .ref k0, .ref k1, .ref k2, .ref k3, .ref k4, .ref k5, .ref k6])), (pn, .inr (8, [.ref b, .int 0, .int 0, .int 0, .int 0, .int 0, .int 0]))]) [0, 1, 2] (by decide) rfl) rfl rfl) rfl rfl hl.1 rfl (lv_room (Nat.le_of_ble_eq_true rfl)) dX10_digest_19 ⟨Nat.le_of_ble_eq_true rfl, Nat.le_of_ble_eq_true rfl⟩) hP hS hA (fun r28 H locs hwr28 hP hS => ?_)
            rcases hwr28 with ⟨rfl, har28, hbr28⟩ | ⟨rfl, her28⟩ | ⟨rfl, hnr28, hmr28⟩
            · skip
              refine lv_i2l hx hb dX10_digest_22 rfl ?_
              refine lv_topl (fun x29 ex29 => ?_)
              obtain rfl : x29 = 0 := by rw [ex29]; decide +kernel
              refine lv_ladd hx hb dX10_digest_23 ?_
              refine lv_topl (fun x30 ex30 => ?_)
              obtain rfl : x30 = 659415234983 := by rw [ex30]; decide +kernel
              refine lv_lstore_n (lv' := [(1, .long 659415234983), (3, .int 5), (0, .ref h)]) hx hb dX10_digest_24 rfl hl (by decide) rfl (fun ls hl => ?_)
              refine lv_iinc (v := 6) (lv' := [(3, .int 6), (1, .long 659415234983), (0, .ref h)]) hx hb dX10_digest_25 hl (k := 1) rfl (by decide) (by decide) rfl (fun ls hl => ?_)
              refine lv_goto (tgt := 6) hx hb dX10_digest_28 (by decide) ?_
              refine lv_iload_n hx hb dX10_digest_6 rfl (lv_at hl 0 rfl) ?_
              refine lv_bipush (v := 6) hx hb dX10_digest_7 (by decide) ?_
              refine lv_icmp_gt (tgt := 31) hx hb dX10_digest_9 (by decide) (fun c31 => absurd c31 (by decide)) (fun c31 => ?_)
              refine lv_ldc2 hx hb hown z1_ dX10_digest_12 ?_
              refine lv_lload_n hx hb dX10_digest_15 rfl (lv_at hl 1 rfl) ?_
              refine lv_lmul hx hb dX10_digest_16 ?_
              refine lv_topl (fun x32 ex32 => ?_)
              obtain rfl : x32 = 20441872284473 := by rw [ex32]; decide +kernel
              refine lv_aload_n hx hb dX10_digest_17 rfl (lv_at hl 2 rfl) ?_
              refine lv_iload_n hx hb dX10_digest_18 rfl (lv_at hl 0 rfl) ?_
              refine rd_i (va_runV (As := [.int 6]) (rest := [.long 20441872284473]) ⟨hx, hb, hml, hown, hts⟩ (c0_howMany l D cy h g df im pn w pa b k0 k1 k2 k3 k4 k5 k6 6 _) (cwV 1 hts gX10_digest_X10_howMany rfl rfl rfl (by decide +kernel) ⟨Nat.le_of_ble_eq_true rfl, Nat.le_of_ble_eq_true rfl⟩) (pV (ci := 10) (k := 0) hKA (hP.sub (ws' := [(h, .inr (10, [.ref g, .ref df, .ref im, .ref pn, .ref w, .ref pa, .int 0, .int 0, .int 0])), (g, .inr (3, [.int 6, .int 6, .int 1, .int 0, .long 0, .long 0, .int 0, .int 0, .int 0, .ref k0, .ref k1, .ref k2, .ref k3, .ref k4, .ref k5, .ref k6])), (pn, .inr (8, [.ref b, .int 0, .int 0, .int 0, .int 0, .int 0, .int 0]))]) [0, 1, 2] rfl) (hD.sub (ws' := [(h, .inr (10, [.ref g, .ref df, .ref im, .ref pn, .ref w, .ref pa, .int 0, .int 0, .int 0])), (g, .inr (3, [.int 6, .int 6, .int 1, .int 0, .long 0, .long 0, .int 0, .int 0, .int 0, .ref k0, .ref k1, .ref k2, .ref k3, .ref k4, .ref k5, .ref k6])), (pn, .inr (8, [.ref b, .int 0, .int 0, .int 0, .int 0, .int 0, .int 0]))]) [0, 1, 2] (by decide) rfl) rfl rfl) rfl rfl hl.1 rfl (lv_room (Nat.le_of_ble_eq_true rfl)) dX10_digest_19 ⟨Nat.le_of_ble_eq_true rfl, Nat.le_of_ble_eq_true rfl⟩) hP hS hA (fun r33 H locs hwr33 hP hS => ?_)
              rcases hwr33 with ⟨rfl, har33, hbr33⟩ | ⟨rfl, her33⟩ | ⟨rfl, hnr33, hmr33⟩
              · exact absurd hbr33 (by decide)
              · skip
                refine lv_i2l hx hb dX10_digest_22 rfl ?_
                refine lv_topl (fun x34 ex34 => ?_)
                obtain rfl : x34 = 36 := by rw [ex34]; decide +kernel
                refine lv_ladd hx hb dX10_digest_23 ?_
                refine lv_topl (fun x35 ex35 => ?_)
                obtain rfl : x35 = 20441872284509 := by rw [ex35]; decide +kernel
                refine lv_lstore_n (lv' := [(1, .long 20441872284509), (3, .int 6), (0, .ref h)]) hx hb dX10_digest_24 rfl hl (by decide) rfl (fun ls hl => ?_)
                refine lv_iinc (v := 7) (lv' := [(3, .int 7), (1, .long 20441872284509), (0, .ref h)]) hx hb dX10_digest_25 hl (k := 1) rfl (by decide) (by decide) rfl (fun ls hl => ?_)
                refine lv_goto (tgt := 6) hx hb dX10_digest_28 (by decide) ?_
                refine lv_iload_n hx hb dX10_digest_6 rfl (lv_at hl 0 rfl) ?_
                refine lv_bipush (v := 6) hx hb dX10_digest_7 (by decide) ?_
                refine lv_icmp_gt (tgt := 31) hx hb dX10_digest_9 (by decide) (fun c36 => ?_) (fun c36 => absurd c36 (by decide))
                refine lv_aload_n hx hb dX10_digest_31 rfl (lv_at hl 2 rfl) ?_
                refine va_get (D := D) (ci := 10) (v := .ref g) (C := RX10) (T := TX10) (N := 9) hx hb hts zi10_ hown hK hP 0 rfl rfl 0 (by decide) z2_ (fun _ h9 => h9) rfl dX10_digest_32 ?_
                refine lv_lload_n hx hb dX10_digest_35 rfl (lv_at hl 1 rfl) ?_
                refine rd_l (va_runV (As := [.long 20441872284509]) (rest := []) ⟨hx, hb, hml, hown, hts⟩ (c0_digestAfter l D cy g k0 k1 k2 k3 k4 k5 k6 20441872284509 _) (cwV 1 hts gX10_digest_X3_digestAfter rfl rfl rfl (by decide +kernel) ⟨Nat.le_of_ble_eq_true rfl, Nat.le_of_ble_eq_true rfl⟩) (pV (ci := 3) (k := 0) hKA (hP.sub (ws' := [(g, .inr (3, [.int 6, .int 6, .int 1, .int 0, .long 0, .long 0, .int 0, .int 0, .int 0, .ref k0, .ref k1, .ref k2, .ref k3, .ref k4, .ref k5, .ref k6]))]) [1] rfl) (hD.sub (ws' := [(g, .inr (3, [.int 6, .int 6, .int 1, .int 0, .long 0, .long 0, .int 0, .int 0, .int 0, .ref k0, .ref k1, .ref k2, .ref k3, .ref k4, .ref k5, .ref k6]))]) [1] (by decide) rfl) rfl rfl) rfl rfl hl.1 rfl (lv_room (Nat.le_of_ble_eq_true rfl)) dX10_digest_36 ⟨Nat.le_of_ble_eq_true rfl, Nat.le_of_ble_eq_true rfl⟩) hP hS hA (fun r37 H locs hwr37 hP hS => ?_)
                have hP9 := hP.sub (ws' := []) [] rfl
                have hD9 := hD.sub (ws' := []) [] (by decide) rfl
                exact W.lret (v := r37) hx hb hr (fun t ht hW => ⟨⟨r37, (), rfl, (by assumption), by rw [ht]; exact hP9, hD9⟩, hS.F ht⟩) hS.2.2 dX10_digest_39
              · exact absurd rfl hmr33
            · exact absurd her28 (by decide)
            · exact absurd (by decide) hnr28
          · exact absurd her23 (by decide)
          · exact absurd (by decide) hnr23
        · exact absurd her18 (by decide)
        · exact absurd (by decide) hnr18
      · exact absurd her13 (by decide)
      · exact absurd (by decide) hnr13
    · exact absurd her8 (by decide)
    · exact absurd (by decide) hnr8
  · exact absurd her3 (by decide)
  · exact absurd (by decide) hnr3

set_option maxHeartbeats 4000000 in
set_option maxRecDepth 100000 in
theorem c_X3_copyFrom (l : Launch) (D : va_G) (cy : Nat → ClassId) (g o : Nat) (wd hi dr wi : Int32) (he fo : Int64) (pe te re : Int32) (k0 k1 k2 k3 k4 k5 k6 : Nat) (owd ohi odr owi : Int32) (ohe ofo : Int64) (ope ote ore : Int32) (ok0 ok1 ok2 ok3 ok4 ok5 ok6 : Nat) (fa0 fa1 fa2 fa3 fa4 fa5 fa6 e0 e1 e2 e3 e4 e5 e6 : Nat → Int32) (sz : Nat)  : Met l yX3_copyFrom wsX3_copyFrom ({ frames := 1, cells := 0, slots := 0, locals := 40 }) (va_Pc [.ref g, .ref o] (kPre D cy [(g, .inr (3, [.int wd, .int hi, .int dr, .int wi, .long he, .long fo, .int pe, .int te, .int re, .ref k0, .ref k1, .ref k2, .ref k3, .ref k4, .ref k5, .ref k6])), (k0, .inl (cy 1, 5, .inl fa0)), (k1, .inl (cy 1, 5, .inl fa1)), (k2, .inl (cy 1, 5, .inl fa2)), (k3, .inl (cy 1, 6, .inl fa3)), (k4, .inl (cy 1, 6, .inl fa4)), (k5, .inl (cy 1, 8, .inl fa5)), (k6, .inl (cy 1, 8, .inl fa6)), (o, .inr (3, [.int owd, .int ohi, .int odr, .int owi, .long ohe, .long ofo, .int ope, .int ote, .int ore, .ref ok0, .ref ok1, .ref ok2, .ref ok3, .ref ok4, .ref ok5, .ref ok6])), (ok0, .inl (cy 1, 5, .inl e0)), (ok1, .inl (cy 1, 5, .inl e1)), (ok2, .inl (cy 1, 5, .inl e2)), (ok3, .inl (cy 1, 6, .inl e3)), (ok4, .inl (cy 1, 6, .inl e4)), (ok5, .inl (cy 1, 8, .inl e5)), (ok6, .inl (cy 1, 8, .inl e6))] sz)) (va_Qv (fun (u : (Nat → Int32) × (Nat → Int32) × (Nat → Int32) × (Nat → Int32) × (Nat → Int32) × (Nat → Int32) × (Nat → Int32)) => (∀ j, j < 5 → u.1 j = e0 j) ∧ (∀ j, j < 5 → u.2.1 j = e1 j) ∧ (∀ j, j < 5 → u.2.2.1 j = e2 j) ∧ (∀ j, j < 6 → u.2.2.2.1 j = e3 j) ∧ (∀ j, j < 6 → u.2.2.2.2.1 j = e4 j) ∧ (∀ j, j < 8 → u.2.2.2.2.2.1 j = e5 j) ∧ (∀ j, j < 8 → u.2.2.2.2.2.2 j = e6 j)) (fun (u : (Nat → Int32) × (Nat → Int32) × (Nat → Int32) × (Nat → Int32) × (Nat → Int32) × (Nat → Int32) × (Nat → Int32)) t => va_P D vwCl ([(g, .inr (3, [.int owd, .int ohi, .int odr, .int owi, .long ohe, .long ofo, .int ope, .int ote, .int ore, .ref k0, .ref k1, .ref k2, .ref k3, .ref k4, .ref k5, .ref k6])), (k0, .inl (cy 1, 5, .inl u.1)), (k1, .inl (cy 1, 5, .inl u.2.1)), (k2, .inl (cy 1, 5, .inl u.2.2.1)), (k3, .inl (cy 1, 6, .inl u.2.2.2.1)), (k4, .inl (cy 1, 6, .inl u.2.2.2.2.1)), (k5, .inl (cy 1, 8, .inl u.2.2.2.2.2.1)), (k6, .inl (cy 1, 8, .inl u.2.2.2.2.2.2)), (o, .inr (3, [.int owd, .int ohi, .int odr, .int owi, .long ohe, .long ofo, .int ope, .int ote, .int ore, .ref ok0, .ref ok1, .ref ok2, .ref ok3, .ref ok4, .ref ok5, .ref ok6])), (ok0, .inl (cy 1, 5, .inl e0)), (ok1, .inl (cy 1, 5, .inl e1)), (ok2, .inl (cy 1, 5, .inl e2)), (ok3, .inl (cy 1, 6, .inl e3)), (ok4, .inl (cy 1, 6, .inl e4)), (ok5, .inl (cy 1, 8, .inl e5)), (ok6, .inl (cy 1, 8, .inl e6))]) t.heap ∧ va_D (va_A [(g, .inr (3, [.int wd, .int hi, .int dr, .int wi, .long he, .long fo, .int pe, .int te, .int re, .ref k0, .ref k1, .ref k2, .ref k3, .ref k4, .ref k5, .ref k6])), (k0, .inl (cy 1, 5, .inl fa0)), (k1, .inl (cy 1, 5, .inl fa1)), (k2, .inl (cy 1, 5, .inl fa2)), (k3, .inl (cy 1, 6, .inl fa3)), (k4, .inl (cy 1, 6, .inl fa4)), (k5, .inl (cy 1, 8, .inl fa5)), (k6, .inl (cy 1, 8, .inl fa6)), (o, .inr (3, [.int owd, .int ohi, .int odr, .int owi, .long ohe, .long ofo, .int ope, .int ote, .int ore, .ref ok0, .ref ok1, .ref ok2, .ref ok3, .ref ok4, .ref ok5, .ref ok6])), (ok0, .inl (cy 1, 5, .inl e0)), (ok1, .inl (cy 1, 5, .inl e1)), (ok2, .inl (cy 1, 5, .inl e2)), (ok3, .inl (cy 1, 6, .inl e3)), (ok4, .inl (cy 1, 6, .inl e4)), (ok5, .inl (cy 1, 8, .inl e5)), (ok6, .inl (cy 1, 8, .inl e6))] sz) ([(g, .inr (3, [.int owd, .int ohi, .int odr, .int owi, .long ohe, .long ofo, .int ope, .int ote, .int ore, .ref k0, .ref k1, .ref k2, .ref k3, .ref k4, .ref k5, .ref k6])), (k0, .inl (cy 1, 5, .inl u.1)), (k1, .inl (cy 1, 5, .inl u.2.1)), (k2, .inl (cy 1, 5, .inl u.2.2.1)), (k3, .inl (cy 1, 6, .inl u.2.2.2.1)), (k4, .inl (cy 1, 6, .inl u.2.2.2.2.1)), (k5, .inl (cy 1, 8, .inl u.2.2.2.2.2.1)), (k6, .inl (cy 1, 8, .inl u.2.2.2.2.2.2)), (o, .inr (3, [.int owd, .int ohi, .int odr, .int owi, .long ohe, .long ofo, .int ope, .int ote, .int ore, .ref ok0, .ref ok1, .ref ok2, .ref ok3, .ref ok4, .ref ok5, .ref ok6])), (ok0, .inl (cy 1, 5, .inl e0)), (ok1, .inl (cy 1, 5, .inl e1)), (ok2, .inl (cy 1, 5, .inl e2)), (ok3, .inl (cy 1, 6, .inl e3)), (ok4, .inl (cy 1, 6, .inl e4)), (ok5, .inl (cy 1, 8, .inl e5)), (ok6, .inl (cy 1, 8, .inl e6))])) (va_A [(g, .inr (3, [.int wd, .int hi, .int dr, .int wi, .long he, .long fo, .int pe, .int te, .int re, .ref k0, .ref k1, .ref k2, .ref k3, .ref k4, .ref k5, .ref k6])), (k0, .inl (cy 1, 5, .inl fa0)), (k1, .inl (cy 1, 5, .inl fa1)), (k2, .inl (cy 1, 5, .inl fa2)), (k3, .inl (cy 1, 6, .inl fa3)), (k4, .inl (cy 1, 6, .inl fa4)), (k5, .inl (cy 1, 8, .inl fa5)), (k6, .inl (cy 1, 8, .inl fa6)), (o, .inr (3, [.int owd, .int ohi, .int odr, .int owi, .long ohe, .long ofo, .int ope, .int ote, .int ore, .ref ok0, .ref ok1, .ref ok2, .ref ok3, .ref ok4, .ref ok5, .ref ok6])), (ok0, .inl (cy 1, 5, .inl e0)), (ok1, .inl (cy 1, 5, .inl e1)), (ok2, .inl (cy 1, 5, .inl e2)), (ok3, .inl (cy 1, 6, .inl e3)), (ok4, .inl (cy 1, 6, .inl e4)), (ok5, .inl (cy 1, 8, .inl e5)), (ok6, .inl (cy 1, 8, .inl e6))] sz)) 0 0 (va_A [(g, .inr (3, [.int wd, .int hi, .int dr, .int wi, .long he, .long fo, .int pe, .int te, .int re, .ref k0, .ref k1, .ref k2, .ref k3, .ref k4, .ref k5, .ref k6])), (k0, .inl (cy 1, 5, .inl fa0)), (k1, .inl (cy 1, 5, .inl fa1)), (k2, .inl (cy 1, 5, .inl fa2)), (k3, .inl (cy 1, 6, .inl fa3)), (k4, .inl (cy 1, 6, .inl fa4)), (k5, .inl (cy 1, 8, .inl fa5)), (k6, .inl (cy 1, 8, .inl fa6)), (o, .inr (3, [.int owd, .int ohi, .int odr, .int owi, .long ohe, .long ofo, .int ope, .int ote, .int ore, .ref ok0, .ref ok1, .ref ok2, .ref ok3, .ref ok4, .ref ok5, .ref ok6])), (ok0, .inl (cy 1, 5, .inl e0)), (ok1, .inl (cy 1, 5, .inl e1)), (ok2, .inl (cy 1, 5, .inl e2)), (ok3, .inl (cy 1, 6, .inl e3)), (ok4, .inl (cy 1, 6, .inl e4)), (ok5, .inl (cy 1, 8, .inl e5)), (ok6, .inl (cy 1, 8, .inl e6))] sz) := by
  refine Met.ofW (cc := cX3_copyFrom) (maxL := 2) (ret := none) (by decide) rfl ?_
  intro p e s m args below meth c s₁ B hml hv
  obtain ⟨rfl, hsz, hP, hKA, hD0⟩ := hv
  have hx := B.exec
  have hb := B.bytes
  have hr := B.returns
  have hts := atoms_spec (ws := wsX3_copyFrom) B.pre
  have hown : s.vm.findClass RX3 = some m.cls := findClass_of_methodNamed B.named
  have hlocks := B.notSynchronized
  subst hsz
  have hK := hKA.1
  have hD := hD0.self (sz := s.heap.size)
  generalize hAe : va_A [(g, .inr (3, [.int wd, .int hi, .int dr, .int wi, .long he, .long fo, .int pe, .int te, .int re, .ref k0, .ref k1, .ref k2, .ref k3, .ref k4, .ref k5, .ref k6])), (k0, .inl (cy 1, 5, .inl fa0)), (k1, .inl (cy 1, 5, .inl fa1)), (k2, .inl (cy 1, 5, .inl fa2)), (k3, .inl (cy 1, 6, .inl fa3)), (k4, .inl (cy 1, 6, .inl fa4)), (k5, .inl (cy 1, 8, .inl fa5)), (k6, .inl (cy 1, 8, .inl fa6)), (o, .inr (3, [.int owd, .int ohi, .int odr, .int owi, .long ohe, .long ofo, .int ope, .int ote, .int ore, .ref ok0, .ref ok1, .ref ok2, .ref ok3, .ref ok4, .ref ok5, .ref ok6])), (ok0, .inl (cy 1, 5, .inl e0)), (ok1, .inl (cy 1, 5, .inl e1)), (ok2, .inl (cy 1, 5, .inl e2)), (ok3, .inl (cy 1, 6, .inl e3)), (ok4, .inl (cy 1, 6, .inl e4)), (ok5, .inl (cy 1, 8, .inl e5)), (ok6, .inl (cy 1, 8, .inl e6))] s.heap.size = A at hD ⊢
  have hA : ∀ q : Nat, s.heap.size ≤ q → A q := fun q h => by rw [← hAe]; exact Or.inr h
  have hS : va_S A s.heap s.heap [] := va_S.rf
  have hP : va_P D vwCl [(g, .inr (3, [.int wd, .int hi, .int dr, .int wi, .long he, .long fo, .int pe, .int te, .int re, .ref k0, .ref k1, .ref k2, .ref k3, .ref k4, .ref k5, .ref k6])), (k0, .inl (cy 1, 5, .inl fa0)), (k1, .inl (cy 1, 5, .inl fa1)), (k2, .inl (cy 1, 5, .inl fa2)), (k3, .inl (cy 1, 6, .inl fa3)), (k4, .inl (cy 1, 6, .inl fa4)), (k5, .inl (cy 1, 8, .inl fa5)), (k6, .inl (cy 1, 8, .inl fa6)), (o, .inr (3, [.int owd, .int ohi, .int odr, .int owi, .long ohe, .long ofo, .int ope, .int ote, .int ore, .ref ok0, .ref ok1, .ref ok2, .ref ok3, .ref ok4, .ref ok5, .ref ok6])), (ok0, .inl (cy 1, 5, .inl e0)), (ok1, .inl (cy 1, 5, .inl e1)), (ok2, .inl (cy 1, 5, .inl e2)), (ok3, .inl (cy 1, 6, .inl e3)), (ok4, .inl (cy 1, 6, .inl e4)), (ok5, .inl (cy 1, 8, .inl e5)), (ok6, .inl (cy 1, 8, .inl e6))] s.heap := hP
  have hl := lv_entry ([.ref g, .ref o]) (n := 2) (Nat.le_of_ble_eq_true rfl)
  rw [lg_entry_eq]
  generalize (lg_sl ([.ref g, .ref o]) ++ List.replicate (2 - (lg_sl ([.ref g, .ref o])).length) Slot.unset).toArray = ls at hl ⊢
  have hl : lv_has ls 2 [(0, .ref g), (1, .ref o)] := hl
  have z0_ := hts (.fieldLink RX3 33 "HeardSeen$Garden" "wide" "I") (by decide +kernel)
  have zi3_ : ∀ w ∈ u_ws RX3 TX3 16, w ∈ wsX3_copyFrom := by decide +kernel
  have z2_ := hts (.fieldLink RX3 37 "HeardSeen$Garden" "high" "I") (by decide +kernel)
  have z3_ := hts (.fieldLink RX3 40 "HeardSeen$Garden" "drown" "I") (by decide +kernel)
  have z4_ := hts (.fieldLink RX3 43 "HeardSeen$Garden" "wind" "I") (by decide +kernel)
  have z5_ := hts (.fieldLink RX3 46 "HeardSeen$Garden" "hedges" "J") (by decide +kernel)
  have z6_ := hts (.fieldLink RX3 50 "HeardSeen$Garden" "fountains" "J") (by decide +kernel)
  have z7_ := hts (.fieldLink RX3 53 "HeardSeen$Garden" "people" "I") (by decide +kernel)
  have z8_ := hts (.fieldLink RX3 56 "HeardSeen$Garden" "tellings" "I") (by decide +kernel)
  have z9_ := hts (.fieldLink RX3 59 "HeardSeen$Garden" "reports" "I") (by decide +kernel)
  have z10_ := hts (.fieldLink RX3 9 "HeardSeen$Garden" "kinds" "[I") (by decide +kernel)
  have z11_ := hts (.methodLink RX3 62 arraycopyName) (by decide +kernel)
  have z12_ := hts (.native arraycopyName) (by decide +kernel)
  have z13_ := hts (.static arraycopyName) (by decide +kernel)
  have z14_ := hts (.initialized "java/lang/System") (by decide +kernel)
  have z15_ := hts (.fieldLink RX3 15 "HeardSeen$Garden" "squares" "[I") (by decide +kernel)
  have z16_ := hts (.fieldLink RX3 18 "HeardSeen$Garden" "voices" "[I") (by decide +kernel)
  have z17_ := hts (.fieldLink RX3 21 "HeardSeen$Garden" "tellers" "[I") (by decide +kernel)
  have z18_ := hts (.fieldLink RX3 24 "HeardSeen$Garden" "listeners" "[I") (by decide +kernel)
  have z19_ := hts (.fieldLink RX3 27 "HeardSeen$Garden" "witnesses" "[I") (by decide +kernel)
  have z20_ := hts (.fieldLink RX3 30 "HeardSeen$Garden" "claims" "[I") (by decide +kernel)
  refine lv_aload_n hx hb dX3_copyFrom_0 rfl (lv_at hl 0 rfl) ?_
  refine lv_aload_n hx hb dX3_copyFrom_1 rfl (lv_at hl 1 rfl) ?_
  refine va_get (D := D) (ci := 3) (v := .int owd) (C := RX3) (T := TX3) (N := 16) hx hb hts zi3_ hown hK hP 8 rfl rfl 0 (by decide) z0_ (fun _ h9 => h9) rfl dX3_copyFrom_2 ?_
  refine va_put (D := D) (ci := 3) (v := .int owd) (ty := .int) (C := RX3) (T := TX3) (N := 16) hx hb hts zi3_ tyX3 tyX3_ok nmX3 hown hK hP hD hS 0 rfl rfl 0 (by decide) z0_ (fun _ h9 => h9) rfl (by decide +kernel) rfl rfl (Nat.le_of_ble_eq_true rfl) dX3_copyFrom_5 (fun H locs hP hD hS => ?_)
  have hP : va_P D vwCl [(g, .inr (3, [.int owd, .int hi, .int dr, .int wi, .long he, .long fo, .int pe, .int te, .int re, .ref k0, .ref k1, .ref k2, .ref k3, .ref k4, .ref k5, .ref k6])), (k0, .inl (cy 1, 5, .inl fa0)), (k1, .inl (cy 1, 5, .inl fa1)), (k2, .inl (cy 1, 5, .inl fa2)), (k3, .inl (cy 1, 6, .inl fa3)), (k4, .inl (cy 1, 6, .inl fa4)), (k5, .inl (cy 1, 8, .inl fa5)), (k6, .inl (cy 1, 8, .inl fa6)), (o, .inr (3, [.int owd, .int ohi, .int odr, .int owi, .long ohe, .long ofo, .int ope, .int ote, .int ore, .ref ok0, .ref ok1, .ref ok2, .ref ok3, .ref ok4, .ref ok5, .ref ok6])), (ok0, .inl (cy 1, 5, .inl e0)), (ok1, .inl (cy 1, 5, .inl e1)), (ok2, .inl (cy 1, 5, .inl e2)), (ok3, .inl (cy 1, 6, .inl e3)), (ok4, .inl (cy 1, 6, .inl e4)), (ok5, .inl (cy 1, 8, .inl e5)), (ok6, .inl (cy 1, 8, .inl e6))] H := hP
  have hD : va_D A [(g, .inr (3, [.int owd, .int hi, .int dr, .int wi, .long he, .long fo, .int pe, .int te, .int re, .ref k0, .ref k1, .ref k2, .ref k3, .ref k4, .ref k5, .ref k6])), (k0, .inl (cy 1, 5, .inl fa0)), (k1, .inl (cy 1, 5, .inl fa1)), (k2, .inl (cy 1, 5, .inl fa2)), (k3, .inl (cy 1, 6, .inl fa3)), (k4, .inl (cy 1, 6, .inl fa4)), (k5, .inl (cy 1, 8, .inl fa5)), (k6, .inl (cy 1, 8, .inl fa6)), (o, .inr (3, [.int owd, .int ohi, .int odr, .int owi, .long ohe, .long ofo, .int ope, .int ote, .int ore, .ref ok0, .ref ok1, .ref ok2, .ref ok3, .ref ok4, .ref ok5, .ref ok6])), (ok0, .inl (cy 1, 5, .inl e0)), (ok1, .inl (cy 1, 5, .inl e1)), (ok2, .inl (cy 1, 5, .inl e2)), (ok3, .inl (cy 1, 6, .inl e3)), (ok4, .inl (cy 1, 6, .inl e4)), (ok5, .inl (cy 1, 8, .inl e5)), (ok6, .inl (cy 1, 8, .inl e6))] := hD
  refine lv_aload_n hx hb dX3_copyFrom_8 rfl (lv_at hl 0 rfl) ?_
  refine lv_aload_n hx hb dX3_copyFrom_9 rfl (lv_at hl 1 rfl) ?_
  refine va_get (D := D) (ci := 3) (v := .int ohi) (C := RX3) (T := TX3) (N := 16) hx hb hts zi3_ hown hK hP 8 rfl rfl 1 (by decide) z2_ (fun _ h9 => h9) rfl dX3_copyFrom_10 ?_
  refine va_put (D := D) (ci := 3) (v := .int ohi) (ty := .int) (C := RX3) (T := TX3) (N := 16) hx hb hts zi3_ tyX3 tyX3_ok nmX3 hown hK hP hD hS 0 rfl rfl 1 (by decide) z2_ (fun _ h9 => h9) rfl (by decide +kernel) rfl rfl (Nat.le_of_ble_eq_true rfl) dX3_copyFrom_13 (fun H locs hP hD hS => ?_)
  have hP : va_P D vwCl [(g, .inr (3, [.int owd, .int ohi, .int dr, .int wi, .long he, .long fo, .int pe, .int te, .int re, .ref k0, .ref k1, .ref k2, .ref k3, .ref k4, .ref k5, .ref k6])), (k0, .inl (cy 1, 5, .inl fa0)), (k1, .inl (cy 1, 5, .inl fa1)), (k2, .inl (cy 1, 5, .inl fa2)), (k3, .inl (cy 1, 6, .inl fa3)), (k4, .inl (cy 1, 6, .inl fa4)), (k5, .inl (cy 1, 8, .inl fa5)), (k6, .inl (cy 1, 8, .inl fa6)), (o, .inr (3, [.int owd, .int ohi, .int odr, .int owi, .long ohe, .long ofo, .int ope, .int ote, .int ore, .ref ok0, .ref ok1, .ref ok2, .ref ok3, .ref ok4, .ref ok5, .ref ok6])), (ok0, .inl (cy 1, 5, .inl e0)), (ok1, .inl (cy 1, 5, .inl e1)), (ok2, .inl (cy 1, 5, .inl e2)), (ok3, .inl (cy 1, 6, .inl e3)), (ok4, .inl (cy 1, 6, .inl e4)), (ok5, .inl (cy 1, 8, .inl e5)), (ok6, .inl (cy 1, 8, .inl e6))] H := hP
  have hD : va_D A [(g, .inr (3, [.int owd, .int ohi, .int dr, .int wi, .long he, .long fo, .int pe, .int te, .int re, .ref k0, .ref k1, .ref k2, .ref k3, .ref k4, .ref k5, .ref k6])), (k0, .inl (cy 1, 5, .inl fa0)), (k1, .inl (cy 1, 5, .inl fa1)), (k2, .inl (cy 1, 5, .inl fa2)), (k3, .inl (cy 1, 6, .inl fa3)), (k4, .inl (cy 1, 6, .inl fa4)), (k5, .inl (cy 1, 8, .inl fa5)), (k6, .inl (cy 1, 8, .inl fa6)), (o, .inr (3, [.int owd, .int ohi, .int odr, .int owi, .long ohe, .long ofo, .int ope, .int ote, .int ore, .ref ok0, .ref ok1, .ref ok2, .ref ok3, .ref ok4, .ref ok5, .ref ok6])), (ok0, .inl (cy 1, 5, .inl e0)), (ok1, .inl (cy 1, 5, .inl e1)), (ok2, .inl (cy 1, 5, .inl e2)), (ok3, .inl (cy 1, 6, .inl e3)), (ok4, .inl (cy 1, 6, .inl e4)), (ok5, .inl (cy 1, 8, .inl e5)), (ok6, .inl (cy 1, 8, .inl e6))] := hD
  refine lv_aload_n hx hb dX3_copyFrom_16 rfl (lv_at hl 0 rfl) ?_
  refine lv_aload_n hx hb dX3_copyFrom_17 rfl (lv_at hl 1 rfl) ?_
  refine va_get (D := D) (ci := 3) (v := .int odr) (C := RX3) (T := TX3) (N := 16) hx hb hts zi3_ hown hK hP 8 rfl rfl 2 (by decide) z3_ (fun _ h9 => h9) rfl dX3_copyFrom_18 ?_
  refine va_put (D := D) (ci := 3) (v := .int odr) (ty := .int) (C := RX3) (T := TX3) (N := 16) hx hb hts zi3_ tyX3 tyX3_ok nmX3 hown hK hP hD hS 0 rfl rfl 2 (by decide) z3_ (fun _ h9 => h9) rfl (by decide +kernel) rfl rfl (Nat.le_of_ble_eq_true rfl) dX3_copyFrom_21 (fun H locs hP hD hS => ?_)
  have hP : va_P D vwCl [(g, .inr (3, [.int owd, .int ohi, .int odr, .int wi, .long he, .long fo, .int pe, .int te, .int re, .ref k0, .ref k1, .ref k2, .ref k3, .ref k4, .ref k5, .ref k6])), (k0, .inl (cy 1, 5, .inl fa0)), (k1, .inl (cy 1, 5, .inl fa1)), (k2, .inl (cy 1, 5, .inl fa2)), (k3, .inl (cy 1, 6, .inl fa3)), (k4, .inl (cy 1, 6, .inl fa4)), (k5, .inl (cy 1, 8, .inl fa5)), (k6, .inl (cy 1, 8, .inl fa6)), (o, .inr (3, [.int owd, .int ohi, .int odr, .int owi, .long ohe, .long ofo, .int ope, .int ote, .int ore, .ref ok0, .ref ok1, .ref ok2, .ref ok3, .ref ok4, .ref ok5, .ref ok6])), (ok0, .inl (cy 1, 5, .inl e0)), (ok1, .inl (cy 1, 5, .inl e1)), (ok2, .inl (cy 1, 5, .inl e2)), (ok3, .inl (cy 1, 6, .inl e3)), (ok4, .inl (cy 1, 6, .inl e4)), (ok5, .inl (cy 1, 8, .inl e5)), (ok6, .inl (cy 1, 8, .inl e6))] H := hP
  have hD : va_D A [(g, .inr (3, [.int owd, .int ohi, .int odr, .int wi, .long he, .long fo, .int pe, .int te, .int re, .ref k0, .ref k1, .ref k2, .ref k3, .ref k4, .ref k5, .ref k6])), (k0, .inl (cy 1, 5, .inl fa0)), (k1, .inl (cy 1, 5, .inl fa1)), (k2, .inl (cy 1, 5, .inl fa2)), (k3, .inl (cy 1, 6, .inl fa3)), (k4, .inl (cy 1, 6, .inl fa4)), (k5, .inl (cy 1, 8, .inl fa5)), (k6, .inl (cy 1, 8, .inl fa6)), (o, .inr (3, [.int owd, .int ohi, .int odr, .int owi, .long ohe, .long ofo, .int ope, .int ote, .int ore, .ref ok0, .ref ok1, .ref ok2, .ref ok3, .ref ok4, .ref ok5, .ref ok6])), (ok0, .inl (cy 1, 5, .inl e0)), (ok1, .inl (cy 1, 5, .inl e1)), (ok2, .inl (cy 1, 5, .inl e2)), (ok3, .inl (cy 1, 6, .inl e3)), (ok4, .inl (cy 1, 6, .inl e4)), (ok5, .inl (cy 1, 8, .inl e5)), (ok6, .inl (cy 1, 8, .inl e6))] := hD
  refine lv_aload_n hx hb dX3_copyFrom_24 rfl (lv_at hl 0 rfl) ?_
  refine lv_aload_n hx hb dX3_copyFrom_25 rfl (lv_at hl 1 rfl) ?_
  refine va_get (D := D) (ci := 3) (v := .int owi) (C := RX3) (T := TX3) (N := 16) hx hb hts zi3_ hown hK hP 8 rfl rfl 3 (by decide) z4_ (fun _ h9 => h9) rfl dX3_copyFrom_26 ?_
  refine va_put (D := D) (ci := 3) (v := .int owi) (ty := .int) (C := RX3) (T := TX3) (N := 16) hx hb hts zi3_ tyX3 tyX3_ok nmX3 hown hK hP hD hS 0 rfl rfl 3 (by decide) z4_ (fun _ h9 => h9) rfl (by decide +kernel) rfl rfl (Nat.le_of_ble_eq_true rfl) dX3_copyFrom_29 (fun H locs hP hD hS => ?_)
  have hP : va_P D vwCl [(g, .inr (3, [.int owd, .int ohi, .int odr, .int owi, .long he, .long fo, .int pe, .int te, .int re, .ref k0, .ref k1, .ref k2, .ref k3, .ref k4, .ref k5, .ref k6])), (k0, .inl (cy 1, 5, .inl fa0)), (k1, .inl (cy 1, 5, .inl fa1)), (k2, .inl (cy 1, 5, .inl fa2)), (k3, .inl (cy 1, 6, .inl fa3)), (k4, .inl (cy 1, 6, .inl fa4)), (k5, .inl (cy 1, 8, .inl fa5)), (k6, .inl (cy 1, 8, .inl fa6)), (o, .inr (3, [.int owd, .int ohi, .int odr, .int owi, .long ohe, .long ofo, .int ope, .int ote, .int ore, .ref ok0, .ref ok1, .ref ok2, .ref ok3, .ref ok4, .ref ok5, .ref ok6])), (ok0, .inl (cy 1, 5, .inl e0)), (ok1, .inl (cy 1, 5, .inl e1)), (ok2, .inl (cy 1, 5, .inl e2)), (ok3, .inl (cy 1, 6, .inl e3)), (ok4, .inl (cy 1, 6, .inl e4)), (ok5, .inl (cy 1, 8, .inl e5)), (ok6, .inl (cy 1, 8, .inl e6))] H := hP
  have hD : va_D A [(g, .inr (3, [.int owd, .int ohi, .int odr, .int owi, .long he, .long fo, .int pe, .int te, .int re, .ref k0, .ref k1, .ref k2, .ref k3, .ref k4, .ref k5, .ref k6])), (k0, .inl (cy 1, 5, .inl fa0)), (k1, .inl (cy 1, 5, .inl fa1)), (k2, .inl (cy 1, 5, .inl fa2)), (k3, .inl (cy 1, 6, .inl fa3)), (k4, .inl (cy 1, 6, .inl fa4)), (k5, .inl (cy 1, 8, .inl fa5)), (k6, .inl (cy 1, 8, .inl fa6)), (o, .inr (3, [.int owd, .int ohi, .int odr, .int owi, .long ohe, .long ofo, .int ope, .int ote, .int ore, .ref ok0, .ref ok1, .ref ok2, .ref ok3, .ref ok4, .ref ok5, .ref ok6])), (ok0, .inl (cy 1, 5, .inl e0)), (ok1, .inl (cy 1, 5, .inl e1)), (ok2, .inl (cy 1, 5, .inl e2)), (ok3, .inl (cy 1, 6, .inl e3)), (ok4, .inl (cy 1, 6, .inl e4)), (ok5, .inl (cy 1, 8, .inl e5)), (ok6, .inl (cy 1, 8, .inl e6))] := hD
  refine lv_aload_n hx hb dX3_copyFrom_32 rfl (lv_at hl 0 rfl) ?_
  refine lv_aload_n hx hb dX3_copyFrom_33 rfl (lv_at hl 1 rfl) ?_
  refine va_get (D := D) (ci := 3) (v := .long ohe) (C := RX3) (T := TX3) (N := 16) hx hb hts zi3_ hown hK hP 8 rfl rfl 4 (by decide) z5_ (fun _ h9 => h9) rfl dX3_copyFrom_34 ?_
  refine va_put (D := D) (ci := 3) (v := .long ohe) (ty := .long) (C := RX3) (T := TX3) (N := 16) hx hb hts zi3_ tyX3 tyX3_ok nmX3 hown hK hP hD hS 0 rfl rfl 4 (by decide) z5_ (fun _ h9 => h9) rfl (by decide +kernel) rfl rfl (Nat.le_of_ble_eq_true rfl) dX3_copyFrom_37 (fun H locs hP hD hS => ?_)
  have hP : va_P D vwCl [(g, .inr (3, [.int owd, .int ohi, .int odr, .int owi, .long ohe, .long fo, .int pe, .int te, .int re, .ref k0, .ref k1, .ref k2, .ref k3, .ref k4, .ref k5, .ref k6])), (k0, .inl (cy 1, 5, .inl fa0)), (k1, .inl (cy 1, 5, .inl fa1)), (k2, .inl (cy 1, 5, .inl fa2)), (k3, .inl (cy 1, 6, .inl fa3)), (k4, .inl (cy 1, 6, .inl fa4)), (k5, .inl (cy 1, 8, .inl fa5)), (k6, .inl (cy 1, 8, .inl fa6)), (o, .inr (3, [.int owd, .int ohi, .int odr, .int owi, .long ohe, .long ofo, .int ope, .int ote, .int ore, .ref ok0, .ref ok1, .ref ok2, .ref ok3, .ref ok4, .ref ok5, .ref ok6])), (ok0, .inl (cy 1, 5, .inl e0)), (ok1, .inl (cy 1, 5, .inl e1)), (ok2, .inl (cy 1, 5, .inl e2)), (ok3, .inl (cy 1, 6, .inl e3)), (ok4, .inl (cy 1, 6, .inl e4)), (ok5, .inl (cy 1, 8, .inl e5)), (ok6, .inl (cy 1, 8, .inl e6))] H := hP
  have hD : va_D A [(g, .inr (3, [.int owd, .int ohi, .int odr, .int owi, .long ohe, .long fo, .int pe, .int te, .int re, .ref k0, .ref k1, .ref k2, .ref k3, .ref k4, .ref k5, .ref k6])), (k0, .inl (cy 1, 5, .inl fa0)), (k1, .inl (cy 1, 5, .inl fa1)), (k2, .inl (cy 1, 5, .inl fa2)), (k3, .inl (cy 1, 6, .inl fa3)), (k4, .inl (cy 1, 6, .inl fa4)), (k5, .inl (cy 1, 8, .inl fa5)), (k6, .inl (cy 1, 8, .inl fa6)), (o, .inr (3, [.int owd, .int ohi, .int odr, .int owi, .long ohe, .long ofo, .int ope, .int ote, .int ore, .ref ok0, .ref ok1, .ref ok2, .ref ok3, .ref ok4, .ref ok5, .ref ok6])), (ok0, .inl (cy 1, 5, .inl e0)), (ok1, .inl (cy 1, 5, .inl e1)), (ok2, .inl (cy 1, 5, .inl e2)), (ok3, .inl (cy 1, 6, .inl e3)), (ok4, .inl (cy 1, 6, .inl e4)), (ok5, .inl (cy 1, 8, .inl e5)), (ok6, .inl (cy 1, 8, .inl e6))] := hD
  refine lv_aload_n hx hb dX3_copyFrom_40 rfl (lv_at hl 0 rfl) ?_
  refine lv_aload_n hx hb dX3_copyFrom_41 rfl (lv_at hl 1 rfl) ?_
  refine va_get (D := D) (ci := 3) (v := .long ofo) (C := RX3) (T := TX3) (N := 16) hx hb hts zi3_ hown hK hP 8 rfl rfl 5 (by decide) z6_ (fun _ h9 => h9) rfl dX3_copyFrom_42 ?_
  refine va_put (D := D) (ci := 3) (v := .long ofo) (ty := .long) (C := RX3) (T := TX3) (N := 16) hx hb hts zi3_ tyX3 tyX3_ok nmX3 hown hK hP hD hS 0 rfl rfl 5 (by decide) z6_ (fun _ h9 => h9) rfl (by decide +kernel) rfl rfl (Nat.le_of_ble_eq_true rfl) dX3_copyFrom_45 (fun H locs hP hD hS => ?_)
  have hP : va_P D vwCl [(g, .inr (3, [.int owd, .int ohi, .int odr, .int owi, .long ohe, .long ofo, .int pe, .int te, .int re, .ref k0, .ref k1, .ref k2, .ref k3, .ref k4, .ref k5, .ref k6])), (k0, .inl (cy 1, 5, .inl fa0)), (k1, .inl (cy 1, 5, .inl fa1)), (k2, .inl (cy 1, 5, .inl fa2)), (k3, .inl (cy 1, 6, .inl fa3)), (k4, .inl (cy 1, 6, .inl fa4)), (k5, .inl (cy 1, 8, .inl fa5)), (k6, .inl (cy 1, 8, .inl fa6)), (o, .inr (3, [.int owd, .int ohi, .int odr, .int owi, .long ohe, .long ofo, .int ope, .int ote, .int ore, .ref ok0, .ref ok1, .ref ok2, .ref ok3, .ref ok4, .ref ok5, .ref ok6])), (ok0, .inl (cy 1, 5, .inl e0)), (ok1, .inl (cy 1, 5, .inl e1)), (ok2, .inl (cy 1, 5, .inl e2)), (ok3, .inl (cy 1, 6, .inl e3)), (ok4, .inl (cy 1, 6, .inl e4)), (ok5, .inl (cy 1, 8, .inl e5)), (ok6, .inl (cy 1, 8, .inl e6))] H := hP
  have hD : va_D A [(g, .inr (3, [.int owd, .int ohi, .int odr, .int owi, .long ohe, .long ofo, .int pe, .int te, .int re, .ref k0, .ref k1, .ref k2, .ref k3, .ref k4, .ref k5, .ref k6])), (k0, .inl (cy 1, 5, .inl fa0)), (k1, .inl (cy 1, 5, .inl fa1)), (k2, .inl (cy 1, 5, .inl fa2)), (k3, .inl (cy 1, 6, .inl fa3)), (k4, .inl (cy 1, 6, .inl fa4)), (k5, .inl (cy 1, 8, .inl fa5)), (k6, .inl (cy 1, 8, .inl fa6)), (o, .inr (3, [.int owd, .int ohi, .int odr, .int owi, .long ohe, .long ofo, .int ope, .int ote, .int ore, .ref ok0, .ref ok1, .ref ok2, .ref ok3, .ref ok4, .ref ok5, .ref ok6])), (ok0, .inl (cy 1, 5, .inl e0)), (ok1, .inl (cy 1, 5, .inl e1)), (ok2, .inl (cy 1, 5, .inl e2)), (ok3, .inl (cy 1, 6, .inl e3)), (ok4, .inl (cy 1, 6, .inl e4)), (ok5, .inl (cy 1, 8, .inl e5)), (ok6, .inl (cy 1, 8, .inl e6))] := hD
  refine lv_aload_n hx hb dX3_copyFrom_48 rfl (lv_at hl 0 rfl) ?_
  refine lv_aload_n hx hb dX3_copyFrom_49 rfl (lv_at hl 1 rfl) ?_
  refine va_get (D := D) (ci := 3) (v := .int ope) (C := RX3) (T := TX3) (N := 16) hx hb hts zi3_ hown hK hP 8 rfl rfl 6 (by decide) z7_ (fun _ h9 => h9) rfl dX3_copyFrom_50 ?_
  refine va_put (D := D) (ci := 3) (v := .int ope) (ty := .int) (C := RX3) (T := TX3) (N := 16) hx hb hts zi3_ tyX3 tyX3_ok nmX3 hown hK hP hD hS 0 rfl rfl 6 (by decide) z7_ (fun _ h9 => h9) rfl (by decide +kernel) rfl rfl (Nat.le_of_ble_eq_true rfl) dX3_copyFrom_53 (fun H locs hP hD hS => ?_)
  have hP : va_P D vwCl [(g, .inr (3, [.int owd, .int ohi, .int odr, .int owi, .long ohe, .long ofo, .int ope, .int te, .int re, .ref k0, .ref k1, .ref k2, .ref k3, .ref k4, .ref k5, .ref k6])), (k0, .inl (cy 1, 5, .inl fa0)), (k1, .inl (cy 1, 5, .inl fa1)), (k2, .inl (cy 1, 5, .inl fa2)), (k3, .inl (cy 1, 6, .inl fa3)), (k4, .inl (cy 1, 6, .inl fa4)), (k5, .inl (cy 1, 8, .inl fa5)), (k6, .inl (cy 1, 8, .inl fa6)), (o, .inr (3, [.int owd, .int ohi, .int odr, .int owi, .long ohe, .long ofo, .int ope, .int ote, .int ore, .ref ok0, .ref ok1, .ref ok2, .ref ok3, .ref ok4, .ref ok5, .ref ok6])), (ok0, .inl (cy 1, 5, .inl e0)), (ok1, .inl (cy 1, 5, .inl e1)), (ok2, .inl (cy 1, 5, .inl e2)), (ok3, .inl (cy 1, 6, .inl e3)), (ok4, .inl (cy 1, 6, .inl e4)), (ok5, .inl (cy 1, 8, .inl e5)), (ok6, .inl (cy 1, 8, .inl e6))] H := hP
  have hD : va_D A [(g, .inr (3, [.int owd, .int ohi, .int odr, .int owi, .long ohe, .long ofo, .int ope, .int te, .int re, .ref k0, .ref k1, .ref k2, .ref k3, .ref k4, .ref k5, .ref k6])), (k0, .inl (cy 1, 5, .inl fa0)), (k1, .inl (cy 1, 5, .inl fa1)), (k2, .inl (cy 1, 5, .inl fa2)), (k3, .inl (cy 1, 6, .inl fa3)), (k4, .inl (cy 1, 6, .inl fa4)), (k5, .inl (cy 1, 8, .inl fa5)), (k6, .inl (cy 1, 8, .inl fa6)), (o, .inr (3, [.int owd, .int ohi, .int odr, .int owi, .long ohe, .long ofo, .int ope, .int ote, .int ore, .ref ok0, .ref ok1, .ref ok2, .ref ok3, .ref ok4, .ref ok5, .ref ok6])), (ok0, .inl (cy 1, 5, .inl e0)), (ok1, .inl (cy 1, 5, .inl e1)), (ok2, .inl (cy 1, 5, .inl e2)), (ok3, .inl (cy 1, 6, .inl e3)), (ok4, .inl (cy 1, 6, .inl e4)), (ok5, .inl (cy 1, 8, .inl e5)), (ok6, .inl (cy 1, 8, .inl e6))] := hD
  refine lv_aload_n hx hb dX3_copyFrom_56 rfl (lv_at hl 0 rfl) ?_
  refine lv_aload_n hx hb dX3_copyFrom_57 rfl (lv_at hl 1 rfl) ?_
  refine va_get (D := D) (ci := 3) (v := .int ote) (C := RX3) (T := TX3) (N := 16) hx hb hts zi3_ hown hK hP 8 rfl rfl 7 (by decide) z8_ (fun _ h9 => h9) rfl dX3_copyFrom_58 ?_
  refine va_put (D := D) (ci := 3) (v := .int ote) (ty := .int) (C := RX3) (T := TX3) (N := 16) hx hb hts zi3_ tyX3 tyX3_ok nmX3 hown hK hP hD hS 0 rfl rfl 7 (by decide) z8_ (fun _ h9 => h9) rfl (by decide +kernel) rfl rfl (Nat.le_of_ble_eq_true rfl) dX3_copyFrom_61 (fun H locs hP hD hS => ?_)
  have hP : va_P D vwCl [(g, .inr (3, [.int owd, .int ohi, .int odr, .int owi, .long ohe, .long ofo, .int ope, .int ote, .int re, .ref k0, .ref k1, .ref k2, .ref k3, .ref k4, .ref k5, .ref k6])), (k0, .inl (cy 1, 5, .inl fa0)), (k1, .inl (cy 1, 5, .inl fa1)), (k2, .inl (cy 1, 5, .inl fa2)), (k3, .inl (cy 1, 6, .inl fa3)), (k4, .inl (cy 1, 6, .inl fa4)), (k5, .inl (cy 1, 8, .inl fa5)), (k6, .inl (cy 1, 8, .inl fa6)), (o, .inr (3, [.int owd, .int ohi, .int odr, .int owi, .long ohe, .long ofo, .int ope, .int ote, .int ore, .ref ok0, .ref ok1, .ref ok2, .ref ok3, .ref ok4, .ref ok5, .ref ok6])), (ok0, .inl (cy 1, 5, .inl e0)), (ok1, .inl (cy 1, 5, .inl e1)), (ok2, .inl (cy 1, 5, .inl e2)), (ok3, .inl (cy 1, 6, .inl e3)), (ok4, .inl (cy 1, 6, .inl e4)), (ok5, .inl (cy 1, 8, .inl e5)), (ok6, .inl (cy 1, 8, .inl e6))] H := hP
  have hD : va_D A [(g, .inr (3, [.int owd, .int ohi, .int odr, .int owi, .long ohe, .long ofo, .int ope, .int ote, .int re, .ref k0, .ref k1, .ref k2, .ref k3, .ref k4, .ref k5, .ref k6])), (k0, .inl (cy 1, 5, .inl fa0)), (k1, .inl (cy 1, 5, .inl fa1)), (k2, .inl (cy 1, 5, .inl fa2)), (k3, .inl (cy 1, 6, .inl fa3)), (k4, .inl (cy 1, 6, .inl fa4)), (k5, .inl (cy 1, 8, .inl fa5)), (k6, .inl (cy 1, 8, .inl fa6)), (o, .inr (3, [.int owd, .int ohi, .int odr, .int owi, .long ohe, .long ofo, .int ope, .int ote, .int ore, .ref ok0, .ref ok1, .ref ok2, .ref ok3, .ref ok4, .ref ok5, .ref ok6])), (ok0, .inl (cy 1, 5, .inl e0)), (ok1, .inl (cy 1, 5, .inl e1)), (ok2, .inl (cy 1, 5, .inl e2)), (ok3, .inl (cy 1, 6, .inl e3)), (ok4, .inl (cy 1, 6, .inl e4)), (ok5, .inl (cy 1, 8, .inl e5)), (ok6, .inl (cy 1, 8, .inl e6))] := hD
  refine lv_aload_n hx hb dX3_copyFrom_64 rfl (lv_at hl 0 rfl) ?_
  refine lv_aload_n hx hb dX3_copyFrom_65 rfl (lv_at hl 1 rfl) ?_
  refine va_get (D := D) (ci := 3) (v := .int ore) (C := RX3) (T := TX3) (N := 16) hx hb hts zi3_ hown hK hP 8 rfl rfl 8 (by decide) z9_ (fun _ h9 => h9) rfl dX3_copyFrom_66 ?_
  refine va_put (D := D) (ci := 3) (v := .int ore) (ty := .int) (C := RX3) (T := TX3) (N := 16) hx hb hts zi3_ tyX3 tyX3_ok nmX3 hown hK hP hD hS 0 rfl rfl 8 (by decide) z9_ (fun _ h9 => h9) rfl (by decide +kernel) rfl rfl (Nat.le_of_ble_eq_true rfl) dX3_copyFrom_69 (fun H locs hP hD hS => ?_)
  have hP : va_P D vwCl [(g, .inr (3, [.int owd, .int ohi, .int odr, .int owi, .long ohe, .long ofo, .int ope, .int ote, .int ore, .ref k0, .ref k1, .ref k2, .ref k3, .ref k4, .ref k5, .ref k6])), (k0, .inl (cy 1, 5, .inl fa0)), (k1, .inl (cy 1, 5, .inl fa1)), (k2, .inl (cy 1, 5, .inl fa2)), (k3, .inl (cy 1, 6, .inl fa3)), (k4, .inl (cy 1, 6, .inl fa4)), (k5, .inl (cy 1, 8, .inl fa5)), (k6, .inl (cy 1, 8, .inl fa6)), (o, .inr (3, [.int owd, .int ohi, .int odr, .int owi, .long ohe, .long ofo, .int ope, .int ote, .int ore, .ref ok0, .ref ok1, .ref ok2, .ref ok3, .ref ok4, .ref ok5, .ref ok6])), (ok0, .inl (cy 1, 5, .inl e0)), (ok1, .inl (cy 1, 5, .inl e1)), (ok2, .inl (cy 1, 5, .inl e2)), (ok3, .inl (cy 1, 6, .inl e3)), (ok4, .inl (cy 1, 6, .inl e4)), (ok5, .inl (cy 1, 8, .inl e5)), (ok6, .inl (cy 1, 8, .inl e6))] H := hP
  have hD : va_D A [(g, .inr (3, [.int owd, .int ohi, .int odr, .int owi, .long ohe, .long ofo, .int ope, .int ote, .int ore, .ref k0, .ref k1, .ref k2, .ref k3, .ref k4, .ref k5, .ref k6])), (k0, .inl (cy 1, 5, .inl fa0)), (k1, .inl (cy 1, 5, .inl fa1)), (k2, .inl (cy 1, 5, .inl fa2)), (k3, .inl (cy 1, 6, .inl fa3)), (k4, .inl (cy 1, 6, .inl fa4)), (k5, .inl (cy 1, 8, .inl fa5)), (k6, .inl (cy 1, 8, .inl fa6)), (o, .inr (3, [.int owd, .int ohi, .int odr, .int owi, .long ohe, .long ofo, .int ope, .int ote, .int ore, .ref ok0, .ref ok1, .ref ok2, .ref ok3, .ref ok4, .ref ok5, .ref ok6])), (ok0, .inl (cy 1, 5, .inl e0)), (ok1, .inl (cy 1, 5, .inl e1)), (ok2, .inl (cy 1, 5, .inl e2)), (ok3, .inl (cy 1, 6, .inl e3)), (ok4, .inl (cy 1, 6, .inl e4)), (ok5, .inl (cy 1, 8, .inl e5)), (ok6, .inl (cy 1, 8, .inl e6))] := hD
  refine lv_aload_n hx hb dX3_copyFrom_72 rfl (lv_at hl 1 rfl) ?_
  refine va_get (D := D) (ci := 3) (v := .ref ok0) (C := RX3) (T := TX3) (N := 16) hx hb hts zi3_ hown hK hP 8 rfl rfl 9 (by decide) z10_ (fun _ h9 => h9) rfl dX3_copyFrom_73 ?_
  refine lv_iconst (v := 0) hx hb dX3_copyFrom_76 (by decide) ?_
  refine lv_aload_n hx hb dX3_copyFrom_77 rfl (lv_at hl 0 rfl) ?_
  refine va_get (D := D) (ci := 3) (v := .ref k0) (C := RX3) (T := TX3) (N := 16) hx hb hts zi3_ hown hK hP 0 rfl rfl 9 (by decide) z10_ (fun _ h9 => h9) rfl dX3_copyFrom_78 ?_
  refine lv_iconst (v := 0) hx hb dX3_copyFrom_81 (by decide) ?_
  refine lv_iconst (v := 5) hx hb dX3_copyFrom_82 (by decide) ?_
  refine va_copyi hx hb (by rw [hml]; exact hl.1.symm) hown z11_ z12_ z13_ z14_ hK hP hD hS 9 1 1 1 rfl rfl rfl rfl rfl (by decide) (by decide) (by decide) (by decide +kernel) (by decide +kernel) (fun _ _ => rfl) (Nat.le_of_ble_eq_true rfl) (Nat.le_of_ble_eq_true (by decide +kernel)) dX3_copyFrom_83 (fun H locs hP hD hS => ?_)
  have hP : va_P D vwCl [(g, .inr (3, [.int owd, .int ohi, .int odr, .int owi, .long ohe, .long ofo, .int ope, .int ote, .int ore, .ref k0, .ref k1, .ref k2, .ref k3, .ref k4, .ref k5, .ref k6])), (k0, .inl (cy 1, 5, .inl (va_cpy e0 fa0 (0 : Int32).toNatClampNeg (0 : Int32).toNatClampNeg (5 : Int32).toNatClampNeg))), (k1, .inl (cy 1, 5, .inl fa1)), (k2, .inl (cy 1, 5, .inl fa2)), (k3, .inl (cy 1, 6, .inl fa3)), (k4, .inl (cy 1, 6, .inl fa4)), (k5, .inl (cy 1, 8, .inl fa5)), (k6, .inl (cy 1, 8, .inl fa6)), (o, .inr (3, [.int owd, .int ohi, .int odr, .int owi, .long ohe, .long ofo, .int ope, .int ote, .int ore, .ref ok0, .ref ok1, .ref ok2, .ref ok3, .ref ok4, .ref ok5, .ref ok6])), (ok0, .inl (cy 1, 5, .inl e0)), (ok1, .inl (cy 1, 5, .inl e1)), (ok2, .inl (cy 1, 5, .inl e2)), (ok3, .inl (cy 1, 6, .inl e3)), (ok4, .inl (cy 1, 6, .inl e4)), (ok5, .inl (cy 1, 8, .inl e5)), (ok6, .inl (cy 1, 8, .inl e6))] H := hP
  have hD : va_D A [(g, .inr (3, [.int owd, .int ohi, .int odr, .int owi, .long ohe, .long ofo, .int ope, .int ote, .int ore, .ref k0, .ref k1, .ref k2, .ref k3, .ref k4, .ref k5, .ref k6])), (k0, .inl (cy 1, 5, .inl (va_cpy e0 fa0 (0 : Int32).toNatClampNeg (0 : Int32).toNatClampNeg (5 : Int32).toNatClampNeg))), (k1, .inl (cy 1, 5, .inl fa1)), (k2, .inl (cy 1, 5, .inl fa2)), (k3, .inl (cy 1, 6, .inl fa3)), (k4, .inl (cy 1, 6, .inl fa4)), (k5, .inl (cy 1, 8, .inl fa5)), (k6, .inl (cy 1, 8, .inl fa6)), (o, .inr (3, [.int owd, .int ohi, .int odr, .int owi, .long ohe, .long ofo, .int ope, .int ote, .int ore, .ref ok0, .ref ok1, .ref ok2, .ref ok3, .ref ok4, .ref ok5, .ref ok6])), (ok0, .inl (cy 1, 5, .inl e0)), (ok1, .inl (cy 1, 5, .inl e1)), (ok2, .inl (cy 1, 5, .inl e2)), (ok3, .inl (cy 1, 6, .inl e3)), (ok4, .inl (cy 1, 6, .inl e4)), (ok5, .inl (cy 1, 8, .inl e5)), (ok6, .inl (cy 1, 8, .inl e6))] := hD
  obtain ⟨f1, ef1⟩ : ∃ y : Nat → Int32, y = va_cpy e0 fa0 (0 : Int32).toNatClampNeg (0 : Int32).toNatClampNeg (5 : Int32).toNatClampNeg := ⟨_, rfl⟩
  rw [← ef1] at hP hD
  have hP : va_P D vwCl [(g, .inr (3, [.int owd, .int ohi, .int odr, .int owi, .long ohe, .long ofo, .int ope, .int ote, .int ore, .ref k0, .ref k1, .ref k2, .ref k3, .ref k4, .ref k5, .ref k6])), (k0, .inl (cy 1, 5, .inl f1)), (k1, .inl (cy 1, 5, .inl fa1)), (k2, .inl (cy 1, 5, .inl fa2)), (k3, .inl (cy 1, 6, .inl fa3)), (k4, .inl (cy 1, 6, .inl fa4)), (k5, .inl (cy 1, 8, .inl fa5)), (k6, .inl (cy 1, 8, .inl fa6)), (o, .inr (3, [.int owd, .int ohi, .int odr, .int owi, .long ohe, .long ofo, .int ope, .int ote, .int ore, .ref ok0, .ref ok1, .ref ok2, .ref ok3, .ref ok4, .ref ok5, .ref ok6])), (ok0, .inl (cy 1, 5, .inl e0)), (ok1, .inl (cy 1, 5, .inl e1)), (ok2, .inl (cy 1, 5, .inl e2)), (ok3, .inl (cy 1, 6, .inl e3)), (ok4, .inl (cy 1, 6, .inl e4)), (ok5, .inl (cy 1, 8, .inl e5)), (ok6, .inl (cy 1, 8, .inl e6))] H := hP
  have hD : va_D A [(g, .inr (3, [.int owd, .int ohi, .int odr, .int owi, .long ohe, .long ofo, .int ope, .int ote, .int ore, .ref k0, .ref k1, .ref k2, .ref k3, .ref k4, .ref k5, .ref k6])), (k0, .inl (cy 1, 5, .inl f1)), (k1, .inl (cy 1, 5, .inl fa1)), (k2, .inl (cy 1, 5, .inl fa2)), (k3, .inl (cy 1, 6, .inl fa3)), (k4, .inl (cy 1, 6, .inl fa4)), (k5, .inl (cy 1, 8, .inl fa5)), (k6, .inl (cy 1, 8, .inl fa6)), (o, .inr (3, [.int owd, .int ohi, .int odr, .int owi, .long ohe, .long ofo, .int ope, .int ote, .int ore, .ref ok0, .ref ok1, .ref ok2, .ref ok3, .ref ok4, .ref ok5, .ref ok6])), (ok0, .inl (cy 1, 5, .inl e0)), (ok1, .inl (cy 1, 5, .inl e1)), (ok2, .inl (cy 1, 5, .inl e2)), (ok3, .inl (cy 1, 6, .inl e3)), (ok4, .inl (cy 1, 6, .inl e4)), (ok5, .inl (cy 1, 8, .inl e5)), (ok6, .inl (cy 1, 8, .inl e6))] := hD
  refine lv_aload_n hx hb dX3_copyFrom_86 rfl (lv_at hl 1 rfl) ?_
  refine va_get (D := D) (ci := 3) (v := .ref ok1) (C := RX3) (T := TX3) (N := 16) hx hb hts zi3_ hown hK hP 8 rfl rfl 10 (by decide) z15_ (fun _ h9 => h9) rfl dX3_copyFrom_87 ?_
  refine lv_iconst (v := 0) hx hb dX3_copyFrom_90 (by decide) ?_
  refine lv_aload_n hx hb dX3_copyFrom_91 rfl (lv_at hl 0 rfl) ?_
  refine va_get (D := D) (ci := 3) (v := .ref k1) (C := RX3) (T := TX3) (N := 16) hx hb hts zi3_ hown hK hP 0 rfl rfl 10 (by decide) z15_ (fun _ h9 => h9) rfl dX3_copyFrom_92 ?_
  refine lv_iconst (v := 0) hx hb dX3_copyFrom_95 (by decide) ?_
  refine lv_iconst (v := 5) hx hb dX3_copyFrom_96 (by decide) ?_
  refine va_copyi hx hb (by rw [hml]; exact hl.1.symm) hown z11_ z12_ z13_ z14_ hK hP hD hS 10 2 1 1 rfl rfl rfl rfl rfl (by decide) (by decide) (by decide) (by decide +kernel) (by decide +kernel) (fun _ _ => rfl) (Nat.le_of_ble_eq_true rfl) (Nat.le_of_ble_eq_true (by decide +kernel)) dX3_copyFrom_97 (fun H locs hP hD hS => ?_)
  have hP : va_P D vwCl [(g, .inr (3, [.int owd, .int ohi, .int odr, .int owi, .long ohe, .long ofo, .int ope, .int ote, .int ore, .ref k0, .ref k1, .ref k2, .ref k3, .ref k4, .ref k5, .ref k6])), (k0, .inl (cy 1, 5, .inl f1)), (k1, .inl (cy 1, 5, .inl (va_cpy e1 fa1 (0 : Int32).toNatClampNeg (0 : Int32).toNatClampNeg (5 : Int32).toNatClampNeg))), (k2, .inl (cy 1, 5, .inl fa2)), (k3, .inl (cy 1, 6, .inl fa3)), (k4, .inl (cy 1, 6, .inl fa4)), (k5, .inl (cy 1, 8, .inl fa5)), (k6, .inl (cy 1, 8, .inl fa6)), (o, .inr (3, [.int owd, .int ohi, .int odr, .int owi, .long ohe, .long ofo, .int ope, .int ote, .int ore, .ref ok0, .ref ok1, .ref ok2, .ref ok3, .ref ok4, .ref ok5, .ref ok6])), (ok0, .inl (cy 1, 5, .inl e0)), (ok1, .inl (cy 1, 5, .inl e1)), (ok2, .inl (cy 1, 5, .inl e2)), (ok3, .inl (cy 1, 6, .inl e3)), (ok4, .inl (cy 1, 6, .inl e4)), (ok5, .inl (cy 1, 8, .inl e5)), (ok6, .inl (cy 1, 8, .inl e6))] H := hP
  have hD : va_D A [(g, .inr (3, [.int owd, .int ohi, .int odr, .int owi, .long ohe, .long ofo, .int ope, .int ote, .int ore, .ref k0, .ref k1, .ref k2, .ref k3, .ref k4, .ref k5, .ref k6])), (k0, .inl (cy 1, 5, .inl f1)), (k1, .inl (cy 1, 5, .inl (va_cpy e1 fa1 (0 : Int32).toNatClampNeg (0 : Int32).toNatClampNeg (5 : Int32).toNatClampNeg))), (k2, .inl (cy 1, 5, .inl fa2)), (k3, .inl (cy 1, 6, .inl fa3)), (k4, .inl (cy 1, 6, .inl fa4)), (k5, .inl (cy 1, 8, .inl fa5)), (k6, .inl (cy 1, 8, .inl fa6)), (o, .inr (3, [.int owd, .int ohi, .int odr, .int owi, .long ohe, .long ofo, .int ope, .int ote, .int ore, .ref ok0, .ref ok1, .ref ok2, .ref ok3, .ref ok4, .ref ok5, .ref ok6])), (ok0, .inl (cy 1, 5, .inl e0)), (ok1, .inl (cy 1, 5, .inl e1)), (ok2, .inl (cy 1, 5, .inl e2)), (ok3, .inl (cy 1, 6, .inl e3)), (ok4, .inl (cy 1, 6, .inl e4)), (ok5, .inl (cy 1, 8, .inl e5)), (ok6, .inl (cy 1, 8, .inl e6))] := hD
  obtain ⟨f2, ef2⟩ : ∃ y : Nat → Int32, y = va_cpy e1 fa1 (0 : Int32).toNatClampNeg (0 : Int32).toNatClampNeg (5 : Int32).toNatClampNeg := ⟨_, rfl⟩
  rw [← ef2] at hP hD
  have hP : va_P D vwCl [(g, .inr (3, [.int owd, .int ohi, .int odr, .int owi, .long ohe, .long ofo, .int ope, .int ote, .int ore, .ref k0, .ref k1, .ref k2, .ref k3, .ref k4, .ref k5, .ref k6])), (k0, .inl (cy 1, 5, .inl f1)), (k1, .inl (cy 1, 5, .inl f2)), (k2, .inl (cy 1, 5, .inl fa2)), (k3, .inl (cy 1, 6, .inl fa3)), (k4, .inl (cy 1, 6, .inl fa4)), (k5, .inl (cy 1, 8, .inl fa5)), (k6, .inl (cy 1, 8, .inl fa6)), (o, .inr (3, [.int owd, .int ohi, .int odr, .int owi, .long ohe, .long ofo, .int ope, .int ote, .int ore, .ref ok0, .ref ok1, .ref ok2, .ref ok3, .ref ok4, .ref ok5, .ref ok6])), (ok0, .inl (cy 1, 5, .inl e0)), (ok1, .inl (cy 1, 5, .inl e1)), (ok2, .inl (cy 1, 5, .inl e2)), (ok3, .inl (cy 1, 6, .inl e3)), (ok4, .inl (cy 1, 6, .inl e4)), (ok5, .inl (cy 1, 8, .inl e5)), (ok6, .inl (cy 1, 8, .inl e6))] H := hP
  have hD : va_D A [(g, .inr (3, [.int owd, .int ohi, .int odr, .int owi, .long ohe, .long ofo, .int ope, .int ote, .int ore, .ref k0, .ref k1, .ref k2, .ref k3, .ref k4, .ref k5, .ref k6])), (k0, .inl (cy 1, 5, .inl f1)), (k1, .inl (cy 1, 5, .inl f2)), (k2, .inl (cy 1, 5, .inl fa2)), (k3, .inl (cy 1, 6, .inl fa3)), (k4, .inl (cy 1, 6, .inl fa4)), (k5, .inl (cy 1, 8, .inl fa5)), (k6, .inl (cy 1, 8, .inl fa6)), (o, .inr (3, [.int owd, .int ohi, .int odr, .int owi, .long ohe, .long ofo, .int ope, .int ote, .int ore, .ref ok0, .ref ok1, .ref ok2, .ref ok3, .ref ok4, .ref ok5, .ref ok6])), (ok0, .inl (cy 1, 5, .inl e0)), (ok1, .inl (cy 1, 5, .inl e1)), (ok2, .inl (cy 1, 5, .inl e2)), (ok3, .inl (cy 1, 6, .inl e3)), (ok4, .inl (cy 1, 6, .inl e4)), (ok5, .inl (cy 1, 8, .inl e5)), (ok6, .inl (cy 1, 8, .inl e6))] := hD
  refine lv_aload_n hx hb dX3_copyFrom_100 rfl (lv_at hl 1 rfl) ?_
  refine va_get (D := D) (ci := 3) (v := .ref ok2) (C := RX3) (T := TX3) (N := 16) hx hb hts zi3_ hown hK hP 8 rfl rfl 11 (by decide) z16_ (fun _ h9 => h9) rfl dX3_copyFrom_101 ?_
  refine lv_iconst (v := 0) hx hb dX3_copyFrom_104 (by decide) ?_
  refine lv_aload_n hx hb dX3_copyFrom_105 rfl (lv_at hl 0 rfl) ?_
  refine va_get (D := D) (ci := 3) (v := .ref k2) (C := RX3) (T := TX3) (N := 16) hx hb hts zi3_ hown hK hP 0 rfl rfl 11 (by decide) z16_ (fun _ h9 => h9) rfl dX3_copyFrom_106 ?_
  refine lv_iconst (v := 0) hx hb dX3_copyFrom_109 (by decide) ?_
  refine lv_iconst (v := 5) hx hb dX3_copyFrom_110 (by decide) ?_
  refine va_copyi hx hb (by rw [hml]; exact hl.1.symm) hown z11_ z12_ z13_ z14_ hK hP hD hS 11 3 1 1 rfl rfl rfl rfl rfl (by decide) (by decide) (by decide) (by decide +kernel) (by decide +kernel) (fun _ _ => rfl) (Nat.le_of_ble_eq_true rfl) (Nat.le_of_ble_eq_true (by decide +kernel)) dX3_copyFrom_111 (fun H locs hP hD hS => ?_)
  have hP : va_P D vwCl [(g, .inr (3, [.int owd, .int ohi, .int odr, .int owi, .long ohe, .long ofo, .int ope, .int ote, .int ore, .ref k0, .ref k1, .ref k2, .ref k3, .ref k4, .ref k5, .ref k6])), (k0, .inl (cy 1, 5, .inl f1)), (k1, .inl (cy 1, 5, .inl f2)), (k2, .inl (cy 1, 5, .inl (va_cpy e2 fa2 (0 : Int32).toNatClampNeg (0 : Int32).toNatClampNeg (5 : Int32).toNatClampNeg))), (k3, .inl (cy 1, 6, .inl fa3)), (k4, .inl (cy 1, 6, .inl fa4)), (k5, .inl (cy 1, 8, .inl fa5)), (k6, .inl (cy 1, 8, .inl fa6)), (o, .inr (3, [.int owd, .int ohi, .int odr, .int owi, .long ohe, .long ofo, .int ope, .int ote, .int ore, .ref ok0, .ref ok1, .ref ok2, .ref ok3, .ref ok4, .ref ok5, .ref ok6])), (ok0, .inl (cy 1, 5, .inl e0)), (ok1, .inl (cy 1, 5, .inl e1)), (ok2, .inl (cy 1, 5, .inl e2)), (ok3, .inl (cy 1, 6, .inl e3)), (ok4, .inl (cy 1, 6, .inl e4)), (ok5, .inl (cy 1, 8, .inl e5)), (ok6, .inl (cy 1, 8, .inl e6))] H := hP
  have hD : va_D A [(g, .inr (3, [.int owd, .int ohi, .int odr, .int owi, .long ohe, .long ofo, .int ope, .int ote, .int ore, .ref k0, .ref k1, .ref k2, .ref k3, .ref k4, .ref k5, .ref k6])), (k0, .inl (cy 1, 5, .inl f1)), (k1, .inl (cy 1, 5, .inl f2)), (k2, .inl (cy 1, 5, .inl (va_cpy e2 fa2 (0 : Int32).toNatClampNeg (0 : Int32).toNatClampNeg (5 : Int32).toNatClampNeg))), (k3, .inl (cy 1, 6, .inl fa3)), (k4, .inl (cy 1, 6, .inl fa4)), (k5, .inl (cy 1, 8, .inl fa5)), (k6, .inl (cy 1, 8, .inl fa6)), (o, .inr (3, [.int owd, .int ohi, .int odr, .int owi, .long ohe, .long ofo, .int ope, .int ote, .int ore, .ref ok0, .ref ok1, .ref ok2, .ref ok3, .ref ok4, .ref ok5, .ref ok6])), (ok0, .inl (cy 1, 5, .inl e0)), (ok1, .inl (cy 1, 5, .inl e1)), (ok2, .inl (cy 1, 5, .inl e2)), (ok3, .inl (cy 1, 6, .inl e3)), (ok4, .inl (cy 1, 6, .inl e4)), (ok5, .inl (cy 1, 8, .inl e5)), (ok6, .inl (cy 1, 8, .inl e6))] := hD
  obtain ⟨f3, ef3⟩ : ∃ y : Nat → Int32, y = va_cpy e2 fa2 (0 : Int32).toNatClampNeg (0 : Int32).toNatClampNeg (5 : Int32).toNatClampNeg := ⟨_, rfl⟩
  rw [← ef3] at hP hD
  have hP : va_P D vwCl [(g, .inr (3, [.int owd, .int ohi, .int odr, .int owi, .long ohe, .long ofo, .int ope, .int ote, .int ore, .ref k0, .ref k1, .ref k2, .ref k3, .ref k4, .ref k5, .ref k6])), (k0, .inl (cy 1, 5, .inl f1)), (k1, .inl (cy 1, 5, .inl f2)), (k2, .inl (cy 1, 5, .inl f3)), (k3, .inl (cy 1, 6, .inl fa3)), (k4, .inl (cy 1, 6, .inl fa4)), (k5, .inl (cy 1, 8, .inl fa5)), (k6, .inl (cy 1, 8, .inl fa6)), (o, .inr (3, [.int owd, .int ohi, .int odr, .int owi, .long ohe, .long ofo, .int ope, .int ote, .int ore, .ref ok0, .ref ok1, .ref ok2, .ref ok3, .ref ok4, .ref ok5, .ref ok6])), (ok0, .inl (cy 1, 5, .inl e0)), (ok1, .inl (cy 1, 5, .inl e1)), (ok2, .inl (cy 1, 5, .inl e2)), (ok3, .inl (cy 1, 6, .inl e3)), (ok4, .inl (cy 1, 6, .inl e4)), (ok5, .inl (cy 1, 8, .inl e5)), (ok6, .inl (cy 1, 8, .inl e6))] H := hP
  have hD : va_D A [(g, .inr (3, [.int owd, .int ohi, .int odr, .int owi, .long ohe, .long ofo, .int ope, .int ote, .int ore, .ref k0, .ref k1, .ref k2, .ref k3, .ref k4, .ref k5, .ref k6])), (k0, .inl (cy 1, 5, .inl f1)), (k1, .inl (cy 1, 5, .inl f2)), (k2, .inl (cy 1, 5, .inl f3)), (k3, .inl (cy 1, 6, .inl fa3)), (k4, .inl (cy 1, 6, .inl fa4)), (k5, .inl (cy 1, 8, .inl fa5)), (k6, .inl (cy 1, 8, .inl fa6)), (o, .inr (3, [.int owd, .int ohi, .int odr, .int owi, .long ohe, .long ofo, .int ope, .int ote, .int ore, .ref ok0, .ref ok1, .ref ok2, .ref ok3, .ref ok4, .ref ok5, .ref ok6])), (ok0, .inl (cy 1, 5, .inl e0)), (ok1, .inl (cy 1, 5, .inl e1)), (ok2, .inl (cy 1, 5, .inl e2)), (ok3, .inl (cy 1, 6, .inl e3)), (ok4, .inl (cy 1, 6, .inl e4)), (ok5, .inl (cy 1, 8, .inl e5)), (ok6, .inl (cy 1, 8, .inl e6))] := hD
  refine lv_aload_n hx hb dX3_copyFrom_114 rfl (lv_at hl 1 rfl) ?_
  refine va_get (D := D) (ci := 3) (v := .ref ok3) (C := RX3) (T := TX3) (N := 16) hx hb hts zi3_ hown hK hP 8 rfl rfl 12 (by decide) z17_ (fun _ h9 => h9) rfl dX3_copyFrom_115 ?_
  refine lv_iconst (v := 0) hx hb dX3_copyFrom_118 (by decide) ?_
  refine lv_aload_n hx hb dX3_copyFrom_119 rfl (lv_at hl 0 rfl) ?_
  refine va_get (D := D) (ci := 3) (v := .ref k3) (C := RX3) (T := TX3) (N := 16) hx hb hts zi3_ hown hK hP 0 rfl rfl 12 (by decide) z17_ (fun _ h9 => h9) rfl dX3_copyFrom_120 ?_
  refine lv_iconst (v := 0) hx hb dX3_copyFrom_123 (by decide) ?_
  refine lv_bipush (v := 6) hx hb dX3_copyFrom_124 (by decide) ?_
  refine va_copyi hx hb (by rw [hml]; exact hl.1.symm) hown z11_ z12_ z13_ z14_ hK hP hD hS 12 4 1 1 rfl rfl rfl rfl rfl (by decide) (by decide) (by decide) (by decide +kernel) (by decide +kernel) (fun _ _ => rfl) (Nat.le_of_ble_eq_true rfl) (Nat.le_of_ble_eq_true (by decide +kernel)) dX3_copyFrom_126 (fun H locs hP hD hS => ?_)
  have hP : va_P D vwCl [(g, .inr (3, [.int owd, .int ohi, .int odr, .int owi, .long ohe, .long ofo, .int ope, .int ote, .int ore, .ref k0, .ref k1, .ref k2, .ref k3, .ref k4, .ref k5, .ref k6])), (k0, .inl (cy 1, 5, .inl f1)), (k1, .inl (cy 1, 5, .inl f2)), (k2, .inl (cy 1, 5, .inl f3)), (k3, .inl (cy 1, 6, .inl (va_cpy e3 fa3 (0 : Int32).toNatClampNeg (0 : Int32).toNatClampNeg (6 : Int32).toNatClampNeg))), (k4, .inl (cy 1, 6, .inl fa4)), (k5, .inl (cy 1, 8, .inl fa5)), (k6, .inl (cy 1, 8, .inl fa6)), (o, .inr (3, [.int owd, .int ohi, .int odr, .int owi, .long ohe, .long ofo, .int ope, .int ote, .int ore, .ref ok0, .ref ok1, .ref ok2, .ref ok3, .ref ok4, .ref ok5, .ref ok6])), (ok0, .inl (cy 1, 5, .inl e0)), (ok1, .inl (cy 1, 5, .inl e1)), (ok2, .inl (cy 1, 5, .inl e2)), (ok3, .inl (cy 1, 6, .inl e3)), (ok4, .inl (cy 1, 6, .inl e4)), (ok5, .inl (cy 1, 8, .inl e5)), (ok6, .inl (cy 1, 8, .inl e6))] H := hP
  have hD : va_D A [(g, .inr (3, [.int owd, .int ohi, .int odr, .int owi, .long ohe, .long ofo, .int ope, .int ote, .int ore, .ref k0, .ref k1, .ref k2, .ref k3, .ref k4, .ref k5, .ref k6])), (k0, .inl (cy 1, 5, .inl f1)), (k1, .inl (cy 1, 5, .inl f2)), (k2, .inl (cy 1, 5, .inl f3)), (k3, .inl (cy 1, 6, .inl (va_cpy e3 fa3 (0 : Int32).toNatClampNeg (0 : Int32).toNatClampNeg (6 : Int32).toNatClampNeg))), (k4, .inl (cy 1, 6, .inl fa4)), (k5, .inl (cy 1, 8, .inl fa5)), (k6, .inl (cy 1, 8, .inl fa6)), (o, .inr (3, [.int owd, .int ohi, .int odr, .int owi, .long ohe, .long ofo, .int ope, .int ote, .int ore, .ref ok0, .ref ok1, .ref ok2, .ref ok3, .ref ok4, .ref ok5, .ref ok6])), (ok0, .inl (cy 1, 5, .inl e0)), (ok1, .inl (cy 1, 5, .inl e1)), (ok2, .inl (cy 1, 5, .inl e2)), (ok3, .inl (cy 1, 6, .inl e3)), (ok4, .inl (cy 1, 6, .inl e4)), (ok5, .inl (cy 1, 8, .inl e5)), (ok6, .inl (cy 1, 8, .inl e6))] := hD
  obtain ⟨f4, ef4⟩ : ∃ y : Nat → Int32, y = va_cpy e3 fa3 (0 : Int32).toNatClampNeg (0 : Int32).toNatClampNeg (6 : Int32).toNatClampNeg := ⟨_, rfl⟩
  rw [← ef4] at hP hD
  have hP : va_P D vwCl [(g, .inr (3, [.int owd, .int ohi, .int odr, .int owi, .long ohe, .long ofo, .int ope, .int ote, .int ore, .ref k0, .ref k1, .ref k2, .ref k3, .ref k4, .ref k5, .ref k6])), (k0, .inl (cy 1, 5, .inl f1)), (k1, .inl (cy 1, 5, .inl f2)), (k2, .inl (cy 1, 5, .inl f3)), (k3, .inl (cy 1, 6, .inl f4)), (k4, .inl (cy 1, 6, .inl fa4)), (k5, .inl (cy 1, 8, .inl fa5)), (k6, .inl (cy 1, 8, .inl fa6)), (o, .inr (3, [.int owd, .int ohi, .int odr, .int owi, .long ohe, .long ofo, .int ope, .int ote, .int ore, .ref ok0, .ref ok1, .ref ok2, .ref ok3, .ref ok4, .ref ok5, .ref ok6])), (ok0, .inl (cy 1, 5, .inl e0)), (ok1, .inl (cy 1, 5, .inl e1)), (ok2, .inl (cy 1, 5, .inl e2)), (ok3, .inl (cy 1, 6, .inl e3)), (ok4, .inl (cy 1, 6, .inl e4)), (ok5, .inl (cy 1, 8, .inl e5)), (ok6, .inl (cy 1, 8, .inl e6))] H := hP
  have hD : va_D A [(g, .inr (3, [.int owd, .int ohi, .int odr, .int owi, .long ohe, .long ofo, .int ope, .int ote, .int ore, .ref k0, .ref k1, .ref k2, .ref k3, .ref k4, .ref k5, .ref k6])), (k0, .inl (cy 1, 5, .inl f1)), (k1, .inl (cy 1, 5, .inl f2)), (k2, .inl (cy 1, 5, .inl f3)), (k3, .inl (cy 1, 6, .inl f4)), (k4, .inl (cy 1, 6, .inl fa4)), (k5, .inl (cy 1, 8, .inl fa5)), (k6, .inl (cy 1, 8, .inl fa6)), (o, .inr (3, [.int owd, .int ohi, .int odr, .int owi, .long ohe, .long ofo, .int ope, .int ote, .int ore, .ref ok0, .ref ok1, .ref ok2, .ref ok3, .ref ok4, .ref ok5, .ref ok6])), (ok0, .inl (cy 1, 5, .inl e0)), (ok1, .inl (cy 1, 5, .inl e1)), (ok2, .inl (cy 1, 5, .inl e2)), (ok3, .inl (cy 1, 6, .inl e3)), (ok4, .inl (cy 1, 6, .inl e4)), (ok5, .inl (cy 1, 8, .inl e5)), (ok6, .inl (cy 1, 8, .inl e6))] := hD
  refine lv_aload_n hx hb dX3_copyFrom_129 rfl (lv_at hl 1 rfl) ?_
  refine va_get (D := D) (ci := 3) (v := .ref ok4) (C := RX3) (T := TX3) (N := 16) hx hb hts zi3_ hown hK hP 8 rfl rfl 13 (by decide) z18_ (fun _ h9 => h9) rfl dX3_copyFrom_130 ?_
  refine lv_iconst (v := 0) hx hb dX3_copyFrom_133 (by decide) ?_
  refine lv_aload_n hx hb dX3_copyFrom_134 rfl (lv_at hl 0 rfl) ?_
  refine va_get (D := D) (ci := 3) (v := .ref k4) (C := RX3) (T := TX3) (N := 16) hx hb hts zi3_ hown hK hP 0 rfl rfl 13 (by decide) z18_ (fun _ h9 => h9) rfl dX3_copyFrom_135 ?_
  refine lv_iconst (v := 0) hx hb dX3_copyFrom_138 (by decide) ?_
  refine lv_bipush (v := 6) hx hb dX3_copyFrom_139 (by decide) ?_
  refine va_copyi hx hb (by rw [hml]; exact hl.1.symm) hown z11_ z12_ z13_ z14_ hK hP hD hS 13 5 1 1 rfl rfl rfl rfl rfl (by decide) (by decide) (by decide) (by decide +kernel) (by decide +kernel) (fun _ _ => rfl) (Nat.le_of_ble_eq_true rfl) (Nat.le_of_ble_eq_true (by decide +kernel)) dX3_copyFrom_141 (fun H locs hP hD hS => ?_)
  have hP : va_P D vwCl [(g, .inr (3, [.int owd, .int ohi, .int odr, .int owi, .long ohe, .long ofo, .int ope, .int ote, .int ore, .ref k0, .ref k1, .ref k2, .ref k3, .ref k4, .ref k5, .ref k6])), (k0, .inl (cy 1, 5, .inl f1)), (k1, .inl (cy 1, 5, .inl f2)), (k2, .inl (cy 1, 5, .inl f3)), (k3, .inl (cy 1, 6, .inl f4)), (k4, .inl (cy 1, 6, .inl (va_cpy e4 fa4 (0 : Int32).toNatClampNeg (0 : Int32).toNatClampNeg (6 : Int32).toNatClampNeg))), (k5, .inl (cy 1, 8, .inl fa5)), (k6, .inl (cy 1, 8, .inl fa6)), (o, .inr (3, [.int owd, .int ohi, .int odr, .int owi, .long ohe, .long ofo, .int ope, .int ote, .int ore, .ref ok0, .ref ok1, .ref ok2, .ref ok3, .ref ok4, .ref ok5, .ref ok6])), (ok0, .inl (cy 1, 5, .inl e0)), (ok1, .inl (cy 1, 5, .inl e1)), (ok2, .inl (cy 1, 5, .inl e2)), (ok3, .inl (cy 1, 6, .inl e3)), (ok4, .inl (cy 1, 6, .inl e4)), (ok5, .inl (cy 1, 8, .inl e5)), (ok6, .inl (cy 1, 8, .inl e6))] H := hP
  have hD : va_D A [(g, .inr (3, [.int owd, .int ohi, .int odr, .int owi, .long ohe, .long ofo, .int ope, .int ote, .int ore, .ref k0, .ref k1, .ref k2, .ref k3, .ref k4, .ref k5, .ref k6])), (k0, .inl (cy 1, 5, .inl f1)), (k1, .inl (cy 1, 5, .inl f2)), (k2, .inl (cy 1, 5, .inl f3)), (k3, .inl (cy 1, 6, .inl f4)), (k4, .inl (cy 1, 6, .inl (va_cpy e4 fa4 (0 : Int32).toNatClampNeg (0 : Int32).toNatClampNeg (6 : Int32).toNatClampNeg))), (k5, .inl (cy 1, 8, .inl fa5)), (k6, .inl (cy 1, 8, .inl fa6)), (o, .inr (3, [.int owd, .int ohi, .int odr, .int owi, .long ohe, .long ofo, .int ope, .int ote, .int ore, .ref ok0, .ref ok1, .ref ok2, .ref ok3, .ref ok4, .ref ok5, .ref ok6])), (ok0, .inl (cy 1, 5, .inl e0)), (ok1, .inl (cy 1, 5, .inl e1)), (ok2, .inl (cy 1, 5, .inl e2)), (ok3, .inl (cy 1, 6, .inl e3)), (ok4, .inl (cy 1, 6, .inl e4)), (ok5, .inl (cy 1, 8, .inl e5)), (ok6, .inl (cy 1, 8, .inl e6))] := hD
  obtain ⟨f5, ef5⟩ : ∃ y : Nat → Int32, y = va_cpy e4 fa4 (0 : Int32).toNatClampNeg (0 : Int32).toNatClampNeg (6 : Int32).toNatClampNeg := ⟨_, rfl⟩
  rw [← ef5] at hP hD
  have hP : va_P D vwCl [(g, .inr (3, [.int owd, .int ohi, .int odr, .int owi, .long ohe, .long ofo, .int ope, .int ote, .int ore, .ref k0, .ref k1, .ref k2, .ref k3, .ref k4, .ref k5, .ref k6])), (k0, .inl (cy 1, 5, .inl f1)), (k1, .inl (cy 1, 5, .inl f2)), (k2, .inl (cy 1, 5, .inl f3)), (k3, .inl (cy 1, 6, .inl f4)), (k4, .inl (cy 1, 6, .inl f5)), (k5, .inl (cy 1, 8, .inl fa5)), (k6, .inl (cy 1, 8, .inl fa6)), (o, .inr (3, [.int owd, .int ohi, .int odr, .int owi, .long ohe, .long ofo, .int ope, .int ote, .int ore, .ref ok0, .ref ok1, .ref ok2, .ref ok3, .ref ok4, .ref ok5, .ref ok6])), (ok0, .inl (cy 1, 5, .inl e0)), (ok1, .inl (cy 1, 5, .inl e1)), (ok2, .inl (cy 1, 5, .inl e2)), (ok3, .inl (cy 1, 6, .inl e3)), (ok4, .inl (cy 1, 6, .inl e4)), (ok5, .inl (cy 1, 8, .inl e5)), (ok6, .inl (cy 1, 8, .inl e6))] H := hP
  have hD : va_D A [(g, .inr (3, [.int owd, .int ohi, .int odr, .int owi, .long ohe, .long ofo, .int ope, .int ote, .int ore, .ref k0, .ref k1, .ref k2, .ref k3, .ref k4, .ref k5, .ref k6])), (k0, .inl (cy 1, 5, .inl f1)), (k1, .inl (cy 1, 5, .inl f2)), (k2, .inl (cy 1, 5, .inl f3)), (k3, .inl (cy 1, 6, .inl f4)), (k4, .inl (cy 1, 6, .inl f5)), (k5, .inl (cy 1, 8, .inl fa5)), (k6, .inl (cy 1, 8, .inl fa6)), (o, .inr (3, [.int owd, .int ohi, .int odr, .int owi, .long ohe, .long ofo, .int ope, .int ote, .int ore, .ref ok0, .ref ok1, .ref ok2, .ref ok3, .ref ok4, .ref ok5, .ref ok6])), (ok0, .inl (cy 1, 5, .inl e0)), (ok1, .inl (cy 1, 5, .inl e1)), (ok2, .inl (cy 1, 5, .inl e2)), (ok3, .inl (cy 1, 6, .inl e3)), (ok4, .inl (cy 1, 6, .inl e4)), (ok5, .inl (cy 1, 8, .inl e5)), (ok6, .inl (cy 1, 8, .inl e6))] := hD
  refine lv_aload_n hx hb dX3_copyFrom_144 rfl (lv_at hl 1 rfl) ?_
  refine va_get (D := D) (ci := 3) (v := .ref ok5) (C := RX3) (T := TX3) (N := 16) hx hb hts zi3_ hown hK hP 8 rfl rfl 14 (by decide) z19_ (fun _ h9 => h9) rfl dX3_copyFrom_145 ?_
  refine lv_iconst (v := 0) hx hb dX3_copyFrom_148 (by decide) ?_
  refine lv_aload_n hx hb dX3_copyFrom_149 rfl (lv_at hl 0 rfl) ?_
  refine va_get (D := D) (ci := 3) (v := .ref k5) (C := RX3) (T := TX3) (N := 16) hx hb hts zi3_ hown hK hP 0 rfl rfl 14 (by decide) z19_ (fun _ h9 => h9) rfl dX3_copyFrom_150 ?_
  refine lv_iconst (v := 0) hx hb dX3_copyFrom_153 (by decide) ?_
  refine lv_bipush (v := 8) hx hb dX3_copyFrom_154 (by decide) ?_
  refine va_copyi hx hb (by rw [hml]; exact hl.1.symm) hown z11_ z12_ z13_ z14_ hK hP hD hS 14 6 1 1 rfl rfl rfl rfl rfl (by decide) (by decide) (by decide) (by decide +kernel) (by decide +kernel) (fun _ _ => rfl) (Nat.le_of_ble_eq_true rfl) (Nat.le_of_ble_eq_true (by decide +kernel)) dX3_copyFrom_156 (fun H locs hP hD hS => ?_)
  have hP : va_P D vwCl [(g, .inr (3, [.int owd, .int ohi, .int odr, .int owi, .long ohe, .long ofo, .int ope, .int ote, .int ore, .ref k0, .ref k1, .ref k2, .ref k3, .ref k4, .ref k5, .ref k6])), (k0, .inl (cy 1, 5, .inl f1)), (k1, .inl (cy 1, 5, .inl f2)), (k2, .inl (cy 1, 5, .inl f3)), (k3, .inl (cy 1, 6, .inl f4)), (k4, .inl (cy 1, 6, .inl f5)), (k5, .inl (cy 1, 8, .inl (va_cpy e5 fa5 (0 : Int32).toNatClampNeg (0 : Int32).toNatClampNeg (8 : Int32).toNatClampNeg))), (k6, .inl (cy 1, 8, .inl fa6)), (o, .inr (3, [.int owd, .int ohi, .int odr, .int owi, .long ohe, .long ofo, .int ope, .int ote, .int ore, .ref ok0, .ref ok1, .ref ok2, .ref ok3, .ref ok4, .ref ok5, .ref ok6])), (ok0, .inl (cy 1, 5, .inl e0)), (ok1, .inl (cy 1, 5, .inl e1)), (ok2, .inl (cy 1, 5, .inl e2)), (ok3, .inl (cy 1, 6, .inl e3)), (ok4, .inl (cy 1, 6, .inl e4)), (ok5, .inl (cy 1, 8, .inl e5)), (ok6, .inl (cy 1, 8, .inl e6))] H := hP
  have hD : va_D A [(g, .inr (3, [.int owd, .int ohi, .int odr, .int owi, .long ohe, .long ofo, .int ope, .int ote, .int ore, .ref k0, .ref k1, .ref k2, .ref k3, .ref k4, .ref k5, .ref k6])), (k0, .inl (cy 1, 5, .inl f1)), (k1, .inl (cy 1, 5, .inl f2)), (k2, .inl (cy 1, 5, .inl f3)), (k3, .inl (cy 1, 6, .inl f4)), (k4, .inl (cy 1, 6, .inl f5)), (k5, .inl (cy 1, 8, .inl (va_cpy e5 fa5 (0 : Int32).toNatClampNeg (0 : Int32).toNatClampNeg (8 : Int32).toNatClampNeg))), (k6, .inl (cy 1, 8, .inl fa6)), (o, .inr (3, [.int owd, .int ohi, .int odr, .int owi, .long ohe, .long ofo, .int ope, .int ote, .int ore, .ref ok0, .ref ok1, .ref ok2, .ref ok3, .ref ok4, .ref ok5, .ref ok6])), (ok0, .inl (cy 1, 5, .inl e0)), (ok1, .inl (cy 1, 5, .inl e1)), (ok2, .inl (cy 1, 5, .inl e2)), (ok3, .inl (cy 1, 6, .inl e3)), (ok4, .inl (cy 1, 6, .inl e4)), (ok5, .inl (cy 1, 8, .inl e5)), (ok6, .inl (cy 1, 8, .inl e6))] := hD
  obtain ⟨f6, ef6⟩ : ∃ y : Nat → Int32, y = va_cpy e5 fa5 (0 : Int32).toNatClampNeg (0 : Int32).toNatClampNeg (8 : Int32).toNatClampNeg := ⟨_, rfl⟩
  rw [← ef6] at hP hD
  have hP : va_P D vwCl [(g, .inr (3, [.int owd, .int ohi, .int odr, .int owi, .long ohe, .long ofo, .int ope, .int ote, .int ore, .ref k0, .ref k1, .ref k2, .ref k3, .ref k4, .ref k5, .ref k6])), (k0, .inl (cy 1, 5, .inl f1)), (k1, .inl (cy 1, 5, .inl f2)), (k2, .inl (cy 1, 5, .inl f3)), (k3, .inl (cy 1, 6, .inl f4)), (k4, .inl (cy 1, 6, .inl f5)), (k5, .inl (cy 1, 8, .inl f6)), (k6, .inl (cy 1, 8, .inl fa6)), (o, .inr (3, [.int owd, .int ohi, .int odr, .int owi, .long ohe, .long ofo, .int ope, .int ote, .int ore, .ref ok0, .ref ok1, .ref ok2, .ref ok3, .ref ok4, .ref ok5, .ref ok6])), (ok0, .inl (cy 1, 5, .inl e0)), (ok1, .inl (cy 1, 5, .inl e1)), (ok2, .inl (cy 1, 5, .inl e2)), (ok3, .inl (cy 1, 6, .inl e3)), (ok4, .inl (cy 1, 6, .inl e4)), (ok5, .inl (cy 1, 8, .inl e5)), (ok6, .inl (cy 1, 8, .inl e6))] H := hP
  have hD : va_D A [(g, .inr (3, [.int owd, .int ohi, .int odr, .int owi, .long ohe, .long ofo, .int ope, .int ote, .int ore, .ref k0, .ref k1, .ref k2, .ref k3, .ref k4, .ref k5, .ref k6])), (k0, .inl (cy 1, 5, .inl f1)), (k1, .inl (cy 1, 5, .inl f2)), (k2, .inl (cy 1, 5, .inl f3)), (k3, .inl (cy 1, 6, .inl f4)), (k4, .inl (cy 1, 6, .inl f5)), (k5, .inl (cy 1, 8, .inl f6)), (k6, .inl (cy 1, 8, .inl fa6)), (o, .inr (3, [.int owd, .int ohi, .int odr, .int owi, .long ohe, .long ofo, .int ope, .int ote, .int ore, .ref ok0, .ref ok1, .ref ok2, .ref ok3, .ref ok4, .ref ok5, .ref ok6])), (ok0, .inl (cy 1, 5, .inl e0)), (ok1, .inl (cy 1, 5, .inl e1)), (ok2, .inl (cy 1, 5, .inl e2)), (ok3, .inl (cy 1, 6, .inl e3)), (ok4, .inl (cy 1, 6, .inl e4)), (ok5, .inl (cy 1, 8, .inl e5)), (ok6, .inl (cy 1, 8, .inl e6))] := hD
  refine lv_aload_n hx hb dX3_copyFrom_159 rfl (lv_at hl 1 rfl) ?_
  refine va_get (D := D) (ci := 3) (v := .ref ok6) (C := RX3) (T := TX3) (N := 16) hx hb hts zi3_ hown hK hP 8 rfl rfl 15 (by decide) z20_ (fun _ h9 => h9) rfl dX3_copyFrom_160 ?_
  refine lv_iconst (v := 0) hx hb dX3_copyFrom_163 (by decide) ?_
  refine lv_aload_n hx hb dX3_copyFrom_164 rfl (lv_at hl 0 rfl) ?_
  refine va_get (D := D) (ci := 3) (v := .ref k6) (C := RX3) (T := TX3) (N := 16) hx hb hts zi3_ hown hK hP 0 rfl rfl 15 (by decide) z20_ (fun _ h9 => h9) rfl dX3_copyFrom_165 ?_
  refine lv_iconst (v := 0) hx hb dX3_copyFrom_168 (by decide) ?_
  refine lv_bipush (v := 8) hx hb dX3_copyFrom_169 (by decide) ?_
  refine va_copyi hx hb (by rw [hml]; exact hl.1.symm) hown z11_ z12_ z13_ z14_ hK hP hD hS 15 7 1 1 rfl rfl rfl rfl rfl (by decide) (by decide) (by decide) (by decide +kernel) (by decide +kernel) (fun _ _ => rfl) (Nat.le_of_ble_eq_true rfl) (Nat.le_of_ble_eq_true (by decide +kernel)) dX3_copyFrom_171 (fun H locs hP hD hS => ?_)
  have hP : va_P D vwCl [(g, .inr (3, [.int owd, .int ohi, .int odr, .int owi, .long ohe, .long ofo, .int ope, .int ote, .int ore, .ref k0, .ref k1, .ref k2, .ref k3, .ref k4, .ref k5, .ref k6])), (k0, .inl (cy 1, 5, .inl f1)), (k1, .inl (cy 1, 5, .inl f2)), (k2, .inl (cy 1, 5, .inl f3)), (k3, .inl (cy 1, 6, .inl f4)), (k4, .inl (cy 1, 6, .inl f5)), (k5, .inl (cy 1, 8, .inl f6)), (k6, .inl (cy 1, 8, .inl (va_cpy e6 fa6 (0 : Int32).toNatClampNeg (0 : Int32).toNatClampNeg (8 : Int32).toNatClampNeg))), (o, .inr (3, [.int owd, .int ohi, .int odr, .int owi, .long ohe, .long ofo, .int ope, .int ote, .int ore, .ref ok0, .ref ok1, .ref ok2, .ref ok3, .ref ok4, .ref ok5, .ref ok6])), (ok0, .inl (cy 1, 5, .inl e0)), (ok1, .inl (cy 1, 5, .inl e1)), (ok2, .inl (cy 1, 5, .inl e2)), (ok3, .inl (cy 1, 6, .inl e3)), (ok4, .inl (cy 1, 6, .inl e4)), (ok5, .inl (cy 1, 8, .inl e5)), (ok6, .inl (cy 1, 8, .inl e6))] H := hP
  have hD : va_D A [(g, .inr (3, [.int owd, .int ohi, .int odr, .int owi, .long ohe, .long ofo, .int ope, .int ote, .int ore, .ref k0, .ref k1, .ref k2, .ref k3, .ref k4, .ref k5, .ref k6])), (k0, .inl (cy 1, 5, .inl f1)), (k1, .inl (cy 1, 5, .inl f2)), (k2, .inl (cy 1, 5, .inl f3)), (k3, .inl (cy 1, 6, .inl f4)), (k4, .inl (cy 1, 6, .inl f5)), (k5, .inl (cy 1, 8, .inl f6)), (k6, .inl (cy 1, 8, .inl (va_cpy e6 fa6 (0 : Int32).toNatClampNeg (0 : Int32).toNatClampNeg (8 : Int32).toNatClampNeg))), (o, .inr (3, [.int owd, .int ohi, .int odr, .int owi, .long ohe, .long ofo, .int ope, .int ote, .int ore, .ref ok0, .ref ok1, .ref ok2, .ref ok3, .ref ok4, .ref ok5, .ref ok6])), (ok0, .inl (cy 1, 5, .inl e0)), (ok1, .inl (cy 1, 5, .inl e1)), (ok2, .inl (cy 1, 5, .inl e2)), (ok3, .inl (cy 1, 6, .inl e3)), (ok4, .inl (cy 1, 6, .inl e4)), (ok5, .inl (cy 1, 8, .inl e5)), (ok6, .inl (cy 1, 8, .inl e6))] := hD
  obtain ⟨f7, ef7⟩ : ∃ y : Nat → Int32, y = va_cpy e6 fa6 (0 : Int32).toNatClampNeg (0 : Int32).toNatClampNeg (8 : Int32).toNatClampNeg := ⟨_, rfl⟩
  rw [← ef7] at hP hD
  have hP : va_P D vwCl [(g, .inr (3, [.int owd, .int ohi, .int odr, .int owi, .long ohe, .long ofo, .int ope, .int ote, .int ore, .ref k0, .ref k1, .ref k2, .ref k3, .ref k4, .ref k5, .ref k6])), (k0, .inl (cy 1, 5, .inl f1)), (k1, .inl (cy 1, 5, .inl f2)), (k2, .inl (cy 1, 5, .inl f3)), (k3, .inl (cy 1, 6, .inl f4)), (k4, .inl (cy 1, 6, .inl f5)), (k5, .inl (cy 1, 8, .inl f6)), (k6, .inl (cy 1, 8, .inl f7)), (o, .inr (3, [.int owd, .int ohi, .int odr, .int owi, .long ohe, .long ofo, .int ope, .int ote, .int ore, .ref ok0, .ref ok1, .ref ok2, .ref ok3, .ref ok4, .ref ok5, .ref ok6])), (ok0, .inl (cy 1, 5, .inl e0)), (ok1, .inl (cy 1, 5, .inl e1)), (ok2, .inl (cy 1, 5, .inl e2)), (ok3, .inl (cy 1, 6, .inl e3)), (ok4, .inl (cy 1, 6, .inl e4)), (ok5, .inl (cy 1, 8, .inl e5)), (ok6, .inl (cy 1, 8, .inl e6))] H := hP
  have hD : va_D A [(g, .inr (3, [.int owd, .int ohi, .int odr, .int owi, .long ohe, .long ofo, .int ope, .int ote, .int ore, .ref k0, .ref k1, .ref k2, .ref k3, .ref k4, .ref k5, .ref k6])), (k0, .inl (cy 1, 5, .inl f1)), (k1, .inl (cy 1, 5, .inl f2)), (k2, .inl (cy 1, 5, .inl f3)), (k3, .inl (cy 1, 6, .inl f4)), (k4, .inl (cy 1, 6, .inl f5)), (k5, .inl (cy 1, 8, .inl f6)), (k6, .inl (cy 1, 8, .inl f7)), (o, .inr (3, [.int owd, .int ohi, .int odr, .int owi, .long ohe, .long ofo, .int ope, .int ote, .int ore, .ref ok0, .ref ok1, .ref ok2, .ref ok3, .ref ok4, .ref ok5, .ref ok6])), (ok0, .inl (cy 1, 5, .inl e0)), (ok1, .inl (cy 1, 5, .inl e1)), (ok2, .inl (cy 1, 5, .inl e2)), (ok3, .inl (cy 1, 6, .inl e3)), (ok4, .inl (cy 1, 6, .inl e4)), (ok5, .inl (cy 1, 8, .inl e5)), (ok6, .inl (cy 1, 8, .inl e6))] := hD
  have hP9 := hP.sub (ws' := [(g, .inr (3, [.int owd, .int ohi, .int odr, .int owi, .long ohe, .long ofo, .int ope, .int ote, .int ore, .ref k0, .ref k1, .ref k2, .ref k3, .ref k4, .ref k5, .ref k6])), (k0, .inl (cy 1, 5, .inl f1)), (k1, .inl (cy 1, 5, .inl f2)), (k2, .inl (cy 1, 5, .inl f3)), (k3, .inl (cy 1, 6, .inl f4)), (k4, .inl (cy 1, 6, .inl f5)), (k5, .inl (cy 1, 8, .inl f6)), (k6, .inl (cy 1, 8, .inl f7)), (o, .inr (3, [.int owd, .int ohi, .int odr, .int owi, .long ohe, .long ofo, .int ope, .int ote, .int ore, .ref ok0, .ref ok1, .ref ok2, .ref ok3, .ref ok4, .ref ok5, .ref ok6])), (ok0, .inl (cy 1, 5, .inl e0)), (ok1, .inl (cy 1, 5, .inl e1)), (ok2, .inl (cy 1, 5, .inl e2)), (ok3, .inl (cy 1, 6, .inl e3)), (ok4, .inl (cy 1, 6, .inl e4)), (ok5, .inl (cy 1, 8, .inl e5)), (ok6, .inl (cy 1, 8, .inl e6))]) [0, 1, 2, 3, 4, 5, 6, 7, 8, 9, 10, 11, 12, 13, 14, 15] rfl
  have hD9 := hD.sub (ws' := [(g, .inr (3, [.int owd, .int ohi, .int odr, .int owi, .long ohe, .long ofo, .int ope, .int ote, .int ore, .ref k0, .ref k1, .ref k2, .ref k3, .ref k4, .ref k5, .ref k6])), (k0, .inl (cy 1, 5, .inl f1)), (k1, .inl (cy 1, 5, .inl f2)), (k2, .inl (cy 1, 5, .inl f3)), (k3, .inl (cy 1, 6, .inl f4)), (k4, .inl (cy 1, 6, .inl f5)), (k5, .inl (cy 1, 8, .inl f6)), (k6, .inl (cy 1, 8, .inl f7)), (o, .inr (3, [.int owd, .int ohi, .int odr, .int owi, .long ohe, .long ofo, .int ope, .int ote, .int ore, .ref ok0, .ref ok1, .ref ok2, .ref ok3, .ref ok4, .ref ok5, .ref ok6])), (ok0, .inl (cy 1, 5, .inl e0)), (ok1, .inl (cy 1, 5, .inl e1)), (ok2, .inl (cy 1, 5, .inl e2)), (ok3, .inl (cy 1, 6, .inl e3)), (ok4, .inl (cy 1, 6, .inl e4)), (ok5, .inl (cy 1, 8, .inl e5)), (ok6, .inl (cy 1, 8, .inl e6))]) [0, 1, 2, 3, 4, 5, 6, 7, 8, 9, 10, 11, 12, 13, 14, 15] (by decide) rfl
  exact W.vret hx hb hr (fun t ht hW => ⟨⟨(f1, f2, f3, f4, f5, f6, f7), rfl, ⟨(fun j hj => by show f1 j = _; rw [ef1]; exact sb_cpy0 hj), (fun j hj => by show f2 j = _; rw [ef2]; exact sb_cpy0 hj), (fun j hj => by show f3 j = _; rw [ef3]; exact sb_cpy0 hj), (fun j hj => by show f4 j = _; rw [ef4]; exact sb_cpy0 hj), (fun j hj => by show f5 j = _; rw [ef5]; exact sb_cpy0 hj), (fun j hj => by show f6 j = _; rw [ef6]; exact sb_cpy0 hj), (fun j hj => by show f7 j = _; rw [ef7]; exact sb_cpy0 hj)⟩, by rw [ht]; exact hP9, hD9⟩, hS.F ht⟩) hS.2.2 dX3_copyFrom_174

set_option maxHeartbeats 4000000 in
set_option maxRecDepth 100000 in
theorem tp_image (l : Launch) (D : va_G) (cy : Nat → ClassId) (h g df im pn w pa : Nat) (k0 k1 k2 k3 k4 k5 k6 : Nat) (x : Int32) (sz : Nat)  : Met l yX10_image wsX10_image ({ frames := 2, cells := 8, slots := 59, locals := 61 }) (va_Pc [.ref h, .int x] (kPre D cy [(h, .inr (10, [.ref g, .ref df, .ref im, .ref pn, .ref w, .ref pa, .int 0, .int 0, .int 0])), (g, .inr (3, [.int 6, .int 6, .int 1, .int 0, .long 0, .long 0, .int 0, .int 0, .int 0, .ref k0, .ref k1, .ref k2, .ref k3, .ref k4, .ref k5, .ref k6])), (k0, .inl (cy 1, 5, .inl (fun _ => 0))), (k1, .inl (cy 1, 5, .inl (fun _ => 0))), (k2, .inl (cy 1, 5, .inl (fun _ => 0))), (k3, .inl (cy 1, 6, .inl (fun _ => 0))), (k4, .inl (cy 1, 6, .inl (fun _ => 0))), (k5, .inl (cy 1, 8, .inl (fun _ => 0))), (k6, .inl (cy 1, 8, .inl (fun _ => 0))), (im, .inl (cy 3, 2, .inr (.inr (.inr (.inr (fun _ => none))))))] sz)) (va_Qi (fun (r : Int32) (_ : Unit) => r = sp_01 x 1) (fun (u : Unit) t => va_P D vwCl ([]) t.heap ∧ va_D (va_A [(h, .inr (10, [.ref g, .ref df, .ref im, .ref pn, .ref w, .ref pa, .int 0, .int 0, .int 0])), (g, .inr (3, [.int 6, .int 6, .int 1, .int 0, .long 0, .long 0, .int 0, .int 0, .int 0, .ref k0, .ref k1, .ref k2, .ref k3, .ref k4, .ref k5, .ref k6])), (k0, .inl (cy 1, 5, .inl (fun _ => 0))), (k1, .inl (cy 1, 5, .inl (fun _ => 0))), (k2, .inl (cy 1, 5, .inl (fun _ => 0))), (k3, .inl (cy 1, 6, .inl (fun _ => 0))), (k4, .inl (cy 1, 6, .inl (fun _ => 0))), (k5, .inl (cy 1, 8, .inl (fun _ => 0))), (k6, .inl (cy 1, 8, .inl (fun _ => 0))), (im, .inl (cy 3, 2, .inr (.inr (.inr (.inr (fun _ => none))))))] sz) ([])) (va_A [(h, .inr (10, [.ref g, .ref df, .ref im, .ref pn, .ref w, .ref pa, .int 0, .int 0, .int 0])), (g, .inr (3, [.int 6, .int 6, .int 1, .int 0, .long 0, .long 0, .int 0, .int 0, .int 0, .ref k0, .ref k1, .ref k2, .ref k3, .ref k4, .ref k5, .ref k6])), (k0, .inl (cy 1, 5, .inl (fun _ => 0))), (k1, .inl (cy 1, 5, .inl (fun _ => 0))), (k2, .inl (cy 1, 5, .inl (fun _ => 0))), (k3, .inl (cy 1, 6, .inl (fun _ => 0))), (k4, .inl (cy 1, 6, .inl (fun _ => 0))), (k5, .inl (cy 1, 8, .inl (fun _ => 0))), (k6, .inl (cy 1, 8, .inl (fun _ => 0))), (im, .inl (cy 3, 2, .inr (.inr (.inr (.inr (fun _ => none))))))] sz)) 8 59 (va_A [(h, .inr (10, [.ref g, .ref df, .ref im, .ref pn, .ref w, .ref pa, .int 0, .int 0, .int 0])), (g, .inr (3, [.int 6, .int 6, .int 1, .int 0, .long 0, .long 0, .int 0, .int 0, .int 0, .ref k0, .ref k1, .ref k2, .ref k3, .ref k4, .ref k5, .ref k6])), (k0, .inl (cy 1, 5, .inl (fun _ => 0))), (k1, .inl (cy 1, 5, .inl (fun _ => 0))), (k2, .inl (cy 1, 5, .inl (fun _ => 0))), (k3, .inl (cy 1, 6, .inl (fun _ => 0))), (k4, .inl (cy 1, 6, .inl (fun _ => 0))), (k5, .inl (cy 1, 8, .inl (fun _ => 0))), (k6, .inl (cy 1, 8, .inl (fun _ => 0))), (im, .inl (cy 3, 2, .inr (.inr (.inr (.inr (fun _ => none))))))] sz) := by
  refine Met.ofW (cc := cX10_image) (maxL := 3) (ret := (some .int)) (by decide) rfl ?_
  intro p e s m args below meth c s₁ B hml hv
  obtain ⟨rfl, hsz, hP, hKA, hD0⟩ := hv
  have hx := B.exec
  have hb := B.bytes
  have hr := B.returns
  have hts := atoms_spec (ws := wsX10_image) B.pre
  have hown : s.vm.findClass RX10 = some m.cls := findClass_of_methodNamed B.named
  have hlocks := B.notSynchronized
  subst hsz
  have hK := hKA.1
  have hD := hD0.self (sz := s.heap.size)
  generalize hAe : va_A [(h, .inr (10, [.ref g, .ref df, .ref im, .ref pn, .ref w, .ref pa, .int 0, .int 0, .int 0])), (g, .inr (3, [.int 6, .int 6, .int 1, .int 0, .long 0, .long 0, .int 0, .int 0, .int 0, .ref k0, .ref k1, .ref k2, .ref k3, .ref k4, .ref k5, .ref k6])), (k0, .inl (cy 1, 5, .inl (fun _ => 0))), (k1, .inl (cy 1, 5, .inl (fun _ => 0))), (k2, .inl (cy 1, 5, .inl (fun _ => 0))), (k3, .inl (cy 1, 6, .inl (fun _ => 0))), (k4, .inl (cy 1, 6, .inl (fun _ => 0))), (k5, .inl (cy 1, 8, .inl (fun _ => 0))), (k6, .inl (cy 1, 8, .inl (fun _ => 0))), (im, .inl (cy 3, 2, .inr (.inr (.inr (.inr (fun _ => none))))))] s.heap.size = A at hD ⊢
  have hA : ∀ q : Nat, s.heap.size ≤ q → A q := fun q h => by rw [← hAe]; exact Or.inr h
  have hS : va_S A s.heap s.heap [] := va_S.rf
  have hP : va_P D vwCl [(h, .inr (10, [.ref g, .ref df, .ref im, .ref pn, .ref w, .ref pa, .int 0, .int 0, .int 0])), (g, .inr (3, [.int 6, .int 6, .int 1, .int 0, .long 0, .long 0, .int 0, .int 0, .int 0, .ref k0, .ref k1, .ref k2, .ref k3, .ref k4, .ref k5, .ref k6])), (k0, .inl (cy 1, 5, .inl (fun _ => 0))), (k1, .inl (cy 1, 5, .inl (fun _ => 0))), (k2, .inl (cy 1, 5, .inl (fun _ => 0))), (k3, .inl (cy 1, 6, .inl (fun _ => 0))), (k4, .inl (cy 1, 6, .inl (fun _ => 0))), (k5, .inl (cy 1, 8, .inl (fun _ => 0))), (k6, .inl (cy 1, 8, .inl (fun _ => 0))), (im, .inl (cy 3, 2, .inr (.inr (.inr (.inr (fun _ => none))))))] s.heap := hP
  have hl := lv_entry ([.ref h, .int x]) (n := 3) (Nat.le_of_ble_eq_true rfl)
  rw [lg_entry_eq]
  generalize (lg_sl ([.ref h, .int x]) ++ List.replicate (3 - (lg_sl ([.ref h, .int x])).length) Slot.unset).toArray = ls at hl ⊢
  have hl : lv_has ls 3 [(0, .ref h), (1, .int x)] := hl
  have z0_ := hts (.fieldLink RX10 19 "HeardSeen" "images" "[LHeardSeen$Garden;") (by decide +kernel)
  have zi10_ : ∀ w ∈ u_ws RX10 TX10 9, w ∈ wsX10_image := by decide +kernel
  have z2_ := hts (.classLink RX10 7 RX3) (by decide +kernel)
  have z3_ := hts (.instantiable RX3 16) (by decide +kernel)
  have z4_ := hts (.initialized RX3) (by decide +kernel)
  have zi3_ : ∀ w ∈ u_ws RX3 TX3 16, w ∈ wsX10_image := by decide +kernel
  have z6_ := hts (.methodLink RX10 9 yX3_init) (by decide +kernel)
  have z7_ := hts (.instanceMethod yX3_init) (by decide +kernel)
  have z8_ := hts (.fieldLink RX10 10 "HeardSeen" "now" "LHeardSeen$Garden;") (by decide +kernel)
  refine lv_iload_n hx hb dX10_image_0 rfl (lv_at hl 1 rfl) ?_
  refine lv_iconst (v := 0) hx hb dX10_image_1 (by decide) ?_
  refine lv_aload_n hx hb dX10_image_2 rfl (lv_at hl 0 rfl) ?_
  refine va_get (D := D) (ci := 10) (v := .ref im) (C := RX10) (T := TX10) (N := 9) hx hb hts zi10_ hown hK hP 0 rfl rfl 2 (by decide) z0_ (fun _ h9 => h9) rfl dX10_image_3 ?_
  refine va_alen hx hb hK hP 9 3 rfl rfl (v := 2) rfl dX10_image_6 ?_
  refine lv_iconst (v := 1) hx hb dX10_image_7 (by decide) ?_
  refine lv_isub hx hb dX10_image_8 ?_
  refine lv_topi (fun x1 ex1 => ?_)
  obtain rfl : x1 = 1 := by rw [ex1]; decide +kernel
  refine rd_i (va_runS (As := [.int x, .int 0, .int 1]) (rest := []) ⟨hx, hb, hml, hown, hts⟩ (c_X10_isWithin l D cy x 0 1 _) (va_cwS 3 hts gX10_image_X10_isWithin rfl rfl rfl (by decide +kernel) ⟨Nat.le_of_ble_eq_true rfl, Nat.le_of_ble_eq_true rfl⟩) (pS hKA pE (dE (A := A))) rfl rfl hl.1 rfl (lv_room (Nat.le_of_ble_eq_true rfl)) dX10_image_9 ⟨Nat.le_of_ble_eq_true rfl, Nat.le_of_ble_eq_true rfl⟩) hP hS hA (fun r2 H locs hwr2 hP hS => ?_)
  rcases hwr2 with ⟨rfl, har2, hbr2⟩ | ⟨rfl, hnr2⟩
  · skip
    refine lv_if_ne (tgt := 22) hx hb dX10_image_12 (by decide) (fun c3 => ?_) (fun c3 => absurd c3 (by decide))
    refine lv_aload_n hx hb dX10_image_22 rfl (lv_at hl 0 rfl) ?_
    refine va_get (D := D) (ci := 10) (v := .ref im) (C := RX10) (T := TX10) (N := 9) hx hb hts zi10_ hown hK hP 0 rfl rfl 2 (by decide) z0_ (fun _ h9 => h9) rfl dX10_image_23 ?_
    refine lv_iload_n hx hb dX10_image_26 rfl (lv_at hl 1 rfl) ?_
    refine my_aldq hx hb hK hP 9 3 rfl rfl (z_in2 (by assumption) (by assumption)) rfl dX10_image_27 ?_
    refine W.eq (g2 := F0 m 28 ls [.null]) rfl ?_
    refine lv_astore_nN (lv' := [(2, .null), (0, .ref h), (1, .int x)]) hx hb dX10_image_28 rfl hl (by decide) rfl (fun ls hl => ?_)
    refine lv_aload_nN hx hb dX10_image_29 rfl (lv_at hl 0 rfl) ?_
    refine lv_ifnonnullN hx hb dX10_image_30 ?_
    refine va_new (ci := 3) (fs := [.int 0, .int 0, .int 0, .int 0, .long 0, .long 0, .int 0, .int 0, .int 0, .null, .null, .null, .null, .null, .null, .null]) (C := RX3) (T := TX3) (N := 16) hx hb hts zi3_ tyX3 tyX3_ok hown z2_ z3_ z4_ hK hP hD hS hA rfl (fun j hj => by rcases (show j = 0 ∨ j = 1 ∨ j = 2 ∨ j = 3 ∨ j = 4 ∨ j = 5 ∨ j = 6 ∨ j = 7 ∨ j = 8 ∨ j = 9 ∨ j = 10 ∨ j = 11 ∨ j = 12 ∨ j = 13 ∨ j = 14 ∨ j = 15 by omega) with rfl | rfl | rfl | rfl | rfl | rfl | rfl | rfl | rfl | rfl | rfl | rfl | rfl | rfl | rfl | rfl <;> rfl) (Nat.le_of_ble_eq_true rfl) (Nat.le_of_ble_eq_true rfl) dX10_image_33 (fun q4 H hP hD hS => ?_)
    have hP : va_P D vwCl [(h, .inr (10, [.ref g, .ref df, .ref im, .ref pn, .ref w, .ref pa, .int 0, .int 0, .int 0])), (g, .inr (3, [.int 6, .int 6, .int 1, .int 0, .long 0, .long 0, .int 0, .int 0, .int 0, .ref k0, .ref k1, .ref k2, .ref k3, .ref k4, .ref k5, .ref k6])), (k0, .inl (cy 1, 5, .inl (fun _ => 0))), (k1, .inl (cy 1, 5, .inl (fun _ => 0))), (k2, .inl (cy 1, 5, .inl (fun _ => 0))), (k3, .inl (cy 1, 6, .inl (fun _ => 0))), (k4, .inl (cy 1, 6, .inl (fun _ => 0))), (k5, .inl (cy 1, 8, .inl (fun _ => 0))), (k6, .inl (cy 1, 8, .inl (fun _ => 0))), (im, .inl (cy 3, 2, .inr (.inr (.inr (.inr (fun _ => none)))))), (q4, .inr (3, [.int 0, .int 0, .int 0, .int 0, .long 0, .long 0, .int 0, .int 0, .int 0, .null, .null, .null, .null, .null, .null, .null]))] H := hP
    have hD : va_D A [(h, .inr (10, [.ref g, .ref df, .ref im, .ref pn, .ref w, .ref pa, .int 0, .int 0, .int 0])), (g, .inr (3, [.int 6, .int 6, .int 1, .int 0, .long 0, .long 0, .int 0, .int 0, .int 0, .ref k0, .ref k1, .ref k2, .ref k3, .ref k4, .ref k5, .ref k6])), (k0, .inl (cy 1, 5, .inl (fun _ => 0))), (k1, .inl (cy 1, 5, .inl (fun _ => 0))), (k2, .inl (cy 1, 5, .inl (fun _ => 0))), (k3, .inl (cy 1, 6, .inl (fun _ => 0))), (k4, .inl (cy 1, 6, .inl (fun _ => 0))), (k5, .inl (cy 1, 8, .inl (fun _ => 0))), (k6, .inl (cy 1, 8, .inl (fun _ => 0))), (im, .inl (cy 3, 2, .inr (.inr (.inr (.inr (fun _ => none)))))), (q4, .inr (3, [.int 0, .int 0, .int 0, .int 0, .long 0, .long 0, .int 0, .int 0, .int 0, .null, .null, .null, .null, .null, .null, .null]))] := hD
    refine W.widen (k := 1) (n := 16) (Nat.le_of_ble_eq_true rfl) (Nat.le_of_ble_eq_true rfl) ?_
    refine lv_dup hx hb dX10_image_36 rfl ?_
    refine wr_v (wr := [(h, .inr (10, [.ref g, .ref df, .ref im, .ref pn, .ref w, .ref pa, .int 0, .int 0, .int 0])), (g, .inr (3, [.int 6, .int 6, .int 1, .int 0, .long 0, .long 0, .int 0, .int 0, .int 0, .ref k0, .ref k1, .ref k2, .ref k3, .ref k4, .ref k5, .ref k6])), (k0, .inl (cy 1, 5, .inl (fun _ => 0))), (k1, .inl (cy 1, 5, .inl (fun _ => 0))), (k2, .inl (cy 1, 5, .inl (fun _ => 0))), (k3, .inl (cy 1, 6, .inl (fun _ => 0))), (k4, .inl (cy 1, 6, .inl (fun _ => 0))), (k5, .inl (cy 1, 8, .inl (fun _ => 0))), (k6, .inl (cy 1, 8, .inl (fun _ => 0))), (im, .inl (cy 3, 2, .inr (.inr (.inr (.inr (fun _ => none))))))]) (va_runI (As := []) (rest := [.ref q4]) ⟨hx, hb, hml, hown, hts⟩ (c_X3_init l D cy q4 _) (cwI 0 hts gX10_image_X3_init rfl rfl rfl z4_ z6_ z7_ rfl (by decide +kernel) ⟨Nat.le_of_ble_eq_true rfl, Nat.le_of_ble_eq_true rfl⟩) (pS hKA (hP.sub (ws' := [(q4, .inr (3, [.int 0, .int 0, .int 0, .int 0, .long 0, .long 0, .int 0, .int 0, .int 0, .null, .null, .null, .null, .null, .null, .null]))]) [10] rfl) (hD.sub (ws' := [(q4, .inr (3, [.int 0, .int 0, .int 0, .int 0, .long 0, .long 0, .int 0, .int 0, .int 0, .null, .null, .null, .null, .null, .null, .null]))]) [10] (by decide) rfl)) rfl rfl hl.1 rfl (lv_room (Nat.le_of_ble_eq_true rfl)) dX10_image_37 ⟨Nat.le_of_ble_eq_true rfl, Nat.le_of_ble_eq_true rfl⟩) hP hD hS hA [10] [0, 1, 2, 3, 4, 5, 6, 7, 8, 9] rfl rfl (by decide +kernel) (by decide +kernel) (fun ur5 H locs hwr5 hP hD hS => ?_)
    obtain ⟨k_6, k_7, k_8, k_9, k_10, k_11, k_12⟩ := ur5
    have hP : va_P D vwCl [(h, .inr (10, [.ref g, .ref df, .ref im, .ref pn, .ref w, .ref pa, .int 0, .int 0, .int 0])), (g, .inr (3, [.int 6, .int 6, .int 1, .int 0, .long 0, .long 0, .int 0, .int 0, .int 0, .ref k0, .ref k1, .ref k2, .ref k3, .ref k4, .ref k5, .ref k6])), (k0, .inl (cy 1, 5, .inl (fun _ => 0))), (k1, .inl (cy 1, 5, .inl (fun _ => 0))), (k2, .inl (cy 1, 5, .inl (fun _ => 0))), (k3, .inl (cy 1, 6, .inl (fun _ => 0))), (k4, .inl (cy 1, 6, .inl (fun _ => 0))), (k5, .inl (cy 1, 8, .inl (fun _ => 0))), (k6, .inl (cy 1, 8, .inl (fun _ => 0))), (im, .inl (cy 3, 2, .inr (.inr (.inr (.inr (fun _ => none)))))), (q4, .inr (3, [.int 6, .int 6, .int 1, .int 0, .long 0, .long 0, .int 0, .int 0, .int 0, .ref k_6, .ref k_7, .ref k_8, .ref k_9, .ref k_10, .ref k_11, .ref k_12])), (k_6, .inl (cy 1, 5, .inl (fun _ => 0))), (k_7, .inl (cy 1, 5, .inl (fun _ => 0))), (k_8, .inl (cy 1, 5, .inl (fun _ => 0))), (k_9, .inl (cy 1, 6, .inl (fun _ => 0))), (k_10, .inl (cy 1, 6, .inl (fun _ => 0))), (k_11, .inl (cy 1, 8, .inl (fun _ => 0))), (k_12, .inl (cy 1, 8, .inl (fun _ => 0)))] H := hP
    have hD : va_D A [(h, .inr (10, [.ref g, .ref df, .ref im, .ref pn, .ref w, .ref pa, .int 0, .int 0, .int 0])), (g, .inr (3, [.int 6, .int 6, .int 1, .int 0, .long 0, .long 0, .int 0, .int 0, .int 0, .ref k0, .ref k1, .ref k2, .ref k3, .ref k4, .ref k5, .ref k6])), (k0, .inl (cy 1, 5, .inl (fun _ => 0))), (k1, .inl (cy 1, 5, .inl (fun _ => 0))), (k2, .inl (cy 1, 5, .inl (fun _ => 0))), (k3, .inl (cy 1, 6, .inl (fun _ => 0))), (k4, .inl (cy 1, 6, .inl (fun _ => 0))), (k5, .inl (cy 1, 8, .inl (fun _ => 0))), (k6, .inl (cy 1, 8, .inl (fun _ => 0))), (im, .inl (cy 3, 2, .inr (.inr (.inr (.inr (fun _ => none)))))), (q4, .inr (3, [.int 6, .int 6, .int 1, .int 0, .long 0, .long 0, .int 0, .int 0, .int 0, .ref k_6, .ref k_7, .ref k_8, .ref k_9, .ref k_10, .ref k_11, .ref k_12])), (k_6, .inl (cy 1, 5, .inl (fun _ => 0))), (k_7, .inl (cy 1, 5, .inl (fun _ => 0))), (k_8, .inl (cy 1, 5, .inl (fun _ => 0))), (k_9, .inl (cy 1, 6, .inl (fun _ => 0))), (k_10, .inl (cy 1, 6, .inl (fun _ => 0))), (k_11, .inl (cy 1, 8, .inl (fun _ => 0))), (k_12, .inl (cy 1, 8, .inl (fun _ => 0)))] := hD
    refine W.widen (k := 8) (n := 59) (Nat.le_of_ble_eq_true rfl) (Nat.le_of_ble_eq_true rfl) ?_
    refine lv_astore_n (lv' := [(2, .ref q4), (0, .ref h), (1, .int x)]) hx hb dX10_image_40 rfl hl (by decide) rfl (fun ls hl => ?_)
    refine lv_aload_n hx hb dX10_image_41 rfl (lv_at hl 1 rfl) ?_
    refine va_get (D := D) (ci := 10) (v := .ref im) (C := RX10) (T := TX10) (N := 9) hx hb hts zi10_ hown hK hP 0 rfl rfl 2 (by decide) z0_ (fun _ h9 => h9) rfl dX10_image_42 ?_
    refine lv_iload_n hx hb dX10_image_45 rfl (lv_at hl 2 rfl) ?_
    refine lv_aload_n hx hb dX10_image_46 rfl (lv_at hl 0 rfl) ?_
    refine va_astq hx hb hK hP hD hS 9 3 10 3 rfl rfl rfl rfl (z_in2 (by assumption) (by assumption)) dX10_image_47 (fun H locs hP hD hS => ?_)
    have hP : va_P D vwCl [(h, .inr (10, [.ref g, .ref df, .ref im, .ref pn, .ref w, .ref pa, .int 0, .int 0, .int 0])), (g, .inr (3, [.int 6, .int 6, .int 1, .int 0, .long 0, .long 0, .int 0, .int 0, .int 0, .ref k0, .ref k1, .ref k2, .ref k3, .ref k4, .ref k5, .ref k6])), (k0, .inl (cy 1, 5, .inl (fun _ => 0))), (k1, .inl (cy 1, 5, .inl (fun _ => 0))), (k2, .inl (cy 1, 5, .inl (fun _ => 0))), (k3, .inl (cy 1, 6, .inl (fun _ => 0))), (k4, .inl (cy 1, 6, .inl (fun _ => 0))), (k5, .inl (cy 1, 8, .inl (fun _ => 0))), (k6, .inl (cy 1, 8, .inl (fun _ => 0))), (im, .inl (cy 3, 2, .inr (.inr (.inr (.inr (va_up (fun _ => none) x.toNatClampNeg (some q4))))))), (q4, .inr (3, [.int 6, .int 6, .int 1, .int 0, .long 0, .long 0, .int 0, .int 0, .int 0, .ref k_6, .ref k_7, .ref k_8, .ref k_9, .ref k_10, .ref k_11, .ref k_12])), (k_6, .inl (cy 1, 5, .inl (fun _ => 0))), (k_7, .inl (cy 1, 5, .inl (fun _ => 0))), (k_8, .inl (cy 1, 5, .inl (fun _ => 0))), (k_9, .inl (cy 1, 6, .inl (fun _ => 0))), (k_10, .inl (cy 1, 6, .inl (fun _ => 0))), (k_11, .inl (cy 1, 8, .inl (fun _ => 0))), (k_12, .inl (cy 1, 8, .inl (fun _ => 0)))] H := hP
    have hD : va_D A [(h, .inr (10, [.ref g, .ref df, .ref im, .ref pn, .ref w, .ref pa, .int 0, .int 0, .int 0])), (g, .inr (3, [.int 6, .int 6, .int 1, .int 0, .long 0, .long 0, .int 0, .int 0, .int 0, .ref k0, .ref k1, .ref k2, .ref k3, .ref k4, .ref k5, .ref k6])), (k0, .inl (cy 1, 5, .inl (fun _ => 0))), (k1, .inl (cy 1, 5, .inl (fun _ => 0))), (k2, .inl (cy 1, 5, .inl (fun _ => 0))), (k3, .inl (cy 1, 6, .inl (fun _ => 0))), (k4, .inl (cy 1, 6, .inl (fun _ => 0))), (k5, .inl (cy 1, 8, .inl (fun _ => 0))), (k6, .inl (cy 1, 8, .inl (fun _ => 0))), (im, .inl (cy 3, 2, .inr (.inr (.inr (.inr (va_up (fun _ => none) x.toNatClampNeg (some q4))))))), (q4, .inr (3, [.int 6, .int 6, .int 1, .int 0, .long 0, .long 0, .int 0, .int 0, .int 0, .ref k_6, .ref k_7, .ref k_8, .ref k_9, .ref k_10, .ref k_11, .ref k_12])), (k_6, .inl (cy 1, 5, .inl (fun _ => 0))), (k_7, .inl (cy 1, 5, .inl (fun _ => 0))), (k_8, .inl (cy 1, 5, .inl (fun _ => 0))), (k_9, .inl (cy 1, 6, .inl (fun _ => 0))), (k_10, .inl (cy 1, 6, .inl (fun _ => 0))), (k_11, .inl (cy 1, 8, .inl (fun _ => 0))), (k_12, .inl (cy 1, 8, .inl (fun _ => 0)))] := hD
    refine lv_aload_n hx hb dX10_image_48 rfl (lv_at hl 0 rfl) ?_
    refine lv_aload_n hx hb dX10_image_49 rfl (lv_at hl 1 rfl) ?_
    refine va_get (D := D) (ci := 10) (v := .ref g) (C := RX10) (T := TX10) (N := 9) hx hb hts zi10_ hown hK hP 0 rfl rfl 0 (by decide) z8_ (fun _ h9 => h9) rfl dX10_image_50 ?_
    refine wr_v (wr := [(h, .inr (10, [.ref g, .ref df, .ref im, .ref pn, .ref w, .ref pa, .int 0, .int 0, .int 0])), (im, .inl (cy 3, 2, .inr (.inr (.inr (.inr (va_up (fun _ => none) x.toNatClampNeg (some q4)))))))]) (va_runV (As := [.ref g]) (rest := []) ⟨hx, hb, hml, hown, hts⟩ (c_X3_copyFrom l D cy q4 g 6 6 1 0 0 0 0 0 0 k_6 k_7 k_8 k_9 k_10 k_11 k_12 6 6 1 0 0 0 0 0 0 k0 k1 k2 k3 k4 k5 k6 (fun _ => 0) (fun _ => 0) (fun _ => 0) (fun _ => 0) (fun _ => 0) (fun _ => 0) (fun _ => 0) (fun _ => 0) (fun _ => 0) (fun _ => 0) (fun _ => 0) (fun _ => 0) (fun _ => 0) (fun _ => 0) _) (cwV 1 hts gX10_image_X3_copyFrom rfl rfl rfl (by decide +kernel) ⟨Nat.le_of_ble_eq_true rfl, Nat.le_of_ble_eq_true rfl⟩) (pV (ci := 3) (k := 0) hKA (hP.sub (ws' := [(q4, .inr (3, [.int 6, .int 6, .int 1, .int 0, .long 0, .long 0, .int 0, .int 0, .int 0, .ref k_6, .ref k_7, .ref k_8, .ref k_9, .ref k_10, .ref k_11, .ref k_12])), (k_6, .inl (cy 1, 5, .inl (fun _ => 0))), (k_7, .inl (cy 1, 5, .inl (fun _ => 0))), (k_8, .inl (cy 1, 5, .inl (fun _ => 0))), (k_9, .inl (cy 1, 6, .inl (fun _ => 0))), (k_10, .inl (cy 1, 6, .inl (fun _ => 0))), (k_11, .inl (cy 1, 8, .inl (fun _ => 0))), (k_12, .inl (cy 1, 8, .inl (fun _ => 0))), (g, .inr (3, [.int 6, .int 6, .int 1, .int 0, .long 0, .long 0, .int 0, .int 0, .int 0, .ref k0, .ref k1, .ref k2, .ref k3, .ref k4, .ref k5, .ref k6])), (k0, .inl (cy 1, 5, .inl (fun _ => 0))), (k1, .inl (cy 1, 5, .inl (fun _ => 0))), (k2, .inl (cy 1, 5, .inl (fun _ => 0))), (k3, .inl (cy 1, 6, .inl (fun _ => 0))), (k4, .inl (cy 1, 6, .inl (fun _ => 0))), (k5, .inl (cy 1, 8, .inl (fun _ => 0))), (k6, .inl (cy 1, 8, .inl (fun _ => 0)))]) [10, 11, 12, 13, 14, 15, 16, 17, 1, 2, 3, 4, 5, 6, 7, 8] rfl) (hD.sub (ws' := [(q4, .inr (3, [.int 6, .int 6, .int 1, .int 0, .long 0, .long 0, .int 0, .int 0, .int 0, .ref k_6, .ref k_7, .ref k_8, .ref k_9, .ref k_10, .ref k_11, .ref k_12])), (k_6, .inl (cy 1, 5, .inl (fun _ => 0))), (k_7, .inl (cy 1, 5, .inl (fun _ => 0))), (k_8, .inl (cy 1, 5, .inl (fun _ => 0))), (k_9, .inl (cy 1, 6, .inl (fun _ => 0))), (k_10, .inl (cy 1, 6, .inl (fun _ => 0))), (k_11, .inl (cy 1, 8, .inl (fun _ => 0))), (k_12, .inl (cy 1, 8, .inl (fun _ => 0))), (g, .inr (3, [.int 6, .int 6, .int 1, .int 0, .long 0, .long 0, .int 0, .int 0, .int 0, .ref k0, .ref k1, .ref k2, .ref k3, .ref k4, .ref k5, .ref k6])), (k0, .inl (cy 1, 5, .inl (fun _ => 0))), (k1, .inl (cy 1, 5, .inl (fun _ => 0))), (k2, .inl (cy 1, 5, .inl (fun _ => 0))), (k3, .inl (cy 1, 6, .inl (fun _ => 0))), (k4, .inl (cy 1, 6, .inl (fun _ => 0))), (k5, .inl (cy 1, 8, .inl (fun _ => 0))), (k6, .inl (cy 1, 8, .inl (fun _ => 0)))]) [10, 11, 12, 13, 14, 15, 16, 17, 1, 2, 3, 4, 5, 6, 7, 8] (by decide) rfl) rfl rfl) rfl rfl hl.1 rfl (lv_room (Nat.le_of_ble_eq_true rfl)) dX10_image_53 ⟨Nat.le_of_ble_eq_true rfl, Nat.le_of_ble_eq_true rfl⟩) hP hD hS hA [10, 11, 12, 13, 14, 15, 16, 17, 1, 2, 3, 4, 5, 6, 7, 8] [0, 9] rfl rfl (by decide +kernel) (by decide +kernel) (fun ur13 H locs hwr13 hP hD hS => ?_)
    obtain ⟨f14, f15, f16, f17, f18, f19, f20⟩ := ur13
    have hP : va_P D vwCl [(h, .inr (10, [.ref g, .ref df, .ref im, .ref pn, .ref w, .ref pa, .int 0, .int 0, .int 0])), (im, .inl (cy 3, 2, .inr (.inr (.inr (.inr (va_up (fun _ => none) x.toNatClampNeg (some q4))))))), (q4, .inr (3, [.int 6, .int 6, .int 1, .int 0, .long 0, .long 0, .int 0, .int 0, .int 0, .ref k_6, .ref k_7, .ref k_8, .ref k_9, .ref k_10, .ref k_11, .ref k_12])), (k_6, .inl (cy 1, 5, .inl f14)), (k_7, .inl (cy 1, 5, .inl f15)), (k_8, .inl (cy 1, 5, .inl f16)), (k_9, .inl (cy 1, 6, .inl f17)), (k_10, .inl (cy 1, 6, .inl f18)), (k_11, .inl (cy 1, 8, .inl f19)), (k_12, .inl (cy 1, 8, .inl f20)), (g, .inr (3, [.int 6, .int 6, .int 1, .int 0, .long 0, .long 0, .int 0, .int 0, .int 0, .ref k0, .ref k1, .ref k2, .ref k3, .ref k4, .ref k5, .ref k6])), (k0, .inl (cy 1, 5, .inl (fun _ => 0))), (k1, .inl (cy 1, 5, .inl (fun _ => 0))), (k2, .inl (cy 1, 5, .inl (fun _ => 0))), (k3, .inl (cy 1, 6, .inl (fun _ => 0))), (k4, .inl (cy 1, 6, .inl (fun _ => 0))), (k5, .inl (cy 1, 8, .inl (fun _ => 0))), (k6, .inl (cy 1, 8, .inl (fun _ => 0)))] H := hP
    have hD : va_D A [(h, .inr (10, [.ref g, .ref df, .ref im, .ref pn, .ref w, .ref pa, .int 0, .int 0, .int 0])), (im, .inl (cy 3, 2, .inr (.inr (.inr (.inr (va_up (fun _ => none) x.toNatClampNeg (some q4))))))), (q4, .inr (3, [.int 6, .int 6, .int 1, .int 0, .long 0, .long 0, .int 0, .int 0, .int 0, .ref k_6, .ref k_7, .ref k_8, .ref k_9, .ref k_10, .ref k_11, .ref k_12])), (k_6, .inl (cy 1, 5, .inl f14)), (k_7, .inl (cy 1, 5, .inl f15)), (k_8, .inl (cy 1, 5, .inl f16)), (k_9, .inl (cy 1, 6, .inl f17)), (k_10, .inl (cy 1, 6, .inl f18)), (k_11, .inl (cy 1, 8, .inl f19)), (k_12, .inl (cy 1, 8, .inl f20)), (g, .inr (3, [.int 6, .int 6, .int 1, .int 0, .long 0, .long 0, .int 0, .int 0, .int 0, .ref k0, .ref k1, .ref k2, .ref k3, .ref k4, .ref k5, .ref k6])), (k0, .inl (cy 1, 5, .inl (fun _ => 0))), (k1, .inl (cy 1, 5, .inl (fun _ => 0))), (k2, .inl (cy 1, 5, .inl (fun _ => 0))), (k3, .inl (cy 1, 6, .inl (fun _ => 0))), (k4, .inl (cy 1, 6, .inl (fun _ => 0))), (k5, .inl (cy 1, 8, .inl (fun _ => 0))), (k6, .inl (cy 1, 8, .inl (fun _ => 0)))] := hD
    refine lv_iconst (v := 1) hx hb dX10_image_56 (by decide) ?_
    refine W.widen (k := 8) (n := 59) (Nat.le_of_ble_eq_true rfl) (Nat.le_of_ble_eq_true rfl) ?_
    have hP9 := hP.sub (ws' := []) [] rfl
    have hD9 := hD.sub (ws' := []) [] (by decide) rfl
    exact W.iret (v := 1) hx hb hr (fun t ht hW => ⟨⟨1, (), rfl, (by simp [sp_01, har2, hbr2]), by rw [ht]; exact hP9, hD9⟩, hS.F ht⟩) hS.2.2 dX10_image_57
  · skip
    refine lv_if_ne (tgt := 22) hx hb dX10_image_12 (by decide) (fun c21 => absurd c21 (by decide)) (fun c21 => ?_)
    refine lv_aload_n hx hb dX10_image_15 rfl (lv_at hl 0 rfl) ?_
    refine lv_bipush (v := (-2)) hx hb dX10_image_16 (by decide) ?_
    refine wr_i (wr := [(g, .inr (3, [.int 6, .int 6, .int 1, .int 0, .long 0, .long 0, .int 0, .int 0, .int 0, .ref k0, .ref k1, .ref k2, .ref k3, .ref k4, .ref k5, .ref k6])), (k0, .inl (cy 1, 5, .inl (fun _ => 0))), (k1, .inl (cy 1, 5, .inl (fun _ => 0))), (k2, .inl (cy 1, 5, .inl (fun _ => 0))), (k3, .inl (cy 1, 6, .inl (fun _ => 0))), (k4, .inl (cy 1, 6, .inl (fun _ => 0))), (k5, .inl (cy 1, 8, .inl (fun _ => 0))), (k6, .inl (cy 1, 8, .inl (fun _ => 0))), (im, .inl (cy 3, 2, .inr (.inr (.inr (.inr (fun _ => none))))))]) (va_runV (As := [.int (-2)]) (rest := []) ⟨hx, hb, hml, hown, hts⟩ (c_X10_refuseBad l D cy h g df im pn w pa 0 0 0 (-2) _) (cwV 1 hts gX10_image_X10_refuseBad rfl rfl rfl (by decide +kernel) ⟨Nat.le_of_ble_eq_true rfl, Nat.le_of_ble_eq_true rfl⟩) (pV (ci := 10) (k := 0) hKA (hP.sub (ws' := [(h, .inr (10, [.ref g, .ref df, .ref im, .ref pn, .ref w, .ref pa, .int 0, .int 0, .int 0]))]) [0] rfl) (hD.sub (ws' := [(h, .inr (10, [.ref g, .ref df, .ref im, .ref pn, .ref w, .ref pa, .int 0, .int 0, .int 0]))]) [0] (by decide) rfl) rfl rfl) rfl rfl hl.1 rfl (lv_room (Nat.le_of_ble_eq_true rfl)) dX10_image_18 ⟨Nat.le_of_ble_eq_true rfl, Nat.le_of_ble_eq_true rfl⟩) hP hD hS hA [0] [1, 2, 3, 4, 5, 6, 7, 8, 9] rfl rfl (by decide +kernel) (by decide +kernel) (fun r22 ur22 H locs hwr22 hP hD hS => ?_)
    have hP : va_P D vwCl [(g, .inr (3, [.int 6, .int 6, .int 1, .int 0, .long 0, .long 0, .int 0, .int 0, .int 0, .ref k0, .ref k1, .ref k2, .ref k3, .ref k4, .ref k5, .ref k6])), (k0, .inl (cy 1, 5, .inl (fun _ => 0))), (k1, .inl (cy 1, 5, .inl (fun _ => 0))), (k2, .inl (cy 1, 5, .inl (fun _ => 0))), (k3, .inl (cy 1, 6, .inl (fun _ => 0))), (k4, .inl (cy 1, 6, .inl (fun _ => 0))), (k5, .inl (cy 1, 8, .inl (fun _ => 0))), (k6, .inl (cy 1, 8, .inl (fun _ => 0))), (im, .inl (cy 3, 2, .inr (.inr (.inr (.inr (fun _ => none)))))), (h, .inr (10, [.ref g, .ref df, .ref im, .ref pn, .ref w, .ref pa, .int (0 + 1), .int 0, .int 0]))] H := hP
    have hD : va_D A [(g, .inr (3, [.int 6, .int 6, .int 1, .int 0, .long 0, .long 0, .int 0, .int 0, .int 0, .ref k0, .ref k1, .ref k2, .ref k3, .ref k4, .ref k5, .ref k6])), (k0, .inl (cy 1, 5, .inl (fun _ => 0))), (k1, .inl (cy 1, 5, .inl (fun _ => 0))), (k2, .inl (cy 1, 5, .inl (fun _ => 0))), (k3, .inl (cy 1, 6, .inl (fun _ => 0))), (k4, .inl (cy 1, 6, .inl (fun _ => 0))), (k5, .inl (cy 1, 8, .inl (fun _ => 0))), (k6, .inl (cy 1, 8, .inl (fun _ => 0))), (im, .inl (cy 3, 2, .inr (.inr (.inr (.inr (fun _ => none)))))), (h, .inr (10, [.ref g, .ref df, .ref im, .ref pn, .ref w, .ref pa, .int (0 + 1), .int 0, .int 0]))] := hD
    subst hwr22
    refine W.widen (k := 8) (n := 59) (Nat.le_of_ble_eq_true rfl) (Nat.le_of_ble_eq_true rfl) ?_
    have hP9 := hP.sub (ws' := []) [] rfl
    have hD9 := hD.sub (ws' := []) [] (by decide) rfl
    exact W.iret (v := (-2)) hx hb hr (fun t ht hW => ⟨⟨(-2), (), rfl, (by simp [sp_01, hnr2]), by rw [ht]; exact hP9, hD9⟩, hS.F ht⟩) hS.2.2 dX10_image_21
