theorem dX10_isWithin_0 : decode cX10_isWithin 0 = .ok (.iload_n 0, 1) := by decide +kernel
theorem dX10_isWithin_1 : decode cX10_isWithin 1 = .ok (.iload_n 1, 1) := by decide +kernel
theorem dX10_isWithin_2 : decode cX10_isWithin 2 = .ok (.if_icmp .lt 12, 3) := by decide +kernel
theorem dX10_isWithin_14 : decode cX10_isWithin 14 = .ok (.iconst 0, 1) := by decide +kernel
theorem dX10_isWithin_15 : decode cX10_isWithin 15 = .ok (.ireturn, 1) := by decide +kernel
theorem dX10_isWithin_5 : decode cX10_isWithin 5 = .ok (.iload_n 0, 1) := by decide +kernel
theorem dX10_isWithin_6 : decode cX10_isWithin 6 = .ok (.iload_n 2, 1) := by decide +kernel
theorem dX10_isWithin_7 : decode cX10_isWithin 7 = .ok (.if_icmp .gt 7, 3) := by decide +kernel
theorem dX10_isWithin_10 : decode cX10_isWithin 10 = .ok (.iconst 1, 1) := by decide +kernel
theorem dX10_isWithin_11 : decode cX10_isWithin 11 = .ok (.goto 4, 3) := by decide +kernel
theorem dX10_isOn_0 : decode cX10_isOn 0 = .ok (.lload_n 0, 1) := by decide +kernel
theorem dX10_isOn_1 : decode cX10_isOn 1 = .ok (.iload_n 2, 1) := by decide +kernel
theorem dX10_isOn_2 : decode cX10_isOn 2 = .ok (.lshr, 1) := by decide +kernel
theorem dX10_isOn_3 : decode cX10_isOn 3 = .ok (.lconst 1, 1) := by decide +kernel
theorem dX10_isOn_4 : decode cX10_isOn 4 = .ok (.land, 1) := by decide +kernel
theorem dX10_isOn_5 : decode cX10_isOn 5 = .ok (.lconst 1, 1) := by decide +kernel
theorem dX10_isOn_6 : decode cX10_isOn 6 = .ok (.lcmp, 1) := by decide +kernel
theorem dX10_isOn_7 : decode cX10_isOn 7 = .ok (.ifCond .ne 7, 3) := by decide +kernel
theorem dX10_isOn_14 : decode cX10_isOn 14 = .ok (.iconst 0, 1) := by decide +kernel
theorem dX10_isOn_15 : decode cX10_isOn 15 = .ok (.ireturn, 1) := by decide +kernel
theorem dX10_isOn_10 : decode cX10_isOn 10 = .ok (.iconst 1, 1) := by decide +kernel
theorem dX10_isOn_11 : decode cX10_isOn 11 = .ok (.goto 4, 3) := by decide +kernel
theorem dX10_isIn_0 : decode cX10_isIn 0 = .ok (.iload_n 0, 1) := by decide +kernel
theorem dX10_isIn_1 : decode cX10_isIn 1 = .ok (.iload_n 1, 1) := by decide +kernel
theorem dX10_isIn_2 : decode cX10_isIn 2 = .ok (.ishr, 1) := by decide +kernel
theorem dX10_isIn_3 : decode cX10_isIn 3 = .ok (.iconst 1, 1) := by decide +kernel
theorem dX10_isIn_4 : decode cX10_isIn 4 = .ok (.iand, 1) := by decide +kernel
theorem dX10_isIn_5 : decode cX10_isIn 5 = .ok (.iconst 1, 1) := by decide +kernel
theorem dX10_isIn_6 : decode cX10_isIn 6 = .ok (.if_icmp .ne 7, 3) := by decide +kernel
theorem dX10_isIn_13 : decode cX10_isIn 13 = .ok (.iconst 0, 1) := by decide +kernel
theorem dX10_isIn_14 : decode cX10_isIn 14 = .ok (.ireturn, 1) := by decide +kernel
theorem dX10_isIn_9 : decode cX10_isIn 9 = .ok (.iconst 1, 1) := by decide +kernel
theorem dX10_isIn_10 : decode cX10_isIn 10 = .ok (.goto 4, 3) := by decide +kernel
theorem dX10_nthSquare_0 : decode cX10_nthSquare 0 = .ok (.iconst 0, 1) := by decide +kernel
theorem dX10_nthSquare_1 : decode cX10_nthSquare 1 = .ok (.istore 4, 2) := by decide +kernel
theorem dX10_nthSquare_3 : decode cX10_nthSquare 3 = .ok (.iconst 0, 1) := by decide +kernel
theorem dX10_nthSquare_4 : decode cX10_nthSquare 4 = .ok (.istore 5, 2) := by decide +kernel
theorem dX10_nthSquare_6 : decode cX10_nthSquare 6 = .ok (.iload 5, 2) := by decide +kernel
theorem dX10_nthSquare_8 : decode cX10_nthSquare 8 = .ok (.bipush 36, 2) := by decide +kernel
theorem dX10_nthSquare_10 : decode cX10_nthSquare 10 = .ok (.if_icmp .ge 30, 3) := by decide +kernel
theorem dX10_nthSquare_40 : decode cX10_nthSquare 40 = .ok (.iload_n 3, 1) := by decide +kernel
theorem dX10_nthSquare_41 : decode cX10_nthSquare 41 = .ok (.ireturn, 1) := by decide +kernel
theorem dX10_nthSquare_13 : decode cX10_nthSquare 13 = .ok (.lload_n 0, 1) := by decide +kernel
theorem dX10_nthSquare_14 : decode cX10_nthSquare 14 = .ok (.iload 5, 2) := by decide +kernel
set_option maxRecDepth 20000 in
theorem ggX10_nthSquare_X10_isOn : GoodIn wsX10_nthSquare wsX10_isOn := goodIn_r _ [4] (by decide +kernel) (by decide +kernel)
set_option maxRecDepth 20000 in
theorem gX10_nthSquare_X10_isOn : GoodIn wsX10_nthSquare (va_wsS RX10 234 yX10_isOn wsX10_isOn) := goodIn_app (goodIn_of _ (by decide +kernel)) ggX10_nthSquare_X10_isOn
theorem dX10_nthSquare_16 : decode cX10_nthSquare 16 = .ok (.invokestatic 234, 3) := by decide +kernel
theorem dX10_nthSquare_19 : decode cX10_nthSquare 19 = .ok (.ifCond .eq 15, 3) := by decide +kernel
theorem dX10_nthSquare_34 : decode cX10_nthSquare 34 = .ok (.iinc 5 1, 3) := by decide +kernel
theorem dX10_nthSquare_37 : decode cX10_nthSquare 37 = .ok (.goto (-31), 3) := by decide +kernel
theorem dX10_nthSquare_22 : decode cX10_nthSquare 22 = .ok (.iload 4, 2) := by decide +kernel
theorem dX10_nthSquare_24 : decode cX10_nthSquare 24 = .ok (.iload_n 2, 1) := by decide +kernel
theorem dX10_nthSquare_25 : decode cX10_nthSquare 25 = .ok (.if_icmp .ne 6, 3) := by decide +kernel
theorem dX10_nthSquare_31 : decode cX10_nthSquare 31 = .ok (.iinc 4 1, 3) := by decide +kernel
theorem dX10_nthSquare_28 : decode cX10_nthSquare 28 = .ok (.iload 5, 2) := by decide +kernel
theorem dX10_nthSquare_30 : decode cX10_nthSquare 30 = .ok (.ireturn, 1) := by decide +kernel
theorem dJ6_compare_7cf53_0 : decode cJ6_compare_7cf53 0 = .ok (.iload_n 0, 1) := by decide +kernel
theorem dJ6_compare_7cf53_1 : decode cJ6_compare_7cf53 1 = .ok (.iload_n 1, 1) := by decide +kernel
theorem dJ6_compare_7cf53_2 : decode cJ6_compare_7cf53 2 = .ok (.if_icmp .ge 7, 3) := by decide +kernel
theorem dJ6_compare_7cf53_9 : decode cJ6_compare_7cf53 9 = .ok (.iload_n 0, 1) := by decide +kernel
theorem dJ6_compare_7cf53_10 : decode cJ6_compare_7cf53 10 = .ok (.iload_n 1, 1) := by decide +kernel
theorem dJ6_compare_7cf53_11 : decode cJ6_compare_7cf53 11 = .ok (.if_icmp .ne 7, 3) := by decide +kernel
theorem dJ6_compare_7cf53_18 : decode cJ6_compare_7cf53 18 = .ok (.iconst 1, 1) := by decide +kernel
theorem dJ6_compare_7cf53_19 : decode cJ6_compare_7cf53 19 = .ok (.ireturn, 1) := by decide +kernel
theorem dJ6_compare_7cf53_14 : decode cJ6_compare_7cf53 14 = .ok (.iconst 0, 1) := by decide +kernel
theorem dJ6_compare_7cf53_15 : decode cJ6_compare_7cf53 15 = .ok (.goto 4, 3) := by decide +kernel
theorem dJ6_compare_7cf53_5 : decode cJ6_compare_7cf53 5 = .ok (.iconst (-1), 1) := by decide +kernel
theorem dJ6_compare_7cf53_6 : decode cJ6_compare_7cf53 6 = .ok (.goto 13, 3) := by decide +kernel
theorem dJ13_bitCount_95d88_0 : decode cJ13_bitCount_95d88 0 = .ok (.lload_n 0, 1) := by decide +kernel
theorem dJ13_bitCount_95d88_1 : decode cJ13_bitCount_95d88 1 = .ok (.lload_n 0, 1) := by decide +kernel
theorem dJ13_bitCount_95d88_2 : decode cJ13_bitCount_95d88 2 = .ok (.iconst 1, 1) := by decide +kernel
theorem dJ13_bitCount_95d88_3 : decode cJ13_bitCount_95d88 3 = .ok (.lushr, 1) := by decide +kernel
theorem dJ13_bitCount_95d88_4 : decode cJ13_bitCount_95d88 4 = .ok (.ldc2_w 314, 3) := by decide +kernel
theorem dJ13_bitCount_95d88_7 : decode cJ13_bitCount_95d88 7 = .ok (.land, 1) := by decide +kernel
theorem dJ13_bitCount_95d88_8 : decode cJ13_bitCount_95d88 8 = .ok (.lsub, 1) := by decide +kernel
theorem dJ13_bitCount_95d88_9 : decode cJ13_bitCount_95d88 9 = .ok (.lstore_n 0, 1) := by decide +kernel
theorem dJ13_bitCount_95d88_10 : decode cJ13_bitCount_95d88 10 = .ok (.lload_n 0, 1) := by decide +kernel
theorem dJ13_bitCount_95d88_11 : decode cJ13_bitCount_95d88 11 = .ok (.ldc2_w 316, 3) := by decide +kernel
theorem dJ13_bitCount_95d88_14 : decode cJ13_bitCount_95d88 14 = .ok (.land, 1) := by decide +kernel
theorem dJ13_bitCount_95d88_15 : decode cJ13_bitCount_95d88 15 = .ok (.lload_n 0, 1) := by decide +kernel
theorem dJ13_bitCount_95d88_16 : decode cJ13_bitCount_95d88 16 = .ok (.iconst 2, 1) := by decide +kernel
theorem dJ13_bitCount_95d88_17 : decode cJ13_bitCount_95d88 17 = .ok (.lushr, 1) := by decide +kernel
theorem dJ13_bitCount_95d88_18 : decode cJ13_bitCount_95d88 18 = .ok (.ldc2_w 316, 3) := by decide +kernel
theorem dJ13_bitCount_95d88_21 : decode cJ13_bitCount_95d88 21 = .ok (.land, 1) := by decide +kernel
theorem dJ13_bitCount_95d88_22 : decode cJ13_bitCount_95d88 22 = .ok (.ladd, 1) := by decide +kernel
theorem dJ13_bitCount_95d88_23 : decode cJ13_bitCount_95d88 23 = .ok (.lstore_n 0, 1) := by decide +kernel
theorem dJ13_bitCount_95d88_24 : decode cJ13_bitCount_95d88 24 = .ok (.lload_n 0, 1) := by decide +kernel
theorem dJ13_bitCount_95d88_25 : decode cJ13_bitCount_95d88 25 = .ok (.lload_n 0, 1) := by decide +kernel
theorem dJ13_bitCount_95d88_26 : decode cJ13_bitCount_95d88 26 = .ok (.iconst 4, 1) := by decide +kernel
theorem dJ13_bitCount_95d88_27 : decode cJ13_bitCount_95d88 27 = .ok (.lushr, 1) := by decide +kernel
theorem dJ13_bitCount_95d88_28 : decode cJ13_bitCount_95d88 28 = .ok (.ladd, 1) := by decide +kernel
theorem dJ13_bitCount_95d88_29 : decode cJ13_bitCount_95d88 29 = .ok (.ldc2_w 318, 3) := by decide +kernel
theorem dJ13_bitCount_95d88_32 : decode cJ13_bitCount_95d88 32 = .ok (.land, 1) := by decide +kernel
theorem dJ13_bitCount_95d88_33 : decode cJ13_bitCount_95d88 33 = .ok (.lstore_n 0, 1) := by decide +kernel
theorem dJ13_bitCount_95d88_34 : decode cJ13_bitCount_95d88 34 = .ok (.lload_n 0, 1) := by decide +kernel
theorem dJ13_bitCount_95d88_35 : decode cJ13_bitCount_95d88 35 = .ok (.lload_n 0, 1) := by decide +kernel
theorem dJ13_bitCount_95d88_36 : decode cJ13_bitCount_95d88 36 = .ok (.bipush 8, 2) := by decide +kernel
theorem dJ13_bitCount_95d88_38 : decode cJ13_bitCount_95d88 38 = .ok (.lushr, 1) := by decide +kernel
theorem dJ13_bitCount_95d88_39 : decode cJ13_bitCount_95d88 39 = .ok (.ladd, 1) := by decide +kernel
theorem dJ13_bitCount_95d88_40 : decode cJ13_bitCount_95d88 40 = .ok (.lstore_n 0, 1) := by decide +kernel
theorem dJ13_bitCount_95d88_41 : decode cJ13_bitCount_95d88 41 = .ok (.lload_n 0, 1) := by decide +kernel
theorem dJ13_bitCount_95d88_42 : decode cJ13_bitCount_95d88 42 = .ok (.lload_n 0, 1) := by decide +kernel
theorem dJ13_bitCount_95d88_43 : decode cJ13_bitCount_95d88 43 = .ok (.bipush 16, 2) := by decide +kernel
theorem dJ13_bitCount_95d88_45 : decode cJ13_bitCount_95d88 45 = .ok (.lushr, 1) := by decide +kernel
theorem dJ13_bitCount_95d88_46 : decode cJ13_bitCount_95d88 46 = .ok (.ladd, 1) := by decide +kernel
theorem dJ13_bitCount_95d88_47 : decode cJ13_bitCount_95d88 47 = .ok (.lstore_n 0, 1) := by decide +kernel
theorem dJ13_bitCount_95d88_48 : decode cJ13_bitCount_95d88 48 = .ok (.lload_n 0, 1) := by decide +kernel
theorem dJ13_bitCount_95d88_49 : decode cJ13_bitCount_95d88 49 = .ok (.lload_n 0, 1) := by decide +kernel
theorem dJ13_bitCount_95d88_50 : decode cJ13_bitCount_95d88 50 = .ok (.bipush 32, 2) := by decide +kernel
theorem dJ13_bitCount_95d88_52 : decode cJ13_bitCount_95d88 52 = .ok (.lushr, 1) := by decide +kernel
theorem dJ13_bitCount_95d88_53 : decode cJ13_bitCount_95d88 53 = .ok (.ladd, 1) := by decide +kernel
theorem dJ13_bitCount_95d88_54 : decode cJ13_bitCount_95d88 54 = .ok (.lstore_n 0, 1) := by decide +kernel
theorem dJ13_bitCount_95d88_55 : decode cJ13_bitCount_95d88 55 = .ok (.lload_n 0, 1) := by decide +kernel
theorem dJ13_bitCount_95d88_56 : decode cJ13_bitCount_95d88 56 = .ok (.l2i, 1) := by decide +kernel
theorem dJ13_bitCount_95d88_57 : decode cJ13_bitCount_95d88 57 = .ok (.bipush 127, 2) := by decide +kernel
theorem dJ13_bitCount_95d88_59 : decode cJ13_bitCount_95d88 59 = .ok (.iand, 1) := by decide +kernel
theorem dJ13_bitCount_95d88_60 : decode cJ13_bitCount_95d88 60 = .ok (.ireturn, 1) := by decide +kernel
theorem dX3_squareCount_0 : decode cX3_squareCount 0 = .ok (.aload_n 0, 1) := by decide +kernel
theorem dX3_squareCount_1 : decode cX3_squareCount 1 = .ok (.getfield 33, 3) := by decide +kernel
theorem dX3_squareCount_4 : decode cX3_squareCount 4 = .ok (.aload_n 0, 1) := by decide +kernel
theorem dX3_squareCount_5 : decode cX3_squareCount 5 = .ok (.getfield 37, 3) := by decide +kernel
theorem dX3_squareCount_8 : decode cX3_squareCount 8 = .ok (.imul, 1) := by decide +kernel
theorem dX3_squareCount_9 : decode cX3_squareCount 9 = .ok (.ireturn, 1) := by decide +kernel
theorem dX3_isSquare_0 : decode cX3_isSquare 0 = .ok (.iload_n 1, 1) := by decide +kernel
theorem dX3_isSquare_1 : decode cX3_isSquare 1 = .ok (.ifCond .lt 15, 3) := by decide +kernel
theorem dX3_isSquare_16 : decode cX3_isSquare 16 = .ok (.iconst 0, 1) := by decide +kernel
theorem dX3_isSquare_17 : decode cX3_isSquare 17 = .ok (.ireturn, 1) := by decide +kernel
theorem dX3_isSquare_4 : decode cX3_isSquare 4 = .ok (.iload_n 1, 1) := by decide +kernel
theorem dX3_isSquare_5 : decode cX3_isSquare 5 = .ok (.aload_n 0, 1) := by decide +kernel
set_option maxRecDepth 20000 in
theorem ggX3_isSquare_X3_squareCount : GoodIn wsX3_isSquare wsX3_squareCount := goodIn_r _ [5, 6, 7, 8, 9, 10, 11, 12, 13, 14, 15, 16, 17, 18, 19, 20, 21, 22, 23] (by decide +kernel) (by decide +kernel)
set_option maxRecDepth 20000 in
theorem gX3_isSquare_X3_squareCount : GoodIn wsX3_isSquare (wsV RX3 68 RX3 yX3_squareCount wsX3_squareCount) := goodIn_app (goodIn_of _ (by decide +kernel)) ggX3_isSquare_X3_squareCount
theorem dX3_isSquare_6 : decode cX3_isSquare 6 = .ok (.invokevirtual 68, 3) := by decide +kernel
theorem dX3_isSquare_9 : decode cX3_isSquare 9 = .ok (.if_icmp .ge 7, 3) := by decide +kernel
theorem dX3_isSquare_12 : decode cX3_isSquare 12 = .ok (.iconst 1, 1) := by decide +kernel
theorem dX3_isSquare_13 : decode cX3_isSquare 13 = .ok (.goto 4, 3) := by decide +kernel
theorem dX3_isPerson_0 : decode cX3_isPerson 0 = .ok (.iload_n 1, 1) := by decide +kernel
theorem dX3_isPerson_1 : decode cX3_isPerson 1 = .ok (.ifCond .lt 20, 3) := by decide +kernel
theorem dX3_isPerson_21 : decode cX3_isPerson 21 = .ok (.iconst 0, 1) := by decide +kernel
theorem dX3_isPerson_22 : decode cX3_isPerson 22 = .ok (.ireturn, 1) := by decide +kernel
theorem dX3_isPerson_4 : decode cX3_isPerson 4 = .ok (.iload_n 1, 1) := by decide +kernel
theorem dX3_isPerson_5 : decode cX3_isPerson 5 = .ok (.aload_n 0, 1) := by decide +kernel
theorem dX3_isPerson_6 : decode cX3_isPerson 6 = .ok (.getfield 53, 3) := by decide +kernel
theorem dX3_isPerson_9 : decode cX3_isPerson 9 = .ok (.if_icmp .ge 12, 3) := by decide +kernel
theorem dX3_isPerson_12 : decode cX3_isPerson 12 = .ok (.iload_n 1, 1) := by decide +kernel
theorem dX3_isPerson_13 : decode cX3_isPerson 13 = .ok (.iconst 5, 1) := by decide +kernel
theorem dX3_isPerson_14 : decode cX3_isPerson 14 = .ok (.if_icmp .ge 7, 3) := by decide +kernel
theorem dX3_isPerson_17 : decode cX3_isPerson 17 = .ok (.iconst 1, 1) := by decide +kernel
theorem dX3_isPerson_18 : decode cX3_isPerson 18 = .ok (.goto 4, 3) := by decide +kernel
theorem dX3_everybody_0 : decode cX3_everybody 0 = .ok (.iconst 1, 1) := by decide +kernel
theorem dX3_everybody_1 : decode cX3_everybody 1 = .ok (.aload_n 0, 1) := by decide +kernel
theorem dX3_everybody_2 : decode cX3_everybody 2 = .ok (.getfield 53, 3) := by decide +kernel
theorem dX3_everybody_5 : decode cX3_everybody 5 = .ok (.ishl, 1) := by decide +kernel
theorem dX3_everybody_6 : decode cX3_everybody 6 = .ok (.iconst 1, 1) := by decide +kernel
theorem dX3_everybody_7 : decode cX3_everybody 7 = .ok (.isub, 1) := by decide +kernel
theorem dX3_everybody_8 : decode cX3_everybody 8 = .ok (.ireturn, 1) := by decide +kernel
theorem dX3_layOut_0 : decode cX3_layOut 0 = .ok (.aload_n 0, 1) := by decide +kernel
theorem dX3_layOut_1 : decode cX3_layOut 1 = .ok (.iload_n 1, 1) := by decide +kernel
theorem dX3_layOut_2 : decode cX3_layOut 2 = .ok (.putfield 33, 3) := by decide +kernel
theorem dX3_layOut_5 : decode cX3_layOut 5 = .ok (.aload_n 0, 1) := by decide +kernel
theorem dX3_layOut_6 : decode cX3_layOut 6 = .ok (.iload_n 2, 1) := by decide +kernel
theorem dX3_layOut_7 : decode cX3_layOut 7 = .ok (.putfield 37, 3) := by decide +kernel
theorem dX3_layOut_10 : decode cX3_layOut 10 = .ok (.aload_n 0, 1) := by decide +kernel
theorem dX3_layOut_11 : decode cX3_layOut 11 = .ok (.iconst 1, 1) := by decide +kernel
theorem dX3_layOut_12 : decode cX3_layOut 12 = .ok (.putfield 40, 3) := by decide +kernel
theorem dX3_layOut_15 : decode cX3_layOut 15 = .ok (.aload_n 0, 1) := by decide +kernel
theorem dX3_layOut_16 : decode cX3_layOut 16 = .ok (.iconst 0, 1) := by decide +kernel
theorem dX3_layOut_17 : decode cX3_layOut 17 = .ok (.putfield 43, 3) := by decide +kernel
theorem dX3_layOut_20 : decode cX3_layOut 20 = .ok (.aload_n 0, 1) := by decide +kernel
theorem dX3_layOut_21 : decode cX3_layOut 21 = .ok (.lconst 0, 1) := by decide +kernel
theorem dX3_layOut_22 : decode cX3_layOut 22 = .ok (.putfield 46, 3) := by decide +kernel
theorem dX3_layOut_25 : decode cX3_layOut 25 = .ok (.aload_n 0, 1) := by decide +kernel
theorem dX3_layOut_26 : decode cX3_layOut 26 = .ok (.lconst 0, 1) := by decide +kernel
theorem dX3_layOut_27 : decode cX3_layOut 27 = .ok (.putfield 50, 3) := by decide +kernel
theorem dX3_layOut_30 : decode cX3_layOut 30 = .ok (.aload_n 0, 1) := by decide +kernel
theorem dX3_layOut_31 : decode cX3_layOut 31 = .ok (.iconst 0, 1) := by decide +kernel
theorem dX3_layOut_32 : decode cX3_layOut 32 = .ok (.putfield 53, 3) := by decide +kernel
theorem dX3_layOut_35 : decode cX3_layOut 35 = .ok (.aload_n 0, 1) := by decide +kernel
theorem dX3_layOut_36 : decode cX3_layOut 36 = .ok (.iconst 0, 1) := by decide +kernel
theorem dX3_layOut_37 : decode cX3_layOut 37 = .ok (.putfield 56, 3) := by decide +kernel
theorem dX3_layOut_40 : decode cX3_layOut 40 = .ok (.aload_n 0, 1) := by decide +kernel
theorem dX3_layOut_41 : decode cX3_layOut 41 = .ok (.iconst 0, 1) := by decide +kernel
theorem dX3_layOut_42 : decode cX3_layOut 42 = .ok (.putfield 59, 3) := by decide +kernel
theorem dX3_layOut_45 : decode cX3_layOut 45 = .ok (.return_, 1) := by decide +kernel
theorem dX3_copyFrom_0 : decode cX3_copyFrom 0 = .ok (.aload_n 0, 1) := by decide +kernel
theorem dX3_copyFrom_1 : decode cX3_copyFrom 1 = .ok (.aload_n 1, 1) := by decide +kernel
theorem dX3_copyFrom_2 : decode cX3_copyFrom 2 = .ok (.getfield 33, 3) := by decide +kernel
theorem dX3_copyFrom_5 : decode cX3_copyFrom 5 = .ok (.putfield 33, 3) := by decide +kernel
theorem dX3_copyFrom_8 : decode cX3_copyFrom 8 = .ok (.aload_n 0, 1) := by decide +kernel
theorem dX3_copyFrom_9 : decode cX3_copyFrom 9 = .ok (.aload_n 1, 1) := by decide +kernel
theorem dX3_copyFrom_10 : decode cX3_copyFrom 10 = .ok (.getfield 37, 3) := by decide +kernel
theorem dX3_copyFrom_13 : decode cX3_copyFrom 13 = .ok (.putfield 37, 3) := by decide +kernel
theorem dX3_copyFrom_16 : decode cX3_copyFrom 16 = .ok (.aload_n 0, 1) := by decide +kernel
theorem dX3_copyFrom_17 : decode cX3_copyFrom 17 = .ok (.aload_n 1, 1) := by decide +kernel
theorem dX3_copyFrom_18 : decode cX3_copyFrom 18 = .ok (.getfield 40, 3) := by decide +kernel
theorem dX3_copyFrom_21 : decode cX3_copyFrom 21 = .ok (.putfield 40, 3) := by decide +kernel
theorem dX3_copyFrom_24 : decode cX3_copyFrom 24 = .ok (.aload_n 0, 1) := by decide +kernel
theorem dX3_copyFrom_25 : decode cX3_copyFrom 25 = .ok (.aload_n 1, 1) := by decide +kernel
theorem dX3_copyFrom_26 : decode cX3_copyFrom 26 = .ok (.getfield 43, 3) := by decide +kernel
theorem dX3_copyFrom_29 : decode cX3_copyFrom 29 = .ok (.putfield 43, 3) := by decide +kernel
theorem dX3_copyFrom_32 : decode cX3_copyFrom 32 = .ok (.aload_n 0, 1) := by decide +kernel
theorem dX3_copyFrom_33 : decode cX3_copyFrom 33 = .ok (.aload_n 1, 1) := by decide +kernel
theorem dX3_copyFrom_34 : decode cX3_copyFrom 34 = .ok (.getfield 46, 3) := by decide +kernel
theorem dX3_copyFrom_37 : decode cX3_copyFrom 37 = .ok (.putfield 46, 3) := by decide +kernel
theorem dX3_copyFrom_40 : decode cX3_copyFrom 40 = .ok (.aload_n 0, 1) := by decide +kernel
theorem dX3_copyFrom_41 : decode cX3_copyFrom 41 = .ok (.aload_n 1, 1) := by decide +kernel
theorem dX3_copyFrom_42 : decode cX3_copyFrom 42 = .ok (.getfield 50, 3) := by decide +kernel
theorem dX3_copyFrom_45 : decode cX3_copyFrom 45 = .ok (.putfield 50, 3) := by decide +kernel
theorem dX3_copyFrom_48 : decode cX3_copyFrom 48 = .ok (.aload_n 0, 1) := by decide +kernel
theorem dX3_copyFrom_49 : decode cX3_copyFrom 49 = .ok (.aload_n 1, 1) := by decide +kernel
theorem dX3_copyFrom_50 : decode cX3_copyFrom 50 = .ok (.getfield 53, 3) := by decide +kernel
theorem dX3_copyFrom_53 : decode cX3_copyFrom 53 = .ok (.putfield 53, 3) := by decide +kernel
theorem dX3_copyFrom_56 : decode cX3_copyFrom 56 = .ok (.aload_n 0, 1) := by decide +kernel
theorem dX3_copyFrom_57 : decode cX3_copyFrom 57 = .ok (.aload_n 1, 1) := by decide +kernel
theorem dX3_copyFrom_58 : decode cX3_copyFrom 58 = .ok (.getfield 56, 3) := by decide +kernel
theorem dX3_copyFrom_61 : decode cX3_copyFrom 61 = .ok (.putfield 56, 3) := by decide +kernel
theorem dX3_copyFrom_64 : decode cX3_copyFrom 64 = .ok (.aload_n 0, 1) := by decide +kernel
theorem dX3_copyFrom_65 : decode cX3_copyFrom 65 = .ok (.aload_n 1, 1) := by decide +kernel
theorem dX3_copyFrom_66 : decode cX3_copyFrom 66 = .ok (.getfield 59, 3) := by decide +kernel
theorem dX3_copyFrom_69 : decode cX3_copyFrom 69 = .ok (.putfield 59, 3) := by decide +kernel
theorem dX3_copyFrom_72 : decode cX3_copyFrom 72 = .ok (.aload_n 1, 1) := by decide +kernel
theorem dX3_copyFrom_73 : decode cX3_copyFrom 73 = .ok (.getfield 9, 3) := by decide +kernel
theorem dX3_copyFrom_76 : decode cX3_copyFrom 76 = .ok (.iconst 0, 1) := by decide +kernel
theorem dX3_copyFrom_77 : decode cX3_copyFrom 77 = .ok (.aload_n 0, 1) := by decide +kernel
theorem dX3_copyFrom_78 : decode cX3_copyFrom 78 = .ok (.getfield 9, 3) := by decide +kernel
theorem dX3_copyFrom_81 : decode cX3_copyFrom 81 = .ok (.iconst 0, 1) := by decide +kernel
theorem dX3_copyFrom_82 : decode cX3_copyFrom 82 = .ok (.iconst 5, 1) := by decide +kernel
theorem dX3_copyFrom_83 : decode cX3_copyFrom 83 = .ok (.invokestatic 62, 3) := by decide +kernel
theorem dX3_copyFrom_86 : decode cX3_copyFrom 86 = .ok (.aload_n 1, 1) := by decide +kernel
theorem dX3_copyFrom_87 : decode cX3_copyFrom 87 = .ok (.getfield 15, 3) := by decide +kernel
theorem dX3_copyFrom_90 : decode cX3_copyFrom 90 = .ok (.iconst 0, 1) := by decide +kernel
theorem dX3_copyFrom_91 : decode cX3_copyFrom 91 = .ok (.aload_n 0, 1) := by decide +kernel
theorem dX3_copyFrom_92 : decode cX3_copyFrom 92 = .ok (.getfield 15, 3) := by decide +kernel
theorem dX3_copyFrom_95 : decode cX3_copyFrom 95 = .ok (.iconst 0, 1) := by decide +kernel
theorem dX3_copyFrom_96 : decode cX3_copyFrom 96 = .ok (.iconst 5, 1) := by decide +kernel
theorem dX3_copyFrom_97 : decode cX3_copyFrom 97 = .ok (.invokestatic 62, 3) := by decide +kernel
theorem dX3_copyFrom_100 : decode cX3_copyFrom 100 = .ok (.aload_n 1, 1) := by decide +kernel
theorem dX3_copyFrom_101 : decode cX3_copyFrom 101 = .ok (.getfield 18, 3) := by decide +kernel
theorem dX3_copyFrom_104 : decode cX3_copyFrom 104 = .ok (.iconst 0, 1) := by decide +kernel
theorem dX3_copyFrom_105 : decode cX3_copyFrom 105 = .ok (.aload_n 0, 1) := by decide +kernel
theorem dX3_copyFrom_106 : decode cX3_copyFrom 106 = .ok (.getfield 18, 3) := by decide +kernel
theorem dX3_copyFrom_109 : decode cX3_copyFrom 109 = .ok (.iconst 0, 1) := by decide +kernel
theorem dX3_copyFrom_110 : decode cX3_copyFrom 110 = .ok (.iconst 5, 1) := by decide +kernel
theorem dX3_copyFrom_111 : decode cX3_copyFrom 111 = .ok (.invokestatic 62, 3) := by decide +kernel
theorem dX3_copyFrom_114 : decode cX3_copyFrom 114 = .ok (.aload_n 1, 1) := by decide +kernel
theorem dX3_copyFrom_115 : decode cX3_copyFrom 115 = .ok (.getfield 21, 3) := by decide +kernel
theorem dX3_copyFrom_118 : decode cX3_copyFrom 118 = .ok (.iconst 0, 1) := by decide +kernel
theorem dX3_copyFrom_119 : decode cX3_copyFrom 119 = .ok (.aload_n 0, 1) := by decide +kernel
theorem dX3_copyFrom_120 : decode cX3_copyFrom 120 = .ok (.getfield 21, 3) := by decide +kernel
theorem dX3_copyFrom_123 : decode cX3_copyFrom 123 = .ok (.iconst 0, 1) := by decide +kernel
theorem dX3_copyFrom_124 : decode cX3_copyFrom 124 = .ok (.bipush 6, 2) := by decide +kernel
theorem dX3_copyFrom_126 : decode cX3_copyFrom 126 = .ok (.invokestatic 62, 3) := by decide +kernel
theorem dX3_copyFrom_129 : decode cX3_copyFrom 129 = .ok (.aload_n 1, 1) := by decide +kernel
theorem dX3_copyFrom_130 : decode cX3_copyFrom 130 = .ok (.getfield 24, 3) := by decide +kernel
theorem dX3_copyFrom_133 : decode cX3_copyFrom 133 = .ok (.iconst 0, 1) := by decide +kernel
theorem dX3_copyFrom_134 : decode cX3_copyFrom 134 = .ok (.aload_n 0, 1) := by decide +kernel
theorem dX3_copyFrom_135 : decode cX3_copyFrom 135 = .ok (.getfield 24, 3) := by decide +kernel
theorem dX3_copyFrom_138 : decode cX3_copyFrom 138 = .ok (.iconst 0, 1) := by decide +kernel
theorem dX3_copyFrom_139 : decode cX3_copyFrom 139 = .ok (.bipush 6, 2) := by decide +kernel
theorem dX3_copyFrom_141 : decode cX3_copyFrom 141 = .ok (.invokestatic 62, 3) := by decide +kernel
theorem dX3_copyFrom_144 : decode cX3_copyFrom 144 = .ok (.aload_n 1, 1) := by decide +kernel
theorem dX3_copyFrom_145 : decode cX3_copyFrom 145 = .ok (.getfield 27, 3) := by decide +kernel
theorem dX3_copyFrom_148 : decode cX3_copyFrom 148 = .ok (.iconst 0, 1) := by decide +kernel
theorem dX3_copyFrom_149 : decode cX3_copyFrom 149 = .ok (.aload_n 0, 1) := by decide +kernel
theorem dX3_copyFrom_150 : decode cX3_copyFrom 150 = .ok (.getfield 27, 3) := by decide +kernel
theorem dX3_copyFrom_153 : decode cX3_copyFrom 153 = .ok (.iconst 0, 1) := by decide +kernel
theorem dX3_copyFrom_154 : decode cX3_copyFrom 154 = .ok (.bipush 8, 2) := by decide +kernel
theorem dX3_copyFrom_156 : decode cX3_copyFrom 156 = .ok (.invokestatic 62, 3) := by decide +kernel
theorem dX3_copyFrom_159 : decode cX3_copyFrom 159 = .ok (.aload_n 1, 1) := by decide +kernel
theorem dX3_copyFrom_160 : decode cX3_copyFrom 160 = .ok (.getfield 30, 3) := by decide +kernel
theorem dX3_copyFrom_163 : decode cX3_copyFrom 163 = .ok (.iconst 0, 1) := by decide +kernel
theorem dX3_copyFrom_164 : decode cX3_copyFrom 164 = .ok (.aload_n 0, 1) := by decide +kernel
theorem dX3_copyFrom_165 : decode cX3_copyFrom 165 = .ok (.getfield 30, 3) := by decide +kernel
theorem dX3_copyFrom_168 : decode cX3_copyFrom 168 = .ok (.iconst 0, 1) := by decide +kernel
theorem dX3_copyFrom_169 : decode cX3_copyFrom 169 = .ok (.bipush 8, 2) := by decide +kernel
theorem dX3_copyFrom_171 : decode cX3_copyFrom 171 = .ok (.invokestatic 62, 3) := by decide +kernel
theorem dX3_copyFrom_174 : decode cX3_copyFrom 174 = .ok (.return_, 1) := by decide +kernel
theorem dX3_xOf_0 : decode cX3_xOf 0 = .ok (.aload_n 0, 1) := by decide +kernel
theorem dX3_xOf_1 : decode cX3_xOf 1 = .ok (.getfield 33, 3) := by decide +kernel
theorem dX3_xOf_4 : decode cX3_xOf 4 = .ok (.ifCond .le 12, 3) := by decide +kernel
theorem dX3_xOf_16 : decode cX3_xOf 16 = .ok (.iconst 0, 1) := by decide +kernel
theorem dX3_xOf_17 : decode cX3_xOf 17 = .ok (.ireturn, 1) := by decide +kernel
theorem dX3_xOf_7 : decode cX3_xOf 7 = .ok (.iload_n 1, 1) := by decide +kernel
theorem dX3_xOf_8 : decode cX3_xOf 8 = .ok (.aload_n 0, 1) := by decide +kernel
theorem dX3_xOf_9 : decode cX3_xOf 9 = .ok (.getfield 33, 3) := by decide +kernel
theorem dX3_xOf_12 : decode cX3_xOf 12 = .ok (.irem, 1) := by decide +kernel
theorem dX3_xOf_13 : decode cX3_xOf 13 = .ok (.goto 4, 3) := by decide +kernel
theorem dX3_yOf_0 : decode cX3_yOf 0 = .ok (.aload_n 0, 1) := by decide +kernel
theorem dX3_yOf_1 : decode cX3_yOf 1 = .ok (.getfield 33, 3) := by decide +kernel
theorem dX3_yOf_4 : decode cX3_yOf 4 = .ok (.ifCond .le 12, 3) := by decide +kernel
theorem dX3_yOf_16 : decode cX3_yOf 16 = .ok (.iconst 0, 1) := by decide +kernel
theorem dX3_yOf_17 : decode cX3_yOf 17 = .ok (.ireturn, 1) := by decide +kernel
theorem dX3_yOf_7 : decode cX3_yOf 7 = .ok (.iload_n 1, 1) := by decide +kernel
theorem dX3_yOf_8 : decode cX3_yOf 8 = .ok (.aload_n 0, 1) := by decide +kernel
theorem dX3_yOf_9 : decode cX3_yOf 9 = .ok (.getfield 33, 3) := by decide +kernel
theorem dX3_yOf_12 : decode cX3_yOf 12 = .ok (.idiv, 1) := by decide +kernel
theorem dX3_yOf_13 : decode cX3_yOf 13 = .ok (.goto 4, 3) := by decide +kernel
theorem dX3_kindOf_0 : decode cX3_kindOf 0 = .ok (.aload_n 0, 1) := by decide +kernel
theorem dX3_kindOf_1 : decode cX3_kindOf 1 = .ok (.iload_n 1, 1) := by decide +kernel
set_option maxRecDepth 20000 in
theorem ggX3_kindOf_X3_isPerson : GoodIn wsX3_kindOf wsX3_isPerson := goodIn_r _ [6, 7, 8, 9, 10, 11, 12, 13, 14, 15, 16, 17, 18, 19, 20, 21, 22, 23] (by decide +kernel) (by decide +kernel)
set_option maxRecDepth 20000 in
theorem gX3_kindOf_X3_isPerson : GoodIn wsX3_kindOf (wsV RX3 72 RX3 yX3_isPerson wsX3_isPerson) := goodIn_app (goodIn_of _ (by decide +kernel)) ggX3_kindOf_X3_isPerson
theorem dX3_kindOf_2 : decode cX3_kindOf 2 = .ok (.invokevirtual 72, 3) := by decide +kernel
theorem dX3_kindOf_5 : decode cX3_kindOf 5 = .ok (.ifCond .eq 12, 3) := by decide +kernel
theorem dX3_kindOf_17 : decode cX3_kindOf 17 = .ok (.iconst 0, 1) := by decide +kernel
theorem dX3_kindOf_18 : decode cX3_kindOf 18 = .ok (.ireturn, 1) := by decide +kernel
theorem dX3_kindOf_8 : decode cX3_kindOf 8 = .ok (.aload_n 0, 1) := by decide +kernel
theorem dX3_kindOf_9 : decode cX3_kindOf 9 = .ok (.getfield 9, 3) := by decide +kernel
theorem dX3_kindOf_12 : decode cX3_kindOf 12 = .ok (.iload_n 1, 1) := by decide +kernel
theorem dX3_kindOf_13 : decode cX3_kindOf 13 = .ok (.iaload, 1) := by decide +kernel
theorem dX3_kindOf_14 : decode cX3_kindOf 14 = .ok (.goto 4, 3) := by decide +kernel
theorem dX3_squareOf_0 : decode cX3_squareOf 0 = .ok (.aload_n 0, 1) := by decide +kernel
theorem dX3_squareOf_1 : decode cX3_squareOf 1 = .ok (.iload_n 1, 1) := by decide +kernel
set_option maxRecDepth 20000 in
theorem ggX3_squareOf_X3_isPerson : GoodIn wsX3_squareOf wsX3_isPerson := goodIn_r _ [6, 7, 8, 9, 10, 11, 12, 13, 14, 15, 16, 17, 18, 19, 20, 21, 22, 23] (by decide +kernel) (by decide +kernel)
set_option maxRecDepth 20000 in
theorem gX3_squareOf_X3_isPerson : GoodIn wsX3_squareOf (wsV RX3 72 RX3 yX3_isPerson wsX3_isPerson) := goodIn_app (goodIn_of _ (by decide +kernel)) ggX3_squareOf_X3_isPerson
theorem dX3_squareOf_2 : decode cX3_squareOf 2 = .ok (.invokevirtual 72, 3) := by decide +kernel
theorem dX3_squareOf_5 : decode cX3_squareOf 5 = .ok (.ifCond .eq 12, 3) := by decide +kernel
theorem dX3_squareOf_17 : decode cX3_squareOf 17 = .ok (.iconst 0, 1) := by decide +kernel
theorem dX3_squareOf_18 : decode cX3_squareOf 18 = .ok (.ireturn, 1) := by decide +kernel
theorem dX3_squareOf_8 : decode cX3_squareOf 8 = .ok (.aload_n 0, 1) := by decide +kernel
theorem dX3_squareOf_9 : decode cX3_squareOf 9 = .ok (.getfield 15, 3) := by decide +kernel
theorem dX3_squareOf_12 : decode cX3_squareOf 12 = .ok (.iload_n 1, 1) := by decide +kernel
theorem dX3_squareOf_13 : decode cX3_squareOf 13 = .ok (.iaload, 1) := by decide +kernel
theorem dX3_squareOf_14 : decode cX3_squareOf 14 = .ok (.goto 4, 3) := by decide +kernel
theorem dX3_voiceOf_0 : decode cX3_voiceOf 0 = .ok (.aload_n 0, 1) := by decide +kernel
theorem dX3_voiceOf_1 : decode cX3_voiceOf 1 = .ok (.iload_n 1, 1) := by decide +kernel
set_option maxRecDepth 20000 in
theorem ggX3_voiceOf_X3_isPerson : GoodIn wsX3_voiceOf wsX3_isPerson := goodIn_r _ [6, 7, 8, 9, 10, 11, 12, 13, 14, 15, 16, 17, 18, 19, 20, 21, 22, 23] (by decide +kernel) (by decide +kernel)
set_option maxRecDepth 20000 in
theorem gX3_voiceOf_X3_isPerson : GoodIn wsX3_voiceOf (wsV RX3 72 RX3 yX3_isPerson wsX3_isPerson) := goodIn_app (goodIn_of _ (by decide +kernel)) ggX3_voiceOf_X3_isPerson
theorem dX3_voiceOf_2 : decode cX3_voiceOf 2 = .ok (.invokevirtual 72, 3) := by decide +kernel
theorem dX3_voiceOf_5 : decode cX3_voiceOf 5 = .ok (.ifCond .eq 12, 3) := by decide +kernel
theorem dX3_voiceOf_17 : decode cX3_voiceOf 17 = .ok (.iconst 0, 1) := by decide +kernel
theorem dX3_voiceOf_18 : decode cX3_voiceOf 18 = .ok (.ireturn, 1) := by decide +kernel
theorem dX3_voiceOf_8 : decode cX3_voiceOf 8 = .ok (.aload_n 0, 1) := by decide +kernel
theorem dX3_voiceOf_9 : decode cX3_voiceOf 9 = .ok (.getfield 18, 3) := by decide +kernel
theorem dX3_voiceOf_12 : decode cX3_voiceOf 12 = .ok (.iload_n 1, 1) := by decide +kernel
theorem dX3_voiceOf_13 : decode cX3_voiceOf 13 = .ok (.iaload, 1) := by decide +kernel
theorem dX3_voiceOf_14 : decode cX3_voiceOf 14 = .ok (.goto 4, 3) := by decide +kernel
theorem dX3_stand_0 : decode cX3_stand 0 = .ok (.aload_n 0, 1) := by decide +kernel
theorem dX3_stand_1 : decode cX3_stand 1 = .ok (.iload_n 1, 1) := by decide +kernel
set_option maxRecDepth 20000 in
theorem ggX3_stand_X3_isPerson : GoodIn wsX3_stand wsX3_isPerson := goodIn_r _ [6, 7, 8, 9, 10, 11, 12, 13, 14, 15, 16, 17, 18, 19, 20, 21, 22, 23] (by decide +kernel) (by decide +kernel)
set_option maxRecDepth 20000 in
theorem gX3_stand_X3_isPerson : GoodIn wsX3_stand (wsV RX3 72 RX3 yX3_isPerson wsX3_isPerson) := goodIn_app (goodIn_of _ (by decide +kernel)) ggX3_stand_X3_isPerson
theorem dX3_stand_2 : decode cX3_stand 2 = .ok (.invokevirtual 72, 3) := by decide +kernel
theorem dX3_stand_5 : decode cX3_stand 5 = .ok (.ifCond .eq 10, 3) := by decide +kernel
theorem dX3_stand_15 : decode cX3_stand 15 = .ok (.return_, 1) := by decide +kernel
theorem dX3_stand_8 : decode cX3_stand 8 = .ok (.aload_n 0, 1) := by decide +kernel
theorem dX3_stand_9 : decode cX3_stand 9 = .ok (.getfield 15, 3) := by decide +kernel
theorem dX3_stand_12 : decode cX3_stand 12 = .ok (.iload_n 1, 1) := by decide +kernel
theorem dX3_stand_13 : decode cX3_stand 13 = .ok (.iload_n 2, 1) := by decide +kernel
theorem dX3_stand_14 : decode cX3_stand 14 = .ok (.iastore, 1) := by decide +kernel
theorem dX3_become_0 : decode cX3_become 0 = .ok (.aload_n 0, 1) := by decide +kernel
theorem dX3_become_1 : decode cX3_become 1 = .ok (.iload_n 1, 1) := by decide +kernel
set_option maxRecDepth 20000 in
theorem ggX3_become_X3_isPerson : GoodIn wsX3_become wsX3_isPerson := goodIn_r _ [6, 7, 8, 9, 10, 11, 12, 13, 14, 15, 16, 17, 18, 19, 20, 21, 22, 23] (by decide +kernel) (by decide +kernel)
set_option maxRecDepth 20000 in
theorem gX3_become_X3_isPerson : GoodIn wsX3_become (wsV RX3 72 RX3 yX3_isPerson wsX3_isPerson) := goodIn_app (goodIn_of _ (by decide +kernel)) ggX3_become_X3_isPerson
theorem dX3_become_2 : decode cX3_become 2 = .ok (.invokevirtual 72, 3) := by decide +kernel
theorem dX3_become_5 : decode cX3_become 5 = .ok (.ifCond .eq 10, 3) := by decide +kernel
theorem dX3_become_15 : decode cX3_become 15 = .ok (.return_, 1) := by decide +kernel
theorem dX3_become_8 : decode cX3_become 8 = .ok (.aload_n 0, 1) := by decide +kernel
theorem dX3_become_9 : decode cX3_become 9 = .ok (.getfield 9, 3) := by decide +kernel
theorem dX3_become_12 : decode cX3_become 12 = .ok (.iload_n 1, 1) := by decide +kernel
theorem dX3_become_13 : decode cX3_become 13 = .ok (.iload_n 2, 1) := by decide +kernel
theorem dX3_become_14 : decode cX3_become 14 = .ok (.iastore, 1) := by decide +kernel
theorem dX3_has_0 : decode cX3_has 0 = .ok (.iload_n 1, 1) := by decide +kernel
theorem dX3_has_15 : decode cX3_has 15 = .ok (.iload_n 2, 1) := by decide +kernel
set_option maxRecDepth 20000 in
theorem ggX3_has_X10_isOn : GoodIn wsX3_has wsX10_isOn := goodIn_r _ [5] (by decide +kernel) (by decide +kernel)
set_option maxRecDepth 20000 in
theorem gX3_has_X10_isOn_n76 : GoodIn wsX3_has (wsX10_isOn) := ggX3_has_X10_isOn
theorem dX3_has_16 : decode cX3_has 16 = .ok (.invokestatic 76, 3) := by decide +kernel
theorem dX3_has_19 : decode cX3_has 19 = .ok (.ireturn, 1) := by decide +kernel
theorem dX3_has_1 : decode cX3_has 1 = .ok (.ifCond .ne 10, 3) := by decide +kernel
theorem dX3_has_11 : decode cX3_has 11 = .ok (.aload_n 0, 1) := by decide +kernel
theorem dX3_has_12 : decode cX3_has 12 = .ok (.getfield 50, 3) := by decide +kernel
theorem dX3_has_4 : decode cX3_has 4 = .ok (.aload_n 0, 1) := by decide +kernel
theorem dX3_has_5 : decode cX3_has 5 = .ok (.getfield 46, 3) := by decide +kernel
theorem dX3_has_8 : decode cX3_has 8 = .ok (.goto 7, 3) := by decide +kernel
theorem dX3_turn_0 : decode cX3_turn 0 = .ok (.iload_n 1, 1) := by decide +kernel
theorem dX3_turn_1 : decode cX3_turn 1 = .ok (.ifCond .ne 18, 3) := by decide +kernel
theorem dX3_turn_19 : decode cX3_turn 19 = .ok (.aload_n 0, 1) := by decide +kernel
theorem dX3_turn_20 : decode cX3_turn 20 = .ok (.dup, 1) := by decide +kernel
theorem dX3_turn_21 : decode cX3_turn 21 = .ok (.getfield 50, 3) := by decide +kernel
theorem dX3_turn_24 : decode cX3_turn 24 = .ok (.lconst 1, 1) := by decide +kernel
theorem dX3_turn_25 : decode cX3_turn 25 = .ok (.iload_n 2, 1) := by decide +kernel
theorem dX3_turn_26 : decode cX3_turn 26 = .ok (.lshl, 1) := by decide +kernel
theorem dX3_turn_27 : decode cX3_turn 27 = .ok (.lxor, 1) := by decide +kernel
theorem dX3_turn_28 : decode cX3_turn 28 = .ok (.putfield 50, 3) := by decide +kernel
theorem dX3_turn_31 : decode cX3_turn 31 = .ok (.return_, 1) := by decide +kernel
theorem dX3_turn_4 : decode cX3_turn 4 = .ok (.aload_n 0, 1) := by decide +kernel
theorem dX3_turn_5 : decode cX3_turn 5 = .ok (.dup, 1) := by decide +kernel
theorem dX3_turn_6 : decode cX3_turn 6 = .ok (.getfield 46, 3) := by decide +kernel
theorem dX3_turn_9 : decode cX3_turn 9 = .ok (.lconst 1, 1) := by decide +kernel
theorem dX3_turn_10 : decode cX3_turn 10 = .ok (.iload_n 2, 1) := by decide +kernel
theorem dX3_turn_11 : decode cX3_turn 11 = .ok (.lshl, 1) := by decide +kernel
theorem dX3_turn_12 : decode cX3_turn 12 = .ok (.lxor, 1) := by decide +kernel
theorem dX3_turn_13 : decode cX3_turn 13 = .ok (.putfield 46, 3) := by decide +kernel
theorem dX3_turn_16 : decode cX3_turn 16 = .ok (.goto 15, 3) := by decide +kernel
theorem dX3_isTaken_0 : decode cX3_isTaken 0 = .ok (.iconst 0, 1) := by decide +kernel
theorem dX3_isTaken_1 : decode cX3_isTaken 1 = .ok (.istore_n 2, 1) := by decide +kernel
theorem dX3_isTaken_2 : decode cX3_isTaken 2 = .ok (.iload_n 2, 1) := by decide +kernel
theorem dX3_isTaken_3 : decode cX3_isTaken 3 = .ok (.aload_n 0, 1) := by decide +kernel
theorem dX3_isTaken_4 : decode cX3_isTaken 4 = .ok (.getfield 53, 3) := by decide +kernel
theorem dX3_isTaken_7 : decode cX3_isTaken 7 = .ok (.if_icmp .ge 26, 3) := by decide +kernel
theorem dX3_isTaken_33 : decode cX3_isTaken 33 = .ok (.iconst 0, 1) := by decide +kernel
theorem dX3_isTaken_34 : decode cX3_isTaken 34 = .ok (.ireturn, 1) := by decide +kernel
theorem dX3_isTaken_10 : decode cX3_isTaken 10 = .ok (.iload_n 2, 1) := by decide +kernel
theorem dX3_isTaken_11 : decode cX3_isTaken 11 = .ok (.iconst 5, 1) := by decide +kernel
theorem dX3_isTaken_12 : decode cX3_isTaken 12 = .ok (.if_icmp .ge 21, 3) := by decide +kernel
theorem dX3_isTaken_15 : decode cX3_isTaken 15 = .ok (.aload_n 0, 1) := by decide +kernel
theorem dX3_isTaken_16 : decode cX3_isTaken 16 = .ok (.getfield 15, 3) := by decide +kernel
theorem dX3_isTaken_19 : decode cX3_isTaken 19 = .ok (.iload_n 2, 1) := by decide +kernel
theorem dX3_isTaken_20 : decode cX3_isTaken 20 = .ok (.iaload, 1) := by decide +kernel
theorem dX3_isTaken_21 : decode cX3_isTaken 21 = .ok (.iload_n 1, 1) := by decide +kernel
theorem dX3_isTaken_22 : decode cX3_isTaken 22 = .ok (.if_icmp .ne 5, 3) := by decide +kernel
theorem dX3_isTaken_27 : decode cX3_isTaken 27 = .ok (.iinc 2 1, 3) := by decide +kernel
theorem dX3_isTaken_30 : decode cX3_isTaken 30 = .ok (.goto (-28), 3) := by decide +kernel
theorem dX3_isTaken_25 : decode cX3_isTaken 25 = .ok (.iconst 1, 1) := by decide +kernel
theorem dX3_isTaken_26 : decode cX3_isTaken 26 = .ok (.ireturn, 1) := by decide +kernel
theorem dX3_isFree_0 : decode cX3_isFree 0 = .ok (.aload_n 0, 1) := by decide +kernel
theorem dX3_isFree_1 : decode cX3_isFree 1 = .ok (.iconst 0, 1) := by decide +kernel
theorem dX3_isFree_2 : decode cX3_isFree 2 = .ok (.iload_n 1, 1) := by decide +kernel
set_option maxRecDepth 20000 in
theorem ggX3_isFree_X3_has : GoodIn wsX3_isFree wsX3_has := goodIn_r _ [5, 6, 7, 8, 9, 10, 17, 18, 19, 20, 21, 22, 23, 24, 25, 26, 27, 28, 29, 30, 31, 32] (by decide +kernel) (by decide +kernel)
set_option maxRecDepth 20000 in
theorem gX3_isFree_X3_has : GoodIn wsX3_isFree (wsV RX3 80 RX3 yX3_has wsX3_has) := goodIn_app (goodIn_of _ (by decide +kernel)) ggX3_isFree_X3_has
theorem dX3_isFree_3 : decode cX3_isFree 3 = .ok (.invokevirtual 80, 3) := by decide +kernel
theorem dX3_isFree_6 : decode cX3_isFree 6 = .ok (.ifCond .ne 15, 3) := by decide +kernel
theorem dX3_isFree_21 : decode cX3_isFree 21 = .ok (.iconst 0, 1) := by decide +kernel
theorem dX3_isFree_22 : decode cX3_isFree 22 = .ok (.ireturn, 1) := by decide +kernel
theorem dX3_isFree_9 : decode cX3_isFree 9 = .ok (.aload_n 0, 1) := by decide +kernel
theorem dX3_isFree_10 : decode cX3_isFree 10 = .ok (.iload_n 1, 1) := by decide +kernel
set_option maxRecDepth 20000 in
theorem ggX3_isFree_X3_isTaken : GoodIn wsX3_isFree wsX3_isTaken := goodIn_r _ [14, 15, 16, 17, 18, 19, 20, 21, 22, 23, 24, 25, 26, 27, 28, 29, 30, 31, 32] (by decide +kernel) (by decide +kernel)
set_option maxRecDepth 20000 in
theorem gX3_isFree_X3_isTaken : GoodIn wsX3_isFree (wsV RX3 84 RX3 yX3_isTaken wsX3_isTaken) := goodIn_app (goodIn_of _ (by decide +kernel)) ggX3_isFree_X3_isTaken
theorem dX3_isFree_11 : decode cX3_isFree 11 = .ok (.invokevirtual 84, 3) := by decide +kernel
theorem dX3_isFree_14 : decode cX3_isFree 14 = .ok (.ifCond .ne 7, 3) := by decide +kernel
theorem dX3_isFree_17 : decode cX3_isFree 17 = .ok (.iconst 1, 1) := by decide +kernel
theorem dX3_isFree_18 : decode cX3_isFree 18 = .ok (.goto 4, 3) := by decide +kernel
theorem dX3_addPerson_0 : decode cX3_addPerson 0 = .ok (.aload_n 0, 1) := by decide +kernel
theorem dX3_addPerson_1 : decode cX3_addPerson 1 = .ok (.getfield 53, 3) := by decide +kernel
theorem dX3_addPerson_4 : decode cX3_addPerson 4 = .ok (.ifCond .lt 11, 3) := by decide +kernel
theorem dX3_addPerson_15 : decode cX3_addPerson 15 = .ok (.iconst (-1), 1) := by decide +kernel
theorem dX3_addPerson_16 : decode cX3_addPerson 16 = .ok (.ireturn, 1) := by decide +kernel
theorem dX3_addPerson_7 : decode cX3_addPerson 7 = .ok (.aload_n 0, 1) := by decide +kernel
theorem dX3_addPerson_8 : decode cX3_addPerson 8 = .ok (.getfield 53, 3) := by decide +kernel
theorem dX3_addPerson_11 : decode cX3_addPerson 11 = .ok (.iconst 5, 1) := by decide +kernel
theorem dX3_addPerson_12 : decode cX3_addPerson 12 = .ok (.if_icmp .lt 5, 3) := by decide +kernel
theorem dX3_addPerson_17 : decode cX3_addPerson 17 = .ok (.aload_n 0, 1) := by decide +kernel
theorem dX3_addPerson_18 : decode cX3_addPerson 18 = .ok (.getfield 9, 3) := by decide +kernel
theorem dX3_addPerson_21 : decode cX3_addPerson 21 = .ok (.aload_n 0, 1) := by decide +kernel
theorem dX3_addPerson_22 : decode cX3_addPerson 22 = .ok (.getfield 53, 3) := by decide +kernel
theorem dX3_addPerson_25 : decode cX3_addPerson 25 = .ok (.iload_n 1, 1) := by decide +kernel
theorem dX3_addPerson_26 : decode cX3_addPerson 26 = .ok (.iastore, 1) := by decide +kernel
theorem dX3_addPerson_27 : decode cX3_addPerson 27 = .ok (.aload_n 0, 1) := by decide +kernel
theorem dX3_addPerson_28 : decode cX3_addPerson 28 = .ok (.getfield 15, 3) := by decide +kernel
theorem dX3_addPerson_31 : decode cX3_addPerson 31 = .ok (.aload_n 0, 1) := by decide +kernel
theorem dX3_addPerson_32 : decode cX3_addPerson 32 = .ok (.getfield 53, 3) := by decide +kernel
theorem dX3_addPerson_35 : decode cX3_addPerson 35 = .ok (.iload_n 2, 1) := by decide +kernel
theorem dX3_addPerson_36 : decode cX3_addPerson 36 = .ok (.iastore, 1) := by decide +kernel
theorem dX3_addPerson_37 : decode cX3_addPerson 37 = .ok (.aload_n 0, 1) := by decide +kernel
theorem dX3_addPerson_38 : decode cX3_addPerson 38 = .ok (.getfield 18, 3) := by decide +kernel
theorem dX3_addPerson_41 : decode cX3_addPerson 41 = .ok (.aload_n 0, 1) := by decide +kernel
theorem dX3_addPerson_42 : decode cX3_addPerson 42 = .ok (.getfield 53, 3) := by decide +kernel
theorem dX3_addPerson_45 : decode cX3_addPerson 45 = .ok (.iload_n 3, 1) := by decide +kernel
theorem dX3_addPerson_46 : decode cX3_addPerson 46 = .ok (.iastore, 1) := by decide +kernel
theorem dX3_addPerson_47 : decode cX3_addPerson 47 = .ok (.aload_n 0, 1) := by decide +kernel
theorem dX3_addPerson_48 : decode cX3_addPerson 48 = .ok (.dup, 1) := by decide +kernel
theorem dX3_addPerson_49 : decode cX3_addPerson 49 = .ok (.getfield 53, 3) := by decide +kernel
theorem dX3_addPerson_52 : decode cX3_addPerson 52 = .ok (.dup_x1, 1) := by decide +kernel
theorem dX3_addPerson_53 : decode cX3_addPerson 53 = .ok (.iconst 1, 1) := by decide +kernel
theorem dX3_addPerson_54 : decode cX3_addPerson 54 = .ok (.iadd, 1) := by decide +kernel
theorem dX3_addPerson_55 : decode cX3_addPerson 55 = .ok (.putfield 53, 3) := by decide +kernel
theorem dX3_addPerson_58 : decode cX3_addPerson 58 = .ok (.ireturn, 1) := by decide +kernel
theorem dX3_addTelling_0 : decode cX3_addTelling 0 = .ok (.aload_n 0, 1) := by decide +kernel
theorem dX3_addTelling_1 : decode cX3_addTelling 1 = .ok (.getfield 56, 3) := by decide +kernel
theorem dX3_addTelling_4 : decode cX3_addTelling 4 = .ok (.ifCond .lt 12, 3) := by decide +kernel
theorem dX3_addTelling_16 : decode cX3_addTelling 16 = .ok (.iconst (-1), 1) := by decide +kernel
theorem dX3_addTelling_17 : decode cX3_addTelling 17 = .ok (.ireturn, 1) := by decide +kernel
theorem dX3_addTelling_7 : decode cX3_addTelling 7 = .ok (.aload_n 0, 1) := by decide +kernel
theorem dX3_addTelling_8 : decode cX3_addTelling 8 = .ok (.getfield 56, 3) := by decide +kernel
theorem dX3_addTelling_11 : decode cX3_addTelling 11 = .ok (.bipush 6, 2) := by decide +kernel
theorem dX3_addTelling_13 : decode cX3_addTelling 13 = .ok (.if_icmp .lt 5, 3) := by decide +kernel
theorem dX3_addTelling_18 : decode cX3_addTelling 18 = .ok (.aload_n 0, 1) := by decide +kernel
theorem dX3_addTelling_19 : decode cX3_addTelling 19 = .ok (.getfield 21, 3) := by decide +kernel
theorem dX3_addTelling_22 : decode cX3_addTelling 22 = .ok (.aload_n 0, 1) := by decide +kernel
theorem dX3_addTelling_23 : decode cX3_addTelling 23 = .ok (.getfield 56, 3) := by decide +kernel
theorem dX3_addTelling_26 : decode cX3_addTelling 26 = .ok (.iload_n 1, 1) := by decide +kernel
theorem dX3_addTelling_27 : decode cX3_addTelling 27 = .ok (.iastore, 1) := by decide +kernel
theorem dX3_addTelling_28 : decode cX3_addTelling 28 = .ok (.aload_n 0, 1) := by decide +kernel
theorem dX3_addTelling_29 : decode cX3_addTelling 29 = .ok (.getfield 24, 3) := by decide +kernel
theorem dX3_addTelling_32 : decode cX3_addTelling 32 = .ok (.aload_n 0, 1) := by decide +kernel
theorem dX3_addTelling_33 : decode cX3_addTelling 33 = .ok (.getfield 56, 3) := by decide +kernel
theorem dX3_addTelling_36 : decode cX3_addTelling 36 = .ok (.iload_n 2, 1) := by decide +kernel
theorem dX3_addTelling_37 : decode cX3_addTelling 37 = .ok (.iastore, 1) := by decide +kernel
theorem dX3_addTelling_38 : decode cX3_addTelling 38 = .ok (.aload_n 0, 1) := by decide +kernel
theorem dX3_addTelling_39 : decode cX3_addTelling 39 = .ok (.dup, 1) := by decide +kernel
theorem dX3_addTelling_40 : decode cX3_addTelling 40 = .ok (.getfield 56, 3) := by decide +kernel
theorem dX3_addTelling_43 : decode cX3_addTelling 43 = .ok (.dup_x1, 1) := by decide +kernel
theorem dX3_addTelling_44 : decode cX3_addTelling 44 = .ok (.iconst 1, 1) := by decide +kernel
theorem dX3_addTelling_45 : decode cX3_addTelling 45 = .ok (.iadd, 1) := by decide +kernel
theorem dX3_addTelling_46 : decode cX3_addTelling 46 = .ok (.putfield 56, 3) := by decide +kernel
theorem dX3_addTelling_49 : decode cX3_addTelling 49 = .ok (.ireturn, 1) := by decide +kernel
theorem dX3_addReport_0 : decode cX3_addReport 0 = .ok (.aload_n 0, 1) := by decide +kernel
theorem dX3_addReport_1 : decode cX3_addReport 1 = .ok (.getfield 59, 3) := by decide +kernel
theorem dX3_addReport_4 : decode cX3_addReport 4 = .ok (.ifCond .lt 12, 3) := by decide +kernel
theorem dX3_addReport_16 : decode cX3_addReport 16 = .ok (.iconst (-1), 1) := by decide +kernel
theorem dX3_addReport_17 : decode cX3_addReport 17 = .ok (.ireturn, 1) := by decide +kernel
theorem dX3_addReport_7 : decode cX3_addReport 7 = .ok (.aload_n 0, 1) := by decide +kernel
theorem dX3_addReport_8 : decode cX3_addReport 8 = .ok (.getfield 59, 3) := by decide +kernel
theorem dX3_addReport_11 : decode cX3_addReport 11 = .ok (.bipush 8, 2) := by decide +kernel
theorem dX3_addReport_13 : decode cX3_addReport 13 = .ok (.if_icmp .lt 5, 3) := by decide +kernel
theorem dX3_addReport_18 : decode cX3_addReport 18 = .ok (.aload_n 0, 1) := by decide +kernel
theorem dX3_addReport_19 : decode cX3_addReport 19 = .ok (.getfield 27, 3) := by decide +kernel
theorem dX3_addReport_22 : decode cX3_addReport 22 = .ok (.aload_n 0, 1) := by decide +kernel
theorem dX3_addReport_23 : decode cX3_addReport 23 = .ok (.getfield 59, 3) := by decide +kernel
theorem dX3_addReport_26 : decode cX3_addReport 26 = .ok (.iload_n 1, 1) := by decide +kernel
theorem dX3_addReport_27 : decode cX3_addReport 27 = .ok (.iastore, 1) := by decide +kernel
theorem dX3_addReport_28 : decode cX3_addReport 28 = .ok (.aload_n 0, 1) := by decide +kernel
theorem dX3_addReport_29 : decode cX3_addReport 29 = .ok (.getfield 30, 3) := by decide +kernel
theorem dX3_addReport_32 : decode cX3_addReport 32 = .ok (.aload_n 0, 1) := by decide +kernel
theorem dX3_addReport_33 : decode cX3_addReport 33 = .ok (.getfield 59, 3) := by decide +kernel
theorem dX3_addReport_36 : decode cX3_addReport 36 = .ok (.iload_n 2, 1) := by decide +kernel
theorem dX3_addReport_37 : decode cX3_addReport 37 = .ok (.iastore, 1) := by decide +kernel
theorem dX3_addReport_38 : decode cX3_addReport 38 = .ok (.aload_n 0, 1) := by decide +kernel
theorem dX3_addReport_39 : decode cX3_addReport 39 = .ok (.dup, 1) := by decide +kernel
theorem dX3_addReport_40 : decode cX3_addReport 40 = .ok (.getfield 59, 3) := by decide +kernel
theorem dX3_addReport_43 : decode cX3_addReport 43 = .ok (.dup_x1, 1) := by decide +kernel
theorem dX3_addReport_44 : decode cX3_addReport 44 = .ok (.iconst 1, 1) := by decide +kernel
theorem dX3_addReport_45 : decode cX3_addReport 45 = .ok (.iadd, 1) := by decide +kernel
theorem dX3_addReport_46 : decode cX3_addReport 46 = .ok (.putfield 59, 3) := by decide +kernel
theorem dX3_addReport_49 : decode cX3_addReport 49 = .ok (.ireturn, 1) := by decide +kernel
theorem dX3_yardsOf_0 : decode cX3_yardsOf 0 = .ok (.aload_n 0, 1) := by decide +kernel
theorem dX3_yardsOf_1 : decode cX3_yardsOf 1 = .ok (.iload_n 1, 1) := by decide +kernel
set_option maxRecDepth 20000 in
theorem ggX3_yardsOf_X3_xOf : GoodIn wsX3_yardsOf wsX3_xOf := goodIn_r _ [9, 10, 15, 16, 17, 18, 19, 20, 21, 22, 23, 24, 25, 26, 27, 28, 29, 30] (by decide +kernel) (by decide +kernel)
set_option maxRecDepth 20000 in
theorem gX3_yardsOf_X3_xOf : GoodIn wsX3_yardsOf (wsV RX3 87 RX3 yX3_xOf wsX3_xOf) := goodIn_app (goodIn_of _ (by decide +kernel)) ggX3_yardsOf_X3_xOf
theorem dX3_yardsOf_2 : decode cX3_yardsOf 2 = .ok (.invokevirtual 87, 3) := by decide +kernel
theorem dX3_yardsOf_5 : decode cX3_yardsOf 5 = .ok (.aload_n 0, 1) := by decide +kernel
theorem dX3_yardsOf_6 : decode cX3_yardsOf 6 = .ok (.iload_n 2, 1) := by decide +kernel
theorem dX3_yardsOf_7 : decode cX3_yardsOf 7 = .ok (.invokevirtual 87, 3) := by decide +kernel
theorem dX3_yardsOf_10 : decode cX3_yardsOf 10 = .ok (.isub, 1) := by decide +kernel
theorem dX3_yardsOf_11 : decode cX3_yardsOf 11 = .ok (.invokestatic 91, 3) := by decide +kernel
theorem dX3_yardsOf_14 : decode cX3_yardsOf 14 = .ok (.aload_n 0, 1) := by decide +kernel
theorem dX3_yardsOf_15 : decode cX3_yardsOf 15 = .ok (.iload_n 1, 1) := by decide +kernel
set_option maxRecDepth 20000 in
theorem ggX3_yardsOf_X3_yOf : GoodIn wsX3_yardsOf wsX3_yOf := goodIn_r _ [14, 10, 15, 16, 17, 18, 19, 20, 21, 22, 23, 24, 25, 26, 27, 28, 29, 30] (by decide +kernel) (by decide +kernel)
set_option maxRecDepth 20000 in
theorem gX3_yardsOf_X3_yOf : GoodIn wsX3_yardsOf (wsV RX3 96 RX3 yX3_yOf wsX3_yOf) := goodIn_app (goodIn_of _ (by decide +kernel)) ggX3_yardsOf_X3_yOf
theorem dX3_yardsOf_16 : decode cX3_yardsOf 16 = .ok (.invokevirtual 96, 3) := by decide +kernel
theorem dX3_yardsOf_19 : decode cX3_yardsOf 19 = .ok (.aload_n 0, 1) := by decide +kernel
theorem dX3_yardsOf_20 : decode cX3_yardsOf 20 = .ok (.iload_n 2, 1) := by decide +kernel
theorem dX3_yardsOf_21 : decode cX3_yardsOf 21 = .ok (.invokevirtual 96, 3) := by decide +kernel
theorem dX3_yardsOf_24 : decode cX3_yardsOf 24 = .ok (.isub, 1) := by decide +kernel
theorem dX3_yardsOf_25 : decode cX3_yardsOf 25 = .ok (.invokestatic 91, 3) := by decide +kernel
theorem dX3_yardsOf_28 : decode cX3_yardsOf 28 = .ok (.iadd, 1) := by decide +kernel
theorem dX3_yardsOf_29 : decode cX3_yardsOf 29 = .ok (.ireturn, 1) := by decide +kernel
set_option maxHeartbeats 4000000 in
set_option maxRecDepth 100000 in
theorem n_X10_isWithin (l : Launch) (D : va_G) (cy : Nat → ClassId) (px : Int32) (py : Int32) (pz : Int32) (sz : Nat)  : Met l yX10_isWithin wsX10_isWithin ({ frames := 0, cells := 0, slots := 0, locals := 0 }) (va_Pc [.int px, .int py, .int pz] (kPre D cy [] sz)) (va_Qi (fun (r : Int32) (u : Unit) => (r = 1 ∧ (py ≤ px ∧ px ≤ pz)) ∨ (r = 0 ∧ (¬ (py ≤ px ∧ px ≤ pz)))) (fun _ _ => True) (fun q : Nat => sz ≤ q)) 0 0 (fun q : Nat => sz ≤ q) := by
  refine Met.ofW (cc := cX10_isWithin) (maxL := 3) (ret := (some .boolean)) (by decide) rfl ?_
  intro p e s m args below meth c s₁ B hml hv
  obtain ⟨rfl, hsz, hP, hKA, hD0⟩ := hv
  have hx := B.exec
  have hb := B.bytes
  have hr := B.returns
  have hts := atoms_spec (ws := wsX10_isWithin) B.pre
  have hown : s.vm.findClass RX10 = some m.cls := findClass_of_methodNamed B.named
  have hlocks := B.notSynchronized
  subst hsz
  have hK := hKA.1
  have hD := hD0
  generalize hAe : (fun q : Nat => s.heap.size ≤ q) = A
  have hA : ∀ q : Nat, s.heap.size ≤ q → A q := fun q h => by rw [← hAe]; exact h
  have hS : va_S A s.heap s.heap [] := va_S.rf
  have hP : va_P D vwCl [] s.heap := hP
  have hl := lv_entry ([.int px, .int py, .int pz]) (n := 3) (Nat.le_of_ble_eq_true rfl)
  rw [lg_entry_eq]
  generalize (lg_sl ([.int px, .int py, .int pz]) ++ List.replicate (3 - (lg_sl ([.int px, .int py, .int pz])).length) Slot.unset).toArray = ls at hl ⊢
  have hl : lv_has ls 3 [(0, .int px), (1, .int py), (2, .int pz)] := hl
  refine qW (fun QF hQF => ?_)
  refine lv_iload_n hx hb dX10_isWithin_0 rfl (lv_at hl 0 rfl) ?_
  refine lv_iload_n hx hb dX10_isWithin_1 rfl (lv_at hl 1 rfl) ?_
  refine lv_icmp_lt (tgt := 14) hx hb dX10_isWithin_2 (by decide) (fun c1 => ?_) (fun c1 => ?_)
  · skip
    refine lv_iconst (v := 0) hx hb dX10_isWithin_14 (by decide) ?_
    subst hQF
    exact W.zret (v := 0) hx hb hr rfl (fun t ht hW => ⟨⟨0, (), rfl, (by first | exact Or.inl ⟨rfl, Int32.not_lt.mp (by assumption), Int32.not_lt.mp (by assumption)⟩ | exact Or.inr ⟨rfl, by simp only [z_lt, z_le] at *; omega⟩), trivial⟩, hS.F ht⟩) hS.2.2 dX10_isWithin_15
  · skip
    refine lv_iload_n hx hb dX10_isWithin_5 rfl (lv_at hl 0 rfl) ?_
    refine lv_iload_n hx hb dX10_isWithin_6 rfl (lv_at hl 2 rfl) ?_
    refine lv_icmp_gt (tgt := 14) hx hb dX10_isWithin_7 (by decide) (fun c2 => ?_) (fun c2 => ?_)
    · skip
      refine lv_iconst (v := 0) hx hb dX10_isWithin_14 (by decide) ?_
      subst hQF
      exact W.zret (v := 0) hx hb hr rfl (fun t ht hW => ⟨⟨0, (), rfl, (by first | exact Or.inl ⟨rfl, Int32.not_lt.mp (by assumption), Int32.not_lt.mp (by assumption)⟩ | exact Or.inr ⟨rfl, by simp only [z_lt, z_le] at *; omega⟩), trivial⟩, hS.F ht⟩) hS.2.2 dX10_isWithin_15
    · skip
      refine lv_iconst (v := 1) hx hb dX10_isWithin_10 (by decide) ?_
      refine lv_goto (tgt := 15) hx hb dX10_isWithin_11 (by decide) ?_
      subst hQF
      exact W.zret (v := 1) hx hb hr rfl (fun t ht hW => ⟨⟨1, (), rfl, (by first | exact Or.inl ⟨rfl, Int32.not_lt.mp (by assumption), Int32.not_lt.mp (by assumption)⟩ | exact Or.inr ⟨rfl, by simp only [z_lt, z_le] at *; omega⟩), trivial⟩, hS.F ht⟩) hS.2.2 dX10_isWithin_15

set_option maxHeartbeats 4000000 in
set_option maxRecDepth 100000 in
theorem n_X10_isOn (l : Launch) (D : va_G) (cy : Nat → ClassId) (px : Int64) (py : Int32) (sz : Nat)  : Met l yX10_isOn wsX10_isOn ({ frames := 0, cells := 0, slots := 0, locals := 0 }) (va_Pc [.long px, .int py] (kPre D cy [] sz)) (va_Qi (fun (r : Int32) (u : Unit) => (r = 1 ∧ True) ∨ (r = 0 ∧ True)) (fun _ _ => True) (fun q : Nat => sz ≤ q)) 0 0 (fun q : Nat => sz ≤ q) := by
  refine Met.ofW (cc := cX10_isOn) (maxL := 3) (ret := (some .boolean)) (by decide) rfl ?_
  intro p e s m args below meth c s₁ B hml hv
  obtain ⟨rfl, hsz, hP, hKA, hD0⟩ := hv
  have hx := B.exec
  have hb := B.bytes
  have hr := B.returns
  have hts := atoms_spec (ws := wsX10_isOn) B.pre
  have hown : s.vm.findClass RX10 = some m.cls := findClass_of_methodNamed B.named
  have hlocks := B.notSynchronized
  subst hsz
  have hK := hKA.1
  have hD := hD0
  generalize hAe : (fun q : Nat => s.heap.size ≤ q) = A
  have hA : ∀ q : Nat, s.heap.size ≤ q → A q := fun q h => by rw [← hAe]; exact h
  have hS : va_S A s.heap s.heap [] := va_S.rf
  have hP : va_P D vwCl [] s.heap := hP
  have hl := lv_entry ([.long px, .int py]) (n := 3) (Nat.le_of_ble_eq_true rfl)
  rw [lg_entry_eq]
  generalize (lg_sl ([.long px, .int py]) ++ List.replicate (3 - (lg_sl ([.long px, .int py])).length) Slot.unset).toArray = ls at hl ⊢
  have hl : lv_has ls 3 [(0, .long px), (2, .int py)] := hl
  refine qW (fun QF hQF => ?_)
  refine lv_lload_n hx hb dX10_isOn_0 rfl (lv_at hl 0 rfl) ?_
  refine lv_iload_n hx hb dX10_isOn_1 rfl (lv_at hl 1 rfl) ?_
  refine lv_lshr hx hb dX10_isOn_2 rfl ?_
  refine lv_lconst (v := 1) hx hb dX10_isOn_3 (by decide) ?_
  refine lv_land hx hb dX10_isOn_4 ?_
  refine lv_lconst (v := 1) hx hb dX10_isOn_5 (by decide) ?_
  refine W.lcmp hx hb dX10_isOn_6 ?_
  refine lv_if_ne (tgt := 14) hx hb dX10_isOn_7 (by decide) (fun c1 => ?_) (fun c1 => ?_)
  · skip
    refine lv_iconst (v := 0) hx hb dX10_isOn_14 (by decide) ?_
    subst hQF
    exact W.zret (v := 0) hx hb hr rfl (fun t ht hW => ⟨⟨0, (), rfl, (Or.inr ⟨rfl, trivial⟩), trivial⟩, hS.F ht⟩) hS.2.2 dX10_isOn_15
  · skip
    refine lv_iconst (v := 1) hx hb dX10_isOn_10 (by decide) ?_
    refine lv_goto (tgt := 15) hx hb dX10_isOn_11 (by decide) ?_
    subst hQF
    exact W.zret (v := 1) hx hb hr rfl (fun t ht hW => ⟨⟨1, (), rfl, (Or.inl ⟨rfl, trivial⟩), trivial⟩, hS.F ht⟩) hS.2.2 dX10_isOn_15

set_option maxHeartbeats 4000000 in
set_option maxRecDepth 100000 in
theorem n_X10_isIn (l : Launch) (D : va_G) (cy : Nat → ClassId) (px : Int32) (py : Int32) (sz : Nat)  : Met l yX10_isIn wsX10_isIn ({ frames := 0, cells := 0, slots := 0, locals := 0 }) (va_Pc [.int px, .int py] (kPre D cy [] sz)) (va_Qi (fun (r : Int32) (u : Unit) => (r = 1 ∧ True) ∨ (r = 0 ∧ True)) (fun _ _ => True) (fun q : Nat => sz ≤ q)) 0 0 (fun q : Nat => sz ≤ q) := by
  refine Met.ofW (cc := cX10_isIn) (maxL := 2) (ret := (some .boolean)) (by decide) rfl ?_
  intro p e s m args below meth c s₁ B hml hv
  obtain ⟨rfl, hsz, hP, hKA, hD0⟩ := hv
  have hx := B.exec
  have hb := B.bytes
  have hr := B.returns
  have hts := atoms_spec (ws := wsX10_isIn) B.pre
  have hown : s.vm.findClass RX10 = some m.cls := findClass_of_methodNamed B.named
  have hlocks := B.notSynchronized
  subst hsz
  have hK := hKA.1
  have hD := hD0
  generalize hAe : (fun q : Nat => s.heap.size ≤ q) = A
  have hA : ∀ q : Nat, s.heap.size ≤ q → A q := fun q h => by rw [← hAe]; exact h
  have hS : va_S A s.heap s.heap [] := va_S.rf
  have hP : va_P D vwCl [] s.heap := hP
  have hl := lv_entry ([.int px, .int py]) (n := 2) (Nat.le_of_ble_eq_true rfl)
  rw [lg_entry_eq]
  generalize (lg_sl ([.int px, .int py]) ++ List.replicate (2 - (lg_sl ([.int px, .int py])).length) Slot.unset).toArray = ls at hl ⊢
  have hl : lv_has ls 2 [(0, .int px), (1, .int py)] := hl
  refine qW (fun QF hQF => ?_)
  refine lv_iload_n hx hb dX10_isIn_0 rfl (lv_at hl 0 rfl) ?_
  refine lv_iload_n hx hb dX10_isIn_1 rfl (lv_at hl 1 rfl) ?_
  refine lv_ishr hx hb dX10_isIn_2 ?_
  refine lv_iconst (v := 1) hx hb dX10_isIn_3 (by decide) ?_
  refine lv_iand hx hb dX10_isIn_4 ?_
  refine lv_iconst (v := 1) hx hb dX10_isIn_5 (by decide) ?_
  refine lv_icmp_ne (tgt := 13) hx hb dX10_isIn_6 (by decide) (fun c1 => ?_) (fun c1 => ?_)
  · skip
    refine lv_iconst (v := 0) hx hb dX10_isIn_13 (by decide) ?_
    subst hQF
    exact W.zret (v := 0) hx hb hr rfl (fun t ht hW => ⟨⟨0, (), rfl, (Or.inr ⟨rfl, trivial⟩), trivial⟩, hS.F ht⟩) hS.2.2 dX10_isIn_14
  · skip
    refine lv_iconst (v := 1) hx hb dX10_isIn_9 (by decide) ?_
    refine lv_goto (tgt := 14) hx hb dX10_isIn_10 (by decide) ?_
    subst hQF
    exact W.zret (v := 1) hx hb hr rfl (fun t ht hW => ⟨⟨1, (), rfl, (Or.inl ⟨rfl, trivial⟩), trivial⟩, hS.F ht⟩) hS.2.2 dX10_isIn_14

set_option maxHeartbeats 4000000 in
set_option maxRecDepth 100000 in
theorem n_X10_nthSquare (l : Launch) (D : va_G) (cy : Nat → ClassId) (px : Int64) (py : Int32) (pz : Int32) (sz : Nat)  : Met l yX10_nthSquare wsX10_nthSquare ({ frames := 1, cells := 0, slots := 0, locals := 22 }) (va_Pc [.long px, .int py, .int pz] (kPre D cy [] sz)) (va_Qi (fun (r : Int32) (u : Unit) => True) (fun _ _ => True) (fun q : Nat => sz ≤ q)) 0 0 (fun q : Nat => sz ≤ q) := by
  refine Met.ofW (cc := cX10_nthSquare) (maxL := 6) (ret := (some .int)) (by decide) rfl ?_
  intro p e s m args below meth c s₁ B hml hv
  obtain ⟨rfl, hsz, hP, hKA, hD0⟩ := hv
  have hx := B.exec
  have hb := B.bytes
  have hr := B.returns
  have hts := atoms_spec (ws := wsX10_nthSquare) B.pre
  have hown : s.vm.findClass RX10 = some m.cls := findClass_of_methodNamed B.named
  have hlocks := B.notSynchronized
  subst hsz
  have hK := hKA.1
  have hD := hD0
  generalize hAe : (fun q : Nat => s.heap.size ≤ q) = A
  have hA : ∀ q : Nat, s.heap.size ≤ q → A q := fun q h => by rw [← hAe]; exact h
  have hS : va_S A s.heap s.heap [] := va_S.rf
  have hP : va_P D vwCl [] s.heap := hP
  have hl := lv_entry ([.long px, .int py, .int pz]) (n := 6) (Nat.le_of_ble_eq_true rfl)
  rw [lg_entry_eq]
  generalize (lg_sl ([.long px, .int py, .int pz]) ++ List.replicate (6 - (lg_sl ([.long px, .int py, .int pz])).length) Slot.unset).toArray = ls at hl ⊢
  have hl : lv_has ls 6 [(0, .long px), (2, .int py), (3, .int pz)] := hl
  refine qW (fun QF hQF => ?_)
  refine lv_iconst (v := 0) hx hb dX10_nthSquare_0 (by decide) ?_
  refine lv_istore (lv' := [(4, .int 0), (0, .long px), (2, .int py), (3, .int pz)]) hx hb dX10_nthSquare_1 hl (by decide) rfl (fun ls hl => ?_)
  refine lv_iconst (v := 0) hx hb dX10_nthSquare_3 (by decide) ?_
  refine lv_istore (lv' := [(5, .int 0), (4, .int 0), (0, .long px), (2, .int py), (3, .int pz)]) hx hb dX10_nthSquare_4 hl (by decide) rfl (fun ls hl => ?_)
  have lp6 : ∀ (n6 : Nat) (v5_6 : Nat) (v4_6 : Int32) (hv5_6 : v5_6 < 2147483648), 2147483648 - v5_6 < n6 → ∀ (H : Heap) (locs : List Loc), va_P D vwCl [] H → va_D (fun _ => True) [] → va_S A s.heap H locs → ∀ ls : Array Slot, lv_has ls 6 [(5, .int (nI v5_6)), (4, .int v4_6), (0, .long px), (2, .int py), (3, .int pz)] → W p l e (headSpec wsX10_nthSquare ({ frames := 1, cells := 0, slots := 0, locals := 22 })).room s m [.long px, .int py, .int pz].toArray below meth c H locs 0 0 QF (F0 m 6 ls []) := by
    intro n6
    induction n6 with
    | zero => intro v5_6 v4_6 hv5_6 hm; exact absurd hm (Nat.not_lt_zero _)
    | succ n6 ih6 =>
      intro v5_6 v4_6 hv5_6 hm6 H locs hP hD hS ls hl
      refine lv_iload hx hb dX10_nthSquare_6 (lv_at hl 0 rfl) ?_
      refine lv_bipush (v := 36) hx hb dX10_nthSquare_8 (by decide) ?_
      refine lv_icmp_ge (tgt := 40) hx hb dX10_nthSquare_10 (by decide) (fun c1 => ?_) (fun c1 => ?_)
      · skip
        refine lv_iload_n hx hb dX10_nthSquare_40 rfl (lv_at hl 4 rfl) ?_
        subst hQF
        exact W.iret (v := pz) hx hb hr (fun t ht hW => ⟨⟨pz, (), rfl, trivial, trivial⟩, hS.F ht⟩) hS.2.2 dX10_nthSquare_41
      · skip
        refine lv_lload_n hx hb dX10_nthSquare_13 rfl (lv_at hl 2 rfl) ?_
        refine lv_iload hx hb dX10_nthSquare_14 (lv_at hl 0 rfl) ?_
        refine rd_i (va_runS (As := [.long px, .int (nI v5_6)]) (rest := []) ⟨hx, hb, hml, hown, hts⟩ (n_X10_isOn l D cy px (nI v5_6) _ ) (va_cwS 2 hts gX10_nthSquare_X10_isOn rfl rfl rfl (by decide +kernel) ⟨Nat.le_of_ble_eq_true rfl, Nat.le_of_ble_eq_true rfl⟩) (pS hKA pE (dE (A := A))) rfl rfl hl.1 rfl (lv_room (Nat.le_of_ble_eq_true rfl)) dX10_nthSquare_16 ⟨Nat.le_of_ble_eq_true rfl, Nat.le_of_ble_eq_true rfl⟩) hP hS hA (fun r2 H locs hwr2 hP hS => ?_)
        have hwr2 : (r2 = 1 ∧ True) ∨ (r2 = 0 ∧ True) := hwr2
        refine lv_if_eq (tgt := 34) hx hb dX10_nthSquare_19 (by decide) (fun c3 => ?_) (fun c3 => ?_)
        · skip
          refine lv_iinc (v := nI (v5_6 + 1)) (lv' := [(5, .int (nI (v5_6 + 1))), (4, .int v4_6), (0, .long px), (2, .int py), (3, .int pz)]) hx hb dX10_nthSquare_34 hl (k := 0) rfl (nI_1 _) (by decide) rfl (fun ls hl => ?_)
          refine lv_goto (tgt := 6) hx hb dX10_nthSquare_37 (by decide) ?_
          exact ih6 (v5_6 + 1) v4_6 (by first | omega | exact nlt_max hv5_6 (by assumption)) (by first | omega | (have := nlt_max hv5_6 (by assumption); omega)) _ _ hP hD hS ls hl
        · skip
          refine lv_iload hx hb dX10_nthSquare_22 (lv_at hl 1 rfl) ?_
          refine lv_iload_n hx hb dX10_nthSquare_24 rfl (lv_at hl 3 rfl) ?_
          refine lv_icmp_ne (tgt := 31) hx hb dX10_nthSquare_25 (by decide) (fun c4 => ?_) (fun c4 => ?_)
          · skip
            obtain ⟨x5, ex5⟩ : ∃ y : Int32, y = v4_6 + 1 := ⟨_, rfl⟩
            refine lv_iinc (v := x5) (lv' := [(4, .int x5), (5, .int (nI v5_6)), (0, .long px), (2, .int py), (3, .int pz)]) hx hb dX10_nthSquare_31 hl (k := 1) rfl (by rw [ex5]; rfl) (by decide) rfl (fun ls hl => ?_)
            refine lv_iinc (v := nI (v5_6 + 1)) (lv' := [(5, .int (nI (v5_6 + 1))), (4, .int x5), (0, .long px), (2, .int py), (3, .int pz)]) hx hb dX10_nthSquare_34 hl (k := 1) rfl (nI_1 _) (by decide) rfl (fun ls hl => ?_)
            refine lv_goto (tgt := 6) hx hb dX10_nthSquare_37 (by decide) ?_
            exact ih6 (v5_6 + 1) x5 (by first | omega | exact nlt_max hv5_6 (by assumption)) (by first | omega | (have := nlt_max hv5_6 (by assumption); omega)) _ _ hP hD hS ls hl
          · skip
            refine lv_iload hx hb dX10_nthSquare_28 (lv_at hl 0 rfl) ?_
            subst hQF
            exact W.iret (v := nI v5_6) hx hb hr (fun t ht hW => ⟨⟨nI v5_6, (), rfl, trivial, trivial⟩, hS.F ht⟩) hS.2.2 dX10_nthSquare_30
  exact lp6 (2147483648 - 0 + 1) 0 0 (by first | omega | exact nlt_max (by assumption) (by assumption)) (Nat.lt_succ_self _) _ _ hP hD hS ls hl

set_option maxHeartbeats 4000000 in
set_option maxRecDepth 100000 in
theorem n_J6_compare_7cf53 (l : Launch) (D : va_G) (cy : Nat → ClassId) (px : Int32) (py : Int32) (sz : Nat)  : Met l yJ6_compare_7cf53 wsJ6_compare_7cf53 ({ frames := 0, cells := 0, slots := 0, locals := 0 }) (va_Pc [.int px, .int py] (kPre D cy [] sz)) (va_Qi (fun (r : Int32) (u : Unit) => True) (fun _ _ => True) (fun q : Nat => sz ≤ q)) 0 0 (fun q : Nat => sz ≤ q) := by
  refine Met.ofW (cc := cJ6_compare_7cf53) (maxL := 2) (ret := (some .int)) (by decide) rfl ?_
  intro p e s m args below meth c s₁ B hml hv
  obtain ⟨rfl, hsz, hP, hKA, hD0⟩ := hv
  have hx := B.exec
  have hb := B.bytes
  have hr := B.returns
  have hts := atoms_spec (ws := wsJ6_compare_7cf53) B.pre
  have hown : s.vm.findClass RJ6 = some m.cls := findClass_of_methodNamed B.named
  have hlocks := B.notSynchronized
  subst hsz
  have hK := hKA.1
  have hD := hD0
  generalize hAe : (fun q : Nat => s.heap.size ≤ q) = A
  have hA : ∀ q : Nat, s.heap.size ≤ q → A q := fun q h => by rw [← hAe]; exact h
  have hS : va_S A s.heap s.heap [] := va_S.rf
  have hP : va_P D vwCl [] s.heap := hP
  have hl := lv_entry ([.int px, .int py]) (n := 2) (Nat.le_of_ble_eq_true rfl)
  rw [lg_entry_eq]
  generalize (lg_sl ([.int px, .int py]) ++ List.replicate (2 - (lg_sl ([.int px, .int py])).length) Slot.unset).toArray = ls at hl ⊢
  have hl : lv_has ls 2 [(0, .int px), (1, .int py)] := hl
  refine qW (fun QF hQF => ?_)
  refine lv_iload_n hx hb dJ6_compare_7cf53_0 rfl (lv_at hl 0 rfl) ?_
  refine lv_iload_n hx hb dJ6_compare_7cf53_1 rfl (lv_at hl 1 rfl) ?_
  refine lv_icmp_ge (tgt := 9) hx hb dJ6_compare_7cf53_2 (by decide) (fun c1 => ?_) (fun c1 => ?_)
  · skip
    refine lv_iload_n hx hb dJ6_compare_7cf53_9 rfl (lv_at hl 0 rfl) ?_
    refine lv_iload_n hx hb dJ6_compare_7cf53_10 rfl (lv_at hl 1 rfl) ?_
    refine lv_icmp_ne (tgt := 18) hx hb dJ6_compare_7cf53_11 (by decide) (fun c2 => ?_) (fun c2 => ?_)
    · skip
      refine lv_iconst (v := 1) hx hb dJ6_compare_7cf53_18 (by decide) ?_
      subst hQF
      exact W.iret (v := 1) hx hb hr (fun t ht hW => ⟨⟨1, (), rfl, trivial, trivial⟩, hS.F ht⟩) hS.2.2 dJ6_compare_7cf53_19
    · skip
      refine lv_iconst (v := 0) hx hb dJ6_compare_7cf53_14 (by decide) ?_
      refine lv_goto (tgt := 19) hx hb dJ6_compare_7cf53_15 (by decide) ?_
      subst hQF
      exact W.iret (v := 0) hx hb hr (fun t ht hW => ⟨⟨0, (), rfl, trivial, trivial⟩, hS.F ht⟩) hS.2.2 dJ6_compare_7cf53_19
  · skip
    refine lv_iconst (v := (-1)) hx hb dJ6_compare_7cf53_5 (by decide) ?_
    refine lv_goto (tgt := 19) hx hb dJ6_compare_7cf53_6 (by decide) ?_
    subst hQF
    exact W.iret (v := (-1)) hx hb hr (fun t ht hW => ⟨⟨(-1), (), rfl, trivial, trivial⟩, hS.F ht⟩) hS.2.2 dJ6_compare_7cf53_19

set_option maxHeartbeats 4000000 in
set_option maxRecDepth 100000 in
theorem n_J13_bitCount_95d88 (l : Launch) (D : va_G) (cy : Nat → ClassId) (px : Int64) (sz : Nat)  : Met l yJ13_bitCount_95d88 wsJ13_bitCount_95d88 ({ frames := 0, cells := 0, slots := 0, locals := 0 }) (va_Pc [.long px] (kPre D cy [] sz)) (va_Qi (fun (r : Int32) (u : Unit) => True) (fun _ _ => True) (fun q : Nat => sz ≤ q)) 0 0 (fun q : Nat => sz ≤ q) := by
  refine Met.ofW (cc := cJ13_bitCount_95d88) (maxL := 2) (ret := (some .int)) (by decide) rfl ?_
  intro p e s m args below meth c s₁ B hml hv
  obtain ⟨rfl, hsz, hP, hKA, hD0⟩ := hv
  have hx := B.exec
  have hb := B.bytes
  have hr := B.returns
  have hts := atoms_spec (ws := wsJ13_bitCount_95d88) B.pre
  have hown : s.vm.findClass RJ13 = some m.cls := findClass_of_methodNamed B.named
  have hlocks := B.notSynchronized
  subst hsz
  have hK := hKA.1
  have hD := hD0
  generalize hAe : (fun q : Nat => s.heap.size ≤ q) = A
  have hA : ∀ q : Nat, s.heap.size ≤ q → A q := fun q h => by rw [← hAe]; exact h
  have hS : va_S A s.heap s.heap [] := va_S.rf
  have hP : va_P D vwCl [] s.heap := hP
  have hl := lv_entry ([.long px]) (n := 2) (Nat.le_of_ble_eq_true rfl)
  rw [lg_entry_eq]
  generalize (lg_sl ([.long px]) ++ List.replicate (2 - (lg_sl ([.long px])).length) Slot.unset).toArray = ls at hl ⊢
  have hl : lv_has ls 2 [(0, .long px)] := hl
  refine qW (fun QF hQF => ?_)
  have z0_ := hts (.constantLong RJ13 314 6148914691236517205) (by decide +kernel)
  have z1_ := hts (.constantLong RJ13 316 3689348814741910323) (by decide +kernel)
  have z2_ := hts (.constantLong RJ13 318 1085102592571150095) (by decide +kernel)
  refine lv_lload_n hx hb dJ13_bitCount_95d88_0 rfl (lv_at hl 0 rfl) ?_
  refine lv_lload_n hx hb dJ13_bitCount_95d88_1 rfl (lv_at hl 0 rfl) ?_
  refine lv_iconst (v := 1) hx hb dJ13_bitCount_95d88_2 (by decide) ?_
  refine lv_lushr hx hb dJ13_bitCount_95d88_3 rfl ?_
  refine lv_ldc2 hx hb hown z0_ dJ13_bitCount_95d88_4 ?_
  refine lv_land hx hb dJ13_bitCount_95d88_7 ?_
  refine lv_lsub hx hb dJ13_bitCount_95d88_8 ?_
  refine lv_topl (fun x1 ex1 => ?_)
  refine lv_lstore_n (lv' := [(0, .long x1)]) hx hb dJ13_bitCount_95d88_9 rfl hl (by decide) rfl (fun ls hl => ?_)
  refine lv_lload_n hx hb dJ13_bitCount_95d88_10 rfl (lv_at hl 0 rfl) ?_
  refine lv_ldc2 hx hb hown z1_ dJ13_bitCount_95d88_11 ?_
  refine lv_land hx hb dJ13_bitCount_95d88_14 ?_
  refine lv_lload_n hx hb dJ13_bitCount_95d88_15 rfl (lv_at hl 0 rfl) ?_
  refine lv_iconst (v := 2) hx hb dJ13_bitCount_95d88_16 (by decide) ?_
  refine lv_lushr hx hb dJ13_bitCount_95d88_17 rfl ?_
  refine lv_ldc2 hx hb hown z1_ dJ13_bitCount_95d88_18 ?_
  refine lv_land hx hb dJ13_bitCount_95d88_21 ?_
  refine lv_ladd hx hb dJ13_bitCount_95d88_22 ?_
  refine lv_topl (fun x2 ex2 => ?_)
  refine lv_lstore_n (lv' := [(0, .long x2)]) hx hb dJ13_bitCount_95d88_23 rfl hl (by decide) rfl (fun ls hl => ?_)
  refine lv_lload_n hx hb dJ13_bitCount_95d88_24 rfl (lv_at hl 0 rfl) ?_
  refine lv_lload_n hx hb dJ13_bitCount_95d88_25 rfl (lv_at hl 0 rfl) ?_
  refine lv_iconst (v := 4) hx hb dJ13_bitCount_95d88_26 (by decide) ?_
  refine lv_lushr hx hb dJ13_bitCount_95d88_27 rfl ?_
  refine lv_ladd hx hb dJ13_bitCount_95d88_28 ?_
  refine lv_ldc2 hx hb hown z2_ dJ13_bitCount_95d88_29 ?_
  refine lv_land hx hb dJ13_bitCount_95d88_32 ?_
  refine lv_topl (fun x3 ex3 => ?_)
  refine lv_lstore_n (lv' := [(0, .long x3)]) hx hb dJ13_bitCount_95d88_33 rfl hl (by decide) rfl (fun ls hl => ?_)
  refine lv_lload_n hx hb dJ13_bitCount_95d88_34 rfl (lv_at hl 0 rfl) ?_
  refine lv_lload_n hx hb dJ13_bitCount_95d88_35 rfl (lv_at hl 0 rfl) ?_
  refine lv_bipush (v := 8) hx hb dJ13_bitCount_95d88_36 (by decide) ?_
  refine lv_lushr hx hb dJ13_bitCount_95d88_38 rfl ?_
  refine lv_ladd hx hb dJ13_bitCount_95d88_39 ?_
  refine lv_topl (fun x4 ex4 => ?_)
  refine lv_lstore_n (lv' := [(0, .long x4)]) hx hb dJ13_bitCount_95d88_40 rfl hl (by decide) rfl (fun ls hl => ?_)
  refine lv_lload_n hx hb dJ13_bitCount_95d88_41 rfl (lv_at hl 0 rfl) ?_
  refine lv_lload_n hx hb dJ13_bitCount_95d88_42 rfl (lv_at hl 0 rfl) ?_
  refine lv_bipush (v := 16) hx hb dJ13_bitCount_95d88_43 (by decide) ?_
  refine lv_lushr hx hb dJ13_bitCount_95d88_45 rfl ?_
  refine lv_ladd hx hb dJ13_bitCount_95d88_46 ?_
  refine lv_topl (fun x5 ex5 => ?_)
  refine lv_lstore_n (lv' := [(0, .long x5)]) hx hb dJ13_bitCount_95d88_47 rfl hl (by decide) rfl (fun ls hl => ?_)
  refine lv_lload_n hx hb dJ13_bitCount_95d88_48 rfl (lv_at hl 0 rfl) ?_
  refine lv_lload_n hx hb dJ13_bitCount_95d88_49 rfl (lv_at hl 0 rfl) ?_
  refine lv_bipush (v := 32) hx hb dJ13_bitCount_95d88_50 (by decide) ?_
  refine lv_lushr hx hb dJ13_bitCount_95d88_52 rfl ?_
  refine lv_ladd hx hb dJ13_bitCount_95d88_53 ?_
  refine lv_topl (fun x6 ex6 => ?_)
  refine lv_lstore_n (lv' := [(0, .long x6)]) hx hb dJ13_bitCount_95d88_54 rfl hl (by decide) rfl (fun ls hl => ?_)
  refine lv_lload_n hx hb dJ13_bitCount_95d88_55 rfl (lv_at hl 0 rfl) ?_
  refine lv_l2i hx hb dJ13_bitCount_95d88_56 rfl ?_
  refine lv_bipush (v := 127) hx hb dJ13_bitCount_95d88_57 (by decide) ?_
  refine lv_iand hx hb dJ13_bitCount_95d88_59 ?_
  refine lv_topi (fun x7 ex7 => ?_)
  subst hQF
  exact W.iret (v := x7) hx hb hr (fun t ht hW => ⟨⟨x7, (), rfl, trivial, trivial⟩, hS.F ht⟩) hS.2.2 dJ13_bitCount_95d88_60

set_option maxHeartbeats 4000000 in
set_option maxRecDepth 100000 in
theorem n_X3_squareCount (l : Launch) (D : va_G) (cy : Nat → ClassId) (a_g : Nat) (g_wide : Int32) (g_high : Int32) (g_drown : Int32) (g_wind : Int32) (g_hedges : Int64) (g_fountains : Int64) (g_people : Int32) (g_tellings : Int32) (g_reports : Int32) (a_g_kinds : Nat) (a_g_squares : Nat) (a_g_voices : Nat) (a_g_tellers : Nat) (a_g_listeners : Nat) (a_g_witnesses : Nat) (a_g_claims : Nat) (sz : Nat)  : Met l yX3_squareCount wsX3_squareCount ({ frames := 0, cells := 0, slots := 0, locals := 0 }) (va_Pc [.ref a_g] (kPre D cy [(a_g, .inr (3, [.int g_wide, .int g_high, .int g_drown, .int g_wind, .long g_hedges, .long g_fountains, .int g_people, .int g_tellings, .int g_reports, .ref a_g_kinds, .ref a_g_squares, .ref a_g_voices, .ref a_g_tellers, .ref a_g_listeners, .ref a_g_witnesses, .ref a_g_claims]))] sz)) (va_Qi (fun (r : Int32) (u : Unit) => r = g_wide * g_high) (fun _ _ => True) (fun q : Nat => sz ≤ q)) 0 0 (fun q : Nat => sz ≤ q) := by
  refine Met.ofW (cc := cX3_squareCount) (maxL := 1) (ret := (some .int)) (by decide) rfl ?_
  intro p e s m args below meth c s₁ B hml hv
  obtain ⟨rfl, hsz, hP, hKA, hD0⟩ := hv
  have hx := B.exec
  have hb := B.bytes
  have hr := B.returns
  have hts := atoms_spec (ws := wsX3_squareCount) B.pre
  have hown : s.vm.findClass RX3 = some m.cls := findClass_of_methodNamed B.named
  have hlocks := B.notSynchronized
  subst hsz
  have hK := hKA.1
  have hD := hD0
  generalize hAe : (fun q : Nat => s.heap.size ≤ q) = A
  have hA : ∀ q : Nat, s.heap.size ≤ q → A q := fun q h => by rw [← hAe]; exact h
  have hS : va_S A s.heap s.heap [] := va_S.rf
  have hP : va_P D vwCl [(a_g, .inr (3, [.int g_wide, .int g_high, .int g_drown, .int g_wind, .long g_hedges, .long g_fountains, .int g_people, .int g_tellings, .int g_reports, .ref a_g_kinds, .ref a_g_squares, .ref a_g_voices, .ref a_g_tellers, .ref a_g_listeners, .ref a_g_witnesses, .ref a_g_claims]))] s.heap := hP
  have hl := lv_entry ([.ref a_g]) (n := 1) (Nat.le_of_ble_eq_true rfl)
  rw [lg_entry_eq]
  generalize (lg_sl ([.ref a_g]) ++ List.replicate (1 - (lg_sl ([.ref a_g])).length) Slot.unset).toArray = ls at hl ⊢
  have hl : lv_has ls 1 [(0, .ref a_g)] := hl
  refine qW (fun QF hQF => ?_)
  have z0_ := hts (.fieldLink RX3 33 "HeardSeen$Garden" "wide" "I") (by decide +kernel)
  have zi3_ : ∀ w ∈ u_ws RX3 TX3 16, w ∈ wsX3_squareCount := by decide +kernel
  have z2_ := hts (.fieldLink RX3 37 "HeardSeen$Garden" "high" "I") (by decide +kernel)
  refine lv_aload_n hx hb dX3_squareCount_0 rfl (lv_at hl 0 rfl) ?_
  refine va_get (D := D) (ci := 3) (v := .int g_wide) (C := RX3) (T := TX3) (N := 16) hx hb hts zi3_ hown hK hP 0 rfl rfl 0 (by decide) z0_ (fun _ h9 => h9) rfl dX3_squareCount_1 ?_
  refine lv_aload_n hx hb dX3_squareCount_4 rfl (lv_at hl 0 rfl) ?_
  refine va_get (D := D) (ci := 3) (v := .int g_high) (C := RX3) (T := TX3) (N := 16) hx hb hts zi3_ hown hK hP 0 rfl rfl 1 (by decide) z2_ (fun _ h9 => h9) rfl dX3_squareCount_5 ?_
  refine lv_imul hx hb dX3_squareCount_8 ?_
  subst hQF
  exact W.iret (v := g_wide * g_high) hx hb hr (fun t ht hW => ⟨⟨g_wide * g_high, (), rfl, rfl, trivial⟩, hS.F ht⟩) hS.2.2 dX3_squareCount_9

set_option maxHeartbeats 4000000 in
set_option maxRecDepth 100000 in
theorem n_X3_isSquare (l : Launch) (D : va_G) (cy : Nat → ClassId) (a_g : Nat) (g_wide : Int32) (g_high : Int32) (g_drown : Int32) (g_wind : Int32) (g_hedges : Int64) (g_fountains : Int64) (g_people : Int32) (g_tellings : Int32) (g_reports : Int32) (a_g_kinds : Nat) (a_g_squares : Nat) (a_g_voices : Nat) (a_g_tellers : Nat) (a_g_listeners : Nat) (a_g_witnesses : Nat) (a_g_claims : Nat) (px : Int32) (sz : Nat)  : Met l yX3_isSquare wsX3_isSquare ({ frames := 1, cells := 0, slots := 0, locals := 20 }) (va_Pc [.ref a_g, .int px] (kPre D cy [(a_g, .inr (3, [.int g_wide, .int g_high, .int g_drown, .int g_wind, .long g_hedges, .long g_fountains, .int g_people, .int g_tellings, .int g_reports, .ref a_g_kinds, .ref a_g_squares, .ref a_g_voices, .ref a_g_tellers, .ref a_g_listeners, .ref a_g_witnesses, .ref a_g_claims]))] sz)) (va_Qi (fun (r : Int32) (u : Unit) => (r = 1 ∧ True) ∨ (r = 0 ∧ True)) (fun _ _ => True) (fun q : Nat => sz ≤ q)) 0 0 (fun q : Nat => sz ≤ q) := by
  refine Met.ofW (cc := cX3_isSquare) (maxL := 2) (ret := (some .boolean)) (by decide) rfl ?_
  intro p e s m args below meth c s₁ B hml hv
  obtain ⟨rfl, hsz, hP, hKA, hD0⟩ := hv
  have hx := B.exec
  have hb := B.bytes
  have hr := B.returns
  have hts := atoms_spec (ws := wsX3_isSquare) B.pre
  have hown : s.vm.findClass RX3 = some m.cls := findClass_of_methodNamed B.named
  have hlocks := B.notSynchronized
  subst hsz
  have hK := hKA.1
  have hD := hD0
  generalize hAe : (fun q : Nat => s.heap.size ≤ q) = A
  have hA : ∀ q : Nat, s.heap.size ≤ q → A q := fun q h => by rw [← hAe]; exact h
  have hS : va_S A s.heap s.heap [] := va_S.rf
  have hP : va_P D vwCl [(a_g, .inr (3, [.int g_wide, .int g_high, .int g_drown, .int g_wind, .long g_hedges, .long g_fountains, .int g_people, .int g_tellings, .int g_reports, .ref a_g_kinds, .ref a_g_squares, .ref a_g_voices, .ref a_g_tellers, .ref a_g_listeners, .ref a_g_witnesses, .ref a_g_claims]))] s.heap := hP
  have hl := lv_entry ([.ref a_g, .int px]) (n := 2) (Nat.le_of_ble_eq_true rfl)
  rw [lg_entry_eq]
  generalize (lg_sl ([.ref a_g, .int px]) ++ List.replicate (2 - (lg_sl ([.ref a_g, .int px])).length) Slot.unset).toArray = ls at hl ⊢
  have hl : lv_has ls 2 [(0, .ref a_g), (1, .int px)] := hl
  refine qW (fun QF hQF => ?_)
  refine lv_iload_n hx hb dX3_isSquare_0 rfl (lv_at hl 1 rfl) ?_
  refine lv_if_lt (tgt := 16) hx hb dX3_isSquare_1 (by decide) (fun c1 => ?_) (fun c1 => ?_)
  · skip
    refine lv_iconst (v := 0) hx hb dX3_isSquare_16 (by decide) ?_
    subst hQF
    exact W.zret (v := 0) hx hb hr rfl (fun t ht hW => ⟨⟨0, (), rfl, (Or.inr ⟨rfl, trivial⟩), trivial⟩, hS.F ht⟩) hS.2.2 dX3_isSquare_17
  · skip
    refine lv_iload_n hx hb dX3_isSquare_4 rfl (lv_at hl 1 rfl) ?_
    refine lv_aload_n hx hb dX3_isSquare_5 rfl (lv_at hl 0 rfl) ?_
    refine rd_i (va_runV (As := []) (rest := [.int px]) ⟨hx, hb, hml, hown, hts⟩ (n_X3_squareCount l D cy a_g g_wide g_high g_drown g_wind g_hedges g_fountains g_people g_tellings g_reports a_g_kinds a_g_squares a_g_voices a_g_tellers a_g_listeners a_g_witnesses a_g_claims _ ) (cwV 0 hts gX3_isSquare_X3_squareCount rfl rfl rfl (by decide +kernel) ⟨Nat.le_of_ble_eq_true rfl, Nat.le_of_ble_eq_true rfl⟩) (pV (ci := 3) (k := 0) hKA (hP.sub (ws' := [(a_g, .inr (3, [.int g_wide, .int g_high, .int g_drown, .int g_wind, .long g_hedges, .long g_fountains, .int g_people, .int g_tellings, .int g_reports, .ref a_g_kinds, .ref a_g_squares, .ref a_g_voices, .ref a_g_tellers, .ref a_g_listeners, .ref a_g_witnesses, .ref a_g_claims]))]) [0] rfl) (hD.sub (ws' := [(a_g, .inr (3, [.int g_wide, .int g_high, .int g_drown, .int g_wind, .long g_hedges, .long g_fountains, .int g_people, .int g_tellings, .int g_reports, .ref a_g_kinds, .ref a_g_squares, .ref a_g_voices, .ref a_g_tellers, .ref a_g_listeners, .ref a_g_witnesses, .ref a_g_claims]))]) [0] (by decide) rfl) rfl rfl) rfl rfl hl.1 rfl (lv_room (Nat.le_of_ble_eq_true rfl)) dX3_isSquare_6 ⟨Nat.le_of_ble_eq_true rfl, Nat.le_of_ble_eq_true rfl⟩) hP hS hA (fun r2 H locs hwr2 hP hS => ?_)
    have hwr2 : r2 = g_wide * g_high := hwr2
    subst hwr2
    refine lv_icmp_ge (tgt := 16) hx hb dX3_isSquare_9 (by decide) (fun c3 => ?_) (fun c3 => ?_)
    · skip
      refine lv_iconst (v := 0) hx hb dX3_isSquare_16 (by decide) ?_
      subst hQF
      exact W.zret (v := 0) hx hb hr rfl (fun t ht hW => ⟨⟨0, (), rfl, (Or.inr ⟨rfl, trivial⟩), trivial⟩, hS.F ht⟩) hS.2.2 dX3_isSquare_17
    · skip
      refine lv_iconst (v := 1) hx hb dX3_isSquare_12 (by decide) ?_
      refine lv_goto (tgt := 17) hx hb dX3_isSquare_13 (by decide) ?_
      subst hQF
      exact W.zret (v := 1) hx hb hr rfl (fun t ht hW => ⟨⟨1, (), rfl, (Or.inl ⟨rfl, trivial⟩), trivial⟩, hS.F ht⟩) hS.2.2 dX3_isSquare_17

set_option maxHeartbeats 4000000 in
set_option maxRecDepth 100000 in
theorem n_X3_isPerson (l : Launch) (D : va_G) (cy : Nat → ClassId) (a_g : Nat) (g_wide : Int32) (g_high : Int32) (g_drown : Int32) (g_wind : Int32) (g_hedges : Int64) (g_fountains : Int64) (g_people : Int32) (g_tellings : Int32) (g_reports : Int32) (a_g_kinds : Nat) (a_g_squares : Nat) (a_g_voices : Nat) (a_g_tellers : Nat) (a_g_listeners : Nat) (a_g_witnesses : Nat) (a_g_claims : Nat) (px : Int32) (sz : Nat)  : Met l yX3_isPerson wsX3_isPerson ({ frames := 0, cells := 0, slots := 0, locals := 0 }) (va_Pc [.ref a_g, .int px] (kPre D cy [(a_g, .inr (3, [.int g_wide, .int g_high, .int g_drown, .int g_wind, .long g_hedges, .long g_fountains, .int g_people, .int g_tellings, .int g_reports, .ref a_g_kinds, .ref a_g_squares, .ref a_g_voices, .ref a_g_tellers, .ref a_g_listeners, .ref a_g_witnesses, .ref a_g_claims]))] sz)) (va_Qi (fun (r : Int32) (u : Unit) => (r = 1 ∧ (0 ≤ px ∧ px < g_people ∧ px < 5)) ∨ (r = 0 ∧ True)) (fun _ _ => True) (fun q : Nat => sz ≤ q)) 0 0 (fun q : Nat => sz ≤ q) := by
  refine Met.ofW (cc := cX3_isPerson) (maxL := 2) (ret := (some .boolean)) (by decide) rfl ?_
  intro p e s m args below meth c s₁ B hml hv
  obtain ⟨rfl, hsz, hP, hKA, hD0⟩ := hv
  have hx := B.exec
  have hb := B.bytes
  have hr := B.returns
  have hts := atoms_spec (ws := wsX3_isPerson) B.pre
  have hown : s.vm.findClass RX3 = some m.cls := findClass_of_methodNamed B.named
  have hlocks := B.notSynchronized
  subst hsz
  have hK := hKA.1
  have hD := hD0
  generalize hAe : (fun q : Nat => s.heap.size ≤ q) = A
  have hA : ∀ q : Nat, s.heap.size ≤ q → A q := fun q h => by rw [← hAe]; exact h
  have hS : va_S A s.heap s.heap [] := va_S.rf
  have hP : va_P D vwCl [(a_g, .inr (3, [.int g_wide, .int g_high, .int g_drown, .int g_wind, .long g_hedges, .long g_fountains, .int g_people, .int g_tellings, .int g_reports, .ref a_g_kinds, .ref a_g_squares, .ref a_g_voices, .ref a_g_tellers, .ref a_g_listeners, .ref a_g_witnesses, .ref a_g_claims]))] s.heap := hP
  have hl := lv_entry ([.ref a_g, .int px]) (n := 2) (Nat.le_of_ble_eq_true rfl)
  rw [lg_entry_eq]
  generalize (lg_sl ([.ref a_g, .int px]) ++ List.replicate (2 - (lg_sl ([.ref a_g, .int px])).length) Slot.unset).toArray = ls at hl ⊢
  have hl : lv_has ls 2 [(0, .ref a_g), (1, .int px)] := hl
  refine qW (fun QF hQF => ?_)
  have z0_ := hts (.fieldLink RX3 53 "HeardSeen$Garden" "people" "I") (by decide +kernel)
  have zi3_ : ∀ w ∈ u_ws RX3 TX3 16, w ∈ wsX3_isPerson := by decide +kernel
  refine lv_iload_n hx hb dX3_isPerson_0 rfl (lv_at hl 1 rfl) ?_
  refine lv_if_lt (tgt := 21) hx hb dX3_isPerson_1 (by decide) (fun c1 => ?_) (fun c1 => ?_)
  · skip
    refine lv_iconst (v := 0) hx hb dX3_isPerson_21 (by decide) ?_
    subst hQF
    exact W.zret (v := 0) hx hb hr rfl (fun t ht hW => ⟨⟨0, (), rfl, (Or.inr ⟨rfl, trivial⟩), trivial⟩, hS.F ht⟩) hS.2.2 dX3_isPerson_22
  · skip
    refine lv_iload_n hx hb dX3_isPerson_4 rfl (lv_at hl 1 rfl) ?_
    refine lv_aload_n hx hb dX3_isPerson_5 rfl (lv_at hl 0 rfl) ?_
    refine va_get (D := D) (ci := 3) (v := .int g_people) (C := RX3) (T := TX3) (N := 16) hx hb hts zi3_ hown hK hP 0 rfl rfl 6 (by decide) z0_ (fun _ h9 => h9) rfl dX3_isPerson_6 ?_
    refine lv_icmp_ge (tgt := 21) hx hb dX3_isPerson_9 (by decide) (fun c2 => ?_) (fun c2 => ?_)
    · skip
      refine lv_iconst (v := 0) hx hb dX3_isPerson_21 (by decide) ?_
      subst hQF
      exact W.zret (v := 0) hx hb hr rfl (fun t ht hW => ⟨⟨0, (), rfl, (Or.inr ⟨rfl, trivial⟩), trivial⟩, hS.F ht⟩) hS.2.2 dX3_isPerson_22
    · skip
      refine lv_iload_n hx hb dX3_isPerson_12 rfl (lv_at hl 1 rfl) ?_
      refine lv_iconst (v := 5) hx hb dX3_isPerson_13 (by decide) ?_
      refine lv_icmp_ge (tgt := 21) hx hb dX3_isPerson_14 (by decide) (fun c3 => ?_) (fun c3 => ?_)
      · skip
        refine lv_iconst (v := 0) hx hb dX3_isPerson_21 (by decide) ?_
        subst hQF
        exact W.zret (v := 0) hx hb hr rfl (fun t ht hW => ⟨⟨0, (), rfl, (Or.inr ⟨rfl, trivial⟩), trivial⟩, hS.F ht⟩) hS.2.2 dX3_isPerson_22
      · skip
        refine lv_iconst (v := 1) hx hb dX3_isPerson_17 (by decide) ?_
        refine lv_goto (tgt := 22) hx hb dX3_isPerson_18 (by decide) ?_
        subst hQF
        exact W.zret (v := 1) hx hb hr rfl (fun t ht hW => ⟨⟨1, (), rfl, (Or.inl ⟨rfl, Int32.not_lt.mp (by assumption), Int32.not_le.mp (by assumption), Int32.not_le.mp (by assumption)⟩), trivial⟩, hS.F ht⟩) hS.2.2 dX3_isPerson_22

set_option maxHeartbeats 4000000 in
set_option maxRecDepth 100000 in
theorem n_X3_everybody (l : Launch) (D : va_G) (cy : Nat → ClassId) (a_g : Nat) (g_wide : Int32) (g_high : Int32) (g_drown : Int32) (g_wind : Int32) (g_hedges : Int64) (g_fountains : Int64) (g_people : Int32) (g_tellings : Int32) (g_reports : Int32) (a_g_kinds : Nat) (a_g_squares : Nat) (a_g_voices : Nat) (a_g_tellers : Nat) (a_g_listeners : Nat) (a_g_witnesses : Nat) (a_g_claims : Nat) (sz : Nat)  : Met l yX3_everybody wsX3_everybody ({ frames := 0, cells := 0, slots := 0, locals := 0 }) (va_Pc [.ref a_g] (kPre D cy [(a_g, .inr (3, [.int g_wide, .int g_high, .int g_drown, .int g_wind, .long g_hedges, .long g_fountains, .int g_people, .int g_tellings, .int g_reports, .ref a_g_kinds, .ref a_g_squares, .ref a_g_voices, .ref a_g_tellers, .ref a_g_listeners, .ref a_g_witnesses, .ref a_g_claims]))] sz)) (va_Qi (fun (r : Int32) (u : Unit) => True) (fun _ _ => True) (fun q : Nat => sz ≤ q)) 0 0 (fun q : Nat => sz ≤ q) := by
  refine Met.ofW (cc := cX3_everybody) (maxL := 1) (ret := (some .int)) (by decide) rfl ?_
  intro p e s m args below meth c s₁ B hml hv
  obtain ⟨rfl, hsz, hP, hKA, hD0⟩ := hv
  have hx := B.exec
  have hb := B.bytes
  have hr := B.returns
  have hts := atoms_spec (ws := wsX3_everybody) B.pre
  have hown : s.vm.findClass RX3 = some m.cls := findClass_of_methodNamed B.named
  have hlocks := B.notSynchronized
  subst hsz
  have hK := hKA.1
  have hD := hD0
  generalize hAe : (fun q : Nat => s.heap.size ≤ q) = A
  have hA : ∀ q : Nat, s.heap.size ≤ q → A q := fun q h => by rw [← hAe]; exact h
  have hS : va_S A s.heap s.heap [] := va_S.rf
  have hP : va_P D vwCl [(a_g, .inr (3, [.int g_wide, .int g_high, .int g_drown, .int g_wind, .long g_hedges, .long g_fountains, .int g_people, .int g_tellings, .int g_reports, .ref a_g_kinds, .ref a_g_squares, .ref a_g_voices, .ref a_g_tellers, .ref a_g_listeners, .ref a_g_witnesses, .ref a_g_claims]))] s.heap := hP
  have hl := lv_entry ([.ref a_g]) (n := 1) (Nat.le_of_ble_eq_true rfl)
  rw [lg_entry_eq]
  generalize (lg_sl ([.ref a_g]) ++ List.replicate (1 - (lg_sl ([.ref a_g])).length) Slot.unset).toArray = ls at hl ⊢
  have hl : lv_has ls 1 [(0, .ref a_g)] := hl
  refine qW (fun QF hQF => ?_)
  have z0_ := hts (.fieldLink RX3 53 "HeardSeen$Garden" "people" "I") (by decide +kernel)
  have zi3_ : ∀ w ∈ u_ws RX3 TX3 16, w ∈ wsX3_everybody := by decide +kernel
  refine lv_iconst (v := 1) hx hb dX3_everybody_0 (by decide) ?_
  refine lv_aload_n hx hb dX3_everybody_1 rfl (lv_at hl 0 rfl) ?_
  refine va_get (D := D) (ci := 3) (v := .int g_people) (C := RX3) (T := TX3) (N := 16) hx hb hts zi3_ hown hK hP 0 rfl rfl 6 (by decide) z0_ (fun _ h9 => h9) rfl dX3_everybody_2 ?_
  refine lv_ishl hx hb dX3_everybody_5 ?_
  refine lv_iconst (v := 1) hx hb dX3_everybody_6 (by decide) ?_
  refine lv_isub hx hb dX3_everybody_7 ?_
  refine lv_topi (fun x1 ex1 => ?_)
  subst hQF
  exact W.iret (v := x1) hx hb hr (fun t ht hW => ⟨⟨x1, (), rfl, trivial, trivial⟩, hS.F ht⟩) hS.2.2 dX3_everybody_8

set_option maxHeartbeats 4000000 in
set_option maxRecDepth 100000 in
theorem n_X3_layOut (l : Launch) (D : va_G) (cy : Nat → ClassId) (a_g : Nat) (g_wide : Int32) (g_high : Int32) (g_drown : Int32) (g_wind : Int32) (g_hedges : Int64) (g_fountains : Int64) (g_people : Int32) (g_tellings : Int32) (g_reports : Int32) (a_g_kinds : Nat) (a_g_squares : Nat) (a_g_voices : Nat) (a_g_tellers : Nat) (a_g_listeners : Nat) (a_g_witnesses : Nat) (a_g_claims : Nat) (px : Int32) (py : Int32) (sz : Nat)  : Met l yX3_layOut wsX3_layOut ({ frames := 0, cells := 0, slots := 0, locals := 0 }) (va_Pc [.ref a_g, .int px, .int py] (kPre D cy [(a_g, .inr (3, [.int g_wide, .int g_high, .int g_drown, .int g_wind, .long g_hedges, .long g_fountains, .int g_people, .int g_tellings, .int g_reports, .ref a_g_kinds, .ref a_g_squares, .ref a_g_voices, .ref a_g_tellers, .ref a_g_listeners, .ref a_g_witnesses, .ref a_g_claims]))] sz)) (va_Qv (fun (u : Int32 × Int32 × Int32 × Int32 × Int64 × Int64 × Int32 × Int32 × Int32) => u.1 = px ∧ u.2.1 = py) (fun (u : Int32 × Int32 × Int32 × Int32 × Int64 × Int64 × Int32 × Int32 × Int32) t => va_P D vwCl ([(a_g, .inr (3, [.int u.1, .int u.2.1, .int u.2.2.1, .int u.2.2.2.1, .long u.2.2.2.2.1, .long u.2.2.2.2.2.1, .int u.2.2.2.2.2.2.1, .int u.2.2.2.2.2.2.2.1, .int u.2.2.2.2.2.2.2.2, .ref a_g_kinds, .ref a_g_squares, .ref a_g_voices, .ref a_g_tellers, .ref a_g_listeners, .ref a_g_witnesses, .ref a_g_claims]))]) t.heap ∧ va_D (va_A [(a_g, .inr (3, [.int g_wide, .int g_high, .int g_drown, .int g_wind, .long g_hedges, .long g_fountains, .int g_people, .int g_tellings, .int g_reports, .ref a_g_kinds, .ref a_g_squares, .ref a_g_voices, .ref a_g_tellers, .ref a_g_listeners, .ref a_g_witnesses, .ref a_g_claims]))] sz) ([(a_g, .inr (3, [.int u.1, .int u.2.1, .int u.2.2.1, .int u.2.2.2.1, .long u.2.2.2.2.1, .long u.2.2.2.2.2.1, .int u.2.2.2.2.2.2.1, .int u.2.2.2.2.2.2.2.1, .int u.2.2.2.2.2.2.2.2, .ref a_g_kinds, .ref a_g_squares, .ref a_g_voices, .ref a_g_tellers, .ref a_g_listeners, .ref a_g_witnesses, .ref a_g_claims]))])) (va_A [(a_g, .inr (3, [.int g_wide, .int g_high, .int g_drown, .int g_wind, .long g_hedges, .long g_fountains, .int g_people, .int g_tellings, .int g_reports, .ref a_g_kinds, .ref a_g_squares, .ref a_g_voices, .ref a_g_tellers, .ref a_g_listeners, .ref a_g_witnesses, .ref a_g_claims]))] sz)) 0 0 (va_A [(a_g, .inr (3, [.int g_wide, .int g_high, .int g_drown, .int g_wind, .long g_hedges, .long g_fountains, .int g_people, .int g_tellings, .int g_reports, .ref a_g_kinds, .ref a_g_squares, .ref a_g_voices, .ref a_g_tellers, .ref a_g_listeners, .ref a_g_witnesses, .ref a_g_claims]))] sz) := by
  refine Met.ofW (cc := cX3_layOut) (maxL := 3) (ret := none) (by decide) rfl ?_
  intro p e s m args below meth c s₁ B hml hv
  obtain ⟨rfl, hsz, hP, hKA, hD0⟩ := hv
  have hx := B.exec
  have hb := B.bytes
  have hr := B.returns
  have hts := atoms_spec (ws := wsX3_layOut) B.pre
  have hown : s.vm.findClass RX3 = some m.cls := findClass_of_methodNamed B.named
  have hlocks := B.notSynchronized
  subst hsz
  have hK := hKA.1
  have hD := hD0.self (sz := s.heap.size)
  generalize hAe : va_A [(a_g, .inr (3, [.int g_wide, .int g_high, .int g_drown, .int g_wind, .long g_hedges, .long g_fountains, .int g_people, .int g_tellings, .int g_reports, .ref a_g_kinds, .ref a_g_squares, .ref a_g_voices, .ref a_g_tellers, .ref a_g_listeners, .ref a_g_witnesses, .ref a_g_claims]))] s.heap.size = A at hD ⊢
  have hA : ∀ q : Nat, s.heap.size ≤ q → A q := fun q h => by rw [← hAe]; exact Or.inr h
  have hS : va_S A s.heap s.heap [] := va_S.rf
  have hP : va_P D vwCl [(a_g, .inr (3, [.int g_wide, .int g_high, .int g_drown, .int g_wind, .long g_hedges, .long g_fountains, .int g_people, .int g_tellings, .int g_reports, .ref a_g_kinds, .ref a_g_squares, .ref a_g_voices, .ref a_g_tellers, .ref a_g_listeners, .ref a_g_witnesses, .ref a_g_claims]))] s.heap := hP
  have hl := lv_entry ([.ref a_g, .int px, .int py]) (n := 3) (Nat.le_of_ble_eq_true rfl)
  rw [lg_entry_eq]
  generalize (lg_sl ([.ref a_g, .int px, .int py]) ++ List.replicate (3 - (lg_sl ([.ref a_g, .int px, .int py])).length) Slot.unset).toArray = ls at hl ⊢
  have hl : lv_has ls 3 [(0, .ref a_g), (1, .int px), (2, .int py)] := hl
  refine qW (fun QF hQF => ?_)
  have z0_ := hts (.fieldLink RX3 33 "HeardSeen$Garden" "wide" "I") (by decide +kernel)
  have zi3_ : ∀ w ∈ u_ws RX3 TX3 16, w ∈ wsX3_layOut := by decide +kernel
  have z2_ := hts (.fieldLink RX3 37 "HeardSeen$Garden" "high" "I") (by decide +kernel)
  have z3_ := hts (.fieldLink RX3 40 "HeardSeen$Garden" "drown" "I") (by decide +kernel)
  have z4_ := hts (.fieldLink RX3 43 "HeardSeen$Garden" "wind" "I") (by decide +kernel)
  have z5_ := hts (.fieldLink RX3 46 "HeardSeen$Garden" "hedges" "J") (by decide +kernel)
  have z6_ := hts (.fieldLink RX3 50 "HeardSeen$Garden" "fountains" "J") (by decide +kernel)
  have z7_ := hts (.fieldLink RX3 53 "HeardSeen$Garden" "people" "I") (by decide +kernel)
  have z8_ := hts (.fieldLink RX3 56 "HeardSeen$Garden" "tellings" "I") (by decide +kernel)
  have z9_ := hts (.fieldLink RX3 59 "HeardSeen$Garden" "reports" "I") (by decide +kernel)
  refine lv_aload_n hx hb dX3_layOut_0 rfl (lv_at hl 0 rfl) ?_
  refine lv_iload_n hx hb dX3_layOut_1 rfl (lv_at hl 1 rfl) ?_
  refine va_put (D := D) (ci := 3) (v := .int px) (ty := .int) (C := RX3) (T := TX3) (N := 16) hx hb hts zi3_ tyX3 tyX3_ok nmX3 hown hK hP hD hS 0 rfl rfl 0 (by decide) z0_ (fun _ h9 => h9) rfl (by decide +kernel) rfl rfl (Nat.le_of_ble_eq_true rfl) dX3_layOut_2 (fun H locs hP hD hS => ?_)
  have hP : va_P D vwCl [(a_g, .inr (3, [.int px, .int g_high, .int g_drown, .int g_wind, .long g_hedges, .long g_fountains, .int g_people, .int g_tellings, .int g_reports, .ref a_g_kinds, .ref a_g_squares, .ref a_g_voices, .ref a_g_tellers, .ref a_g_listeners, .ref a_g_witnesses, .ref a_g_claims]))] H := hP
  have hD : va_D A [(a_g, .inr (3, [.int px, .int g_high, .int g_drown, .int g_wind, .long g_hedges, .long g_fountains, .int g_people, .int g_tellings, .int g_reports, .ref a_g_kinds, .ref a_g_squares, .ref a_g_voices, .ref a_g_tellers, .ref a_g_listeners, .ref a_g_witnesses, .ref a_g_claims]))] := hD
  refine lv_aload_n hx hb dX3_layOut_5 rfl (lv_at hl 0 rfl) ?_
  refine lv_iload_n hx hb dX3_layOut_6 rfl (lv_at hl 2 rfl) ?_
  refine va_put (D := D) (ci := 3) (v := .int py) (ty := .int) (C := RX3) (T := TX3) (N := 16) hx hb hts zi3_ tyX3 tyX3_ok nmX3 hown hK hP hD hS 0 rfl rfl 1 (by decide) z2_ (fun _ h9 => h9) rfl (by decide +kernel) rfl rfl (Nat.le_of_ble_eq_true rfl) dX3_layOut_7 (fun H locs hP hD hS => ?_)
  have hP : va_P D vwCl [(a_g, .inr (3, [.int px, .int py, .int g_drown, .int g_wind, .long g_hedges, .long g_fountains, .int g_people, .int g_tellings, .int g_reports, .ref a_g_kinds, .ref a_g_squares, .ref a_g_voices, .ref a_g_tellers, .ref a_g_listeners, .ref a_g_witnesses, .ref a_g_claims]))] H := hP
  have hD : va_D A [(a_g, .inr (3, [.int px, .int py, .int g_drown, .int g_wind, .long g_hedges, .long g_fountains, .int g_people, .int g_tellings, .int g_reports, .ref a_g_kinds, .ref a_g_squares, .ref a_g_voices, .ref a_g_tellers, .ref a_g_listeners, .ref a_g_witnesses, .ref a_g_claims]))] := hD
  refine lv_aload_n hx hb dX3_layOut_10 rfl (lv_at hl 0 rfl) ?_
  refine lv_iconst (v := 1) hx hb dX3_layOut_11 (by decide) ?_
  refine va_put (D := D) (ci := 3) (v := .int 1) (ty := .int) (C := RX3) (T := TX3) (N := 16) hx hb hts zi3_ tyX3 tyX3_ok nmX3 hown hK hP hD hS 0 rfl rfl 2 (by decide) z3_ (fun _ h9 => h9) rfl (by decide +kernel) rfl rfl (Nat.le_of_ble_eq_true rfl) dX3_layOut_12 (fun H locs hP hD hS => ?_)
  have hP : va_P D vwCl [(a_g, .inr (3, [.int px, .int py, .int 1, .int g_wind, .long g_hedges, .long g_fountains, .int g_people, .int g_tellings, .int g_reports, .ref a_g_kinds, .ref a_g_squares, .ref a_g_voices, .ref a_g_tellers, .ref a_g_listeners, .ref a_g_witnesses, .ref a_g_claims]))] H := hP
  have hD : va_D A [(a_g, .inr (3, [.int px, .int py, .int 1, .int g_wind, .long g_hedges, .long g_fountains, .int g_people, .int g_tellings, .int g_reports, .ref a_g_kinds, .ref a_g_squares, .ref a_g_voices, .ref a_g_tellers, .ref a_g_listeners, .ref a_g_witnesses, .ref a_g_claims]))] := hD
  refine lv_aload_n hx hb dX3_layOut_15 rfl (lv_at hl 0 rfl) ?_
  refine lv_iconst (v := 0) hx hb dX3_layOut_16 (by decide) ?_
  refine va_put (D := D) (ci := 3) (v := .int 0) (ty := .int) (C := RX3) (T := TX3) (N := 16) hx hb hts zi3_ tyX3 tyX3_ok nmX3 hown hK hP hD hS 0 rfl rfl 3 (by decide) z4_ (fun _ h9 => h9) rfl (by decide +kernel) rfl rfl (Nat.le_of_ble_eq_true rfl) dX3_layOut_17 (fun H locs hP hD hS => ?_)
  have hP : va_P D vwCl [(a_g, .inr (3, [.int px, .int py, .int 1, .int 0, .long g_hedges, .long g_fountains, .int g_people, .int g_tellings, .int g_reports, .ref a_g_kinds, .ref a_g_squares, .ref a_g_voices, .ref a_g_tellers, .ref a_g_listeners, .ref a_g_witnesses, .ref a_g_claims]))] H := hP
  have hD : va_D A [(a_g, .inr (3, [.int px, .int py, .int 1, .int 0, .long g_hedges, .long g_fountains, .int g_people, .int g_tellings, .int g_reports, .ref a_g_kinds, .ref a_g_squares, .ref a_g_voices, .ref a_g_tellers, .ref a_g_listeners, .ref a_g_witnesses, .ref a_g_claims]))] := hD
  refine lv_aload_n hx hb dX3_layOut_20 rfl (lv_at hl 0 rfl) ?_
  refine lv_lconst (v := 0) hx hb dX3_layOut_21 (by decide) ?_
  refine va_put (D := D) (ci := 3) (v := .long 0) (ty := .long) (C := RX3) (T := TX3) (N := 16) hx hb hts zi3_ tyX3 tyX3_ok nmX3 hown hK hP hD hS 0 rfl rfl 4 (by decide) z5_ (fun _ h9 => h9) rfl (by decide +kernel) rfl rfl (Nat.le_of_ble_eq_true rfl) dX3_layOut_22 (fun H locs hP hD hS => ?_)
  have hP : va_P D vwCl [(a_g, .inr (3, [.int px, .int py, .int 1, .int 0, .long 0, .long g_fountains, .int g_people, .int g_tellings, .int g_reports, .ref a_g_kinds, .ref a_g_squares, .ref a_g_voices, .ref a_g_tellers, .ref a_g_listeners, .ref a_g_witnesses, .ref a_g_claims]))] H := hP
  have hD : va_D A [(a_g, .inr (3, [.int px, .int py, .int 1, .int 0, .long 0, .long g_fountains, .int g_people, .int g_tellings, .int g_reports, .ref a_g_kinds, .ref a_g_squares, .ref a_g_voices, .ref a_g_tellers, .ref a_g_listeners, .ref a_g_witnesses, .ref a_g_claims]))] := hD
  refine lv_aload_n hx hb dX3_layOut_25 rfl (lv_at hl 0 rfl) ?_
  refine lv_lconst (v := 0) hx hb dX3_layOut_26 (by decide) ?_
  refine va_put (D := D) (ci := 3) (v := .long 0) (ty := .long) (C := RX3) (T := TX3) (N := 16) hx hb hts zi3_ tyX3 tyX3_ok nmX3 hown hK hP hD hS 0 rfl rfl 5 (by decide) z6_ (fun _ h9 => h9) rfl (by decide +kernel) rfl rfl (Nat.le_of_ble_eq_true rfl) dX3_layOut_27 (fun H locs hP hD hS => ?_)
  have hP : va_P D vwCl [(a_g, .inr (3, [.int px, .int py, .int 1, .int 0, .long 0, .long 0, .int g_people, .int g_tellings, .int g_reports, .ref a_g_kinds, .ref a_g_squares, .ref a_g_voices, .ref a_g_tellers, .ref a_g_listeners, .ref a_g_witnesses, .ref a_g_claims]))] H := hP
  have hD : va_D A [(a_g, .inr (3, [.int px, .int py, .int 1, .int 0, .long 0, .long 0, .int g_people, .int g_tellings, .int g_reports, .ref a_g_kinds, .ref a_g_squares, .ref a_g_voices, .ref a_g_tellers, .ref a_g_listeners, .ref a_g_witnesses, .ref a_g_claims]))] := hD
  refine lv_aload_n hx hb dX3_layOut_30 rfl (lv_at hl 0 rfl) ?_
  refine lv_iconst (v := 0) hx hb dX3_layOut_31 (by decide) ?_
  refine va_put (D := D) (ci := 3) (v := .int 0) (ty := .int) (C := RX3) (T := TX3) (N := 16) hx hb hts zi3_ tyX3 tyX3_ok nmX3 hown hK hP hD hS 0 rfl rfl 6 (by decide) z7_ (fun _ h9 => h9) rfl (by decide +kernel) rfl rfl (Nat.le_of_ble_eq_true rfl) dX3_layOut_32 (fun H locs hP hD hS => ?_)
  have hP : va_P D vwCl [(a_g, .inr (3, [.int px, .int py, .int 1, .int 0, .long 0, .long 0, .int 0, .int g_tellings, .int g_reports, .ref a_g_kinds, .ref a_g_squares, .ref a_g_voices, .ref a_g_tellers, .ref a_g_listeners, .ref a_g_witnesses, .ref a_g_claims]))] H := hP
  have hD : va_D A [(a_g, .inr (3, [.int px, .int py, .int 1, .int 0, .long 0, .long 0, .int 0, .int g_tellings, .int g_reports, .ref a_g_kinds, .ref a_g_squares, .ref a_g_voices, .ref a_g_tellers, .ref a_g_listeners, .ref a_g_witnesses, .ref a_g_claims]))] := hD
  refine lv_aload_n hx hb dX3_layOut_35 rfl (lv_at hl 0 rfl) ?_
  refine lv_iconst (v := 0) hx hb dX3_layOut_36 (by decide) ?_
  refine va_put (D := D) (ci := 3) (v := .int 0) (ty := .int) (C := RX3) (T := TX3) (N := 16) hx hb hts zi3_ tyX3 tyX3_ok nmX3 hown hK hP hD hS 0 rfl rfl 7 (by decide) z8_ (fun _ h9 => h9) rfl (by decide +kernel) rfl rfl (Nat.le_of_ble_eq_true rfl) dX3_layOut_37 (fun H locs hP hD hS => ?_)
  have hP : va_P D vwCl [(a_g, .inr (3, [.int px, .int py, .int 1, .int 0, .long 0, .long 0, .int 0, .int 0, .int g_reports, .ref a_g_kinds, .ref a_g_squares, .ref a_g_voices, .ref a_g_tellers, .ref a_g_listeners, .ref a_g_witnesses, .ref a_g_claims]))] H := hP
  have hD : va_D A [(a_g, .inr (3, [.int px, .int py, .int 1, .int 0, .long 0, .long 0, .int 0, .int 0, .int g_reports, .ref a_g_kinds, .ref a_g_squares, .ref a_g_voices, .ref a_g_tellers, .ref a_g_listeners, .ref a_g_witnesses, .ref a_g_claims]))] := hD
  refine lv_aload_n hx hb dX3_layOut_40 rfl (lv_at hl 0 rfl) ?_
  refine lv_iconst (v := 0) hx hb dX3_layOut_41 (by decide) ?_
  refine va_put (D := D) (ci := 3) (v := .int 0) (ty := .int) (C := RX3) (T := TX3) (N := 16) hx hb hts zi3_ tyX3 tyX3_ok nmX3 hown hK hP hD hS 0 rfl rfl 8 (by decide) z9_ (fun _ h9 => h9) rfl (by decide +kernel) rfl rfl (Nat.le_of_ble_eq_true rfl) dX3_layOut_42 (fun H locs hP hD hS => ?_)
  have hP : va_P D vwCl [(a_g, .inr (3, [.int px, .int py, .int 1, .int 0, .long 0, .long 0, .int 0, .int 0, .int 0, .ref a_g_kinds, .ref a_g_squares, .ref a_g_voices, .ref a_g_tellers, .ref a_g_listeners, .ref a_g_witnesses, .ref a_g_claims]))] H := hP
  have hD : va_D A [(a_g, .inr (3, [.int px, .int py, .int 1, .int 0, .long 0, .long 0, .int 0, .int 0, .int 0, .ref a_g_kinds, .ref a_g_squares, .ref a_g_voices, .ref a_g_tellers, .ref a_g_listeners, .ref a_g_witnesses, .ref a_g_claims]))] := hD
  subst hQF
  have hP9 := hP
  have hD9 := hD
  exact W.vret hx hb hr (fun t ht hW => ⟨⟨(px, py, 1, 0, 0, 0, 0, 0, 0), rfl, ⟨rfl, rfl⟩, by rw [ht]; exact hP9, hD9⟩, hS.F ht⟩) hS.2.2 dX3_layOut_45

set_option maxHeartbeats 4000000 in
set_option maxRecDepth 100000 in
theorem n_X3_copyFrom (l : Launch) (D : va_G) (cy : Nat → ClassId) (a_o : Nat) (o_wide : Int32) (o_high : Int32) (o_drown : Int32) (o_wind : Int32) (o_hedges : Int64) (o_fountains : Int64) (o_people : Int32) (o_tellings : Int32) (o_reports : Int32) (a_o_kinds : Nat) (a_o_squares : Nat) (a_o_voices : Nat) (a_o_tellers : Nat) (a_o_listeners : Nat) (a_o_witnesses : Nat) (a_o_claims : Nat) (a_g : Nat) (g_wide : Int32) (g_high : Int32) (g_drown : Int32) (g_wind : Int32) (g_hedges : Int64) (g_fountains : Int64) (g_people : Int32) (g_tellings : Int32) (g_reports : Int32) (a_g_kinds : Nat) (a_g_squares : Nat) (a_g_voices : Nat) (a_g_tellers : Nat) (a_g_listeners : Nat) (a_g_witnesses : Nat) (a_g_claims : Nat) (o_kinds_f : Nat → Int32) (g_kinds_f : Nat → Int32) (o_squares_f : Nat → Int32) (g_squares_f : Nat → Int32) (o_voices_f : Nat → Int32) (g_voices_f : Nat → Int32) (o_tellers_f : Nat → Int32) (g_tellers_f : Nat → Int32) (o_listeners_f : Nat → Int32) (g_listeners_f : Nat → Int32) (o_witnesses_f : Nat → Int32) (g_witnesses_f : Nat → Int32) (o_claims_f : Nat → Int32) (g_claims_f : Nat → Int32) (sz : Nat)  : Met l yX3_copyFrom wsX3_copyFrom ({ frames := 1, cells := 0, slots := 0, locals := 40 }) (va_Pc [.ref a_g, .ref a_o] (kPre D cy [(a_o, .inr (3, [.int o_wide, .int o_high, .int o_drown, .int o_wind, .long o_hedges, .long o_fountains, .int o_people, .int o_tellings, .int o_reports, .ref a_o_kinds, .ref a_o_squares, .ref a_o_voices, .ref a_o_tellers, .ref a_o_listeners, .ref a_o_witnesses, .ref a_o_claims])), (a_g, .inr (3, [.int g_wide, .int g_high, .int g_drown, .int g_wind, .long g_hedges, .long g_fountains, .int g_people, .int g_tellings, .int g_reports, .ref a_g_kinds, .ref a_g_squares, .ref a_g_voices, .ref a_g_tellers, .ref a_g_listeners, .ref a_g_witnesses, .ref a_g_claims])), (a_o_kinds, .inl (cy 1, 5, .inl o_kinds_f)), (a_g_kinds, .inl (cy 1, 5, .inl g_kinds_f)), (a_o_squares, .inl (cy 1, 5, .inl o_squares_f)), (a_g_squares, .inl (cy 1, 5, .inl g_squares_f)), (a_o_voices, .inl (cy 1, 5, .inl o_voices_f)), (a_g_voices, .inl (cy 1, 5, .inl g_voices_f)), (a_o_tellers, .inl (cy 1, 6, .inl o_tellers_f)), (a_g_tellers, .inl (cy 1, 6, .inl g_tellers_f)), (a_o_listeners, .inl (cy 1, 6, .inl o_listeners_f)), (a_g_listeners, .inl (cy 1, 6, .inl g_listeners_f)), (a_o_witnesses, .inl (cy 1, 8, .inl o_witnesses_f)), (a_g_witnesses, .inl (cy 1, 8, .inl g_witnesses_f)), (a_o_claims, .inl (cy 1, 8, .inl o_claims_f)), (a_g_claims, .inl (cy 1, 8, .inl g_claims_f))] sz)) (va_Qv (fun (u : Int32 × Int32 × Int32 × Int32 × Int64 × Int64 × Int32 × Int32 × Int32 × (Nat → Int32) × (Nat → Int32) × (Nat → Int32) × (Nat → Int32) × (Nat → Int32) × (Nat → Int32) × (Nat → Int32)) => u.1 = o_wide) (fun (u : Int32 × Int32 × Int32 × Int32 × Int64 × Int64 × Int32 × Int32 × Int32 × (Nat → Int32) × (Nat → Int32) × (Nat → Int32) × (Nat → Int32) × (Nat → Int32) × (Nat → Int32) × (Nat → Int32)) t => va_P D vwCl ([(a_o, .inr (3, [.int o_wide, .int o_high, .int o_drown, .int o_wind, .long o_hedges, .long o_fountains, .int o_people, .int o_tellings, .int o_reports, .ref a_o_kinds, .ref a_o_squares, .ref a_o_voices, .ref a_o_tellers, .ref a_o_listeners, .ref a_o_witnesses, .ref a_o_claims])), (a_g, .inr (3, [.int u.1, .int u.2.1, .int u.2.2.1, .int u.2.2.2.1, .long u.2.2.2.2.1, .long u.2.2.2.2.2.1, .int u.2.2.2.2.2.2.1, .int u.2.2.2.2.2.2.2.1, .int u.2.2.2.2.2.2.2.2.1, .ref a_g_kinds, .ref a_g_squares, .ref a_g_voices, .ref a_g_tellers, .ref a_g_listeners, .ref a_g_witnesses, .ref a_g_claims])), (a_o_kinds, .inl (cy 1, 5, .inl o_kinds_f)), (a_g_kinds, .inl (cy 1, 5, .inl u.2.2.2.2.2.2.2.2.2.1)), (a_o_squares, .inl (cy 1, 5, .inl o_squares_f)), (a_g_squares, .inl (cy 1, 5, .inl u.2.2.2.2.2.2.2.2.2.2.1)), (a_o_voices, .inl (cy 1, 5, .inl o_voices_f)), (a_g_voices, .inl (cy 1, 5, .inl u.2.2.2.2.2.2.2.2.2.2.2.1)), (a_o_tellers, .inl (cy 1, 6, .inl o_tellers_f)), (a_g_tellers, .inl (cy 1, 6, .inl u.2.2.2.2.2.2.2.2.2.2.2.2.1)), (a_o_listeners, .inl (cy 1, 6, .inl o_listeners_f)), (a_g_listeners, .inl (cy 1, 6, .inl u.2.2.2.2.2.2.2.2.2.2.2.2.2.1)), (a_o_witnesses, .inl (cy 1, 8, .inl o_witnesses_f)), (a_g_witnesses, .inl (cy 1, 8, .inl u.2.2.2.2.2.2.2.2.2.2.2.2.2.2.1)), (a_o_claims, .inl (cy 1, 8, .inl o_claims_f)), (a_g_claims, .inl (cy 1, 8, .inl u.2.2.2.2.2.2.2.2.2.2.2.2.2.2.2))]) t.heap ∧ va_D (va_A [(a_o, .inr (3, [.int o_wide, .int o_high, .int o_drown, .int o_wind, .long o_hedges, .long o_fountains, .int o_people, .int o_tellings, .int o_reports, .ref a_o_kinds, .ref a_o_squares, .ref a_o_voices, .ref a_o_tellers, .ref a_o_listeners, .ref a_o_witnesses, .ref a_o_claims])), (a_g, .inr (3, [.int g_wide, .int g_high, .int g_drown, .int g_wind, .long g_hedges, .long g_fountains, .int g_people, .int g_tellings, .int g_reports, .ref a_g_kinds, .ref a_g_squares, .ref a_g_voices, .ref a_g_tellers, .ref a_g_listeners, .ref a_g_witnesses, .ref a_g_claims])), (a_o_kinds, .inl (cy 1, 5, .inl o_kinds_f)), (a_g_kinds, .inl (cy 1, 5, .inl g_kinds_f)), (a_o_squares, .inl (cy 1, 5, .inl o_squares_f)), (a_g_squares, .inl (cy 1, 5, .inl g_squares_f)), (a_o_voices, .inl (cy 1, 5, .inl o_voices_f)), (a_g_voices, .inl (cy 1, 5, .inl g_voices_f)), (a_o_tellers, .inl (cy 1, 6, .inl o_tellers_f)), (a_g_tellers, .inl (cy 1, 6, .inl g_tellers_f)), (a_o_listeners, .inl (cy 1, 6, .inl o_listeners_f)), (a_g_listeners, .inl (cy 1, 6, .inl g_listeners_f)), (a_o_witnesses, .inl (cy 1, 8, .inl o_witnesses_f)), (a_g_witnesses, .inl (cy 1, 8, .inl g_witnesses_f)), (a_o_claims, .inl (cy 1, 8, .inl o_claims_f)), (a_g_claims, .inl (cy 1, 8, .inl g_claims_f))] sz) ([(a_o, .inr (3, [.int o_wide, .int o_high, .int o_drown, .int o_wind, .long o_hedges, .long o_fountains, .int o_people, .int o_tellings, .int o_reports, .ref a_o_kinds, .ref a_o_squares, .ref a_o_voices, .ref a_o_tellers, .ref a_o_listeners, .ref a_o_witnesses, .ref a_o_claims])), (a_g, .inr (3, [.int u.1, .int u.2.1, .int u.2.2.1, .int u.2.2.2.1, .long u.2.2.2.2.1, .long u.2.2.2.2.2.1, .int u.2.2.2.2.2.2.1, .int u.2.2.2.2.2.2.2.1, .int u.2.2.2.2.2.2.2.2.1, .ref a_g_kinds, .ref a_g_squares, .ref a_g_voices, .ref a_g_tellers, .ref a_g_listeners, .ref a_g_witnesses, .ref a_g_claims])), (a_o_kinds, .inl (cy 1, 5, .inl o_kinds_f)), (a_g_kinds, .inl (cy 1, 5, .inl u.2.2.2.2.2.2.2.2.2.1)), (a_o_squares, .inl (cy 1, 5, .inl o_squares_f)), (a_g_squares, .inl (cy 1, 5, .inl u.2.2.2.2.2.2.2.2.2.2.1)), (a_o_voices, .inl (cy 1, 5, .inl o_voices_f)), (a_g_voices, .inl (cy 1, 5, .inl u.2.2.2.2.2.2.2.2.2.2.2.1)), (a_o_tellers, .inl (cy 1, 6, .inl o_tellers_f)), (a_g_tellers, .inl (cy 1, 6, .inl u.2.2.2.2.2.2.2.2.2.2.2.2.1)), (a_o_listeners, .inl (cy 1, 6, .inl o_listeners_f)), (a_g_listeners, .inl (cy 1, 6, .inl u.2.2.2.2.2.2.2.2.2.2.2.2.2.1)), (a_o_witnesses, .inl (cy 1, 8, .inl o_witnesses_f)), (a_g_witnesses, .inl (cy 1, 8, .inl u.2.2.2.2.2.2.2.2.2.2.2.2.2.2.1)), (a_o_claims, .inl (cy 1, 8, .inl o_claims_f)), (a_g_claims, .inl (cy 1, 8, .inl u.2.2.2.2.2.2.2.2.2.2.2.2.2.2.2))])) (va_A [(a_o, .inr (3, [.int o_wide, .int o_high, .int o_drown, .int o_wind, .long o_hedges, .long o_fountains, .int o_people, .int o_tellings, .int o_reports, .ref a_o_kinds, .ref a_o_squares, .ref a_o_voices, .ref a_o_tellers, .ref a_o_listeners, .ref a_o_witnesses, .ref a_o_claims])), (a_g, .inr (3, [.int g_wide, .int g_high, .int g_drown, .int g_wind, .long g_hedges, .long g_fountains, .int g_people, .int g_tellings, .int g_reports, .ref a_g_kinds, .ref a_g_squares, .ref a_g_voices, .ref a_g_tellers, .ref a_g_listeners, .ref a_g_witnesses, .ref a_g_claims])), (a_o_kinds, .inl (cy 1, 5, .inl o_kinds_f)), (a_g_kinds, .inl (cy 1, 5, .inl g_kinds_f)), (a_o_squares, .inl (cy 1, 5, .inl o_squares_f)), (a_g_squares, .inl (cy 1, 5, .inl g_squares_f)), (a_o_voices, .inl (cy 1, 5, .inl o_voices_f)), (a_g_voices, .inl (cy 1, 5, .inl g_voices_f)), (a_o_tellers, .inl (cy 1, 6, .inl o_tellers_f)), (a_g_tellers, .inl (cy 1, 6, .inl g_tellers_f)), (a_o_listeners, .inl (cy 1, 6, .inl o_listeners_f)), (a_g_listeners, .inl (cy 1, 6, .inl g_listeners_f)), (a_o_witnesses, .inl (cy 1, 8, .inl o_witnesses_f)), (a_g_witnesses, .inl (cy 1, 8, .inl g_witnesses_f)), (a_o_claims, .inl (cy 1, 8, .inl o_claims_f)), (a_g_claims, .inl (cy 1, 8, .inl g_claims_f))] sz)) 0 0 (va_A [(a_o, .inr (3, [.int o_wide, .int o_high, .int o_drown, .int o_wind, .long o_hedges, .long o_fountains, .int o_people, .int o_tellings, .int o_reports, .ref a_o_kinds, .ref a_o_squares, .ref a_o_voices, .ref a_o_tellers, .ref a_o_listeners, .ref a_o_witnesses, .ref a_o_claims])), (a_g, .inr (3, [.int g_wide, .int g_high, .int g_drown, .int g_wind, .long g_hedges, .long g_fountains, .int g_people, .int g_tellings, .int g_reports, .ref a_g_kinds, .ref a_g_squares, .ref a_g_voices, .ref a_g_tellers, .ref a_g_listeners, .ref a_g_witnesses, .ref a_g_claims])), (a_o_kinds, .inl (cy 1, 5, .inl o_kinds_f)), (a_g_kinds, .inl (cy 1, 5, .inl g_kinds_f)), (a_o_squares, .inl (cy 1, 5, .inl o_squares_f)), (a_g_squares, .inl (cy 1, 5, .inl g_squares_f)), (a_o_voices, .inl (cy 1, 5, .inl o_voices_f)), (a_g_voices, .inl (cy 1, 5, .inl g_voices_f)), (a_o_tellers, .inl (cy 1, 6, .inl o_tellers_f)), (a_g_tellers, .inl (cy 1, 6, .inl g_tellers_f)), (a_o_listeners, .inl (cy 1, 6, .inl o_listeners_f)), (a_g_listeners, .inl (cy 1, 6, .inl g_listeners_f)), (a_o_witnesses, .inl (cy 1, 8, .inl o_witnesses_f)), (a_g_witnesses, .inl (cy 1, 8, .inl g_witnesses_f)), (a_o_claims, .inl (cy 1, 8, .inl o_claims_f)), (a_g_claims, .inl (cy 1, 8, .inl g_claims_f))] sz) := by
  refine Met.ofW (cc := cX3_copyFrom) (maxL := 2) (ret := none) (by decide) rfl ?_
  intro p e s m args below meth c s₁ B hml hv
  obtain ⟨rfl, hsz, hP, hKA, hD0⟩ := hv
  have hx := B.exec
  have hb := B.bytes
  have hr := B.returns
  have hts := atoms_spec (ws := wsX3_copyFrom) B.pre
  have hown : s.vm.findClass RX3 = some m.cls := findClass_of_methodNamed B.named
  have hlocks := B.notSynchronized
  subst hsz
  have hK := hKA.1
  have hD := hD0.self (sz := s.heap.size)
  generalize hAe : va_A [(a_o, .inr (3, [.int o_wide, .int o_high, .int o_drown, .int o_wind, .long o_hedges, .long o_fountains, .int o_people, .int o_tellings, .int o_reports, .ref a_o_kinds, .ref a_o_squares, .ref a_o_voices, .ref a_o_tellers, .ref a_o_listeners, .ref a_o_witnesses, .ref a_o_claims])), (a_g, .inr (3, [.int g_wide, .int g_high, .int g_drown, .int g_wind, .long g_hedges, .long g_fountains, .int g_people, .int g_tellings, .int g_reports, .ref a_g_kinds, .ref a_g_squares, .ref a_g_voices, .ref a_g_tellers, .ref a_g_listeners, .ref a_g_witnesses, .ref a_g_claims])), (a_o_kinds, .inl (cy 1, 5, .inl o_kinds_f)), (a_g_kinds, .inl (cy 1, 5, .inl g_kinds_f)), (a_o_squares, .inl (cy 1, 5, .inl o_squares_f)), (a_g_squares, .inl (cy 1, 5, .inl g_squares_f)), (a_o_voices, .inl (cy 1, 5, .inl o_voices_f)), (a_g_voices, .inl (cy 1, 5, .inl g_voices_f)), (a_o_tellers, .inl (cy 1, 6, .inl o_tellers_f)), (a_g_tellers, .inl (cy 1, 6, .inl g_tellers_f)), (a_o_listeners, .inl (cy 1, 6, .inl o_listeners_f)), (a_g_listeners, .inl (cy 1, 6, .inl g_listeners_f)), (a_o_witnesses, .inl (cy 1, 8, .inl o_witnesses_f)), (a_g_witnesses, .inl (cy 1, 8, .inl g_witnesses_f)), (a_o_claims, .inl (cy 1, 8, .inl o_claims_f)), (a_g_claims, .inl (cy 1, 8, .inl g_claims_f))] s.heap.size = A at hD ⊢
  have hA : ∀ q : Nat, s.heap.size ≤ q → A q := fun q h => by rw [← hAe]; exact Or.inr h
  have hS : va_S A s.heap s.heap [] := va_S.rf
  have hP : va_P D vwCl [(a_o, .inr (3, [.int o_wide, .int o_high, .int o_drown, .int o_wind, .long o_hedges, .long o_fountains, .int o_people, .int o_tellings, .int o_reports, .ref a_o_kinds, .ref a_o_squares, .ref a_o_voices, .ref a_o_tellers, .ref a_o_listeners, .ref a_o_witnesses, .ref a_o_claims])), (a_g, .inr (3, [.int g_wide, .int g_high, .int g_drown, .int g_wind, .long g_hedges, .long g_fountains, .int g_people, .int g_tellings, .int g_reports, .ref a_g_kinds, .ref a_g_squares, .ref a_g_voices, .ref a_g_tellers, .ref a_g_listeners, .ref a_g_witnesses, .ref a_g_claims])), (a_o_kinds, .inl (cy 1, 5, .inl o_kinds_f)), (a_g_kinds, .inl (cy 1, 5, .inl g_kinds_f)), (a_o_squares, .inl (cy 1, 5, .inl o_squares_f)), (a_g_squares, .inl (cy 1, 5, .inl g_squares_f)), (a_o_voices, .inl (cy 1, 5, .inl o_voices_f)), (a_g_voices, .inl (cy 1, 5, .inl g_voices_f)), (a_o_tellers, .inl (cy 1, 6, .inl o_tellers_f)), (a_g_tellers, .inl (cy 1, 6, .inl g_tellers_f)), (a_o_listeners, .inl (cy 1, 6, .inl o_listeners_f)), (a_g_listeners, .inl (cy 1, 6, .inl g_listeners_f)), (a_o_witnesses, .inl (cy 1, 8, .inl o_witnesses_f)), (a_g_witnesses, .inl (cy 1, 8, .inl g_witnesses_f)), (a_o_claims, .inl (cy 1, 8, .inl o_claims_f)), (a_g_claims, .inl (cy 1, 8, .inl g_claims_f))] s.heap := hP
  have hl := lv_entry ([.ref a_g, .ref a_o]) (n := 2) (Nat.le_of_ble_eq_true rfl)
  rw [lg_entry_eq]
  generalize (lg_sl ([.ref a_g, .ref a_o]) ++ List.replicate (2 - (lg_sl ([.ref a_g, .ref a_o])).length) Slot.unset).toArray = ls at hl ⊢
  have hl : lv_has ls 2 [(0, .ref a_g), (1, .ref a_o)] := hl
  refine qW (fun QF hQF => ?_)
  have z0_ := hts (.fieldLink RX3 33 "HeardSeen$Garden" "wide" "I") (by decide +kernel)
  have zi3_ : ∀ w ∈ u_ws RX3 TX3 16, w ∈ wsX3_copyFrom := by decide +kernel
  have z2_ := hts (.fieldLink RX3 37 "HeardSeen$Garden" "high" "I") (by decide +kernel)
  have z3_ := hts (.fieldLink RX3 40 "HeardSeen$Garden" "drown" "I") (by decide +kernel)
  have z4_ := hts (.fieldLink RX3 43 "HeardSeen$Garden" "wind" "I") (by decide +kernel)
  have z5_ := hts (.fieldLink RX3 46 "HeardSeen$Garden" "hedges" "J") (by decide +kernel)
  have z6_ := hts (.fieldLink RX3 50 "HeardSeen$Garden" "fountains" "J") (by decide +kernel)
  have z7_ := hts (.fieldLink RX3 53 "HeardSeen$Garden" "people" "I") (by decide +kernel)
  have z8_ := hts (.fieldLink RX3 56 "HeardSeen$Garden" "tellings" "I") (by decide +kernel)
  have z9_ := hts (.fieldLink RX3 59 "HeardSeen$Garden" "reports" "I") (by decide +kernel)
  have z10_ := hts (.fieldLink RX3 9 "HeardSeen$Garden" "kinds" "[I") (by decide +kernel)
  have z11_ := hts (.methodLink RX3 62 arraycopyName) (by decide +kernel)
  have z12_ := hts (.native arraycopyName) (by decide +kernel)
  have z13_ := hts (.static arraycopyName) (by decide +kernel)
  have z14_ := hts (.initialized "java/lang/System") (by decide +kernel)
  have z15_ := hts (.fieldLink RX3 15 "HeardSeen$Garden" "squares" "[I") (by decide +kernel)
  have z16_ := hts (.fieldLink RX3 18 "HeardSeen$Garden" "voices" "[I") (by decide +kernel)
  have z17_ := hts (.fieldLink RX3 21 "HeardSeen$Garden" "tellers" "[I") (by decide +kernel)
  have z18_ := hts (.fieldLink RX3 24 "HeardSeen$Garden" "listeners" "[I") (by decide +kernel)
  have z19_ := hts (.fieldLink RX3 27 "HeardSeen$Garden" "witnesses" "[I") (by decide +kernel)
  have z20_ := hts (.fieldLink RX3 30 "HeardSeen$Garden" "claims" "[I") (by decide +kernel)
  refine lv_aload_n hx hb dX3_copyFrom_0 rfl (lv_at hl 0 rfl) ?_
  refine lv_aload_n hx hb dX3_copyFrom_1 rfl (lv_at hl 1 rfl) ?_
  refine va_get (D := D) (ci := 3) (v := .int o_wide) (C := RX3) (T := TX3) (N := 16) hx hb hts zi3_ hown hK hP 0 rfl rfl 0 (by decide) z0_ (fun _ h9 => h9) rfl dX3_copyFrom_2 ?_
  refine va_put (D := D) (ci := 3) (v := .int o_wide) (ty := .int) (C := RX3) (T := TX3) (N := 16) hx hb hts zi3_ tyX3 tyX3_ok nmX3 hown hK hP hD hS 1 rfl rfl 0 (by decide) z0_ (fun _ h9 => h9) rfl (by decide +kernel) rfl rfl (Nat.le_of_ble_eq_true rfl) dX3_copyFrom_5 (fun H locs hP hD hS => ?_)
  have hP : va_P D vwCl [(a_o, .inr (3, [.int o_wide, .int o_high, .int o_drown, .int o_wind, .long o_hedges, .long o_fountains, .int o_people, .int o_tellings, .int o_reports, .ref a_o_kinds, .ref a_o_squares, .ref a_o_voices, .ref a_o_tellers, .ref a_o_listeners, .ref a_o_witnesses, .ref a_o_claims])), (a_g, .inr (3, [.int o_wide, .int g_high, .int g_drown, .int g_wind, .long g_hedges, .long g_fountains, .int g_people, .int g_tellings, .int g_reports, .ref a_g_kinds, .ref a_g_squares, .ref a_g_voices, .ref a_g_tellers, .ref a_g_listeners, .ref a_g_witnesses, .ref a_g_claims])), (a_o_kinds, .inl (cy 1, 5, .inl o_kinds_f)), (a_g_kinds, .inl (cy 1, 5, .inl g_kinds_f)), (a_o_squares, .inl (cy 1, 5, .inl o_squares_f)), (a_g_squares, .inl (cy 1, 5, .inl g_squares_f)), (a_o_voices, .inl (cy 1, 5, .inl o_voices_f)), (a_g_voices, .inl (cy 1, 5, .inl g_voices_f)), (a_o_tellers, .inl (cy 1, 6, .inl o_tellers_f)), (a_g_tellers, .inl (cy 1, 6, .inl g_tellers_f)), (a_o_listeners, .inl (cy 1, 6, .inl o_listeners_f)), (a_g_listeners, .inl (cy 1, 6, .inl g_listeners_f)), (a_o_witnesses, .inl (cy 1, 8, .inl o_witnesses_f)), (a_g_witnesses, .inl (cy 1, 8, .inl g_witnesses_f)), (a_o_claims, .inl (cy 1, 8, .inl o_claims_f)), (a_g_claims, .inl (cy 1, 8, .inl g_claims_f))] H := hP
  have hD : va_D A [(a_o, .inr (3, [.int o_wide, .int o_high, .int o_drown, .int o_wind, .long o_hedges, .long o_fountains, .int o_people, .int o_tellings, .int o_reports, .ref a_o_kinds, .ref a_o_squares, .ref a_o_voices, .ref a_o_tellers, .ref a_o_listeners, .ref a_o_witnesses, .ref a_o_claims])), (a_g, .inr (3, [.int o_wide, .int g_high, .int g_drown, .int g_wind, .long g_hedges, .long g_fountains, .int g_people, .int g_tellings, .int g_reports, .ref a_g_kinds, .ref a_g_squares, .ref a_g_voices, .ref a_g_tellers, .ref a_g_listeners, .ref a_g_witnesses, .ref a_g_claims])), (a_o_kinds, .inl (cy 1, 5, .inl o_kinds_f)), (a_g_kinds, .inl (cy 1, 5, .inl g_kinds_f)), (a_o_squares, .inl (cy 1, 5, .inl o_squares_f)), (a_g_squares, .inl (cy 1, 5, .inl g_squares_f)), (a_o_voices, .inl (cy 1, 5, .inl o_voices_f)), (a_g_voices, .inl (cy 1, 5, .inl g_voices_f)), (a_o_tellers, .inl (cy 1, 6, .inl o_tellers_f)), (a_g_tellers, .inl (cy 1, 6, .inl g_tellers_f)), (a_o_listeners, .inl (cy 1, 6, .inl o_listeners_f)), (a_g_listeners, .inl (cy 1, 6, .inl g_listeners_f)), (a_o_witnesses, .inl (cy 1, 8, .inl o_witnesses_f)), (a_g_witnesses, .inl (cy 1, 8, .inl g_witnesses_f)), (a_o_claims, .inl (cy 1, 8, .inl o_claims_f)), (a_g_claims, .inl (cy 1, 8, .inl g_claims_f))] := hD
  refine lv_aload_n hx hb dX3_copyFrom_8 rfl (lv_at hl 0 rfl) ?_
  refine lv_aload_n hx hb dX3_copyFrom_9 rfl (lv_at hl 1 rfl) ?_
  refine va_get (D := D) (ci := 3) (v := .int o_high) (C := RX3) (T := TX3) (N := 16) hx hb hts zi3_ hown hK hP 0 rfl rfl 1 (by decide) z2_ (fun _ h9 => h9) rfl dX3_copyFrom_10 ?_
  refine va_put (D := D) (ci := 3) (v := .int o_high) (ty := .int) (C := RX3) (T := TX3) (N := 16) hx hb hts zi3_ tyX3 tyX3_ok nmX3 hown hK hP hD hS 1 rfl rfl 1 (by decide) z2_ (fun _ h9 => h9) rfl (by decide +kernel) rfl rfl (Nat.le_of_ble_eq_true rfl) dX3_copyFrom_13 (fun H locs hP hD hS => ?_)
  have hP : va_P D vwCl [(a_o, .inr (3, [.int o_wide, .int o_high, .int o_drown, .int o_wind, .long o_hedges, .long o_fountains, .int o_people, .int o_tellings, .int o_reports, .ref a_o_kinds, .ref a_o_squares, .ref a_o_voices, .ref a_o_tellers, .ref a_o_listeners, .ref a_o_witnesses, .ref a_o_claims])), (a_g, .inr (3, [.int o_wide, .int o_high, .int g_drown, .int g_wind, .long g_hedges, .long g_fountains, .int g_people, .int g_tellings, .int g_reports, .ref a_g_kinds, .ref a_g_squares, .ref a_g_voices, .ref a_g_tellers, .ref a_g_listeners, .ref a_g_witnesses, .ref a_g_claims])), (a_o_kinds, .inl (cy 1, 5, .inl o_kinds_f)), (a_g_kinds, .inl (cy 1, 5, .inl g_kinds_f)), (a_o_squares, .inl (cy 1, 5, .inl o_squares_f)), (a_g_squares, .inl (cy 1, 5, .inl g_squares_f)), (a_o_voices, .inl (cy 1, 5, .inl o_voices_f)), (a_g_voices, .inl (cy 1, 5, .inl g_voices_f)), (a_o_tellers, .inl (cy 1, 6, .inl o_tellers_f)), (a_g_tellers, .inl (cy 1, 6, .inl g_tellers_f)), (a_o_listeners, .inl (cy 1, 6, .inl o_listeners_f)), (a_g_listeners, .inl (cy 1, 6, .inl g_listeners_f)), (a_o_witnesses, .inl (cy 1, 8, .inl o_witnesses_f)), (a_g_witnesses, .inl (cy 1, 8, .inl g_witnesses_f)), (a_o_claims, .inl (cy 1, 8, .inl o_claims_f)), (a_g_claims, .inl (cy 1, 8, .inl g_claims_f))] H := hP
  have hD : va_D A [(a_o, .inr (3, [.int o_wide, .int o_high, .int o_drown, .int o_wind, .long o_hedges, .long o_fountains, .int o_people, .int o_tellings, .int o_reports, .ref a_o_kinds, .ref a_o_squares, .ref a_o_voices, .ref a_o_tellers, .ref a_o_listeners, .ref a_o_witnesses, .ref a_o_claims])), (a_g, .inr (3, [.int o_wide, .int o_high, .int g_drown, .int g_wind, .long g_hedges, .long g_fountains, .int g_people, .int g_tellings, .int g_reports, .ref a_g_kinds, .ref a_g_squares, .ref a_g_voices, .ref a_g_tellers, .ref a_g_listeners, .ref a_g_witnesses, .ref a_g_claims])), (a_o_kinds, .inl (cy 1, 5, .inl o_kinds_f)), (a_g_kinds, .inl (cy 1, 5, .inl g_kinds_f)), (a_o_squares, .inl (cy 1, 5, .inl o_squares_f)), (a_g_squares, .inl (cy 1, 5, .inl g_squares_f)), (a_o_voices, .inl (cy 1, 5, .inl o_voices_f)), (a_g_voices, .inl (cy 1, 5, .inl g_voices_f)), (a_o_tellers, .inl (cy 1, 6, .inl o_tellers_f)), (a_g_tellers, .inl (cy 1, 6, .inl g_tellers_f)), (a_o_listeners, .inl (cy 1, 6, .inl o_listeners_f)), (a_g_listeners, .inl (cy 1, 6, .inl g_listeners_f)), (a_o_witnesses, .inl (cy 1, 8, .inl o_witnesses_f)), (a_g_witnesses, .inl (cy 1, 8, .inl g_witnesses_f)), (a_o_claims, .inl (cy 1, 8, .inl o_claims_f)), (a_g_claims, .inl (cy 1, 8, .inl g_claims_f))] := hD
  refine lv_aload_n hx hb dX3_copyFrom_16 rfl (lv_at hl 0 rfl) ?_
  refine lv_aload_n hx hb dX3_copyFrom_17 rfl (lv_at hl 1 rfl) ?_
  refine va_get (D := D) (ci := 3) (v := .int o_drown) (C := RX3) (T := TX3) (N := 16) hx hb hts zi3_ hown hK hP 0 rfl rfl 2 (by decide) z3_ (fun _ h9 => h9) rfl dX3_copyFrom_18 ?_
  refine va_put (D := D) (ci := 3) (v := .int o_drown) (ty := .int) (C := RX3) (T := TX3) (N := 16) hx hb hts zi3_ tyX3 tyX3_ok nmX3 hown hK hP hD hS 1 rfl rfl 2 (by decide) z3_ (fun _ h9 => h9) rfl (by decide +kernel) rfl rfl (Nat.le_of_ble_eq_true rfl) dX3_copyFrom_21 (fun H locs hP hD hS => ?_)
  have hP : va_P D vwCl [(a_o, .inr (3, [.int o_wide, .int o_high, .int o_drown, .int o_wind, .long o_hedges, .long o_fountains, .int o_people, .int o_tellings, .int o_reports, .ref a_o_kinds, .ref a_o_squares, .ref a_o_voices, .ref a_o_tellers, .ref a_o_listeners, .ref a_o_witnesses, .ref a_o_claims])), (a_g, .inr (3, [.int o_wide, .int o_high, .int o_drown, .int g_wind, .long g_hedges, .long g_fountains, .int g_people, .int g_tellings, .int g_reports, .ref a_g_kinds, .ref a_g_squares, .ref a_g_voices, .ref a_g_tellers, .ref a_g_listeners, .ref a_g_witnesses, .ref a_g_claims])), (a_o_kinds, .inl (cy 1, 5, .inl o_kinds_f)), (a_g_kinds, .inl (cy 1, 5, .inl g_kinds_f)), (a_o_squares, .inl (cy 1, 5, .inl o_squares_f)), (a_g_squares, .inl (cy 1, 5, .inl g_squares_f)), (a_o_voices, .inl (cy 1, 5, .inl o_voices_f)), (a_g_voices, .inl (cy 1, 5, .inl g_voices_f)), (a_o_tellers, .inl (cy 1, 6, .inl o_tellers_f)), (a_g_tellers, .inl (cy 1, 6, .inl g_tellers_f)), (a_o_listeners, .inl (cy 1, 6, .inl o_listeners_f)), (a_g_listeners, .inl (cy 1, 6, .inl g_listeners_f)), (a_o_witnesses, .inl (cy 1, 8, .inl o_witnesses_f)), (a_g_witnesses, .inl (cy 1, 8, .inl g_witnesses_f)), (a_o_claims, .inl (cy 1, 8, .inl o_claims_f)), (a_g_claims, .inl (cy 1, 8, .inl g_claims_f))] H := hP
  have hD : va_D A [(a_o, .inr (3, [.int o_wide, .int o_high, .int o_drown, .int o_wind, .long o_hedges, .long o_fountains, .int o_people, .int o_tellings, .int o_reports, .ref a_o_kinds, .ref a_o_squares, .ref a_o_voices, .ref a_o_tellers, .ref a_o_listeners, .ref a_o_witnesses, .ref a_o_claims])), (a_g, .inr (3, [.int o_wide, .int o_high, .int o_drown, .int g_wind, .long g_hedges, .long g_fountains, .int g_people, .int g_tellings, .int g_reports, .ref a_g_kinds, .ref a_g_squares, .ref a_g_voices, .ref a_g_tellers, .ref a_g_listeners, .ref a_g_witnesses, .ref a_g_claims])), (a_o_kinds, .inl (cy 1, 5, .inl o_kinds_f)), (a_g_kinds, .inl (cy 1, 5, .inl g_kinds_f)), (a_o_squares, .inl (cy 1, 5, .inl o_squares_f)), (a_g_squares, .inl (cy 1, 5, .inl g_squares_f)), (a_o_voices, .inl (cy 1, 5, .inl o_voices_f)), (a_g_voices, .inl (cy 1, 5, .inl g_voices_f)), (a_o_tellers, .inl (cy 1, 6, .inl o_tellers_f)), (a_g_tellers, .inl (cy 1, 6, .inl g_tellers_f)), (a_o_listeners, .inl (cy 1, 6, .inl o_listeners_f)), (a_g_listeners, .inl (cy 1, 6, .inl g_listeners_f)), (a_o_witnesses, .inl (cy 1, 8, .inl o_witnesses_f)), (a_g_witnesses, .inl (cy 1, 8, .inl g_witnesses_f)), (a_o_claims, .inl (cy 1, 8, .inl o_claims_f)), (a_g_claims, .inl (cy 1, 8, .inl g_claims_f))] := hD
  refine lv_aload_n hx hb dX3_copyFrom_24 rfl (lv_at hl 0 rfl) ?_
  refine lv_aload_n hx hb dX3_copyFrom_25 rfl (lv_at hl 1 rfl) ?_
  refine va_get (D := D) (ci := 3) (v := .int o_wind) (C := RX3) (T := TX3) (N := 16) hx hb hts zi3_ hown hK hP 0 rfl rfl 3 (by decide) z4_ (fun _ h9 => h9) rfl dX3_copyFrom_26 ?_
  refine va_put (D := D) (ci := 3) (v := .int o_wind) (ty := .int) (C := RX3) (T := TX3) (N := 16) hx hb hts zi3_ tyX3 tyX3_ok nmX3 hown hK hP hD hS 1 rfl rfl 3 (by decide) z4_ (fun _ h9 => h9) rfl (by decide +kernel) rfl rfl (Nat.le_of_ble_eq_true rfl) dX3_copyFrom_29 (fun H locs hP hD hS => ?_)
  have hP : va_P D vwCl [(a_o, .inr (3, [.int o_wide, .int o_high, .int o_drown, .int o_wind, .long o_hedges, .long o_fountains, .int o_people, .int o_tellings, .int o_reports, .ref a_o_kinds, .ref a_o_squares, .ref a_o_voices, .ref a_o_tellers, .ref a_o_listeners, .ref a_o_witnesses, .ref a_o_claims])), (a_g, .inr (3, [.int o_wide, .int o_high, .int o_drown, .int o_wind, .long g_hedges, .long g_fountains, .int g_people, .int g_tellings, .int g_reports, .ref a_g_kinds, .ref a_g_squares, .ref a_g_voices, .ref a_g_tellers, .ref a_g_listeners, .ref a_g_witnesses, .ref a_g_claims])), (a_o_kinds, .inl (cy 1, 5, .inl o_kinds_f)), (a_g_kinds, .inl (cy 1, 5, .inl g_kinds_f)), (a_o_squares, .inl (cy 1, 5, .inl o_squares_f)), (a_g_squares, .inl (cy 1, 5, .inl g_squares_f)), (a_o_voices, .inl (cy 1, 5, .inl o_voices_f)), (a_g_voices, .inl (cy 1, 5, .inl g_voices_f)), (a_o_tellers, .inl (cy 1, 6, .inl o_tellers_f)), (a_g_tellers, .inl (cy 1, 6, .inl g_tellers_f)), (a_o_listeners, .inl (cy 1, 6, .inl o_listeners_f)), (a_g_listeners, .inl (cy 1, 6, .inl g_listeners_f)), (a_o_witnesses, .inl (cy 1, 8, .inl o_witnesses_f)), (a_g_witnesses, .inl (cy 1, 8, .inl g_witnesses_f)), (a_o_claims, .inl (cy 1, 8, .inl o_claims_f)), (a_g_claims, .inl (cy 1, 8, .inl g_claims_f))] H := hP
  have hD : va_D A [(a_o, .inr (3, [.int o_wide, .int o_high, .int o_drown, .int o_wind, .long o_hedges, .long o_fountains, .int o_people, .int o_tellings, .int o_reports, .ref a_o_kinds, .ref a_o_squares, .ref a_o_voices, .ref a_o_tellers, .ref a_o_listeners, .ref a_o_witnesses, .ref a_o_claims])), (a_g, .inr (3, [.int o_wide, .int o_high, .int o_drown, .int o_wind, .long g_hedges, .long g_fountains, .int g_people, .int g_tellings, .int g_reports, .ref a_g_kinds, .ref a_g_squares, .ref a_g_voices, .ref a_g_tellers, .ref a_g_listeners, .ref a_g_witnesses, .ref a_g_claims])), (a_o_kinds, .inl (cy 1, 5, .inl o_kinds_f)), (a_g_kinds, .inl (cy 1, 5, .inl g_kinds_f)), (a_o_squares, .inl (cy 1, 5, .inl o_squares_f)), (a_g_squares, .inl (cy 1, 5, .inl g_squares_f)), (a_o_voices, .inl (cy 1, 5, .inl o_voices_f)), (a_g_voices, .inl (cy 1, 5, .inl g_voices_f)), (a_o_tellers, .inl (cy 1, 6, .inl o_tellers_f)), (a_g_tellers, .inl (cy 1, 6, .inl g_tellers_f)), (a_o_listeners, .inl (cy 1, 6, .inl o_listeners_f)), (a_g_listeners, .inl (cy 1, 6, .inl g_listeners_f)), (a_o_witnesses, .inl (cy 1, 8, .inl o_witnesses_f)), (a_g_witnesses, .inl (cy 1, 8, .inl g_witnesses_f)), (a_o_claims, .inl (cy 1, 8, .inl o_claims_f)), (a_g_claims, .inl (cy 1, 8, .inl g_claims_f))] := hD
  refine lv_aload_n hx hb dX3_copyFrom_32 rfl (lv_at hl 0 rfl) ?_
  refine lv_aload_n hx hb dX3_copyFrom_33 rfl (lv_at hl 1 rfl) ?_
  refine va_get (D := D) (ci := 3) (v := .long o_hedges) (C := RX3) (T := TX3) (N := 16) hx hb hts zi3_ hown hK hP 0 rfl rfl 4 (by decide) z5_ (fun _ h9 => h9) rfl dX3_copyFrom_34 ?_
  refine va_put (D := D) (ci := 3) (v := .long o_hedges) (ty := .long) (C := RX3) (T := TX3) (N := 16) hx hb hts zi3_ tyX3 tyX3_ok nmX3 hown hK hP hD hS 1 rfl rfl 4 (by decide) z5_ (fun _ h9 => h9) rfl (by decide +kernel) rfl rfl (Nat.le_of_ble_eq_true rfl) dX3_copyFrom_37 (fun H locs hP hD hS => ?_)
  have hP : va_P D vwCl [(a_o, .inr (3, [.int o_wide, .int o_high, .int o_drown, .int o_wind, .long o_hedges, .long o_fountains, .int o_people, .int o_tellings, .int o_reports, .ref a_o_kinds, .ref a_o_squares, .ref a_o_voices, .ref a_o_tellers, .ref a_o_listeners, .ref a_o_witnesses, .ref a_o_claims])), (a_g, .inr (3, [.int o_wide, .int o_high, .int o_drown, .int o_wind, .long o_hedges, .long g_fountains, .int g_people, .int g_tellings, .int g_reports, .ref a_g_kinds, .ref a_g_squares, .ref a_g_voices, .ref a_g_tellers, .ref a_g_listeners, .ref a_g_witnesses, .ref a_g_claims])), (a_o_kinds, .inl (cy 1, 5, .inl o_kinds_f)), (a_g_kinds, .inl (cy 1, 5, .inl g_kinds_f)), (a_o_squares, .inl (cy 1, 5, .inl o_squares_f)), (a_g_squares, .inl (cy 1, 5, .inl g_squares_f)), (a_o_voices, .inl (cy 1, 5, .inl o_voices_f)), (a_g_voices, .inl (cy 1, 5, .inl g_voices_f)), (a_o_tellers, .inl (cy 1, 6, .inl o_tellers_f)), (a_g_tellers, .inl (cy 1, 6, .inl g_tellers_f)), (a_o_listeners, .inl (cy 1, 6, .inl o_listeners_f)), (a_g_listeners, .inl (cy 1, 6, .inl g_listeners_f)), (a_o_witnesses, .inl (cy 1, 8, .inl o_witnesses_f)), (a_g_witnesses, .inl (cy 1, 8, .inl g_witnesses_f)), (a_o_claims, .inl (cy 1, 8, .inl o_claims_f)), (a_g_claims, .inl (cy 1, 8, .inl g_claims_f))] H := hP
  have hD : va_D A [(a_o, .inr (3, [.int o_wide, .int o_high, .int o_drown, .int o_wind, .long o_hedges, .long o_fountains, .int o_people, .int o_tellings, .int o_reports, .ref a_o_kinds, .ref a_o_squares, .ref a_o_voices, .ref a_o_tellers, .ref a_o_listeners, .ref a_o_witnesses, .ref a_o_claims])), (a_g, .inr (3, [.int o_wide, .int o_high, .int o_drown, .int o_wind, .long o_hedges, .long g_fountains, .int g_people, .int g_tellings, .int g_reports, .ref a_g_kinds, .ref a_g_squares, .ref a_g_voices, .ref a_g_tellers, .ref a_g_listeners, .ref a_g_witnesses, .ref a_g_claims])), (a_o_kinds, .inl (cy 1, 5, .inl o_kinds_f)), (a_g_kinds, .inl (cy 1, 5, .inl g_kinds_f)), (a_o_squares, .inl (cy 1, 5, .inl o_squares_f)), (a_g_squares, .inl (cy 1, 5, .inl g_squares_f)), (a_o_voices, .inl (cy 1, 5, .inl o_voices_f)), (a_g_voices, .inl (cy 1, 5, .inl g_voices_f)), (a_o_tellers, .inl (cy 1, 6, .inl o_tellers_f)), (a_g_tellers, .inl (cy 1, 6, .inl g_tellers_f)), (a_o_listeners, .inl (cy 1, 6, .inl o_listeners_f)), (a_g_listeners, .inl (cy 1, 6, .inl g_listeners_f)), (a_o_witnesses, .inl (cy 1, 8, .inl o_witnesses_f)), (a_g_witnesses, .inl (cy 1, 8, .inl g_witnesses_f)), (a_o_claims, .inl (cy 1, 8, .inl o_claims_f)), (a_g_claims, .inl (cy 1, 8, .inl g_claims_f))] := hD
  refine lv_aload_n hx hb dX3_copyFrom_40 rfl (lv_at hl 0 rfl) ?_
  refine lv_aload_n hx hb dX3_copyFrom_41 rfl (lv_at hl 1 rfl) ?_
  refine va_get (D := D) (ci := 3) (v := .long o_fountains) (C := RX3) (T := TX3) (N := 16) hx hb hts zi3_ hown hK hP 0 rfl rfl 5 (by decide) z6_ (fun _ h9 => h9) rfl dX3_copyFrom_42 ?_
  refine va_put (D := D) (ci := 3) (v := .long o_fountains) (ty := .long) (C := RX3) (T := TX3) (N := 16) hx hb hts zi3_ tyX3 tyX3_ok nmX3 hown hK hP hD hS 1 rfl rfl 5 (by decide) z6_ (fun _ h9 => h9) rfl (by decide +kernel) rfl rfl (Nat.le_of_ble_eq_true rfl) dX3_copyFrom_45 (fun H locs hP hD hS => ?_)
  have hP : va_P D vwCl [(a_o, .inr (3, [.int o_wide, .int o_high, .int o_drown, .int o_wind, .long o_hedges, .long o_fountains, .int o_people, .int o_tellings, .int o_reports, .ref a_o_kinds, .ref a_o_squares, .ref a_o_voices, .ref a_o_tellers, .ref a_o_listeners, .ref a_o_witnesses, .ref a_o_claims])), (a_g, .inr (3, [.int o_wide, .int o_high, .int o_drown, .int o_wind, .long o_hedges, .long o_fountains, .int g_people, .int g_tellings, .int g_reports, .ref a_g_kinds, .ref a_g_squares, .ref a_g_voices, .ref a_g_tellers, .ref a_g_listeners, .ref a_g_witnesses, .ref a_g_claims])), (a_o_kinds, .inl (cy 1, 5, .inl o_kinds_f)), (a_g_kinds, .inl (cy 1, 5, .inl g_kinds_f)), (a_o_squares, .inl (cy 1, 5, .inl o_squares_f)), (a_g_squares, .inl (cy 1, 5, .inl g_squares_f)), (a_o_voices, .inl (cy 1, 5, .inl o_voices_f)), (a_g_voices, .inl (cy 1, 5, .inl g_voices_f)), (a_o_tellers, .inl (cy 1, 6, .inl o_tellers_f)), (a_g_tellers, .inl (cy 1, 6, .inl g_tellers_f)), (a_o_listeners, .inl (cy 1, 6, .inl o_listeners_f)), (a_g_listeners, .inl (cy 1, 6, .inl g_listeners_f)), (a_o_witnesses, .inl (cy 1, 8, .inl o_witnesses_f)), (a_g_witnesses, .inl (cy 1, 8, .inl g_witnesses_f)), (a_o_claims, .inl (cy 1, 8, .inl o_claims_f)), (a_g_claims, .inl (cy 1, 8, .inl g_claims_f))] H := hP
  have hD : va_D A [(a_o, .inr (3, [.int o_wide, .int o_high, .int o_drown, .int o_wind, .long o_hedges, .long o_fountains, .int o_people, .int o_tellings, .int o_reports, .ref a_o_kinds, .ref a_o_squares, .ref a_o_voices, .ref a_o_tellers, .ref a_o_listeners, .ref a_o_witnesses, .ref a_o_claims])), (a_g, .inr (3, [.int o_wide, .int o_high, .int o_drown, .int o_wind, .long o_hedges, .long o_fountains, .int g_people, .int g_tellings, .int g_reports, .ref a_g_kinds, .ref a_g_squares, .ref a_g_voices, .ref a_g_tellers, .ref a_g_listeners, .ref a_g_witnesses, .ref a_g_claims])), (a_o_kinds, .inl (cy 1, 5, .inl o_kinds_f)), (a_g_kinds, .inl (cy 1, 5, .inl g_kinds_f)), (a_o_squares, .inl (cy 1, 5, .inl o_squares_f)), (a_g_squares, .inl (cy 1, 5, .inl g_squares_f)), (a_o_voices, .inl (cy 1, 5, .inl o_voices_f)), (a_g_voices, .inl (cy 1, 5, .inl g_voices_f)), (a_o_tellers, .inl (cy 1, 6, .inl o_tellers_f)), (a_g_tellers, .inl (cy 1, 6, .inl g_tellers_f)), (a_o_listeners, .inl (cy 1, 6, .inl o_listeners_f)), (a_g_listeners, .inl (cy 1, 6, .inl g_listeners_f)), (a_o_witnesses, .inl (cy 1, 8, .inl o_witnesses_f)), (a_g_witnesses, .inl (cy 1, 8, .inl g_witnesses_f)), (a_o_claims, .inl (cy 1, 8, .inl o_claims_f)), (a_g_claims, .inl (cy 1, 8, .inl g_claims_f))] := hD
  refine lv_aload_n hx hb dX3_copyFrom_48 rfl (lv_at hl 0 rfl) ?_
  refine lv_aload_n hx hb dX3_copyFrom_49 rfl (lv_at hl 1 rfl) ?_
  refine va_get (D := D) (ci := 3) (v := .int o_people) (C := RX3) (T := TX3) (N := 16) hx hb hts zi3_ hown hK hP 0 rfl rfl 6 (by decide) z7_ (fun _ h9 => h9) rfl dX3_copyFrom_50 ?_
  refine va_put (D := D) (ci := 3) (v := .int o_people) (ty := .int) (C := RX3) (T := TX3) (N := 16) hx hb hts zi3_ tyX3 tyX3_ok nmX3 hown hK hP hD hS 1 rfl rfl 6 (by decide) z7_ (fun _ h9 => h9) rfl (by decide +kernel) rfl rfl (Nat.le_of_ble_eq_true rfl) dX3_copyFrom_53 (fun H locs hP hD hS => ?_)
  have hP : va_P D vwCl [(a_o, .inr (3, [.int o_wide, .int o_high, .int o_drown, .int o_wind, .long o_hedges, .long o_fountains, .int o_people, .int o_tellings, .int o_reports, .ref a_o_kinds, .ref a_o_squares, .ref a_o_voices, .ref a_o_tellers, .ref a_o_listeners, .ref a_o_witnesses, .ref a_o_claims])), (a_g, .inr (3, [.int o_wide, .int o_high, .int o_drown, .int o_wind, .long o_hedges, .long o_fountains, .int o_people, .int g_tellings, .int g_reports, .ref a_g_kinds, .ref a_g_squares, .ref a_g_voices, .ref a_g_tellers, .ref a_g_listeners, .ref a_g_witnesses, .ref a_g_claims])), (a_o_kinds, .inl (cy 1, 5, .inl o_kinds_f)), (a_g_kinds, .inl (cy 1, 5, .inl g_kinds_f)), (a_o_squares, .inl (cy 1, 5, .inl o_squares_f)), (a_g_squares, .inl (cy 1, 5, .inl g_squares_f)), (a_o_voices, .inl (cy 1, 5, .inl o_voices_f)), (a_g_voices, .inl (cy 1, 5, .inl g_voices_f)), (a_o_tellers, .inl (cy 1, 6, .inl o_tellers_f)), (a_g_tellers, .inl (cy 1, 6, .inl g_tellers_f)), (a_o_listeners, .inl (cy 1, 6, .inl o_listeners_f)), (a_g_listeners, .inl (cy 1, 6, .inl g_listeners_f)), (a_o_witnesses, .inl (cy 1, 8, .inl o_witnesses_f)), (a_g_witnesses, .inl (cy 1, 8, .inl g_witnesses_f)), (a_o_claims, .inl (cy 1, 8, .inl o_claims_f)), (a_g_claims, .inl (cy 1, 8, .inl g_claims_f))] H := hP
  have hD : va_D A [(a_o, .inr (3, [.int o_wide, .int o_high, .int o_drown, .int o_wind, .long o_hedges, .long o_fountains, .int o_people, .int o_tellings, .int o_reports, .ref a_o_kinds, .ref a_o_squares, .ref a_o_voices, .ref a_o_tellers, .ref a_o_listeners, .ref a_o_witnesses, .ref a_o_claims])), (a_g, .inr (3, [.int o_wide, .int o_high, .int o_drown, .int o_wind, .long o_hedges, .long o_fountains, .int o_people, .int g_tellings, .int g_reports, .ref a_g_kinds, .ref a_g_squares, .ref a_g_voices, .ref a_g_tellers, .ref a_g_listeners, .ref a_g_witnesses, .ref a_g_claims])), (a_o_kinds, .inl (cy 1, 5, .inl o_kinds_f)), (a_g_kinds, .inl (cy 1, 5, .inl g_kinds_f)), (a_o_squares, .inl (cy 1, 5, .inl o_squares_f)), (a_g_squares, .inl (cy 1, 5, .inl g_squares_f)), (a_o_voices, .inl (cy 1, 5, .inl o_voices_f)), (a_g_voices, .inl (cy 1, 5, .inl g_voices_f)), (a_o_tellers, .inl (cy 1, 6, .inl o_tellers_f)), (a_g_tellers, .inl (cy 1, 6, .inl g_tellers_f)), (a_o_listeners, .inl (cy 1, 6, .inl o_listeners_f)), (a_g_listeners, .inl (cy 1, 6, .inl g_listeners_f)), (a_o_witnesses, .inl (cy 1, 8, .inl o_witnesses_f)), (a_g_witnesses, .inl (cy 1, 8, .inl g_witnesses_f)), (a_o_claims, .inl (cy 1, 8, .inl o_claims_f)), (a_g_claims, .inl (cy 1, 8, .inl g_claims_f))] := hD
  refine lv_aload_n hx hb dX3_copyFrom_56 rfl (lv_at hl 0 rfl) ?_
  refine lv_aload_n hx hb dX3_copyFrom_57 rfl (lv_at hl 1 rfl) ?_
  refine va_get (D := D) (ci := 3) (v := .int o_tellings) (C := RX3) (T := TX3) (N := 16) hx hb hts zi3_ hown hK hP 0 rfl rfl 7 (by decide) z8_ (fun _ h9 => h9) rfl dX3_copyFrom_58 ?_
  refine va_put (D := D) (ci := 3) (v := .int o_tellings) (ty := .int) (C := RX3) (T := TX3) (N := 16) hx hb hts zi3_ tyX3 tyX3_ok nmX3 hown hK hP hD hS 1 rfl rfl 7 (by decide) z8_ (fun _ h9 => h9) rfl (by decide +kernel) rfl rfl (Nat.le_of_ble_eq_true rfl) dX3_copyFrom_61 (fun H locs hP hD hS => ?_)
  have hP : va_P D vwCl [(a_o, .inr (3, [.int o_wide, .int o_high, .int o_drown, .int o_wind, .long o_hedges, .long o_fountains, .int o_people, .int o_tellings, .int o_reports, .ref a_o_kinds, .ref a_o_squares, .ref a_o_voices, .ref a_o_tellers, .ref a_o_listeners, .ref a_o_witnesses, .ref a_o_claims])), (a_g, .inr (3, [.int o_wide, .int o_high, .int o_drown, .int o_wind, .long o_hedges, .long o_fountains, .int o_people, .int o_tellings, .int g_reports, .ref a_g_kinds, .ref a_g_squares, .ref a_g_voices, .ref a_g_tellers, .ref a_g_listeners, .ref a_g_witnesses, .ref a_g_claims])), (a_o_kinds, .inl (cy 1, 5, .inl o_kinds_f)), (a_g_kinds, .inl (cy 1, 5, .inl g_kinds_f)), (a_o_squares, .inl (cy 1, 5, .inl o_squares_f)), (a_g_squares, .inl (cy 1, 5, .inl g_squares_f)), (a_o_voices, .inl (cy 1, 5, .inl o_voices_f)), (a_g_voices, .inl (cy 1, 5, .inl g_voices_f)), (a_o_tellers, .inl (cy 1, 6, .inl o_tellers_f)), (a_g_tellers, .inl (cy 1, 6, .inl g_tellers_f)), (a_o_listeners, .inl (cy 1, 6, .inl o_listeners_f)), (a_g_listeners, .inl (cy 1, 6, .inl g_listeners_f)), (a_o_witnesses, .inl (cy 1, 8, .inl o_witnesses_f)), (a_g_witnesses, .inl (cy 1, 8, .inl g_witnesses_f)), (a_o_claims, .inl (cy 1, 8, .inl o_claims_f)), (a_g_claims, .inl (cy 1, 8, .inl g_claims_f))] H := hP
  have hD : va_D A [(a_o, .inr (3, [.int o_wide, .int o_high, .int o_drown, .int o_wind, .long o_hedges, .long o_fountains, .int o_people, .int o_tellings, .int o_reports, .ref a_o_kinds, .ref a_o_squares, .ref a_o_voices, .ref a_o_tellers, .ref a_o_listeners, .ref a_o_witnesses, .ref a_o_claims])), (a_g, .inr (3, [.int o_wide, .int o_high, .int o_drown, .int o_wind, .long o_hedges, .long o_fountains, .int o_people, .int o_tellings, .int g_reports, .ref a_g_kinds, .ref a_g_squares, .ref a_g_voices, .ref a_g_tellers, .ref a_g_listeners, .ref a_g_witnesses, .ref a_g_claims])), (a_o_kinds, .inl (cy 1, 5, .inl o_kinds_f)), (a_g_kinds, .inl (cy 1, 5, .inl g_kinds_f)), (a_o_squares, .inl (cy 1, 5, .inl o_squares_f)), (a_g_squares, .inl (cy 1, 5, .inl g_squares_f)), (a_o_voices, .inl (cy 1, 5, .inl o_voices_f)), (a_g_voices, .inl (cy 1, 5, .inl g_voices_f)), (a_o_tellers, .inl (cy 1, 6, .inl o_tellers_f)), (a_g_tellers, .inl (cy 1, 6, .inl g_tellers_f)), (a_o_listeners, .inl (cy 1, 6, .inl o_listeners_f)), (a_g_listeners, .inl (cy 1, 6, .inl g_listeners_f)), (a_o_witnesses, .inl (cy 1, 8, .inl o_witnesses_f)), (a_g_witnesses, .inl (cy 1, 8, .inl g_witnesses_f)), (a_o_claims, .inl (cy 1, 8, .inl o_claims_f)), (a_g_claims, .inl (cy 1, 8, .inl g_claims_f))] := hD
  refine lv_aload_n hx hb dX3_copyFrom_64 rfl (lv_at hl 0 rfl) ?_
  refine lv_aload_n hx hb dX3_copyFrom_65 rfl (lv_at hl 1 rfl) ?_
  refine va_get (D := D) (ci := 3) (v := .int o_reports) (C := RX3) (T := TX3) (N := 16) hx hb hts zi3_ hown hK hP 0 rfl rfl 8 (by decide) z9_ (fun _ h9 => h9) rfl dX3_copyFrom_66 ?_
  refine va_put (D := D) (ci := 3) (v := .int o_reports) (ty := .int) (C := RX3) (T := TX3) (N := 16) hx hb hts zi3_ tyX3 tyX3_ok nmX3 hown hK hP hD hS 1 rfl rfl 8 (by decide) z9_ (fun _ h9 => h9) rfl (by decide +kernel) rfl rfl (Nat.le_of_ble_eq_true rfl) dX3_copyFrom_69 (fun H locs hP hD hS => ?_)
  have hP : va_P D vwCl [(a_o, .inr (3, [.int o_wide, .int o_high, .int o_drown, .int o_wind, .long o_hedges, .long o_fountains, .int o_people, .int o_tellings, .int o_reports, .ref a_o_kinds, .ref a_o_squares, .ref a_o_voices, .ref a_o_tellers, .ref a_o_listeners, .ref a_o_witnesses, .ref a_o_claims])), (a_g, .inr (3, [.int o_wide, .int o_high, .int o_drown, .int o_wind, .long o_hedges, .long o_fountains, .int o_people, .int o_tellings, .int o_reports, .ref a_g_kinds, .ref a_g_squares, .ref a_g_voices, .ref a_g_tellers, .ref a_g_listeners, .ref a_g_witnesses, .ref a_g_claims])), (a_o_kinds, .inl (cy 1, 5, .inl o_kinds_f)), (a_g_kinds, .inl (cy 1, 5, .inl g_kinds_f)), (a_o_squares, .inl (cy 1, 5, .inl o_squares_f)), (a_g_squares, .inl (cy 1, 5, .inl g_squares_f)), (a_o_voices, .inl (cy 1, 5, .inl o_voices_f)), (a_g_voices, .inl (cy 1, 5, .inl g_voices_f)), (a_o_tellers, .inl (cy 1, 6, .inl o_tellers_f)), (a_g_tellers, .inl (cy 1, 6, .inl g_tellers_f)), (a_o_listeners, .inl (cy 1, 6, .inl o_listeners_f)), (a_g_listeners, .inl (cy 1, 6, .inl g_listeners_f)), (a_o_witnesses, .inl (cy 1, 8, .inl o_witnesses_f)), (a_g_witnesses, .inl (cy 1, 8, .inl g_witnesses_f)), (a_o_claims, .inl (cy 1, 8, .inl o_claims_f)), (a_g_claims, .inl (cy 1, 8, .inl g_claims_f))] H := hP
  have hD : va_D A [(a_o, .inr (3, [.int o_wide, .int o_high, .int o_drown, .int o_wind, .long o_hedges, .long o_fountains, .int o_people, .int o_tellings, .int o_reports, .ref a_o_kinds, .ref a_o_squares, .ref a_o_voices, .ref a_o_tellers, .ref a_o_listeners, .ref a_o_witnesses, .ref a_o_claims])), (a_g, .inr (3, [.int o_wide, .int o_high, .int o_drown, .int o_wind, .long o_hedges, .long o_fountains, .int o_people, .int o_tellings, .int o_reports, .ref a_g_kinds, .ref a_g_squares, .ref a_g_voices, .ref a_g_tellers, .ref a_g_listeners, .ref a_g_witnesses, .ref a_g_claims])), (a_o_kinds, .inl (cy 1, 5, .inl o_kinds_f)), (a_g_kinds, .inl (cy 1, 5, .inl g_kinds_f)), (a_o_squares, .inl (cy 1, 5, .inl o_squares_f)), (a_g_squares, .inl (cy 1, 5, .inl g_squares_f)), (a_o_voices, .inl (cy 1, 5, .inl o_voices_f)), (a_g_voices, .inl (cy 1, 5, .inl g_voices_f)), (a_o_tellers, .inl (cy 1, 6, .inl o_tellers_f)), (a_g_tellers, .inl (cy 1, 6, .inl g_tellers_f)), (a_o_listeners, .inl (cy 1, 6, .inl o_listeners_f)), (a_g_listeners, .inl (cy 1, 6, .inl g_listeners_f)), (a_o_witnesses, .inl (cy 1, 8, .inl o_witnesses_f)), (a_g_witnesses, .inl (cy 1, 8, .inl g_witnesses_f)), (a_o_claims, .inl (cy 1, 8, .inl o_claims_f)), (a_g_claims, .inl (cy 1, 8, .inl g_claims_f))] := hD
  refine lv_aload_n hx hb dX3_copyFrom_72 rfl (lv_at hl 1 rfl) ?_
  refine va_get (D := D) (ci := 3) (v := .ref a_o_kinds) (C := RX3) (T := TX3) (N := 16) hx hb hts zi3_ hown hK hP 0 rfl rfl 9 (by decide) z10_ (fun _ h9 => h9) rfl dX3_copyFrom_73 ?_
  refine lv_iconst (v := 0) hx hb dX3_copyFrom_76 (by decide) ?_
  refine lv_aload_n hx hb dX3_copyFrom_77 rfl (lv_at hl 0 rfl) ?_
  refine va_get (D := D) (ci := 3) (v := .ref a_g_kinds) (C := RX3) (T := TX3) (N := 16) hx hb hts zi3_ hown hK hP 1 rfl rfl 9 (by decide) z10_ (fun _ h9 => h9) rfl dX3_copyFrom_78 ?_
  refine lv_iconst (v := 0) hx hb dX3_copyFrom_81 (by decide) ?_
  refine lv_iconst (v := 5) hx hb dX3_copyFrom_82 (by decide) ?_
  refine va_copyi hx hb (by rw [hml]; exact hl.1.symm) hown z11_ z12_ z13_ z14_ hK hP hD hS 2 3 1 1 rfl rfl rfl rfl rfl (by decide) (by decide) (by decide) (by decide +kernel) (by decide +kernel) (fun _ _ => rfl) (Nat.le_of_ble_eq_true rfl) (Nat.le_of_ble_eq_true (by decide +kernel)) dX3_copyFrom_83 (fun H locs hP hD hS => ?_)
  have hP : va_P D vwCl [(a_o, .inr (3, [.int o_wide, .int o_high, .int o_drown, .int o_wind, .long o_hedges, .long o_fountains, .int o_people, .int o_tellings, .int o_reports, .ref a_o_kinds, .ref a_o_squares, .ref a_o_voices, .ref a_o_tellers, .ref a_o_listeners, .ref a_o_witnesses, .ref a_o_claims])), (a_g, .inr (3, [.int o_wide, .int o_high, .int o_drown, .int o_wind, .long o_hedges, .long o_fountains, .int o_people, .int o_tellings, .int o_reports, .ref a_g_kinds, .ref a_g_squares, .ref a_g_voices, .ref a_g_tellers, .ref a_g_listeners, .ref a_g_witnesses, .ref a_g_claims])), (a_o_kinds, .inl (cy 1, 5, .inl o_kinds_f)), (a_g_kinds, .inl (cy 1, 5, .inl (va_cpy o_kinds_f g_kinds_f (0 : Int32).toNatClampNeg (0 : Int32).toNatClampNeg (5 : Int32).toNatClampNeg))), (a_o_squares, .inl (cy 1, 5, .inl o_squares_f)), (a_g_squares, .inl (cy 1, 5, .inl g_squares_f)), (a_o_voices, .inl (cy 1, 5, .inl o_voices_f)), (a_g_voices, .inl (cy 1, 5, .inl g_voices_f)), (a_o_tellers, .inl (cy 1, 6, .inl o_tellers_f)), (a_g_tellers, .inl (cy 1, 6, .inl g_tellers_f)), (a_o_listeners, .inl (cy 1, 6, .inl o_listeners_f)), (a_g_listeners, .inl (cy 1, 6, .inl g_listeners_f)), (a_o_witnesses, .inl (cy 1, 8, .inl o_witnesses_f)), (a_g_witnesses, .inl (cy 1, 8, .inl g_witnesses_f)), (a_o_claims, .inl (cy 1, 8, .inl o_claims_f)), (a_g_claims, .inl (cy 1, 8, .inl g_claims_f))] H := hP
  have hD : va_D A [(a_o, .inr (3, [.int o_wide, .int o_high, .int o_drown, .int o_wind, .long o_hedges, .long o_fountains, .int o_people, .int o_tellings, .int o_reports, .ref a_o_kinds, .ref a_o_squares, .ref a_o_voices, .ref a_o_tellers, .ref a_o_listeners, .ref a_o_witnesses, .ref a_o_claims])), (a_g, .inr (3, [.int o_wide, .int o_high, .int o_drown, .int o_wind, .long o_hedges, .long o_fountains, .int o_people, .int o_tellings, .int o_reports, .ref a_g_kinds, .ref a_g_squares, .ref a_g_voices, .ref a_g_tellers, .ref a_g_listeners, .ref a_g_witnesses, .ref a_g_claims])), (a_o_kinds, .inl (cy 1, 5, .inl o_kinds_f)), (a_g_kinds, .inl (cy 1, 5, .inl (va_cpy o_kinds_f g_kinds_f (0 : Int32).toNatClampNeg (0 : Int32).toNatClampNeg (5 : Int32).toNatClampNeg))), (a_o_squares, .inl (cy 1, 5, .inl o_squares_f)), (a_g_squares, .inl (cy 1, 5, .inl g_squares_f)), (a_o_voices, .inl (cy 1, 5, .inl o_voices_f)), (a_g_voices, .inl (cy 1, 5, .inl g_voices_f)), (a_o_tellers, .inl (cy 1, 6, .inl o_tellers_f)), (a_g_tellers, .inl (cy 1, 6, .inl g_tellers_f)), (a_o_listeners, .inl (cy 1, 6, .inl o_listeners_f)), (a_g_listeners, .inl (cy 1, 6, .inl g_listeners_f)), (a_o_witnesses, .inl (cy 1, 8, .inl o_witnesses_f)), (a_g_witnesses, .inl (cy 1, 8, .inl g_witnesses_f)), (a_o_claims, .inl (cy 1, 8, .inl o_claims_f)), (a_g_claims, .inl (cy 1, 8, .inl g_claims_f))] := hD
  obtain ⟨f1, ef1⟩ : ∃ y : Nat → Int32, y = va_cpy o_kinds_f g_kinds_f (0 : Int32).toNatClampNeg (0 : Int32).toNatClampNeg (5 : Int32).toNatClampNeg := ⟨_, rfl⟩
  rw [← ef1] at hP hD
  have hP : va_P D vwCl [(a_o, .inr (3, [.int o_wide, .int o_high, .int o_drown, .int o_wind, .long o_hedges, .long o_fountains, .int o_people, .int o_tellings, .int o_reports, .ref a_o_kinds, .ref a_o_squares, .ref a_o_voices, .ref a_o_tellers, .ref a_o_listeners, .ref a_o_witnesses, .ref a_o_claims])), (a_g, .inr (3, [.int o_wide, .int o_high, .int o_drown, .int o_wind, .long o_hedges, .long o_fountains, .int o_people, .int o_tellings, .int o_reports, .ref a_g_kinds, .ref a_g_squares, .ref a_g_voices, .ref a_g_tellers, .ref a_g_listeners, .ref a_g_witnesses, .ref a_g_claims])), (a_o_kinds, .inl (cy 1, 5, .inl o_kinds_f)), (a_g_kinds, .inl (cy 1, 5, .inl f1)), (a_o_squares, .inl (cy 1, 5, .inl o_squares_f)), (a_g_squares, .inl (cy 1, 5, .inl g_squares_f)), (a_o_voices, .inl (cy 1, 5, .inl o_voices_f)), (a_g_voices, .inl (cy 1, 5, .inl g_voices_f)), (a_o_tellers, .inl (cy 1, 6, .inl o_tellers_f)), (a_g_tellers, .inl (cy 1, 6, .inl g_tellers_f)), (a_o_listeners, .inl (cy 1, 6, .inl o_listeners_f)), (a_g_listeners, .inl (cy 1, 6, .inl g_listeners_f)), (a_o_witnesses, .inl (cy 1, 8, .inl o_witnesses_f)), (a_g_witnesses, .inl (cy 1, 8, .inl g_witnesses_f)), (a_o_claims, .inl (cy 1, 8, .inl o_claims_f)), (a_g_claims, .inl (cy 1, 8, .inl g_claims_f))] H := hP
  have hD : va_D A [(a_o, .inr (3, [.int o_wide, .int o_high, .int o_drown, .int o_wind, .long o_hedges, .long o_fountains, .int o_people, .int o_tellings, .int o_reports, .ref a_o_kinds, .ref a_o_squares, .ref a_o_voices, .ref a_o_tellers, .ref a_o_listeners, .ref a_o_witnesses, .ref a_o_claims])), (a_g, .inr (3, [.int o_wide, .int o_high, .int o_drown, .int o_wind, .long o_hedges, .long o_fountains, .int o_people, .int o_tellings, .int o_reports, .ref a_g_kinds, .ref a_g_squares, .ref a_g_voices, .ref a_g_tellers, .ref a_g_listeners, .ref a_g_witnesses, .ref a_g_claims])), (a_o_kinds, .inl (cy 1, 5, .inl o_kinds_f)), (a_g_kinds, .inl (cy 1, 5, .inl f1)), (a_o_squares, .inl (cy 1, 5, .inl o_squares_f)), (a_g_squares, .inl (cy 1, 5, .inl g_squares_f)), (a_o_voices, .inl (cy 1, 5, .inl o_voices_f)), (a_g_voices, .inl (cy 1, 5, .inl g_voices_f)), (a_o_tellers, .inl (cy 1, 6, .inl o_tellers_f)), (a_g_tellers, .inl (cy 1, 6, .inl g_tellers_f)), (a_o_listeners, .inl (cy 1, 6, .inl o_listeners_f)), (a_g_listeners, .inl (cy 1, 6, .inl g_listeners_f)), (a_o_witnesses, .inl (cy 1, 8, .inl o_witnesses_f)), (a_g_witnesses, .inl (cy 1, 8, .inl g_witnesses_f)), (a_o_claims, .inl (cy 1, 8, .inl o_claims_f)), (a_g_claims, .inl (cy 1, 8, .inl g_claims_f))] := hD
  refine lv_aload_n hx hb dX3_copyFrom_86 rfl (lv_at hl 1 rfl) ?_
  refine va_get (D := D) (ci := 3) (v := .ref a_o_squares) (C := RX3) (T := TX3) (N := 16) hx hb hts zi3_ hown hK hP 0 rfl rfl 10 (by decide) z15_ (fun _ h9 => h9) rfl dX3_copyFrom_87 ?_
  refine lv_iconst (v := 0) hx hb dX3_copyFrom_90 (by decide) ?_
  refine lv_aload_n hx hb dX3_copyFrom_91 rfl (lv_at hl 0 rfl) ?_
  refine va_get (D := D) (ci := 3) (v := .ref a_g_squares) (C := RX3) (T := TX3) (N := 16) hx hb hts zi3_ hown hK hP 1 rfl rfl 10 (by decide) z15_ (fun _ h9 => h9) rfl dX3_copyFrom_92 ?_
  refine lv_iconst (v := 0) hx hb dX3_copyFrom_95 (by decide) ?_
  refine lv_iconst (v := 5) hx hb dX3_copyFrom_96 (by decide) ?_
  refine va_copyi hx hb (by rw [hml]; exact hl.1.symm) hown z11_ z12_ z13_ z14_ hK hP hD hS 4 5 1 1 rfl rfl rfl rfl rfl (by decide) (by decide) (by decide) (by decide +kernel) (by decide +kernel) (fun _ _ => rfl) (Nat.le_of_ble_eq_true rfl) (Nat.le_of_ble_eq_true (by decide +kernel)) dX3_copyFrom_97 (fun H locs hP hD hS => ?_)
  have hP : va_P D vwCl [(a_o, .inr (3, [.int o_wide, .int o_high, .int o_drown, .int o_wind, .long o_hedges, .long o_fountains, .int o_people, .int o_tellings, .int o_reports, .ref a_o_kinds, .ref a_o_squares, .ref a_o_voices, .ref a_o_tellers, .ref a_o_listeners, .ref a_o_witnesses, .ref a_o_claims])), (a_g, .inr (3, [.int o_wide, .int o_high, .int o_drown, .int o_wind, .long o_hedges, .long o_fountains, .int o_people, .int o_tellings, .int o_reports, .ref a_g_kinds, .ref a_g_squares, .ref a_g_voices, .ref a_g_tellers, .ref a_g_listeners, .ref a_g_witnesses, .ref a_g_claims])), (a_o_kinds, .inl (cy 1, 5, .inl o_kinds_f)), (a_g_kinds, .inl (cy 1, 5, .inl f1)), (a_o_squares, .inl (cy 1, 5, .inl o_squares_f)), (a_g_squares, .inl (cy 1, 5, .inl (va_cpy o_squares_f g_squares_f (0 : Int32).toNatClampNeg (0 : Int32).toNatClampNeg (5 : Int32).toNatClampNeg))), (a_o_voices, .inl (cy 1, 5, .inl o_voices_f)), (a_g_voices, .inl (cy 1, 5, .inl g_voices_f)), (a_o_tellers, .inl (cy 1, 6, .inl o_tellers_f)), (a_g_tellers, .inl (cy 1, 6, .inl g_tellers_f)), (a_o_listeners, .inl (cy 1, 6, .inl o_listeners_f)), (a_g_listeners, .inl (cy 1, 6, .inl g_listeners_f)), (a_o_witnesses, .inl (cy 1, 8, .inl o_witnesses_f)), (a_g_witnesses, .inl (cy 1, 8, .inl g_witnesses_f)), (a_o_claims, .inl (cy 1, 8, .inl o_claims_f)), (a_g_claims, .inl (cy 1, 8, .inl g_claims_f))] H := hP
  have hD : va_D A [(a_o, .inr (3, [.int o_wide, .int o_high, .int o_drown, .int o_wind, .long o_hedges, .long o_fountains, .int o_people, .int o_tellings, .int o_reports, .ref a_o_kinds, .ref a_o_squares, .ref a_o_voices, .ref a_o_tellers, .ref a_o_listeners, .ref a_o_witnesses, .ref a_o_claims])), (a_g, .inr (3, [.int o_wide, .int o_high, .int o_drown, .int o_wind, .long o_hedges, .long o_fountains, .int o_people, .int o_tellings, .int o_reports, .ref a_g_kinds, .ref a_g_squares, .ref a_g_voices, .ref a_g_tellers, .ref a_g_listeners, .ref a_g_witnesses, .ref a_g_claims])), (a_o_kinds, .inl (cy 1, 5, .inl o_kinds_f)), (a_g_kinds, .inl (cy 1, 5, .inl f1)), (a_o_squares, .inl (cy 1, 5, .inl o_squares_f)), (a_g_squares, .inl (cy 1, 5, .inl (va_cpy o_squares_f g_squares_f (0 : Int32).toNatClampNeg (0 : Int32).toNatClampNeg (5 : Int32).toNatClampNeg))), (a_o_voices, .inl (cy 1, 5, .inl o_voices_f)), (a_g_voices, .inl (cy 1, 5, .inl g_voices_f)), (a_o_tellers, .inl (cy 1, 6, .inl o_tellers_f)), (a_g_tellers, .inl (cy 1, 6, .inl g_tellers_f)), (a_o_listeners, .inl (cy 1, 6, .inl o_listeners_f)), (a_g_listeners, .inl (cy 1, 6, .inl g_listeners_f)), (a_o_witnesses, .inl (cy 1, 8, .inl o_witnesses_f)), (a_g_witnesses, .inl (cy 1, 8, .inl g_witnesses_f)), (a_o_claims, .inl (cy 1, 8, .inl o_claims_f)), (a_g_claims, .inl (cy 1, 8, .inl g_claims_f))] := hD
  obtain ⟨f2, ef2⟩ : ∃ y : Nat → Int32, y = va_cpy o_squares_f g_squares_f (0 : Int32).toNatClampNeg (0 : Int32).toNatClampNeg (5 : Int32).toNatClampNeg := ⟨_, rfl⟩
  rw [← ef2] at hP hD
  have hP : va_P D vwCl [(a_o, .inr (3, [.int o_wide, .int o_high, .int o_drown, .int o_wind, .long o_hedges, .long o_fountains, .int o_people, .int o_tellings, .int o_reports, .ref a_o_kinds, .ref a_o_squares, .ref a_o_voices, .ref a_o_tellers, .ref a_o_listeners, .ref a_o_witnesses, .ref a_o_claims])), (a_g, .inr (3, [.int o_wide, .int o_high, .int o_drown, .int o_wind, .long o_hedges, .long o_fountains, .int o_people, .int o_tellings, .int o_reports, .ref a_g_kinds, .ref a_g_squares, .ref a_g_voices, .ref a_g_tellers, .ref a_g_listeners, .ref a_g_witnesses, .ref a_g_claims])), (a_o_kinds, .inl (cy 1, 5, .inl o_kinds_f)), (a_g_kinds, .inl (cy 1, 5, .inl f1)), (a_o_squares, .inl (cy 1, 5, .inl o_squares_f)), (a_g_squares, .inl (cy 1, 5, .inl f2)), (a_o_voices, .inl (cy 1, 5, .inl o_voices_f)), (a_g_voices, .inl (cy 1, 5, .inl g_voices_f)), (a_o_tellers, .inl (cy 1, 6, .inl o_tellers_f)), (a_g_tellers, .inl (cy 1, 6, .inl g_tellers_f)), (a_o_listeners, .inl (cy 1, 6, .inl o_listeners_f)), (a_g_listeners, .inl (cy 1, 6, .inl g_listeners_f)), (a_o_witnesses, .inl (cy 1, 8, .inl o_witnesses_f)), (a_g_witnesses, .inl (cy 1, 8, .inl g_witnesses_f)), (a_o_claims, .inl (cy 1, 8, .inl o_claims_f)), (a_g_claims, .inl (cy 1, 8, .inl g_claims_f))] H := hP
  have hD : va_D A [(a_o, .inr (3, [.int o_wide, .int o_high, .int o_drown, .int o_wind, .long o_hedges, .long o_fountains, .int o_people, .int o_tellings, .int o_reports, .ref a_o_kinds, .ref a_o_squares, .ref a_o_voices, .ref a_o_tellers, .ref a_o_listeners, .ref a_o_witnesses, .ref a_o_claims])), (a_g, .inr (3, [.int o_wide, .int o_high, .int o_drown, .int o_wind, .long o_hedges, .long o_fountains, .int o_people, .int o_tellings, .int o_reports, .ref a_g_kinds, .ref a_g_squares, .ref a_g_voices, .ref a_g_tellers, .ref a_g_listeners, .ref a_g_witnesses, .ref a_g_claims])), (a_o_kinds, .inl (cy 1, 5, .inl o_kinds_f)), (a_g_kinds, .inl (cy 1, 5, .inl f1)), (a_o_squares, .inl (cy 1, 5, .inl o_squares_f)), (a_g_squares, .inl (cy 1, 5, .inl f2)), (a_o_voices, .inl (cy 1, 5, .inl o_voices_f)), (a_g_voices, .inl (cy 1, 5, .inl g_voices_f)), (a_o_tellers, .inl (cy 1, 6, .inl o_tellers_f)), (a_g_tellers, .inl (cy 1, 6, .inl g_tellers_f)), (a_o_listeners, .inl (cy 1, 6, .inl o_listeners_f)), (a_g_listeners, .inl (cy 1, 6, .inl g_listeners_f)), (a_o_witnesses, .inl (cy 1, 8, .inl o_witnesses_f)), (a_g_witnesses, .inl (cy 1, 8, .inl g_witnesses_f)), (a_o_claims, .inl (cy 1, 8, .inl o_claims_f)), (a_g_claims, .inl (cy 1, 8, .inl g_claims_f))] := hD
  refine lv_aload_n hx hb dX3_copyFrom_100 rfl (lv_at hl 1 rfl) ?_
  refine va_get (D := D) (ci := 3) (v := .ref a_o_voices) (C := RX3) (T := TX3) (N := 16) hx hb hts zi3_ hown hK hP 0 rfl rfl 11 (by decide) z16_ (fun _ h9 => h9) rfl dX3_copyFrom_101 ?_
  refine lv_iconst (v := 0) hx hb dX3_copyFrom_104 (by decide) ?_
  refine lv_aload_n hx hb dX3_copyFrom_105 rfl (lv_at hl 0 rfl) ?_
  refine va_get (D := D) (ci := 3) (v := .ref a_g_voices) (C := RX3) (T := TX3) (N := 16) hx hb hts zi3_ hown hK hP 1 rfl rfl 11 (by decide) z16_ (fun _ h9 => h9) rfl dX3_copyFrom_106 ?_
  refine lv_iconst (v := 0) hx hb dX3_copyFrom_109 (by decide) ?_
  refine lv_iconst (v := 5) hx hb dX3_copyFrom_110 (by decide) ?_
  refine va_copyi hx hb (by rw [hml]; exact hl.1.symm) hown z11_ z12_ z13_ z14_ hK hP hD hS 6 7 1 1 rfl rfl rfl rfl rfl (by decide) (by decide) (by decide) (by decide +kernel) (by decide +kernel) (fun _ _ => rfl) (Nat.le_of_ble_eq_true rfl) (Nat.le_of_ble_eq_true (by decide +kernel)) dX3_copyFrom_111 (fun H locs hP hD hS => ?_)
  have hP : va_P D vwCl [(a_o, .inr (3, [.int o_wide, .int o_high, .int o_drown, .int o_wind, .long o_hedges, .long o_fountains, .int o_people, .int o_tellings, .int o_reports, .ref a_o_kinds, .ref a_o_squares, .ref a_o_voices, .ref a_o_tellers, .ref a_o_listeners, .ref a_o_witnesses, .ref a_o_claims])), (a_g, .inr (3, [.int o_wide, .int o_high, .int o_drown, .int o_wind, .long o_hedges, .long o_fountains, .int o_people, .int o_tellings, .int o_reports, .ref a_g_kinds, .ref a_g_squares, .ref a_g_voices, .ref a_g_tellers, .ref a_g_listeners, .ref a_g_witnesses, .ref a_g_claims])), (a_o_kinds, .inl (cy 1, 5, .inl o_kinds_f)), (a_g_kinds, .inl (cy 1, 5, .inl f1)), (a_o_squares, .inl (cy 1, 5, .inl o_squares_f)), (a_g_squares, .inl (cy 1, 5, .inl f2)), (a_o_voices, .inl (cy 1, 5, .inl o_voices_f)), (a_g_voices, .inl (cy 1, 5, .inl (va_cpy o_voices_f g_voices_f (0 : Int32).toNatClampNeg (0 : Int32).toNatClampNeg (5 : Int32).toNatClampNeg))), (a_o_tellers, .inl (cy 1, 6, .inl o_tellers_f)), (a_g_tellers, .inl (cy 1, 6, .inl g_tellers_f)), (a_o_listeners, .inl (cy 1, 6, .inl o_listeners_f)), (a_g_listeners, .inl (cy 1, 6, .inl g_listeners_f)), (a_o_witnesses, .inl (cy 1, 8, .inl o_witnesses_f)), (a_g_witnesses, .inl (cy 1, 8, .inl g_witnesses_f)), (a_o_claims, .inl (cy 1, 8, .inl o_claims_f)), (a_g_claims, .inl (cy 1, 8, .inl g_claims_f))] H := hP
  have hD : va_D A [(a_o, .inr (3, [.int o_wide, .int o_high, .int o_drown, .int o_wind, .long o_hedges, .long o_fountains, .int o_people, .int o_tellings, .int o_reports, .ref a_o_kinds, .ref a_o_squares, .ref a_o_voices, .ref a_o_tellers, .ref a_o_listeners, .ref a_o_witnesses, .ref a_o_claims])), (a_g, .inr (3, [.int o_wide, .int o_high, .int o_drown, .int o_wind, .long o_hedges, .long o_fountains, .int o_people, .int o_tellings, .int o_reports, .ref a_g_kinds, .ref a_g_squares, .ref a_g_voices, .ref a_g_tellers, .ref a_g_listeners, .ref a_g_witnesses, .ref a_g_claims])), (a_o_kinds, .inl (cy 1, 5, .inl o_kinds_f)), (a_g_kinds, .inl (cy 1, 5, .inl f1)), (a_o_squares, .inl (cy 1, 5, .inl o_squares_f)), (a_g_squares, .inl (cy 1, 5, .inl f2)), (a_o_voices, .inl (cy 1, 5, .inl o_voices_f)), (a_g_voices, .inl (cy 1, 5, .inl (va_cpy o_voices_f g_voices_f (0 : Int32).toNatClampNeg (0 : Int32).toNatClampNeg (5 : Int32).toNatClampNeg))), (a_o_tellers, .inl (cy 1, 6, .inl o_tellers_f)), (a_g_tellers, .inl (cy 1, 6, .inl g_tellers_f)), (a_o_listeners, .inl (cy 1, 6, .inl o_listeners_f)), (a_g_listeners, .inl (cy 1, 6, .inl g_listeners_f)), (a_o_witnesses, .inl (cy 1, 8, .inl o_witnesses_f)), (a_g_witnesses, .inl (cy 1, 8, .inl g_witnesses_f)), (a_o_claims, .inl (cy 1, 8, .inl o_claims_f)), (a_g_claims, .inl (cy 1, 8, .inl g_claims_f))] := hD
  obtain ⟨f3, ef3⟩ : ∃ y : Nat → Int32, y = va_cpy o_voices_f g_voices_f (0 : Int32).toNatClampNeg (0 : Int32).toNatClampNeg (5 : Int32).toNatClampNeg := ⟨_, rfl⟩
  rw [← ef3] at hP hD
  have hP : va_P D vwCl [(a_o, .inr (3, [.int o_wide, .int o_high, .int o_drown, .int o_wind, .long o_hedges, .long o_fountains, .int o_people, .int o_tellings, .int o_reports, .ref a_o_kinds, .ref a_o_squares, .ref a_o_voices, .ref a_o_tellers, .ref a_o_listeners, .ref a_o_witnesses, .ref a_o_claims])), (a_g, .inr (3, [.int o_wide, .int o_high, .int o_drown, .int o_wind, .long o_hedges, .long o_fountains, .int o_people, .int o_tellings, .int o_reports, .ref a_g_kinds, .ref a_g_squares, .ref a_g_voices, .ref a_g_tellers, .ref a_g_listeners, .ref a_g_witnesses, .ref a_g_claims])), (a_o_kinds, .inl (cy 1, 5, .inl o_kinds_f)), (a_g_kinds, .inl (cy 1, 5, .inl f1)), (a_o_squares, .inl (cy 1, 5, .inl o_squares_f)), (a_g_squares, .inl (cy 1, 5, .inl f2)), (a_o_voices, .inl (cy 1, 5, .inl o_voices_f)), (a_g_voices, .inl (cy 1, 5, .inl f3)), (a_o_tellers, .inl (cy 1, 6, .inl o_tellers_f)), (a_g_tellers, .inl (cy 1, 6, .inl g_tellers_f)), (a_o_listeners, .inl (cy 1, 6, .inl o_listeners_f)), (a_g_listeners, .inl (cy 1, 6, .inl g_listeners_f)), (a_o_witnesses, .inl (cy 1, 8, .inl o_witnesses_f)), (a_g_witnesses, .inl (cy 1, 8, .inl g_witnesses_f)), (a_o_claims, .inl (cy 1, 8, .inl o_claims_f)), (a_g_claims, .inl (cy 1, 8, .inl g_claims_f))] H := hP
  have hD : va_D A [(a_o, .inr (3, [.int o_wide, .int o_high, .int o_drown, .int o_wind, .long o_hedges, .long o_fountains, .int o_people, .int o_tellings, .int o_reports, .ref a_o_kinds, .ref a_o_squares, .ref a_o_voices, .ref a_o_tellers, .ref a_o_listeners, .ref a_o_witnesses, .ref a_o_claims])), (a_g, .inr (3, [.int o_wide, .int o_high, .int o_drown, .int o_wind, .long o_hedges, .long o_fountains, .int o_people, .int o_tellings, .int o_reports, .ref a_g_kinds, .ref a_g_squares, .ref a_g_voices, .ref a_g_tellers, .ref a_g_listeners, .ref a_g_witnesses, .ref a_g_claims])), (a_o_kinds, .inl (cy 1, 5, .inl o_kinds_f)), (a_g_kinds, .inl (cy 1, 5, .inl f1)), (a_o_squares, .inl (cy 1, 5, .inl o_squares_f)), (a_g_squares, .inl (cy 1, 5, .inl f2)), (a_o_voices, .inl (cy 1, 5, .inl o_voices_f)), (a_g_voices, .inl (cy 1, 5, .inl f3)), (a_o_tellers, .inl (cy 1, 6, .inl o_tellers_f)), (a_g_tellers, .inl (cy 1, 6, .inl g_tellers_f)), (a_o_listeners, .inl (cy 1, 6, .inl o_listeners_f)), (a_g_listeners, .inl (cy 1, 6, .inl g_listeners_f)), (a_o_witnesses, .inl (cy 1, 8, .inl o_witnesses_f)), (a_g_witnesses, .inl (cy 1, 8, .inl g_witnesses_f)), (a_o_claims, .inl (cy 1, 8, .inl o_claims_f)), (a_g_claims, .inl (cy 1, 8, .inl g_claims_f))] := hD
  refine lv_aload_n hx hb dX3_copyFrom_114 rfl (lv_at hl 1 rfl) ?_
  refine va_get (D := D) (ci := 3) (v := .ref a_o_tellers) (C := RX3) (T := TX3) (N := 16) hx hb hts zi3_ hown hK hP 0 rfl rfl 12 (by decide) z17_ (fun _ h9 => h9) rfl dX3_copyFrom_115 ?_
  refine lv_iconst (v := 0) hx hb dX3_copyFrom_118 (by decide) ?_
  refine lv_aload_n hx hb dX3_copyFrom_119 rfl (lv_at hl 0 rfl) ?_
  refine va_get (D := D) (ci := 3) (v := .ref a_g_tellers) (C := RX3) (T := TX3) (N := 16) hx hb hts zi3_ hown hK hP 1 rfl rfl 12 (by decide) z17_ (fun _ h9 => h9) rfl dX3_copyFrom_120 ?_
  refine lv_iconst (v := 0) hx hb dX3_copyFrom_123 (by decide) ?_
  refine lv_bipush (v := 6) hx hb dX3_copyFrom_124 (by decide) ?_
  refine va_copyi hx hb (by rw [hml]; exact hl.1.symm) hown z11_ z12_ z13_ z14_ hK hP hD hS 8 9 1 1 rfl rfl rfl rfl rfl (by decide) (by decide) (by decide) (by decide +kernel) (by decide +kernel) (fun _ _ => rfl) (Nat.le_of_ble_eq_true rfl) (Nat.le_of_ble_eq_true (by decide +kernel)) dX3_copyFrom_126 (fun H locs hP hD hS => ?_)
  have hP : va_P D vwCl [(a_o, .inr (3, [.int o_wide, .int o_high, .int o_drown, .int o_wind, .long o_hedges, .long o_fountains, .int o_people, .int o_tellings, .int o_reports, .ref a_o_kinds, .ref a_o_squares, .ref a_o_voices, .ref a_o_tellers, .ref a_o_listeners, .ref a_o_witnesses, .ref a_o_claims])), (a_g, .inr (3, [.int o_wide, .int o_high, .int o_drown, .int o_wind, .long o_hedges, .long o_fountains, .int o_people, .int o_tellings, .int o_reports, .ref a_g_kinds, .ref a_g_squares, .ref a_g_voices, .ref a_g_tellers, .ref a_g_listeners, .ref a_g_witnesses, .ref a_g_claims])), (a_o_kinds, .inl (cy 1, 5, .inl o_kinds_f)), (a_g_kinds, .inl (cy 1, 5, .inl f1)), (a_o_squares, .inl (cy 1, 5, .inl o_squares_f)), (a_g_squares, .inl (cy 1, 5, .inl f2)), (a_o_voices, .inl (cy 1, 5, .inl o_voices_f)), (a_g_voices, .inl (cy 1, 5, .inl f3)), (a_o_tellers, .inl (cy 1, 6, .inl o_tellers_f)), (a_g_tellers, .inl (cy 1, 6, .inl (va_cpy o_tellers_f g_tellers_f (0 : Int32).toNatClampNeg (0 : Int32).toNatClampNeg (6 : Int32).toNatClampNeg))), (a_o_listeners, .inl (cy 1, 6, .inl o_listeners_f)), (a_g_listeners, .inl (cy 1, 6, .inl g_listeners_f)), (a_o_witnesses, .inl (cy 1, 8, .inl o_witnesses_f)), (a_g_witnesses, .inl (cy 1, 8, .inl g_witnesses_f)), (a_o_claims, .inl (cy 1, 8, .inl o_claims_f)), (a_g_claims, .inl (cy 1, 8, .inl g_claims_f))] H := hP
  have hD : va_D A [(a_o, .inr (3, [.int o_wide, .int o_high, .int o_drown, .int o_wind, .long o_hedges, .long o_fountains, .int o_people, .int o_tellings, .int o_reports, .ref a_o_kinds, .ref a_o_squares, .ref a_o_voices, .ref a_o_tellers, .ref a_o_listeners, .ref a_o_witnesses, .ref a_o_claims])), (a_g, .inr (3, [.int o_wide, .int o_high, .int o_drown, .int o_wind, .long o_hedges, .long o_fountains, .int o_people, .int o_tellings, .int o_reports, .ref a_g_kinds, .ref a_g_squares, .ref a_g_voices, .ref a_g_tellers, .ref a_g_listeners, .ref a_g_witnesses, .ref a_g_claims])), (a_o_kinds, .inl (cy 1, 5, .inl o_kinds_f)), (a_g_kinds, .inl (cy 1, 5, .inl f1)), (a_o_squares, .inl (cy 1, 5, .inl o_squares_f)), (a_g_squares, .inl (cy 1, 5, .inl f2)), (a_o_voices, .inl (cy 1, 5, .inl o_voices_f)), (a_g_voices, .inl (cy 1, 5, .inl f3)), (a_o_tellers, .inl (cy 1, 6, .inl o_tellers_f)), (a_g_tellers, .inl (cy 1, 6, .inl (va_cpy o_tellers_f g_tellers_f (0 : Int32).toNatClampNeg (0 : Int32).toNatClampNeg (6 : Int32).toNatClampNeg))), (a_o_listeners, .inl (cy 1, 6, .inl o_listeners_f)), (a_g_listeners, .inl (cy 1, 6, .inl g_listeners_f)), (a_o_witnesses, .inl (cy 1, 8, .inl o_witnesses_f)), (a_g_witnesses, .inl (cy 1, 8, .inl g_witnesses_f)), (a_o_claims, .inl (cy 1, 8, .inl o_claims_f)), (a_g_claims, .inl (cy 1, 8, .inl g_claims_f))] := hD
  obtain ⟨f4, ef4⟩ : ∃ y : Nat → Int32, y = va_cpy o_tellers_f g_tellers_f (0 : Int32).toNatClampNeg (0 : Int32).toNatClampNeg (6 : Int32).toNatClampNeg := ⟨_, rfl⟩
  rw [← ef4] at hP hD
  have hP : va_P D vwCl [(a_o, .inr (3, [.int o_wide, .int o_high, .int o_drown, .int o_wind, .long o_hedges, .long o_fountains, .int o_people, .int o_tellings, .int o_reports, .ref a_o_kinds, .ref a_o_squares, .ref a_o_voices, .ref a_o_tellers, .ref a_o_listeners, .ref a_o_witnesses, .ref a_o_claims])), (a_g, .inr (3, [.int o_wide, .int o_high, .int o_drown, .int o_wind, .long o_hedges, .long o_fountains, .int o_people, .int o_tellings, .int o_reports, .ref a_g_kinds, .ref a_g_squares, .ref a_g_voices, .ref a_g_tellers, .ref a_g_listeners, .ref a_g_witnesses, .ref a_g_claims])), (a_o_kinds, .inl (cy 1, 5, .inl o_kinds_f)), (a_g_kinds, .inl (cy 1, 5, .inl f1)), (a_o_squares, .inl (cy 1, 5, .inl o_squares_f)), (a_g_squares, .inl (cy 1, 5, .inl f2)), (a_o_voices, .inl (cy 1, 5, .inl o_voices_f)), (a_g_voices, .inl (cy 1, 5, .inl f3)), (a_o_tellers, .inl (cy 1, 6, .inl o_tellers_f)), (a_g_tellers, .inl (cy 1, 6, .inl f4)), (a_o_listeners, .inl (cy 1, 6, .inl o_listeners_f)), (a_g_listeners, .inl (cy 1, 6, .inl g_listeners_f)), (a_o_witnesses, .inl (cy 1, 8, .inl o_witnesses_f)), (a_g_witnesses, .inl (cy 1, 8, .inl g_witnesses_f)), (a_o_claims, .inl (cy 1, 8, .inl o_claims_f)), (a_g_claims, .inl (cy 1, 8, .inl g_claims_f))] H := hP
  have hD : va_D A [(a_o, .inr (3, [.int o_wide, .int o_high, .int o_drown, .int o_wind, .long o_hedges, .long o_fountains, .int o_people, .int o_tellings, .int o_reports, .ref a_o_kinds, .ref a_o_squares, .ref a_o_voices, .ref a_o_tellers, .ref a_o_listeners, .ref a_o_witnesses, .ref a_o_claims])), (a_g, .inr (3, [.int o_wide, .int o_high, .int o_drown, .int o_wind, .long o_hedges, .long o_fountains, .int o_people, .int o_tellings, .int o_reports, .ref a_g_kinds, .ref a_g_squares, .ref a_g_voices, .ref a_g_tellers, .ref a_g_listeners, .ref a_g_witnesses, .ref a_g_claims])), (a_o_kinds, .inl (cy 1, 5, .inl o_kinds_f)), (a_g_kinds, .inl (cy 1, 5, .inl f1)), (a_o_squares, .inl (cy 1, 5, .inl o_squares_f)), (a_g_squares, .inl (cy 1, 5, .inl f2)), (a_o_voices, .inl (cy 1, 5, .inl o_voices_f)), (a_g_voices, .inl (cy 1, 5, .inl f3)), (a_o_tellers, .inl (cy 1, 6, .inl o_tellers_f)), (a_g_tellers, .inl (cy 1, 6, .inl f4)), (a_o_listeners, .inl (cy 1, 6, .inl o_listeners_f)), (a_g_listeners, .inl (cy 1, 6, .inl g_listeners_f)), (a_o_witnesses, .inl (cy 1, 8, .inl o_witnesses_f)), (a_g_witnesses, .inl (cy 1, 8, .inl g_witnesses_f)), (a_o_claims, .inl (cy 1, 8, .inl o_claims_f)), (a_g_claims, .inl (cy 1, 8, .inl g_claims_f))] := hD
  refine lv_aload_n hx hb dX3_copyFrom_129 rfl (lv_at hl 1 rfl) ?_
  refine va_get (D := D) (ci := 3) (v := .ref a_o_listeners) (C := RX3) (T := TX3) (N := 16) hx hb hts zi3_ hown hK hP 0 rfl rfl 13 (by decide) z18_ (fun _ h9 => h9) rfl dX3_copyFrom_130 ?_
  refine lv_iconst (v := 0) hx hb dX3_copyFrom_133 (by decide) ?_
  refine lv_aload_n hx hb dX3_copyFrom_134 rfl (lv_at hl 0 rfl) ?_
  refine va_get (D := D) (ci := 3) (v := .ref a_g_listeners) (C := RX3) (T := TX3) (N := 16) hx hb hts zi3_ hown hK hP 1 rfl rfl 13 (by decide) z18_ (fun _ h9 => h9) rfl dX3_copyFrom_135 ?_
  refine lv_iconst (v := 0) hx hb dX3_copyFrom_138 (by decide) ?_
  refine lv_bipush (v := 6) hx hb dX3_copyFrom_139 (by decide) ?_
  refine va_copyi hx hb (by rw [hml]; exact hl.1.symm) hown z11_ z12_ z13_ z14_ hK hP hD hS 10 11 1 1 rfl rfl rfl rfl rfl (by decide) (by decide) (by decide) (by decide +kernel) (by decide +kernel) (fun _ _ => rfl) (Nat.le_of_ble_eq_true rfl) (Nat.le_of_ble_eq_true (by decide +kernel)) dX3_copyFrom_141 (fun H locs hP hD hS => ?_)
  have hP : va_P D vwCl [(a_o, .inr (3, [.int o_wide, .int o_high, .int o_drown, .int o_wind, .long o_hedges, .long o_fountains, .int o_people, .int o_tellings, .int o_reports, .ref a_o_kinds, .ref a_o_squares, .ref a_o_voices, .ref a_o_tellers, .ref a_o_listeners, .ref a_o_witnesses, .ref a_o_claims])), (a_g, .inr (3, [.int o_wide, .int o_high, .int o_drown, .int o_wind, .long o_hedges, .long o_fountains, .int o_people, .int o_tellings, .int o_reports, .ref a_g_kinds, .ref a_g_squares, .ref a_g_voices, .ref a_g_tellers, .ref a_g_listeners, .ref a_g_witnesses, .ref a_g_claims])), (a_o_kinds, .inl (cy 1, 5, .inl o_kinds_f)), (a_g_kinds, .inl (cy 1, 5, .inl f1)), (a_o_squares, .inl (cy 1, 5, .inl o_squares_f)), (a_g_squares, .inl (cy 1, 5, .inl f2)), (a_o_voices, .inl (cy 1, 5, .inl o_voices_f)), (a_g_voices, .inl (cy 1, 5, .inl f3)), (a_o_tellers, .inl (cy 1, 6, .inl o_tellers_f)), (a_g_tellers, .inl (cy 1, 6, .inl f4)), (a_o_listeners, .inl (cy 1, 6, .inl o_listeners_f)), (a_g_listeners, .inl (cy 1, 6, .inl (va_cpy o_listeners_f g_listeners_f (0 : Int32).toNatClampNeg (0 : Int32).toNatClampNeg (6 : Int32).toNatClampNeg))), (a_o_witnesses, .inl (cy 1, 8, .inl o_witnesses_f)), (a_g_witnesses, .inl (cy 1, 8, .inl g_witnesses_f)), (a_o_claims, .inl (cy 1, 8, .inl o_claims_f)), (a_g_claims, .inl (cy 1, 8, .inl g_claims_f))] H := hP
  have hD : va_D A [(a_o, .inr (3, [.int o_wide, .int o_high, .int o_drown, .int o_wind, .long o_hedges, .long o_fountains, .int o_people, .int o_tellings, .int o_reports, .ref a_o_kinds, .ref a_o_squares, .ref a_o_voices, .ref a_o_tellers, .ref a_o_listeners, .ref a_o_witnesses, .ref a_o_claims])), (a_g, .inr (3, [.int o_wide, .int o_high, .int o_drown, .int o_wind, .long o_hedges, .long o_fountains, .int o_people, .int o_tellings, .int o_reports, .ref a_g_kinds, .ref a_g_squares, .ref a_g_voices, .ref a_g_tellers, .ref a_g_listeners, .ref a_g_witnesses, .ref a_g_claims])), (a_o_kinds, .inl (cy 1, 5, .inl o_kinds_f)), (a_g_kinds, .inl (cy 1, 5, .inl f1)), (a_o_squares, .inl (cy 1, 5, .inl o_squares_f)), (a_g_squares, .inl (cy 1, 5, .inl f2)), (a_o_voices, .inl (cy 1, 5, .inl o_voices_f)), (a_g_voices, .inl (cy 1, 5, .inl f3)), (a_o_tellers, .inl (cy 1, 6, .inl o_tellers_f)), (a_g_tellers, .inl (cy 1, 6, .inl f4)), (a_o_listeners, .inl (cy 1, 6, .inl o_listeners_f)), (a_g_listeners, .inl (cy 1, 6, .inl (va_cpy o_listeners_f g_listeners_f (0 : Int32).toNatClampNeg (0 : Int32).toNatClampNeg (6 : Int32).toNatClampNeg))), (a_o_witnesses, .inl (cy 1, 8, .inl o_witnesses_f)), (a_g_witnesses, .inl (cy 1, 8, .inl g_witnesses_f)), (a_o_claims, .inl (cy 1, 8, .inl o_claims_f)), (a_g_claims, .inl (cy 1, 8, .inl g_claims_f))] := hD
  obtain ⟨f5, ef5⟩ : ∃ y : Nat → Int32, y = va_cpy o_listeners_f g_listeners_f (0 : Int32).toNatClampNeg (0 : Int32).toNatClampNeg (6 : Int32).toNatClampNeg := ⟨_, rfl⟩
  rw [← ef5] at hP hD
  have hP : va_P D vwCl [(a_o, .inr (3, [.int o_wide, .int o_high, .int o_drown, .int o_wind, .long o_hedges, .long o_fountains, .int o_people, .int o_tellings, .int o_reports, .ref a_o_kinds, .ref a_o_squares, .ref a_o_voices, .ref a_o_tellers, .ref a_o_listeners, .ref a_o_witnesses, .ref a_o_claims])), (a_g, .inr (3, [.int o_wide, .int o_high, .int o_drown, .int o_wind, .long o_hedges, .long o_fountains, .int o_people, .int o_tellings, .int o_reports, .ref a_g_kinds, .ref a_g_squares, .ref a_g_voices, .ref a_g_tellers, .ref a_g_listeners, .ref a_g_witnesses, .ref a_g_claims])), (a_o_kinds, .inl (cy 1, 5, .inl o_kinds_f)), (a_g_kinds, .inl (cy 1, 5, .inl f1)), (a_o_squares, .inl (cy 1, 5, .inl o_squares_f)), (a_g_squares, .inl (cy 1, 5, .inl f2)), (a_o_voices, .inl (cy 1, 5, .inl o_voices_f)), (a_g_voices, .inl (cy 1, 5, .inl f3)), (a_o_tellers, .inl (cy 1, 6, .inl o_tellers_f)), (a_g_tellers, .inl (cy 1, 6, .inl f4)), (a_o_listeners, .inl (cy 1, 6, .inl o_listeners_f)), (a_g_listeners, .inl (cy 1, 6, .inl f5)), (a_o_witnesses, .inl (cy 1, 8, .inl o_witnesses_f)), (a_g_witnesses, .inl (cy 1, 8, .inl g_witnesses_f)), (a_o_claims, .inl (cy 1, 8, .inl o_claims_f)), (a_g_claims, .inl (cy 1, 8, .inl g_claims_f))] H := hP
  have hD : va_D A [(a_o, .inr (3, [.int o_wide, .int o_high, .int o_drown, .int o_wind, .long o_hedges, .long o_fountains, .int o_people, .int o_tellings, .int o_reports, .ref a_o_kinds, .ref a_o_squares, .ref a_o_voices, .ref a_o_tellers, .ref a_o_listeners, .ref a_o_witnesses, .ref a_o_claims])), (a_g, .inr (3, [.int o_wide, .int o_high, .int o_drown, .int o_wind, .long o_hedges, .long o_fountains, .int o_people, .int o_tellings, .int o_reports, .ref a_g_kinds, .ref a_g_squares, .ref a_g_voices, .ref a_g_tellers, .ref a_g_listeners, .ref a_g_witnesses, .ref a_g_claims])), (a_o_kinds, .inl (cy 1, 5, .inl o_kinds_f)), (a_g_kinds, .inl (cy 1, 5, .inl f1)), (a_o_squares, .inl (cy 1, 5, .inl o_squares_f)), (a_g_squares, .inl (cy 1, 5, .inl f2)), (a_o_voices, .inl (cy 1, 5, .inl o_voices_f)), (a_g_voices, .inl (cy 1, 5, .inl f3)), (a_o_tellers, .inl (cy 1, 6, .inl o_tellers_f)), (a_g_tellers, .inl (cy 1, 6, .inl f4)), (a_o_listeners, .inl (cy 1, 6, .inl o_listeners_f)), (a_g_listeners, .inl (cy 1, 6, .inl f5)), (a_o_witnesses, .inl (cy 1, 8, .inl o_witnesses_f)), (a_g_witnesses, .inl (cy 1, 8, .inl g_witnesses_f)), (a_o_claims, .inl (cy 1, 8, .inl o_claims_f)), (a_g_claims, .inl (cy 1, 8, .inl g_claims_f))] := hD
  refine lv_aload_n hx hb dX3_copyFrom_144 rfl (lv_at hl 1 rfl) ?_
  refine va_get (D := D) (ci := 3) (v := .ref a_o_witnesses) (C := RX3) (T := TX3) (N := 16) hx hb hts zi3_ hown hK hP 0 rfl rfl 14 (by decide) z19_ (fun _ h9 => h9) rfl dX3_copyFrom_145 ?_
  refine lv_iconst (v := 0) hx hb dX3_copyFrom_148 (by decide) ?_
  refine lv_aload_n hx hb dX3_copyFrom_149 rfl (lv_at hl 0 rfl) ?_
  refine va_get (D := D) (ci := 3) (v := .ref a_g_witnesses) (C := RX3) (T := TX3) (N := 16) hx hb hts zi3_ hown hK hP 1 rfl rfl 14 (by decide) z19_ (fun _ h9 => h9) rfl dX3_copyFrom_150 ?_
  refine lv_iconst (v := 0) hx hb dX3_copyFrom_153 (by decide) ?_
  refine lv_bipush (v := 8) hx hb dX3_copyFrom_154 (by decide) ?_
  refine va_copyi hx hb (by rw [hml]; exact hl.1.symm) hown z11_ z12_ z13_ z14_ hK hP hD hS 12 13 1 1 rfl rfl rfl rfl rfl (by decide) (by decide) (by decide) (by decide +kernel) (by decide +kernel) (fun _ _ => rfl) (Nat.le_of_ble_eq_true rfl) (Nat.le_of_ble_eq_true (by decide +kernel)) dX3_copyFrom_156 (fun H locs hP hD hS => ?_)
  have hP : va_P D vwCl [(a_o, .inr (3, [.int o_wide, .int o_high, .int o_drown, .int o_wind, .long o_hedges, .long o_fountains, .int o_people, .int o_tellings, .int o_reports, .ref a_o_kinds, .ref a_o_squares, .ref a_o_voices, .ref a_o_tellers, .ref a_o_listeners, .ref a_o_witnesses, .ref a_o_claims])), (a_g, .inr (3, [.int o_wide, .int o_high, .int o_drown, .int o_wind, .long o_hedges, .long o_fountains, .int o_people, .int o_tellings, .int o_reports, .ref a_g_kinds, .ref a_g_squares, .ref a_g_voices, .ref a_g_tellers, .ref a_g_listeners, .ref a_g_witnesses, .ref a_g_claims])), (a_o_kinds, .inl (cy 1, 5, .inl o_kinds_f)), (a_g_kinds, .inl (cy 1, 5, .inl f1)), (a_o_squares, .inl (cy 1, 5, .inl o_squares_f)), (a_g_squares, .inl (cy 1, 5, .inl f2)), (a_o_voices, .inl (cy 1, 5, .inl o_voices_f)), (a_g_voices, .inl (cy 1, 5, .inl f3)), (a_o_tellers, .inl (cy 1, 6, .inl o_tellers_f)), (a_g_tellers, .inl (cy 1, 6, .inl f4)), (a_o_listeners, .inl (cy 1, 6, .inl o_listeners_f)), (a_g_listeners, .inl (cy 1, 6, .inl f5)), (a_o_witnesses, .inl (cy 1, 8, .inl o_witnesses_f)), (a_g_witnesses, .inl (cy 1, 8, .inl (va_cpy o_witnesses_f g_witnesses_f (0 : Int32).toNatClampNeg (0 : Int32).toNatClampNeg (8 : Int32).toNatClampNeg))), (a_o_claims, .inl (cy 1, 8, .inl o_claims_f)), (a_g_claims, .inl (cy 1, 8, .inl g_claims_f))] H := hP
  have hD : va_D A [(a_o, .inr (3, [.int o_wide, .int o_high, .int o_drown, .int o_wind, .long o_hedges, .long o_fountains, .int o_people, .int o_tellings, .int o_reports, .ref a_o_kinds, .ref a_o_squares, .ref a_o_voices, .ref a_o_tellers, .ref a_o_listeners, .ref a_o_witnesses, .ref a_o_claims])), (a_g, .inr (3, [.int o_wide, .int o_high, .int o_drown, .int o_wind, .long o_hedges, .long o_fountains, .int o_people, .int o_tellings, .int o_reports, .ref a_g_kinds, .ref a_g_squares, .ref a_g_voices, .ref a_g_tellers, .ref a_g_listeners, .ref a_g_witnesses, .ref a_g_claims])), (a_o_kinds, .inl (cy 1, 5, .inl o_kinds_f)), (a_g_kinds, .inl (cy 1, 5, .inl f1)), (a_o_squares, .inl (cy 1, 5, .inl o_squares_f)), (a_g_squares, .inl (cy 1, 5, .inl f2)), (a_o_voices, .inl (cy 1, 5, .inl o_voices_f)), (a_g_voices, .inl (cy 1, 5, .inl f3)), (a_o_tellers, .inl (cy 1, 6, .inl o_tellers_f)), (a_g_tellers, .inl (cy 1, 6, .inl f4)), (a_o_listeners, .inl (cy 1, 6, .inl o_listeners_f)), (a_g_listeners, .inl (cy 1, 6, .inl f5)), (a_o_witnesses, .inl (cy 1, 8, .inl o_witnesses_f)), (a_g_witnesses, .inl (cy 1, 8, .inl (va_cpy o_witnesses_f g_witnesses_f (0 : Int32).toNatClampNeg (0 : Int32).toNatClampNeg (8 : Int32).toNatClampNeg))), (a_o_claims, .inl (cy 1, 8, .inl o_claims_f)), (a_g_claims, .inl (cy 1, 8, .inl g_claims_f))] := hD
  obtain ⟨f6, ef6⟩ : ∃ y : Nat → Int32, y = va_cpy o_witnesses_f g_witnesses_f (0 : Int32).toNatClampNeg (0 : Int32).toNatClampNeg (8 : Int32).toNatClampNeg := ⟨_, rfl⟩
  rw [← ef6] at hP hD
  have hP : va_P D vwCl [(a_o, .inr (3, [.int o_wide, .int o_high, .int o_drown, .int o_wind, .long o_hedges, .long o_fountains, .int o_people, .int o_tellings, .int o_reports, .ref a_o_kinds, .ref a_o_squares, .ref a_o_voices, .ref a_o_tellers, .ref a_o_listeners, .ref a_o_witnesses, .ref a_o_claims])), (a_g, .inr (3, [.int o_wide, .int o_high, .int o_drown, .int o_wind, .long o_hedges, .long o_fountains, .int o_people, .int o_tellings, .int o_reports, .ref a_g_kinds, .ref a_g_squares, .ref a_g_voices, .ref a_g_tellers, .ref a_g_listeners, .ref a_g_witnesses, .ref a_g_claims])), (a_o_kinds, .inl (cy 1, 5, .inl o_kinds_f)), (a_g_kinds, .inl (cy 1, 5, .inl f1)), (a_o_squares, .inl (cy 1, 5, .inl o_squares_f)), (a_g_squares, .inl (cy 1, 5, .inl f2)), (a_o_voices, .inl (cy 1, 5, .inl o_voices_f)), (a_g_voices, .inl (cy 1, 5, .inl f3)), (a_o_tellers, .inl (cy 1, 6, .inl o_tellers_f)), (a_g_tellers, .inl (cy 1, 6, .inl f4)), (a_o_listeners, .inl (cy 1, 6, .inl o_listeners_f)), (a_g_listeners, .inl (cy 1, 6, .inl f5)), (a_o_witnesses, .inl (cy 1, 8, .inl o_witnesses_f)), (a_g_witnesses, .inl (cy 1, 8, .inl f6)), (a_o_claims, .inl (cy 1, 8, .inl o_claims_f)), (a_g_claims, .inl (cy 1, 8, .inl g_claims_f))] H := hP
  have hD : va_D A [(a_o, .inr (3, [.int o_wide, .int o_high, .int o_drown, .int o_wind, .long o_hedges, .long o_fountains, .int o_people, .int o_tellings, .int o_reports, .ref a_o_kinds, .ref a_o_squares, .ref a_o_voices, .ref a_o_tellers, .ref a_o_listeners, .ref a_o_witnesses, .ref a_o_claims])), (a_g, .inr (3, [.int o_wide, .int o_high, .int o_drown, .int o_wind, .long o_hedges, .long o_fountains, .int o_people, .int o_tellings, .int o_reports, .ref a_g_kinds, .ref a_g_squares, .ref a_g_voices, .ref a_g_tellers, .ref a_g_listeners, .ref a_g_witnesses, .ref a_g_claims])), (a_o_kinds, .inl (cy 1, 5, .inl o_kinds_f)), (a_g_kinds, .inl (cy 1, 5, .inl f1)), (a_o_squares, .inl (cy 1, 5, .inl o_squares_f)), (a_g_squares, .inl (cy 1, 5, .inl f2)), (a_o_voices, .inl (cy 1, 5, .inl o_voices_f)), (a_g_voices, .inl (cy 1, 5, .inl f3)), (a_o_tellers, .inl (cy 1, 6, .inl o_tellers_f)), (a_g_tellers, .inl (cy 1, 6, .inl f4)), (a_o_listeners, .inl (cy 1, 6, .inl o_listeners_f)), (a_g_listeners, .inl (cy 1, 6, .inl f5)), (a_o_witnesses, .inl (cy 1, 8, .inl o_witnesses_f)), (a_g_witnesses, .inl (cy 1, 8, .inl f6)), (a_o_claims, .inl (cy 1, 8, .inl o_claims_f)), (a_g_claims, .inl (cy 1, 8, .inl g_claims_f))] := hD
  refine lv_aload_n hx hb dX3_copyFrom_159 rfl (lv_at hl 1 rfl) ?_
  refine va_get (D := D) (ci := 3) (v := .ref a_o_claims) (C := RX3) (T := TX3) (N := 16) hx hb hts zi3_ hown hK hP 0 rfl rfl 15 (by decide) z20_ (fun _ h9 => h9) rfl dX3_copyFrom_160 ?_
  refine lv_iconst (v := 0) hx hb dX3_copyFrom_163 (by decide) ?_
  refine lv_aload_n hx hb dX3_copyFrom_164 rfl (lv_at hl 0 rfl) ?_
  refine va_get (D := D) (ci := 3) (v := .ref a_g_claims) (C := RX3) (T := TX3) (N := 16) hx hb hts zi3_ hown hK hP 1 rfl rfl 15 (by decide) z20_ (fun _ h9 => h9) rfl dX3_copyFrom_165 ?_
  refine lv_iconst (v := 0) hx hb dX3_copyFrom_168 (by decide) ?_
  refine lv_bipush (v := 8) hx hb dX3_copyFrom_169 (by decide) ?_
  refine va_copyi hx hb (by rw [hml]; exact hl.1.symm) hown z11_ z12_ z13_ z14_ hK hP hD hS 14 15 1 1 rfl rfl rfl rfl rfl (by decide) (by decide) (by decide) (by decide +kernel) (by decide +kernel) (fun _ _ => rfl) (Nat.le_of_ble_eq_true rfl) (Nat.le_of_ble_eq_true (by decide +kernel)) dX3_copyFrom_171 (fun H locs hP hD hS => ?_)
  have hP : va_P D vwCl [(a_o, .inr (3, [.int o_wide, .int o_high, .int o_drown, .int o_wind, .long o_hedges, .long o_fountains, .int o_people, .int o_tellings, .int o_reports, .ref a_o_kinds, .ref a_o_squares, .ref a_o_voices, .ref a_o_tellers, .ref a_o_listeners, .ref a_o_witnesses, .ref a_o_claims])), (a_g, .inr (3, [.int o_wide, .int o_high, .int o_drown, .int o_wind, .long o_hedges, .long o_fountains, .int o_people, .int o_tellings, .int o_reports, .ref a_g_kinds, .ref a_g_squares, .ref a_g_voices, .ref a_g_tellers, .ref a_g_listeners, .ref a_g_witnesses, .ref a_g_claims])), (a_o_kinds, .inl (cy 1, 5, .inl o_kinds_f)), (a_g_kinds, .inl (cy 1, 5, .inl f1)), (a_o_squares, .inl (cy 1, 5, .inl o_squares_f)), (a_g_squares, .inl (cy 1, 5, .inl f2)), (a_o_voices, .inl (cy 1, 5, .inl o_voices_f)), (a_g_voices, .inl (cy 1, 5, .inl f3)), (a_o_tellers, .inl (cy 1, 6, .inl o_tellers_f)), (a_g_tellers, .inl (cy 1, 6, .inl f4)), (a_o_listeners, .inl (cy 1, 6, .inl o_listeners_f)), (a_g_listeners, .inl (cy 1, 6, .inl f5)), (a_o_witnesses, .inl (cy 1, 8, .inl o_witnesses_f)), (a_g_witnesses, .inl (cy 1, 8, .inl f6)), (a_o_claims, .inl (cy 1, 8, .inl o_claims_f)), (a_g_claims, .inl (cy 1, 8, .inl (va_cpy o_claims_f g_claims_f (0 : Int32).toNatClampNeg (0 : Int32).toNatClampNeg (8 : Int32).toNatClampNeg)))] H := hP
  have hD : va_D A [(a_o, .inr (3, [.int o_wide, .int o_high, .int o_drown, .int o_wind, .long o_hedges, .long o_fountains, .int o_people, .int o_tellings, .int o_reports, .ref a_o_kinds, .ref a_o_squares, .ref a_o_voices, .ref a_o_tellers, .ref a_o_listeners, .ref a_o_witnesses, .ref a_o_claims])), (a_g, .inr (3, [.int o_wide, .int o_high, .int o_drown, .int o_wind, .long o_hedges, .long o_fountains, .int o_people, .int o_tellings, .int o_reports, .ref a_g_kinds, .ref a_g_squares, .ref a_g_voices, .ref a_g_tellers, .ref a_g_listeners, .ref a_g_witnesses, .ref a_g_claims])), (a_o_kinds, .inl (cy 1, 5, .inl o_kinds_f)), (a_g_kinds, .inl (cy 1, 5, .inl f1)), (a_o_squares, .inl (cy 1, 5, .inl o_squares_f)), (a_g_squares, .inl (cy 1, 5, .inl f2)), (a_o_voices, .inl (cy 1, 5, .inl o_voices_f)), (a_g_voices, .inl (cy 1, 5, .inl f3)), (a_o_tellers, .inl (cy 1, 6, .inl o_tellers_f)), (a_g_tellers, .inl (cy 1, 6, .inl f4)), (a_o_listeners, .inl (cy 1, 6, .inl o_listeners_f)), (a_g_listeners, .inl (cy 1, 6, .inl f5)), (a_o_witnesses, .inl (cy 1, 8, .inl o_witnesses_f)), (a_g_witnesses, .inl (cy 1, 8, .inl f6)), (a_o_claims, .inl (cy 1, 8, .inl o_claims_f)), (a_g_claims, .inl (cy 1, 8, .inl (va_cpy o_claims_f g_claims_f (0 : Int32).toNatClampNeg (0 : Int32).toNatClampNeg (8 : Int32).toNatClampNeg)))] := hD
  obtain ⟨f7, ef7⟩ : ∃ y : Nat → Int32, y = va_cpy o_claims_f g_claims_f (0 : Int32).toNatClampNeg (0 : Int32).toNatClampNeg (8 : Int32).toNatClampNeg := ⟨_, rfl⟩
  rw [← ef7] at hP hD
  have hP : va_P D vwCl [(a_o, .inr (3, [.int o_wide, .int o_high, .int o_drown, .int o_wind, .long o_hedges, .long o_fountains, .int o_people, .int o_tellings, .int o_reports, .ref a_o_kinds, .ref a_o_squares, .ref a_o_voices, .ref a_o_tellers, .ref a_o_listeners, .ref a_o_witnesses, .ref a_o_claims])), (a_g, .inr (3, [.int o_wide, .int o_high, .int o_drown, .int o_wind, .long o_hedges, .long o_fountains, .int o_people, .int o_tellings, .int o_reports, .ref a_g_kinds, .ref a_g_squares, .ref a_g_voices, .ref a_g_tellers, .ref a_g_listeners, .ref a_g_witnesses, .ref a_g_claims])), (a_o_kinds, .inl (cy 1, 5, .inl o_kinds_f)), (a_g_kinds, .inl (cy 1, 5, .inl f1)), (a_o_squares, .inl (cy 1, 5, .inl o_squares_f)), (a_g_squares, .inl (cy 1, 5, .inl f2)), (a_o_voices, .inl (cy 1, 5, .inl o_voices_f)), (a_g_voices, .inl (cy 1, 5, .inl f3)), (a_o_tellers, .inl (cy 1, 6, .inl o_tellers_f)), (a_g_tellers, .inl (cy 1, 6, .inl f4)), (a_o_listeners, .inl (cy 1, 6, .inl o_listeners_f)), (a_g_listeners, .inl (cy 1, 6, .inl f5)), (a_o_witnesses, .inl (cy 1, 8, .inl o_witnesses_f)), (a_g_witnesses, .inl (cy 1, 8, .inl f6)), (a_o_claims, .inl (cy 1, 8, .inl o_claims_f)), (a_g_claims, .inl (cy 1, 8, .inl f7))] H := hP
  have hD : va_D A [(a_o, .inr (3, [.int o_wide, .int o_high, .int o_drown, .int o_wind, .long o_hedges, .long o_fountains, .int o_people, .int o_tellings, .int o_reports, .ref a_o_kinds, .ref a_o_squares, .ref a_o_voices, .ref a_o_tellers, .ref a_o_listeners, .ref a_o_witnesses, .ref a_o_claims])), (a_g, .inr (3, [.int o_wide, .int o_high, .int o_drown, .int o_wind, .long o_hedges, .long o_fountains, .int o_people, .int o_tellings, .int o_reports, .ref a_g_kinds, .ref a_g_squares, .ref a_g_voices, .ref a_g_tellers, .ref a_g_listeners, .ref a_g_witnesses, .ref a_g_claims])), (a_o_kinds, .inl (cy 1, 5, .inl o_kinds_f)), (a_g_kinds, .inl (cy 1, 5, .inl f1)), (a_o_squares, .inl (cy 1, 5, .inl o_squares_f)), (a_g_squares, .inl (cy 1, 5, .inl f2)), (a_o_voices, .inl (cy 1, 5, .inl o_voices_f)), (a_g_voices, .inl (cy 1, 5, .inl f3)), (a_o_tellers, .inl (cy 1, 6, .inl o_tellers_f)), (a_g_tellers, .inl (cy 1, 6, .inl f4)), (a_o_listeners, .inl (cy 1, 6, .inl o_listeners_f)), (a_g_listeners, .inl (cy 1, 6, .inl f5)), (a_o_witnesses, .inl (cy 1, 8, .inl o_witnesses_f)), (a_g_witnesses, .inl (cy 1, 8, .inl f6)), (a_o_claims, .inl (cy 1, 8, .inl o_claims_f)), (a_g_claims, .inl (cy 1, 8, .inl f7))] := hD
  subst hQF
  have hP9 := hP
  have hD9 := hD
  exact W.vret hx hb hr (fun t ht hW => ⟨⟨(o_wide, o_high, o_drown, o_wind, o_hedges, o_fountains, o_people, o_tellings, o_reports, f1, f2, f3, f4, f5, f6, f7), rfl, rfl, by rw [ht]; exact hP9, hD9⟩, hS.F ht⟩) hS.2.2 dX3_copyFrom_174

set_option maxHeartbeats 4000000 in
set_option maxRecDepth 100000 in
theorem n_X3_xOf (l : Launch) (D : va_G) (cy : Nat → ClassId) (a_g : Nat) (g_wide : Int32) (g_high : Int32) (g_drown : Int32) (g_wind : Int32) (g_hedges : Int64) (g_fountains : Int64) (g_people : Int32) (g_tellings : Int32) (g_reports : Int32) (a_g_kinds : Nat) (a_g_squares : Nat) (a_g_voices : Nat) (a_g_tellers : Nat) (a_g_listeners : Nat) (a_g_witnesses : Nat) (a_g_claims : Nat) (px : Int32) (sz : Nat)  : Met l yX3_xOf wsX3_xOf ({ frames := 0, cells := 0, slots := 0, locals := 0 }) (va_Pc [.ref a_g, .int px] (kPre D cy [(a_g, .inr (3, [.int g_wide, .int g_high, .int g_drown, .int g_wind, .long g_hedges, .long g_fountains, .int g_people, .int g_tellings, .int g_reports, .ref a_g_kinds, .ref a_g_squares, .ref a_g_voices, .ref a_g_tellers, .ref a_g_listeners, .ref a_g_witnesses, .ref a_g_claims]))] sz)) (va_Qi (fun (r : Int32) (u : Unit) => r.toInt < 2147483647) (fun _ _ => True) (fun q : Nat => sz ≤ q)) 0 0 (fun q : Nat => sz ≤ q) := by
  refine Met.ofW (cc := cX3_xOf) (maxL := 2) (ret := (some .int)) (by decide) rfl ?_
  intro p e s m args below meth c s₁ B hml hv
  obtain ⟨rfl, hsz, hP, hKA, hD0⟩ := hv
  have hx := B.exec
  have hb := B.bytes
  have hr := B.returns
  have hts := atoms_spec (ws := wsX3_xOf) B.pre
  have hown : s.vm.findClass RX3 = some m.cls := findClass_of_methodNamed B.named
  have hlocks := B.notSynchronized
  subst hsz
  have hK := hKA.1
  have hD := hD0
  generalize hAe : (fun q : Nat => s.heap.size ≤ q) = A
  have hA : ∀ q : Nat, s.heap.size ≤ q → A q := fun q h => by rw [← hAe]; exact h
  have hS : va_S A s.heap s.heap [] := va_S.rf
  have hP : va_P D vwCl [(a_g, .inr (3, [.int g_wide, .int g_high, .int g_drown, .int g_wind, .long g_hedges, .long g_fountains, .int g_people, .int g_tellings, .int g_reports, .ref a_g_kinds, .ref a_g_squares, .ref a_g_voices, .ref a_g_tellers, .ref a_g_listeners, .ref a_g_witnesses, .ref a_g_claims]))] s.heap := hP
  have hl := lv_entry ([.ref a_g, .int px]) (n := 2) (Nat.le_of_ble_eq_true rfl)
  rw [lg_entry_eq]
  generalize (lg_sl ([.ref a_g, .int px]) ++ List.replicate (2 - (lg_sl ([.ref a_g, .int px])).length) Slot.unset).toArray = ls at hl ⊢
  have hl : lv_has ls 2 [(0, .ref a_g), (1, .int px)] := hl
  refine qW (fun QF hQF => ?_)
  have z0_ := hts (.fieldLink RX3 33 "HeardSeen$Garden" "wide" "I") (by decide +kernel)
  have zi3_ : ∀ w ∈ u_ws RX3 TX3 16, w ∈ wsX3_xOf := by decide +kernel
  refine lv_aload_n hx hb dX3_xOf_0 rfl (lv_at hl 0 rfl) ?_
  refine va_get (D := D) (ci := 3) (v := .int g_wide) (C := RX3) (T := TX3) (N := 16) hx hb hts zi3_ hown hK hP 0 rfl rfl 0 (by decide) z0_ (fun _ h9 => h9) rfl dX3_xOf_1 ?_
  refine lv_if_le (tgt := 16) hx hb dX3_xOf_4 (by decide) (fun c1 => ?_) (fun c1 => ?_)
  · skip
    refine lv_iconst (v := 0) hx hb dX3_xOf_16 (by decide) ?_
    subst hQF
    exact W.iret (v := 0) hx hb hr (fun t ht hW => ⟨⟨0, (), rfl, (by decide), trivial⟩, hS.F ht⟩) hS.2.2 dX3_xOf_17
  · skip
    refine lv_iload_n hx hb dX3_xOf_7 rfl (lv_at hl 1 rfl) ?_
    refine lv_aload_n hx hb dX3_xOf_8 rfl (lv_at hl 0 rfl) ?_
    refine va_get (D := D) (ci := 3) (v := .int g_wide) (C := RX3) (T := TX3) (N := 16) hx hb hts zi3_ hown hK hP 0 rfl rfl 0 (by decide) z0_ (fun _ h9 => h9) rfl dX3_xOf_9 ?_
    refine lv_irem hx hb dX3_xOf_12 (fun hz => absurd (Int32.not_le.mp (by assumption)) (by rw [hz]; decide)) ?_
    refine lv_goto (tgt := 17) hx hb dX3_xOf_13 (by decide) ?_
    refine lv_topi (fun x2 ex2 => ?_)
    subst hQF
    exact W.iret (v := x2) hx hb hr (fun t ht hW => ⟨⟨x2, (), rfl, (z_rem (by assumption) ex2), trivial⟩, hS.F ht⟩) hS.2.2 dX3_xOf_17

set_option maxHeartbeats 4000000 in
set_option maxRecDepth 100000 in
theorem n_X3_yOf (l : Launch) (D : va_G) (cy : Nat → ClassId) (a_g : Nat) (g_wide : Int32) (g_high : Int32) (g_drown : Int32) (g_wind : Int32) (g_hedges : Int64) (g_fountains : Int64) (g_people : Int32) (g_tellings : Int32) (g_reports : Int32) (a_g_kinds : Nat) (a_g_squares : Nat) (a_g_voices : Nat) (a_g_tellers : Nat) (a_g_listeners : Nat) (a_g_witnesses : Nat) (a_g_claims : Nat) (px : Int32) (sz : Nat) (hW2 : 2 ≤ g_wide) : Met l yX3_yOf wsX3_yOf ({ frames := 0, cells := 0, slots := 0, locals := 0 }) (va_Pc [.ref a_g, .int px] (kPre D cy [(a_g, .inr (3, [.int g_wide, .int g_high, .int g_drown, .int g_wind, .long g_hedges, .long g_fountains, .int g_people, .int g_tellings, .int g_reports, .ref a_g_kinds, .ref a_g_squares, .ref a_g_voices, .ref a_g_tellers, .ref a_g_listeners, .ref a_g_witnesses, .ref a_g_claims]))] sz)) (va_Qi (fun (r : Int32) (u : Unit) => r.toInt < 2147483647) (fun _ _ => True) (fun q : Nat => sz ≤ q)) 0 0 (fun q : Nat => sz ≤ q) := by
  refine Met.ofW (cc := cX3_yOf) (maxL := 2) (ret := (some .int)) (by decide) rfl ?_
  intro p e s m args below meth c s₁ B hml hv
  obtain ⟨rfl, hsz, hP, hKA, hD0⟩ := hv
  have hx := B.exec
  have hb := B.bytes
  have hr := B.returns
  have hts := atoms_spec (ws := wsX3_yOf) B.pre
  have hown : s.vm.findClass RX3 = some m.cls := findClass_of_methodNamed B.named
  have hlocks := B.notSynchronized
  subst hsz
  have hK := hKA.1
  have hD := hD0
  generalize hAe : (fun q : Nat => s.heap.size ≤ q) = A
  have hA : ∀ q : Nat, s.heap.size ≤ q → A q := fun q h => by rw [← hAe]; exact h
  have hS : va_S A s.heap s.heap [] := va_S.rf
  have hP : va_P D vwCl [(a_g, .inr (3, [.int g_wide, .int g_high, .int g_drown, .int g_wind, .long g_hedges, .long g_fountains, .int g_people, .int g_tellings, .int g_reports, .ref a_g_kinds, .ref a_g_squares, .ref a_g_voices, .ref a_g_tellers, .ref a_g_listeners, .ref a_g_witnesses, .ref a_g_claims]))] s.heap := hP
  have hl := lv_entry ([.ref a_g, .int px]) (n := 2) (Nat.le_of_ble_eq_true rfl)
  rw [lg_entry_eq]
  generalize (lg_sl ([.ref a_g, .int px]) ++ List.replicate (2 - (lg_sl ([.ref a_g, .int px])).length) Slot.unset).toArray = ls at hl ⊢
  have hl : lv_has ls 2 [(0, .ref a_g), (1, .int px)] := hl
  refine qW (fun QF hQF => ?_)
  have z0_ := hts (.fieldLink RX3 33 "HeardSeen$Garden" "wide" "I") (by decide +kernel)
  have zi3_ : ∀ w ∈ u_ws RX3 TX3 16, w ∈ wsX3_yOf := by decide +kernel
  refine lv_aload_n hx hb dX3_yOf_0 rfl (lv_at hl 0 rfl) ?_
  refine va_get (D := D) (ci := 3) (v := .int g_wide) (C := RX3) (T := TX3) (N := 16) hx hb hts zi3_ hown hK hP 0 rfl rfl 0 (by decide) z0_ (fun _ h9 => h9) rfl dX3_yOf_1 ?_
  refine lv_if_le (tgt := 16) hx hb dX3_yOf_4 (by decide) (fun c1 => ?_) (fun c1 => ?_)
  · skip
    refine lv_iconst (v := 0) hx hb dX3_yOf_16 (by decide) ?_
    subst hQF
    exact W.iret (v := 0) hx hb hr (fun t ht hW => ⟨⟨0, (), rfl, (by decide), trivial⟩, hS.F ht⟩) hS.2.2 dX3_yOf_17
  · skip
    refine lv_iload_n hx hb dX3_yOf_7 rfl (lv_at hl 1 rfl) ?_
    refine lv_aload_n hx hb dX3_yOf_8 rfl (lv_at hl 0 rfl) ?_
    refine va_get (D := D) (ci := 3) (v := .int g_wide) (C := RX3) (T := TX3) (N := 16) hx hb hts zi3_ hown hK hP 0 rfl rfl 0 (by decide) z0_ (fun _ h9 => h9) rfl dX3_yOf_9 ?_
    refine lv_idiv hx hb dX3_yOf_12 (fun hz => absurd (Int32.not_le.mp (by assumption)) (by rw [hz]; decide)) ?_
    refine lv_goto (tgt := 17) hx hb dX3_yOf_13 (by decide) ?_
    refine lv_topi (fun x2 ex2 => ?_)
    subst hQF
    exact W.iret (v := x2) hx hb hr (fun t ht hW => ⟨⟨x2, (), rfl, (z_div hW2 ex2), trivial⟩, hS.F ht⟩) hS.2.2 dX3_yOf_17

set_option maxHeartbeats 4000000 in
set_option maxRecDepth 100000 in
theorem n_yOf0 (l : Launch) (D : va_G) (cy : Nat → ClassId) (a_g : Nat) (g_wide : Int32) (g_high : Int32) (g_drown : Int32) (g_wind : Int32) (g_hedges : Int64) (g_fountains : Int64) (g_people : Int32) (g_tellings : Int32) (g_reports : Int32) (a_g_kinds : Nat) (a_g_squares : Nat) (a_g_voices : Nat) (a_g_tellers : Nat) (a_g_listeners : Nat) (a_g_witnesses : Nat) (a_g_claims : Nat) (px : Int32) (sz : Nat)  : Met l yX3_yOf wsX3_yOf ({ frames := 0, cells := 0, slots := 0, locals := 0 }) (va_Pc [.ref a_g, .int px] (kPre D cy [(a_g, .inr (3, [.int g_wide, .int g_high, .int g_drown, .int g_wind, .long g_hedges, .long g_fountains, .int g_people, .int g_tellings, .int g_reports, .ref a_g_kinds, .ref a_g_squares, .ref a_g_voices, .ref a_g_tellers, .ref a_g_listeners, .ref a_g_witnesses, .ref a_g_claims]))] sz)) (va_Qi (fun (r : Int32) (u : Unit) => True) (fun _ _ => True) (fun q : Nat => sz ≤ q)) 0 0 (fun q : Nat => sz ≤ q) := by
  refine Met.ofW (cc := cX3_yOf) (maxL := 2) (ret := (some .int)) (by decide) rfl ?_
  intro p e s m args below meth c s₁ B hml hv
  obtain ⟨rfl, hsz, hP, hKA, hD0⟩ := hv
  have hx := B.exec
  have hb := B.bytes
  have hr := B.returns
  have hts := atoms_spec (ws := wsX3_yOf) B.pre
  have hown : s.vm.findClass RX3 = some m.cls := findClass_of_methodNamed B.named
  have hlocks := B.notSynchronized
  subst hsz
  have hK := hKA.1
  have hD := hD0
  generalize hAe : (fun q : Nat => s.heap.size ≤ q) = A
  have hA : ∀ q : Nat, s.heap.size ≤ q → A q := fun q h => by rw [← hAe]; exact h
  have hS : va_S A s.heap s.heap [] := va_S.rf
  have hP : va_P D vwCl [(a_g, .inr (3, [.int g_wide, .int g_high, .int g_drown, .int g_wind, .long g_hedges, .long g_fountains, .int g_people, .int g_tellings, .int g_reports, .ref a_g_kinds, .ref a_g_squares, .ref a_g_voices, .ref a_g_tellers, .ref a_g_listeners, .ref a_g_witnesses, .ref a_g_claims]))] s.heap := hP
  have hl := lv_entry ([.ref a_g, .int px]) (n := 2) (Nat.le_of_ble_eq_true rfl)
  rw [lg_entry_eq]
  generalize (lg_sl ([.ref a_g, .int px]) ++ List.replicate (2 - (lg_sl ([.ref a_g, .int px])).length) Slot.unset).toArray = ls at hl ⊢
  have hl : lv_has ls 2 [(0, .ref a_g), (1, .int px)] := hl
  refine qW (fun QF hQF => ?_)
  have z0_ := hts (.fieldLink RX3 33 "HeardSeen$Garden" "wide" "I") (by decide +kernel)
  have zi3_ : ∀ w ∈ u_ws RX3 TX3 16, w ∈ wsX3_yOf := by decide +kernel
  refine lv_aload_n hx hb dX3_yOf_0 rfl (lv_at hl 0 rfl) ?_
  refine va_get (D := D) (ci := 3) (v := .int g_wide) (C := RX3) (T := TX3) (N := 16) hx hb hts zi3_ hown hK hP 0 rfl rfl 0 (by decide) z0_ (fun _ h9 => h9) rfl dX3_yOf_1 ?_
  refine lv_if_le (tgt := 16) hx hb dX3_yOf_4 (by decide) (fun c1 => ?_) (fun c1 => ?_)
  · skip
    refine lv_iconst (v := 0) hx hb dX3_yOf_16 (by decide) ?_
    subst hQF
    exact W.iret (v := 0) hx hb hr (fun t ht hW => ⟨⟨0, (), rfl, trivial, trivial⟩, hS.F ht⟩) hS.2.2 dX3_yOf_17
  · skip
    refine lv_iload_n hx hb dX3_yOf_7 rfl (lv_at hl 1 rfl) ?_
    refine lv_aload_n hx hb dX3_yOf_8 rfl (lv_at hl 0 rfl) ?_
    refine va_get (D := D) (ci := 3) (v := .int g_wide) (C := RX3) (T := TX3) (N := 16) hx hb hts zi3_ hown hK hP 0 rfl rfl 0 (by decide) z0_ (fun _ h9 => h9) rfl dX3_yOf_9 ?_
    refine lv_idiv hx hb dX3_yOf_12 (fun hz => absurd (Int32.not_le.mp (by assumption)) (by rw [hz]; decide)) ?_
    refine lv_goto (tgt := 17) hx hb dX3_yOf_13 (by decide) ?_
    refine lv_topi (fun x2 ex2 => ?_)
    subst hQF
    exact W.iret (v := x2) hx hb hr (fun t ht hW => ⟨⟨x2, (), rfl, trivial, trivial⟩, hS.F ht⟩) hS.2.2 dX3_yOf_17

set_option maxHeartbeats 4000000 in
set_option maxRecDepth 100000 in
theorem n_X3_kindOf (l : Launch) (D : va_G) (cy : Nat → ClassId) (a_g : Nat) (g_wide : Int32) (g_high : Int32) (g_drown : Int32) (g_wind : Int32) (g_hedges : Int64) (g_fountains : Int64) (g_people : Int32) (g_tellings : Int32) (g_reports : Int32) (a_g_kinds : Nat) (a_g_squares : Nat) (a_g_voices : Nat) (a_g_tellers : Nat) (a_g_listeners : Nat) (a_g_witnesses : Nat) (a_g_claims : Nat) (g_kinds_f : Nat → Int32) (px : Int32) (sz : Nat)  : Met l yX3_kindOf wsX3_kindOf ({ frames := 1, cells := 0, slots := 0, locals := 21 }) (va_Pc [.ref a_g, .int px] (kPre D cy [(a_g, .inr (3, [.int g_wide, .int g_high, .int g_drown, .int g_wind, .long g_hedges, .long g_fountains, .int g_people, .int g_tellings, .int g_reports, .ref a_g_kinds, .ref a_g_squares, .ref a_g_voices, .ref a_g_tellers, .ref a_g_listeners, .ref a_g_witnesses, .ref a_g_claims])), (a_g_kinds, .inl (cy 1, 5, .inl g_kinds_f))] sz)) (va_Qi (fun (r : Int32) (u : Unit) => True) (fun _ _ => True) (fun q : Nat => sz ≤ q)) 0 0 (fun q : Nat => sz ≤ q) := by
  refine Met.ofW (cc := cX3_kindOf) (maxL := 2) (ret := (some .int)) (by decide) rfl ?_
  intro p e s m args below meth c s₁ B hml hv
  obtain ⟨rfl, hsz, hP, hKA, hD0⟩ := hv
  have hx := B.exec
  have hb := B.bytes
  have hr := B.returns
  have hts := atoms_spec (ws := wsX3_kindOf) B.pre
  have hown : s.vm.findClass RX3 = some m.cls := findClass_of_methodNamed B.named
  have hlocks := B.notSynchronized
  subst hsz
  have hK := hKA.1
  have hD := hD0
  generalize hAe : (fun q : Nat => s.heap.size ≤ q) = A
  have hA : ∀ q : Nat, s.heap.size ≤ q → A q := fun q h => by rw [← hAe]; exact h
  have hS : va_S A s.heap s.heap [] := va_S.rf
  have hP : va_P D vwCl [(a_g, .inr (3, [.int g_wide, .int g_high, .int g_drown, .int g_wind, .long g_hedges, .long g_fountains, .int g_people, .int g_tellings, .int g_reports, .ref a_g_kinds, .ref a_g_squares, .ref a_g_voices, .ref a_g_tellers, .ref a_g_listeners, .ref a_g_witnesses, .ref a_g_claims])), (a_g_kinds, .inl (cy 1, 5, .inl g_kinds_f))] s.heap := hP
  have hl := lv_entry ([.ref a_g, .int px]) (n := 2) (Nat.le_of_ble_eq_true rfl)
  rw [lg_entry_eq]
  generalize (lg_sl ([.ref a_g, .int px]) ++ List.replicate (2 - (lg_sl ([.ref a_g, .int px])).length) Slot.unset).toArray = ls at hl ⊢
  have hl : lv_has ls 2 [(0, .ref a_g), (1, .int px)] := hl
  refine qW (fun QF hQF => ?_)
  have z0_ := hts (.fieldLink RX3 9 "HeardSeen$Garden" "kinds" "[I") (by decide +kernel)
  have zi3_ : ∀ w ∈ u_ws RX3 TX3 16, w ∈ wsX3_kindOf := by decide +kernel
  refine lv_aload_n hx hb dX3_kindOf_0 rfl (lv_at hl 0 rfl) ?_
  refine lv_iload_n hx hb dX3_kindOf_1 rfl (lv_at hl 1 rfl) ?_
  refine rd_i (va_runV (As := [.int px]) (rest := []) ⟨hx, hb, hml, hown, hts⟩ (n_X3_isPerson l D cy a_g g_wide g_high g_drown g_wind g_hedges g_fountains g_people g_tellings g_reports a_g_kinds a_g_squares a_g_voices a_g_tellers a_g_listeners a_g_witnesses a_g_claims px _ ) (cwV 1 hts gX3_kindOf_X3_isPerson rfl rfl rfl (by decide +kernel) ⟨Nat.le_of_ble_eq_true rfl, Nat.le_of_ble_eq_true rfl⟩) (pV (ci := 3) (k := 0) hKA (hP.sub (ws' := [(a_g, .inr (3, [.int g_wide, .int g_high, .int g_drown, .int g_wind, .long g_hedges, .long g_fountains, .int g_people, .int g_tellings, .int g_reports, .ref a_g_kinds, .ref a_g_squares, .ref a_g_voices, .ref a_g_tellers, .ref a_g_listeners, .ref a_g_witnesses, .ref a_g_claims]))]) [0] rfl) (hD.sub (ws' := [(a_g, .inr (3, [.int g_wide, .int g_high, .int g_drown, .int g_wind, .long g_hedges, .long g_fountains, .int g_people, .int g_tellings, .int g_reports, .ref a_g_kinds, .ref a_g_squares, .ref a_g_voices, .ref a_g_tellers, .ref a_g_listeners, .ref a_g_witnesses, .ref a_g_claims]))]) [0] (by decide) rfl) rfl rfl) rfl rfl hl.1 rfl (lv_room (Nat.le_of_ble_eq_true rfl)) dX3_kindOf_2 ⟨Nat.le_of_ble_eq_true rfl, Nat.le_of_ble_eq_true rfl⟩) hP hS hA (fun r1 H locs hwr1 hP hS => ?_)
  have hwr1 : (r1 = 1 ∧ (0 ≤ px ∧ px < g_people ∧ px < 5)) ∨ (r1 = 0 ∧ True) := hwr1
  refine lv_if_eq (tgt := 17) hx hb dX3_kindOf_5 (by decide) (fun c2 => ?_) (fun c2 => ?_)
  · skip
    refine lv_iconst (v := 0) hx hb dX3_kindOf_17 (by decide) ?_
    subst hQF
    exact W.iret (v := 0) hx hb hr (fun t ht hW => ⟨⟨0, (), rfl, trivial, trivial⟩, hS.F ht⟩) hS.2.2 dX3_kindOf_18
  · skip
    obtain ⟨hp3, hp4, hp5⟩ := z_b1 hwr1 c2
    refine lv_aload_n hx hb dX3_kindOf_8 rfl (lv_at hl 0 rfl) ?_
    refine va_get (D := D) (ci := 3) (v := .ref a_g_kinds) (C := RX3) (T := TX3) (N := 16) hx hb hts zi3_ hown hK hP 0 rfl rfl 9 (by decide) z0_ (fun _ h9 => h9) rfl dX3_kindOf_9 ?_
    refine lv_iload_n hx hb dX3_kindOf_12 rfl (lv_at hl 1 rfl) ?_
    refine my_iald hx hb hK hP 1 1 rfl rfl (by first | exact in_x (N := 5) (by decide) (by assumption) (by assumption) | exact in_y (N := 5) (by decide) (by assumption) (by assumption) | exact in_z (N := 5) (by decide) (by assumption) (by assumption)) rfl dX3_kindOf_13 ?_
    refine lv_goto (tgt := 18) hx hb dX3_kindOf_14 (by decide) ?_
    refine lv_topi (fun x6 ex6 => ?_)
    subst hQF
    exact W.iret (v := x6) hx hb hr (fun t ht hW => ⟨⟨x6, (), rfl, trivial, trivial⟩, hS.F ht⟩) hS.2.2 dX3_kindOf_18

set_option maxHeartbeats 4000000 in
set_option maxRecDepth 100000 in
theorem n_X3_squareOf (l : Launch) (D : va_G) (cy : Nat → ClassId) (a_g : Nat) (g_wide : Int32) (g_high : Int32) (g_drown : Int32) (g_wind : Int32) (g_hedges : Int64) (g_fountains : Int64) (g_people : Int32) (g_tellings : Int32) (g_reports : Int32) (a_g_kinds : Nat) (a_g_squares : Nat) (a_g_voices : Nat) (a_g_tellers : Nat) (a_g_listeners : Nat) (a_g_witnesses : Nat) (a_g_claims : Nat) (g_squares_f : Nat → Int32) (px : Int32) (sz : Nat)  : Met l yX3_squareOf wsX3_squareOf ({ frames := 1, cells := 0, slots := 0, locals := 21 }) (va_Pc [.ref a_g, .int px] (kPre D cy [(a_g, .inr (3, [.int g_wide, .int g_high, .int g_drown, .int g_wind, .long g_hedges, .long g_fountains, .int g_people, .int g_tellings, .int g_reports, .ref a_g_kinds, .ref a_g_squares, .ref a_g_voices, .ref a_g_tellers, .ref a_g_listeners, .ref a_g_witnesses, .ref a_g_claims])), (a_g_squares, .inl (cy 1, 5, .inl g_squares_f))] sz)) (va_Qi (fun (r : Int32) (u : Unit) => True) (fun _ _ => True) (fun q : Nat => sz ≤ q)) 0 0 (fun q : Nat => sz ≤ q) := by
  refine Met.ofW (cc := cX3_squareOf) (maxL := 2) (ret := (some .int)) (by decide) rfl ?_
  intro p e s m args below meth c s₁ B hml hv
  obtain ⟨rfl, hsz, hP, hKA, hD0⟩ := hv
  have hx := B.exec
  have hb := B.bytes
  have hr := B.returns
  have hts := atoms_spec (ws := wsX3_squareOf) B.pre
  have hown : s.vm.findClass RX3 = some m.cls := findClass_of_methodNamed B.named
  have hlocks := B.notSynchronized
  subst hsz
  have hK := hKA.1
  have hD := hD0
  generalize hAe : (fun q : Nat => s.heap.size ≤ q) = A
  have hA : ∀ q : Nat, s.heap.size ≤ q → A q := fun q h => by rw [← hAe]; exact h
  have hS : va_S A s.heap s.heap [] := va_S.rf
  have hP : va_P D vwCl [(a_g, .inr (3, [.int g_wide, .int g_high, .int g_drown, .int g_wind, .long g_hedges, .long g_fountains, .int g_people, .int g_tellings, .int g_reports, .ref a_g_kinds, .ref a_g_squares, .ref a_g_voices, .ref a_g_tellers, .ref a_g_listeners, .ref a_g_witnesses, .ref a_g_claims])), (a_g_squares, .inl (cy 1, 5, .inl g_squares_f))] s.heap := hP
  have hl := lv_entry ([.ref a_g, .int px]) (n := 2) (Nat.le_of_ble_eq_true rfl)
  rw [lg_entry_eq]
  generalize (lg_sl ([.ref a_g, .int px]) ++ List.replicate (2 - (lg_sl ([.ref a_g, .int px])).length) Slot.unset).toArray = ls at hl ⊢
  have hl : lv_has ls 2 [(0, .ref a_g), (1, .int px)] := hl
  refine qW (fun QF hQF => ?_)
  have z0_ := hts (.fieldLink RX3 15 "HeardSeen$Garden" "squares" "[I") (by decide +kernel)
  have zi3_ : ∀ w ∈ u_ws RX3 TX3 16, w ∈ wsX3_squareOf := by decide +kernel
  refine lv_aload_n hx hb dX3_squareOf_0 rfl (lv_at hl 0 rfl) ?_
  refine lv_iload_n hx hb dX3_squareOf_1 rfl (lv_at hl 1 rfl) ?_
  refine rd_i (va_runV (As := [.int px]) (rest := []) ⟨hx, hb, hml, hown, hts⟩ (n_X3_isPerson l D cy a_g g_wide g_high g_drown g_wind g_hedges g_fountains g_people g_tellings g_reports a_g_kinds a_g_squares a_g_voices a_g_tellers a_g_listeners a_g_witnesses a_g_claims px _ ) (cwV 1 hts gX3_squareOf_X3_isPerson rfl rfl rfl (by decide +kernel) ⟨Nat.le_of_ble_eq_true rfl, Nat.le_of_ble_eq_true rfl⟩) (pV (ci := 3) (k := 0) hKA (hP.sub (ws' := [(a_g, .inr (3, [.int g_wide, .int g_high, .int g_drown, .int g_wind, .long g_hedges, .long g_fountains, .int g_people, .int g_tellings, .int g_reports, .ref a_g_kinds, .ref a_g_squares, .ref a_g_voices, .ref a_g_tellers, .ref a_g_listeners, .ref a_g_witnesses, .ref a_g_claims]))]) [0] rfl) (hD.sub (ws' := [(a_g, .inr (3, [.int g_wide, .int g_high, .int g_drown, .int g_wind, .long g_hedges, .long g_fountains, .int g_people, .int g_tellings, .int g_reports, .ref a_g_kinds, .ref a_g_squares, .ref a_g_voices, .ref a_g_tellers, .ref a_g_listeners, .ref a_g_witnesses, .ref a_g_claims]))]) [0] (by decide) rfl) rfl rfl) rfl rfl hl.1 rfl (lv_room (Nat.le_of_ble_eq_true rfl)) dX3_squareOf_2 ⟨Nat.le_of_ble_eq_true rfl, Nat.le_of_ble_eq_true rfl⟩) hP hS hA (fun r1 H locs hwr1 hP hS => ?_)
  have hwr1 : (r1 = 1 ∧ (0 ≤ px ∧ px < g_people ∧ px < 5)) ∨ (r1 = 0 ∧ True) := hwr1
  refine lv_if_eq (tgt := 17) hx hb dX3_squareOf_5 (by decide) (fun c2 => ?_) (fun c2 => ?_)
  · skip
    refine lv_iconst (v := 0) hx hb dX3_squareOf_17 (by decide) ?_
    subst hQF
    exact W.iret (v := 0) hx hb hr (fun t ht hW => ⟨⟨0, (), rfl, trivial, trivial⟩, hS.F ht⟩) hS.2.2 dX3_squareOf_18
  · skip
    obtain ⟨hp3, hp4, hp5⟩ := z_b1 hwr1 c2
    refine lv_aload_n hx hb dX3_squareOf_8 rfl (lv_at hl 0 rfl) ?_
    refine va_get (D := D) (ci := 3) (v := .ref a_g_squares) (C := RX3) (T := TX3) (N := 16) hx hb hts zi3_ hown hK hP 0 rfl rfl 10 (by decide) z0_ (fun _ h9 => h9) rfl dX3_squareOf_9 ?_
    refine lv_iload_n hx hb dX3_squareOf_12 rfl (lv_at hl 1 rfl) ?_
    refine my_iald hx hb hK hP 1 1 rfl rfl (by first | exact in_x (N := 5) (by decide) (by assumption) (by assumption) | exact in_y (N := 5) (by decide) (by assumption) (by assumption) | exact in_z (N := 5) (by decide) (by assumption) (by assumption)) rfl dX3_squareOf_13 ?_
    refine lv_goto (tgt := 18) hx hb dX3_squareOf_14 (by decide) ?_
    refine lv_topi (fun x6 ex6 => ?_)
    subst hQF
    exact W.iret (v := x6) hx hb hr (fun t ht hW => ⟨⟨x6, (), rfl, trivial, trivial⟩, hS.F ht⟩) hS.2.2 dX3_squareOf_18

set_option maxHeartbeats 4000000 in
set_option maxRecDepth 100000 in
theorem n_X3_voiceOf (l : Launch) (D : va_G) (cy : Nat → ClassId) (a_g : Nat) (g_wide : Int32) (g_high : Int32) (g_drown : Int32) (g_wind : Int32) (g_hedges : Int64) (g_fountains : Int64) (g_people : Int32) (g_tellings : Int32) (g_reports : Int32) (a_g_kinds : Nat) (a_g_squares : Nat) (a_g_voices : Nat) (a_g_tellers : Nat) (a_g_listeners : Nat) (a_g_witnesses : Nat) (a_g_claims : Nat) (g_voices_f : Nat → Int32) (px : Int32) (sz : Nat)  : Met l yX3_voiceOf wsX3_voiceOf ({ frames := 1, cells := 0, slots := 0, locals := 21 }) (va_Pc [.ref a_g, .int px] (kPre D cy [(a_g, .inr (3, [.int g_wide, .int g_high, .int g_drown, .int g_wind, .long g_hedges, .long g_fountains, .int g_people, .int g_tellings, .int g_reports, .ref a_g_kinds, .ref a_g_squares, .ref a_g_voices, .ref a_g_tellers, .ref a_g_listeners, .ref a_g_witnesses, .ref a_g_claims])), (a_g_voices, .inl (cy 1, 5, .inl g_voices_f))] sz)) (va_Qi (fun (r : Int32) (u : Unit) => True) (fun _ _ => True) (fun q : Nat => sz ≤ q)) 0 0 (fun q : Nat => sz ≤ q) := by
  refine Met.ofW (cc := cX3_voiceOf) (maxL := 2) (ret := (some .int)) (by decide) rfl ?_
  intro p e s m args below meth c s₁ B hml hv
  obtain ⟨rfl, hsz, hP, hKA, hD0⟩ := hv
  have hx := B.exec
  have hb := B.bytes
  have hr := B.returns
  have hts := atoms_spec (ws := wsX3_voiceOf) B.pre
  have hown : s.vm.findClass RX3 = some m.cls := findClass_of_methodNamed B.named
  have hlocks := B.notSynchronized
  subst hsz
  have hK := hKA.1
  have hD := hD0
  generalize hAe : (fun q : Nat => s.heap.size ≤ q) = A
  have hA : ∀ q : Nat, s.heap.size ≤ q → A q := fun q h => by rw [← hAe]; exact h
  have hS : va_S A s.heap s.heap [] := va_S.rf
  have hP : va_P D vwCl [(a_g, .inr (3, [.int g_wide, .int g_high, .int g_drown, .int g_wind, .long g_hedges, .long g_fountains, .int g_people, .int g_tellings, .int g_reports, .ref a_g_kinds, .ref a_g_squares, .ref a_g_voices, .ref a_g_tellers, .ref a_g_listeners, .ref a_g_witnesses, .ref a_g_claims])), (a_g_voices, .inl (cy 1, 5, .inl g_voices_f))] s.heap := hP
  have hl := lv_entry ([.ref a_g, .int px]) (n := 2) (Nat.le_of_ble_eq_true rfl)
  rw [lg_entry_eq]
  generalize (lg_sl ([.ref a_g, .int px]) ++ List.replicate (2 - (lg_sl ([.ref a_g, .int px])).length) Slot.unset).toArray = ls at hl ⊢
  have hl : lv_has ls 2 [(0, .ref a_g), (1, .int px)] := hl
  refine qW (fun QF hQF => ?_)
  have z0_ := hts (.fieldLink RX3 18 "HeardSeen$Garden" "voices" "[I") (by decide +kernel)
  have zi3_ : ∀ w ∈ u_ws RX3 TX3 16, w ∈ wsX3_voiceOf := by decide +kernel
  refine lv_aload_n hx hb dX3_voiceOf_0 rfl (lv_at hl 0 rfl) ?_
  refine lv_iload_n hx hb dX3_voiceOf_1 rfl (lv_at hl 1 rfl) ?_
  refine rd_i (va_runV (As := [.int px]) (rest := []) ⟨hx, hb, hml, hown, hts⟩ (n_X3_isPerson l D cy a_g g_wide g_high g_drown g_wind g_hedges g_fountains g_people g_tellings g_reports a_g_kinds a_g_squares a_g_voices a_g_tellers a_g_listeners a_g_witnesses a_g_claims px _ ) (cwV 1 hts gX3_voiceOf_X3_isPerson rfl rfl rfl (by decide +kernel) ⟨Nat.le_of_ble_eq_true rfl, Nat.le_of_ble_eq_true rfl⟩) (pV (ci := 3) (k := 0) hKA (hP.sub (ws' := [(a_g, .inr (3, [.int g_wide, .int g_high, .int g_drown, .int g_wind, .long g_hedges, .long g_fountains, .int g_people, .int g_tellings, .int g_reports, .ref a_g_kinds, .ref a_g_squares, .ref a_g_voices, .ref a_g_tellers, .ref a_g_listeners, .ref a_g_witnesses, .ref a_g_claims]))]) [0] rfl) (hD.sub (ws' := [(a_g, .inr (3, [.int g_wide, .int g_high, .int g_drown, .int g_wind, .long g_hedges, .long g_fountains, .int g_people, .int g_tellings, .int g_reports, .ref a_g_kinds, .ref a_g_squares, .ref a_g_voices, .ref a_g_tellers, .ref a_g_listeners, .ref a_g_witnesses, .ref a_g_claims]))]) [0] (by decide) rfl) rfl rfl) rfl rfl hl.1 rfl (lv_room (Nat.le_of_ble_eq_true rfl)) dX3_voiceOf_2 ⟨Nat.le_of_ble_eq_true rfl, Nat.le_of_ble_eq_true rfl⟩) hP hS hA (fun r1 H locs hwr1 hP hS => ?_)
  have hwr1 : (r1 = 1 ∧ (0 ≤ px ∧ px < g_people ∧ px < 5)) ∨ (r1 = 0 ∧ True) := hwr1
  refine lv_if_eq (tgt := 17) hx hb dX3_voiceOf_5 (by decide) (fun c2 => ?_) (fun c2 => ?_)
  · skip
    refine lv_iconst (v := 0) hx hb dX3_voiceOf_17 (by decide) ?_
    subst hQF
    exact W.iret (v := 0) hx hb hr (fun t ht hW => ⟨⟨0, (), rfl, trivial, trivial⟩, hS.F ht⟩) hS.2.2 dX3_voiceOf_18
  · skip
    obtain ⟨hp3, hp4, hp5⟩ := z_b1 hwr1 c2
    refine lv_aload_n hx hb dX3_voiceOf_8 rfl (lv_at hl 0 rfl) ?_
    refine va_get (D := D) (ci := 3) (v := .ref a_g_voices) (C := RX3) (T := TX3) (N := 16) hx hb hts zi3_ hown hK hP 0 rfl rfl 11 (by decide) z0_ (fun _ h9 => h9) rfl dX3_voiceOf_9 ?_
    refine lv_iload_n hx hb dX3_voiceOf_12 rfl (lv_at hl 1 rfl) ?_
    refine my_iald hx hb hK hP 1 1 rfl rfl (by first | exact in_x (N := 5) (by decide) (by assumption) (by assumption) | exact in_y (N := 5) (by decide) (by assumption) (by assumption) | exact in_z (N := 5) (by decide) (by assumption) (by assumption)) rfl dX3_voiceOf_13 ?_
    refine lv_goto (tgt := 18) hx hb dX3_voiceOf_14 (by decide) ?_
    refine lv_topi (fun x6 ex6 => ?_)
    subst hQF
    exact W.iret (v := x6) hx hb hr (fun t ht hW => ⟨⟨x6, (), rfl, trivial, trivial⟩, hS.F ht⟩) hS.2.2 dX3_voiceOf_18

set_option maxHeartbeats 4000000 in
set_option maxRecDepth 100000 in
theorem n_X3_stand (l : Launch) (D : va_G) (cy : Nat → ClassId) (a_g : Nat) (g_wide : Int32) (g_high : Int32) (g_drown : Int32) (g_wind : Int32) (g_hedges : Int64) (g_fountains : Int64) (g_people : Int32) (g_tellings : Int32) (g_reports : Int32) (a_g_kinds : Nat) (a_g_squares : Nat) (a_g_voices : Nat) (a_g_tellers : Nat) (a_g_listeners : Nat) (a_g_witnesses : Nat) (a_g_claims : Nat) (g_squares_f : Nat → Int32) (px : Int32) (py : Int32) (sz : Nat)  : Met l yX3_stand wsX3_stand ({ frames := 1, cells := 0, slots := 0, locals := 21 }) (va_Pc [.ref a_g, .int px, .int py] (kPre D cy [(a_g, .inr (3, [.int g_wide, .int g_high, .int g_drown, .int g_wind, .long g_hedges, .long g_fountains, .int g_people, .int g_tellings, .int g_reports, .ref a_g_kinds, .ref a_g_squares, .ref a_g_voices, .ref a_g_tellers, .ref a_g_listeners, .ref a_g_witnesses, .ref a_g_claims])), (a_g_squares, .inl (cy 1, 5, .inl g_squares_f))] sz)) (va_Qv (fun (u : (Nat → Int32)) => True) (fun (u : (Nat → Int32)) t => va_P D vwCl ([(a_g, .inr (3, [.int g_wide, .int g_high, .int g_drown, .int g_wind, .long g_hedges, .long g_fountains, .int g_people, .int g_tellings, .int g_reports, .ref a_g_kinds, .ref a_g_squares, .ref a_g_voices, .ref a_g_tellers, .ref a_g_listeners, .ref a_g_witnesses, .ref a_g_claims])), (a_g_squares, .inl (cy 1, 5, .inl u))]) t.heap ∧ va_D (va_A [(a_g, .inr (3, [.int g_wide, .int g_high, .int g_drown, .int g_wind, .long g_hedges, .long g_fountains, .int g_people, .int g_tellings, .int g_reports, .ref a_g_kinds, .ref a_g_squares, .ref a_g_voices, .ref a_g_tellers, .ref a_g_listeners, .ref a_g_witnesses, .ref a_g_claims])), (a_g_squares, .inl (cy 1, 5, .inl g_squares_f))] sz) ([(a_g, .inr (3, [.int g_wide, .int g_high, .int g_drown, .int g_wind, .long g_hedges, .long g_fountains, .int g_people, .int g_tellings, .int g_reports, .ref a_g_kinds, .ref a_g_squares, .ref a_g_voices, .ref a_g_tellers, .ref a_g_listeners, .ref a_g_witnesses, .ref a_g_claims])), (a_g_squares, .inl (cy 1, 5, .inl u))])) (va_A [(a_g, .inr (3, [.int g_wide, .int g_high, .int g_drown, .int g_wind, .long g_hedges, .long g_fountains, .int g_people, .int g_tellings, .int g_reports, .ref a_g_kinds, .ref a_g_squares, .ref a_g_voices, .ref a_g_tellers, .ref a_g_listeners, .ref a_g_witnesses, .ref a_g_claims])), (a_g_squares, .inl (cy 1, 5, .inl g_squares_f))] sz)) 0 0 (va_A [(a_g, .inr (3, [.int g_wide, .int g_high, .int g_drown, .int g_wind, .long g_hedges, .long g_fountains, .int g_people, .int g_tellings, .int g_reports, .ref a_g_kinds, .ref a_g_squares, .ref a_g_voices, .ref a_g_tellers, .ref a_g_listeners, .ref a_g_witnesses, .ref a_g_claims])), (a_g_squares, .inl (cy 1, 5, .inl g_squares_f))] sz) := by
  refine Met.ofW (cc := cX3_stand) (maxL := 3) (ret := none) (by decide) rfl ?_
  intro p e s m args below meth c s₁ B hml hv
  obtain ⟨rfl, hsz, hP, hKA, hD0⟩ := hv
  have hx := B.exec
  have hb := B.bytes
  have hr := B.returns
  have hts := atoms_spec (ws := wsX3_stand) B.pre
  have hown : s.vm.findClass RX3 = some m.cls := findClass_of_methodNamed B.named
  have hlocks := B.notSynchronized
  subst hsz
  have hK := hKA.1
  have hD := hD0.self (sz := s.heap.size)
  generalize hAe : va_A [(a_g, .inr (3, [.int g_wide, .int g_high, .int g_drown, .int g_wind, .long g_hedges, .long g_fountains, .int g_people, .int g_tellings, .int g_reports, .ref a_g_kinds, .ref a_g_squares, .ref a_g_voices, .ref a_g_tellers, .ref a_g_listeners, .ref a_g_witnesses, .ref a_g_claims])), (a_g_squares, .inl (cy 1, 5, .inl g_squares_f))] s.heap.size = A at hD ⊢
  have hA : ∀ q : Nat, s.heap.size ≤ q → A q := fun q h => by rw [← hAe]; exact Or.inr h
  have hS : va_S A s.heap s.heap [] := va_S.rf
  have hP : va_P D vwCl [(a_g, .inr (3, [.int g_wide, .int g_high, .int g_drown, .int g_wind, .long g_hedges, .long g_fountains, .int g_people, .int g_tellings, .int g_reports, .ref a_g_kinds, .ref a_g_squares, .ref a_g_voices, .ref a_g_tellers, .ref a_g_listeners, .ref a_g_witnesses, .ref a_g_claims])), (a_g_squares, .inl (cy 1, 5, .inl g_squares_f))] s.heap := hP
  have hl := lv_entry ([.ref a_g, .int px, .int py]) (n := 3) (Nat.le_of_ble_eq_true rfl)
  rw [lg_entry_eq]
  generalize (lg_sl ([.ref a_g, .int px, .int py]) ++ List.replicate (3 - (lg_sl ([.ref a_g, .int px, .int py])).length) Slot.unset).toArray = ls at hl ⊢
  have hl : lv_has ls 3 [(0, .ref a_g), (1, .int px), (2, .int py)] := hl
  refine qW (fun QF hQF => ?_)
  have z0_ := hts (.fieldLink RX3 15 "HeardSeen$Garden" "squares" "[I") (by decide +kernel)
  have zi3_ : ∀ w ∈ u_ws RX3 TX3 16, w ∈ wsX3_stand := by decide +kernel
  refine lv_aload_n hx hb dX3_stand_0 rfl (lv_at hl 0 rfl) ?_
  refine lv_iload_n hx hb dX3_stand_1 rfl (lv_at hl 1 rfl) ?_
  refine rd_i (va_runV (As := [.int px]) (rest := []) ⟨hx, hb, hml, hown, hts⟩ (n_X3_isPerson l D cy a_g g_wide g_high g_drown g_wind g_hedges g_fountains g_people g_tellings g_reports a_g_kinds a_g_squares a_g_voices a_g_tellers a_g_listeners a_g_witnesses a_g_claims px _ ) (cwV 1 hts gX3_stand_X3_isPerson rfl rfl rfl (by decide +kernel) ⟨Nat.le_of_ble_eq_true rfl, Nat.le_of_ble_eq_true rfl⟩) (pV (ci := 3) (k := 0) hKA (hP.sub (ws' := [(a_g, .inr (3, [.int g_wide, .int g_high, .int g_drown, .int g_wind, .long g_hedges, .long g_fountains, .int g_people, .int g_tellings, .int g_reports, .ref a_g_kinds, .ref a_g_squares, .ref a_g_voices, .ref a_g_tellers, .ref a_g_listeners, .ref a_g_witnesses, .ref a_g_claims]))]) [0] rfl) (hD.sub (ws' := [(a_g, .inr (3, [.int g_wide, .int g_high, .int g_drown, .int g_wind, .long g_hedges, .long g_fountains, .int g_people, .int g_tellings, .int g_reports, .ref a_g_kinds, .ref a_g_squares, .ref a_g_voices, .ref a_g_tellers, .ref a_g_listeners, .ref a_g_witnesses, .ref a_g_claims]))]) [0] (by decide) rfl) rfl rfl) rfl rfl hl.1 rfl (lv_room (Nat.le_of_ble_eq_true rfl)) dX3_stand_2 ⟨Nat.le_of_ble_eq_true rfl, Nat.le_of_ble_eq_true rfl⟩) hP hS hA (fun r1 H locs hwr1 hP hS => ?_)
  have hwr1 : (r1 = 1 ∧ (0 ≤ px ∧ px < g_people ∧ px < 5)) ∨ (r1 = 0 ∧ True) := hwr1
  refine lv_if_eq (tgt := 15) hx hb dX3_stand_5 (by decide) (fun c2 => ?_) (fun c2 => ?_)
  · skip
    subst hQF
    have hP9 := hP
    have hD9 := hD
    exact W.vret hx hb hr (fun t ht hW => ⟨⟨g_squares_f, rfl, trivial, by rw [ht]; exact hP9, hD9⟩, hS.F ht⟩) hS.2.2 dX3_stand_15
  · skip
    obtain ⟨hp3, hp4, hp5⟩ := z_b1 hwr1 c2
    refine lv_aload_n hx hb dX3_stand_8 rfl (lv_at hl 0 rfl) ?_
    refine va_get (D := D) (ci := 3) (v := .ref a_g_squares) (C := RX3) (T := TX3) (N := 16) hx hb hts zi3_ hown hK hP 0 rfl rfl 10 (by decide) z0_ (fun _ h9 => h9) rfl dX3_stand_9 ?_
    refine lv_iload_n hx hb dX3_stand_12 rfl (lv_at hl 1 rfl) ?_
    refine lv_iload_n hx hb dX3_stand_13 rfl (lv_at hl 2 rfl) ?_
    refine my_iast hx hb hK hP hD hS 1 1 rfl rfl (by first | exact in_x (N := 5) (by decide) (by assumption) (by assumption) | exact in_y (N := 5) (by decide) (by assumption) (by assumption) | exact in_z (N := 5) (by decide) (by assumption) (by assumption)) rfl dX3_stand_14 (fun H locs hP hD hS => ?_)
    have hP : va_P D vwCl [(a_g, .inr (3, [.int g_wide, .int g_high, .int g_drown, .int g_wind, .long g_hedges, .long g_fountains, .int g_people, .int g_tellings, .int g_reports, .ref a_g_kinds, .ref a_g_squares, .ref a_g_voices, .ref a_g_tellers, .ref a_g_listeners, .ref a_g_witnesses, .ref a_g_claims])), (a_g_squares, .inl (cy 1, 5, .inl (upd g_squares_f (px : Int32).toNatClampNeg py)))] H := hP
    have hD : va_D A [(a_g, .inr (3, [.int g_wide, .int g_high, .int g_drown, .int g_wind, .long g_hedges, .long g_fountains, .int g_people, .int g_tellings, .int g_reports, .ref a_g_kinds, .ref a_g_squares, .ref a_g_voices, .ref a_g_tellers, .ref a_g_listeners, .ref a_g_witnesses, .ref a_g_claims])), (a_g_squares, .inl (cy 1, 5, .inl (upd g_squares_f (px : Int32).toNatClampNeg py)))] := hD
    subst hQF
    have hP9 := hP
    have hD9 := hD
    exact W.vret hx hb hr (fun t ht hW => ⟨⟨(upd g_squares_f (px : Int32).toNatClampNeg py), rfl, trivial, by rw [ht]; exact hP9, hD9⟩, hS.F ht⟩) hS.2.2 dX3_stand_15

set_option maxHeartbeats 4000000 in
set_option maxRecDepth 100000 in
theorem n_X3_become (l : Launch) (D : va_G) (cy : Nat → ClassId) (a_g : Nat) (g_wide : Int32) (g_high : Int32) (g_drown : Int32) (g_wind : Int32) (g_hedges : Int64) (g_fountains : Int64) (g_people : Int32) (g_tellings : Int32) (g_reports : Int32) (a_g_kinds : Nat) (a_g_squares : Nat) (a_g_voices : Nat) (a_g_tellers : Nat) (a_g_listeners : Nat) (a_g_witnesses : Nat) (a_g_claims : Nat) (g_kinds_f : Nat → Int32) (px : Int32) (py : Int32) (sz : Nat)  : Met l yX3_become wsX3_become ({ frames := 1, cells := 0, slots := 0, locals := 21 }) (va_Pc [.ref a_g, .int px, .int py] (kPre D cy [(a_g, .inr (3, [.int g_wide, .int g_high, .int g_drown, .int g_wind, .long g_hedges, .long g_fountains, .int g_people, .int g_tellings, .int g_reports, .ref a_g_kinds, .ref a_g_squares, .ref a_g_voices, .ref a_g_tellers, .ref a_g_listeners, .ref a_g_witnesses, .ref a_g_claims])), (a_g_kinds, .inl (cy 1, 5, .inl g_kinds_f))] sz)) (va_Qv (fun (u : (Nat → Int32)) => True) (fun (u : (Nat → Int32)) t => va_P D vwCl ([(a_g, .inr (3, [.int g_wide, .int g_high, .int g_drown, .int g_wind, .long g_hedges, .long g_fountains, .int g_people, .int g_tellings, .int g_reports, .ref a_g_kinds, .ref a_g_squares, .ref a_g_voices, .ref a_g_tellers, .ref a_g_listeners, .ref a_g_witnesses, .ref a_g_claims])), (a_g_kinds, .inl (cy 1, 5, .inl u))]) t.heap ∧ va_D (va_A [(a_g, .inr (3, [.int g_wide, .int g_high, .int g_drown, .int g_wind, .long g_hedges, .long g_fountains, .int g_people, .int g_tellings, .int g_reports, .ref a_g_kinds, .ref a_g_squares, .ref a_g_voices, .ref a_g_tellers, .ref a_g_listeners, .ref a_g_witnesses, .ref a_g_claims])), (a_g_kinds, .inl (cy 1, 5, .inl g_kinds_f))] sz) ([(a_g, .inr (3, [.int g_wide, .int g_high, .int g_drown, .int g_wind, .long g_hedges, .long g_fountains, .int g_people, .int g_tellings, .int g_reports, .ref a_g_kinds, .ref a_g_squares, .ref a_g_voices, .ref a_g_tellers, .ref a_g_listeners, .ref a_g_witnesses, .ref a_g_claims])), (a_g_kinds, .inl (cy 1, 5, .inl u))])) (va_A [(a_g, .inr (3, [.int g_wide, .int g_high, .int g_drown, .int g_wind, .long g_hedges, .long g_fountains, .int g_people, .int g_tellings, .int g_reports, .ref a_g_kinds, .ref a_g_squares, .ref a_g_voices, .ref a_g_tellers, .ref a_g_listeners, .ref a_g_witnesses, .ref a_g_claims])), (a_g_kinds, .inl (cy 1, 5, .inl g_kinds_f))] sz)) 0 0 (va_A [(a_g, .inr (3, [.int g_wide, .int g_high, .int g_drown, .int g_wind, .long g_hedges, .long g_fountains, .int g_people, .int g_tellings, .int g_reports, .ref a_g_kinds, .ref a_g_squares, .ref a_g_voices, .ref a_g_tellers, .ref a_g_listeners, .ref a_g_witnesses, .ref a_g_claims])), (a_g_kinds, .inl (cy 1, 5, .inl g_kinds_f))] sz) := by
  refine Met.ofW (cc := cX3_become) (maxL := 3) (ret := none) (by decide) rfl ?_
  intro p e s m args below meth c s₁ B hml hv
  obtain ⟨rfl, hsz, hP, hKA, hD0⟩ := hv
  have hx := B.exec
  have hb := B.bytes
  have hr := B.returns
  have hts := atoms_spec (ws := wsX3_become) B.pre
  have hown : s.vm.findClass RX3 = some m.cls := findClass_of_methodNamed B.named
  have hlocks := B.notSynchronized
  subst hsz
  have hK := hKA.1
  have hD := hD0.self (sz := s.heap.size)
  generalize hAe : va_A [(a_g, .inr (3, [.int g_wide, .int g_high, .int g_drown, .int g_wind, .long g_hedges, .long g_fountains, .int g_people, .int g_tellings, .int g_reports, .ref a_g_kinds, .ref a_g_squares, .ref a_g_voices, .ref a_g_tellers, .ref a_g_listeners, .ref a_g_witnesses, .ref a_g_claims])), (a_g_kinds, .inl (cy 1, 5, .inl g_kinds_f))] s.heap.size = A at hD ⊢
  have hA : ∀ q : Nat, s.heap.size ≤ q → A q := fun q h => by rw [← hAe]; exact Or.inr h
  have hS : va_S A s.heap s.heap [] := va_S.rf
  have hP : va_P D vwCl [(a_g, .inr (3, [.int g_wide, .int g_high, .int g_drown, .int g_wind, .long g_hedges, .long g_fountains, .int g_people, .int g_tellings, .int g_reports, .ref a_g_kinds, .ref a_g_squares, .ref a_g_voices, .ref a_g_tellers, .ref a_g_listeners, .ref a_g_witnesses, .ref a_g_claims])), (a_g_kinds, .inl (cy 1, 5, .inl g_kinds_f))] s.heap := hP
  have hl := lv_entry ([.ref a_g, .int px, .int py]) (n := 3) (Nat.le_of_ble_eq_true rfl)
  rw [lg_entry_eq]
  generalize (lg_sl ([.ref a_g, .int px, .int py]) ++ List.replicate (3 - (lg_sl ([.ref a_g, .int px, .int py])).length) Slot.unset).toArray = ls at hl ⊢
  have hl : lv_has ls 3 [(0, .ref a_g), (1, .int px), (2, .int py)] := hl
  refine qW (fun QF hQF => ?_)
  have z0_ := hts (.fieldLink RX3 9 "HeardSeen$Garden" "kinds" "[I") (by decide +kernel)
  have zi3_ : ∀ w ∈ u_ws RX3 TX3 16, w ∈ wsX3_become := by decide +kernel
  refine lv_aload_n hx hb dX3_become_0 rfl (lv_at hl 0 rfl) ?_
  refine lv_iload_n hx hb dX3_become_1 rfl (lv_at hl 1 rfl) ?_
  refine rd_i (va_runV (As := [.int px]) (rest := []) ⟨hx, hb, hml, hown, hts⟩ (n_X3_isPerson l D cy a_g g_wide g_high g_drown g_wind g_hedges g_fountains g_people g_tellings g_reports a_g_kinds a_g_squares a_g_voices a_g_tellers a_g_listeners a_g_witnesses a_g_claims px _ ) (cwV 1 hts gX3_become_X3_isPerson rfl rfl rfl (by decide +kernel) ⟨Nat.le_of_ble_eq_true rfl, Nat.le_of_ble_eq_true rfl⟩) (pV (ci := 3) (k := 0) hKA (hP.sub (ws' := [(a_g, .inr (3, [.int g_wide, .int g_high, .int g_drown, .int g_wind, .long g_hedges, .long g_fountains, .int g_people, .int g_tellings, .int g_reports, .ref a_g_kinds, .ref a_g_squares, .ref a_g_voices, .ref a_g_tellers, .ref a_g_listeners, .ref a_g_witnesses, .ref a_g_claims]))]) [0] rfl) (hD.sub (ws' := [(a_g, .inr (3, [.int g_wide, .int g_high, .int g_drown, .int g_wind, .long g_hedges, .long g_fountains, .int g_people, .int g_tellings, .int g_reports, .ref a_g_kinds, .ref a_g_squares, .ref a_g_voices, .ref a_g_tellers, .ref a_g_listeners, .ref a_g_witnesses, .ref a_g_claims]))]) [0] (by decide) rfl) rfl rfl) rfl rfl hl.1 rfl (lv_room (Nat.le_of_ble_eq_true rfl)) dX3_become_2 ⟨Nat.le_of_ble_eq_true rfl, Nat.le_of_ble_eq_true rfl⟩) hP hS hA (fun r1 H locs hwr1 hP hS => ?_)
  have hwr1 : (r1 = 1 ∧ (0 ≤ px ∧ px < g_people ∧ px < 5)) ∨ (r1 = 0 ∧ True) := hwr1
  refine lv_if_eq (tgt := 15) hx hb dX3_become_5 (by decide) (fun c2 => ?_) (fun c2 => ?_)
  · skip
    subst hQF
    have hP9 := hP
    have hD9 := hD
    exact W.vret hx hb hr (fun t ht hW => ⟨⟨g_kinds_f, rfl, trivial, by rw [ht]; exact hP9, hD9⟩, hS.F ht⟩) hS.2.2 dX3_become_15
  · skip
    obtain ⟨hp3, hp4, hp5⟩ := z_b1 hwr1 c2
    refine lv_aload_n hx hb dX3_become_8 rfl (lv_at hl 0 rfl) ?_
    refine va_get (D := D) (ci := 3) (v := .ref a_g_kinds) (C := RX3) (T := TX3) (N := 16) hx hb hts zi3_ hown hK hP 0 rfl rfl 9 (by decide) z0_ (fun _ h9 => h9) rfl dX3_become_9 ?_
    refine lv_iload_n hx hb dX3_become_12 rfl (lv_at hl 1 rfl) ?_
    refine lv_iload_n hx hb dX3_become_13 rfl (lv_at hl 2 rfl) ?_
    refine my_iast hx hb hK hP hD hS 1 1 rfl rfl (by first | exact in_x (N := 5) (by decide) (by assumption) (by assumption) | exact in_y (N := 5) (by decide) (by assumption) (by assumption) | exact in_z (N := 5) (by decide) (by assumption) (by assumption)) rfl dX3_become_14 (fun H locs hP hD hS => ?_)
    have hP : va_P D vwCl [(a_g, .inr (3, [.int g_wide, .int g_high, .int g_drown, .int g_wind, .long g_hedges, .long g_fountains, .int g_people, .int g_tellings, .int g_reports, .ref a_g_kinds, .ref a_g_squares, .ref a_g_voices, .ref a_g_tellers, .ref a_g_listeners, .ref a_g_witnesses, .ref a_g_claims])), (a_g_kinds, .inl (cy 1, 5, .inl (upd g_kinds_f (px : Int32).toNatClampNeg py)))] H := hP
    have hD : va_D A [(a_g, .inr (3, [.int g_wide, .int g_high, .int g_drown, .int g_wind, .long g_hedges, .long g_fountains, .int g_people, .int g_tellings, .int g_reports, .ref a_g_kinds, .ref a_g_squares, .ref a_g_voices, .ref a_g_tellers, .ref a_g_listeners, .ref a_g_witnesses, .ref a_g_claims])), (a_g_kinds, .inl (cy 1, 5, .inl (upd g_kinds_f (px : Int32).toNatClampNeg py)))] := hD
    subst hQF
    have hP9 := hP
    have hD9 := hD
    exact W.vret hx hb hr (fun t ht hW => ⟨⟨(upd g_kinds_f (px : Int32).toNatClampNeg py), rfl, trivial, by rw [ht]; exact hP9, hD9⟩, hS.F ht⟩) hS.2.2 dX3_become_15

set_option maxHeartbeats 4000000 in
set_option maxRecDepth 100000 in
theorem n_X3_has (l : Launch) (D : va_G) (cy : Nat → ClassId) (a_g : Nat) (g_wide : Int32) (g_high : Int32) (g_drown : Int32) (g_wind : Int32) (g_hedges : Int64) (g_fountains : Int64) (g_people : Int32) (g_tellings : Int32) (g_reports : Int32) (a_g_kinds : Nat) (a_g_squares : Nat) (a_g_voices : Nat) (a_g_tellers : Nat) (a_g_listeners : Nat) (a_g_witnesses : Nat) (a_g_claims : Nat) (px : Int32) (py : Int32) (sz : Nat)  : Met l yX3_has wsX3_has ({ frames := 1, cells := 0, slots := 0, locals := 22 }) (va_Pc [.ref a_g, .int px, .int py] (kPre D cy [(a_g, .inr (3, [.int g_wide, .int g_high, .int g_drown, .int g_wind, .long g_hedges, .long g_fountains, .int g_people, .int g_tellings, .int g_reports, .ref a_g_kinds, .ref a_g_squares, .ref a_g_voices, .ref a_g_tellers, .ref a_g_listeners, .ref a_g_witnesses, .ref a_g_claims]))] sz)) (va_Qi (fun (r : Int32) (u : Unit) => (r = 1 ∧ True) ∨ (r = 0 ∧ True)) (fun _ _ => True) (fun q : Nat => sz ≤ q)) 0 0 (fun q : Nat => sz ≤ q) := by
  refine Met.ofW (cc := cX3_has) (maxL := 3) (ret := (some .boolean)) (by decide) rfl ?_
  intro p e s m args below meth c s₁ B hml hv
  obtain ⟨rfl, hsz, hP, hKA, hD0⟩ := hv
  have hx := B.exec
  have hb := B.bytes
  have hr := B.returns
  have hts := atoms_spec (ws := wsX3_has) B.pre
  have hown : s.vm.findClass RX3 = some m.cls := findClass_of_methodNamed B.named
  have hlocks := B.notSynchronized
  subst hsz
  have hK := hKA.1
  have hD := hD0
  generalize hAe : (fun q : Nat => s.heap.size ≤ q) = A
  have hA : ∀ q : Nat, s.heap.size ≤ q → A q := fun q h => by rw [← hAe]; exact h
  have hS : va_S A s.heap s.heap [] := va_S.rf
  have hP : va_P D vwCl [(a_g, .inr (3, [.int g_wide, .int g_high, .int g_drown, .int g_wind, .long g_hedges, .long g_fountains, .int g_people, .int g_tellings, .int g_reports, .ref a_g_kinds, .ref a_g_squares, .ref a_g_voices, .ref a_g_tellers, .ref a_g_listeners, .ref a_g_witnesses, .ref a_g_claims]))] s.heap := hP
  have hl := lv_entry ([.ref a_g, .int px, .int py]) (n := 3) (Nat.le_of_ble_eq_true rfl)
  rw [lg_entry_eq]
  generalize (lg_sl ([.ref a_g, .int px, .int py]) ++ List.replicate (3 - (lg_sl ([.ref a_g, .int px, .int py])).length) Slot.unset).toArray = ls at hl ⊢
  have hl : lv_has ls 3 [(0, .ref a_g), (1, .int px), (2, .int py)] := hl
  refine qW (fun QF hQF => ?_)
  have z0_ := hts (.fieldLink RX3 50 "HeardSeen$Garden" "fountains" "J") (by decide +kernel)
  have zi3_ : ∀ w ∈ u_ws RX3 TX3 16, w ∈ wsX3_has := by decide +kernel
  have z2_ := hts (.fieldLink RX3 46 "HeardSeen$Garden" "hedges" "J") (by decide +kernel)
  have z3_ := hts (.initialized RX10) (by decide +kernel)
  have z4_ := hts (.static yX10_isOn) (by decide +kernel)
  refine lv_iload_n hx hb dX3_has_0 rfl (lv_at hl 1 rfl) ?_
  have j15 : ∀ (s1_15 : Int64) (H : Heap) (locs : List Loc), va_P D vwCl [(a_g, .inr (3, [.int g_wide, .int g_high, .int g_drown, .int g_wind, .long g_hedges, .long g_fountains, .int g_people, .int g_tellings, .int g_reports, .ref a_g_kinds, .ref a_g_squares, .ref a_g_voices, .ref a_g_tellers, .ref a_g_listeners, .ref a_g_witnesses, .ref a_g_claims]))] H → va_D (fun _ => True) [(a_g, .inr (3, [.int g_wide, .int g_high, .int g_drown, .int g_wind, .long g_hedges, .long g_fountains, .int g_people, .int g_tellings, .int g_reports, .ref a_g_kinds, .ref a_g_squares, .ref a_g_voices, .ref a_g_tellers, .ref a_g_listeners, .ref a_g_witnesses, .ref a_g_claims]))] → va_S A s.heap H locs → ∀ ls : Array Slot, lv_has ls 3 [(0, .ref a_g), (1, .int px), (2, .int py)] → W p l e (headSpec wsX3_has ({ frames := 1, cells := 0, slots := 0, locals := 22 })).room s m [.ref a_g, .int px, .int py].toArray below meth c H locs 0 0 QF (F0 m 15 ls [.long s1_15]) := by
    intro s1_15 H locs hP hD hS ls hl
    refine lv_iload_n hx hb dX3_has_15 rfl (lv_at hl 2 rfl) ?_
    refine rd_i (va_runSN (As := [.long s1_15, .int py]) (rest := []) ⟨hx, hb, hml, hown, hts⟩ (n_X10_isOn l D cy s1_15 py _ ) ⟨(va_cnB 2 hts gX3_has_X10_isOn_n76 rfl rfl rfl (hKA.2 (.methodLinkNest RX3 76 yX10_isOn RX10) (by decide +kernel)) z3_ (by decide +kernel) ⟨Nat.le_of_ble_eq_true rfl, Nat.le_of_ble_eq_true rfl⟩), z4_, trivial⟩ (pS hKA pE (dE (A := A))) rfl rfl hl.1 rfl (lv_room (Nat.le_of_ble_eq_true rfl)) dX3_has_16 ⟨Nat.le_of_ble_eq_true rfl, Nat.le_of_ble_eq_true rfl⟩) hP hS hA (fun r1 H locs hwr1 hP hS => ?_)
    have hwr1 : (r1 = 1 ∧ True) ∨ (r1 = 0 ∧ True) := hwr1
    subst hQF
    exact W.zret (v := r1) hx hb hr (z_bn hwr1) (fun t ht hW => ⟨⟨r1, (), rfl, (z_bt hwr1), trivial⟩, hS.F ht⟩) hS.2.2 dX3_has_19
  refine lv_if_ne (tgt := 11) hx hb dX3_has_1 (by decide) (fun c2 => ?_) (fun c2 => ?_)
  · skip
    refine lv_aload_n hx hb dX3_has_11 rfl (lv_at hl 0 rfl) ?_
    refine va_get (D := D) (ci := 3) (v := .long g_fountains) (C := RX3) (T := TX3) (N := 16) hx hb hts zi3_ hown hK hP 0 rfl rfl 5 (by decide) z0_ (fun _ h9 => h9) rfl dX3_has_12 ?_
    exact j15 g_fountains _ _ hP hD hS ls hl
  · skip
    refine lv_aload_n hx hb dX3_has_4 rfl (lv_at hl 0 rfl) ?_
    refine va_get (D := D) (ci := 3) (v := .long g_hedges) (C := RX3) (T := TX3) (N := 16) hx hb hts zi3_ hown hK hP 0 rfl rfl 4 (by decide) z2_ (fun _ h9 => h9) rfl dX3_has_5 ?_
    refine lv_goto (tgt := 15) hx hb dX3_has_8 (by decide) ?_
    exact j15 g_hedges _ _ hP hD hS ls hl

set_option maxHeartbeats 4000000 in
set_option maxRecDepth 100000 in
theorem n_X3_turn (l : Launch) (D : va_G) (cy : Nat → ClassId) (a_g : Nat) (g_wide : Int32) (g_high : Int32) (g_drown : Int32) (g_wind : Int32) (g_hedges : Int64) (g_fountains : Int64) (g_people : Int32) (g_tellings : Int32) (g_reports : Int32) (a_g_kinds : Nat) (a_g_squares : Nat) (a_g_voices : Nat) (a_g_tellers : Nat) (a_g_listeners : Nat) (a_g_witnesses : Nat) (a_g_claims : Nat) (px : Int32) (py : Int32) (sz : Nat)  : Met l yX3_turn wsX3_turn ({ frames := 0, cells := 0, slots := 0, locals := 0 }) (va_Pc [.ref a_g, .int px, .int py] (kPre D cy [(a_g, .inr (3, [.int g_wide, .int g_high, .int g_drown, .int g_wind, .long g_hedges, .long g_fountains, .int g_people, .int g_tellings, .int g_reports, .ref a_g_kinds, .ref a_g_squares, .ref a_g_voices, .ref a_g_tellers, .ref a_g_listeners, .ref a_g_witnesses, .ref a_g_claims]))] sz)) (va_Qv (fun (u : Int64 × Int64) => True) (fun (u : Int64 × Int64) t => va_P D vwCl ([(a_g, .inr (3, [.int g_wide, .int g_high, .int g_drown, .int g_wind, .long u.1, .long u.2, .int g_people, .int g_tellings, .int g_reports, .ref a_g_kinds, .ref a_g_squares, .ref a_g_voices, .ref a_g_tellers, .ref a_g_listeners, .ref a_g_witnesses, .ref a_g_claims]))]) t.heap ∧ va_D (va_A [(a_g, .inr (3, [.int g_wide, .int g_high, .int g_drown, .int g_wind, .long g_hedges, .long g_fountains, .int g_people, .int g_tellings, .int g_reports, .ref a_g_kinds, .ref a_g_squares, .ref a_g_voices, .ref a_g_tellers, .ref a_g_listeners, .ref a_g_witnesses, .ref a_g_claims]))] sz) ([(a_g, .inr (3, [.int g_wide, .int g_high, .int g_drown, .int g_wind, .long u.1, .long u.2, .int g_people, .int g_tellings, .int g_reports, .ref a_g_kinds, .ref a_g_squares, .ref a_g_voices, .ref a_g_tellers, .ref a_g_listeners, .ref a_g_witnesses, .ref a_g_claims]))])) (va_A [(a_g, .inr (3, [.int g_wide, .int g_high, .int g_drown, .int g_wind, .long g_hedges, .long g_fountains, .int g_people, .int g_tellings, .int g_reports, .ref a_g_kinds, .ref a_g_squares, .ref a_g_voices, .ref a_g_tellers, .ref a_g_listeners, .ref a_g_witnesses, .ref a_g_claims]))] sz)) 0 0 (va_A [(a_g, .inr (3, [.int g_wide, .int g_high, .int g_drown, .int g_wind, .long g_hedges, .long g_fountains, .int g_people, .int g_tellings, .int g_reports, .ref a_g_kinds, .ref a_g_squares, .ref a_g_voices, .ref a_g_tellers, .ref a_g_listeners, .ref a_g_witnesses, .ref a_g_claims]))] sz) := by
  refine Met.ofW (cc := cX3_turn) (maxL := 3) (ret := none) (by decide) rfl ?_
  intro p e s m args below meth c s₁ B hml hv
  obtain ⟨rfl, hsz, hP, hKA, hD0⟩ := hv
  have hx := B.exec
  have hb := B.bytes
  have hr := B.returns
  have hts := atoms_spec (ws := wsX3_turn) B.pre
  have hown : s.vm.findClass RX3 = some m.cls := findClass_of_methodNamed B.named
  have hlocks := B.notSynchronized
  subst hsz
  have hK := hKA.1
  have hD := hD0.self (sz := s.heap.size)
  generalize hAe : va_A [(a_g, .inr (3, [.int g_wide, .int g_high, .int g_drown, .int g_wind, .long g_hedges, .long g_fountains, .int g_people, .int g_tellings, .int g_reports, .ref a_g_kinds, .ref a_g_squares, .ref a_g_voices, .ref a_g_tellers, .ref a_g_listeners, .ref a_g_witnesses, .ref a_g_claims]))] s.heap.size = A at hD ⊢
  have hA : ∀ q : Nat, s.heap.size ≤ q → A q := fun q h => by rw [← hAe]; exact Or.inr h
  have hS : va_S A s.heap s.heap [] := va_S.rf
  have hP : va_P D vwCl [(a_g, .inr (3, [.int g_wide, .int g_high, .int g_drown, .int g_wind, .long g_hedges, .long g_fountains, .int g_people, .int g_tellings, .int g_reports, .ref a_g_kinds, .ref a_g_squares, .ref a_g_voices, .ref a_g_tellers, .ref a_g_listeners, .ref a_g_witnesses, .ref a_g_claims]))] s.heap := hP
  have hl := lv_entry ([.ref a_g, .int px, .int py]) (n := 3) (Nat.le_of_ble_eq_true rfl)
  rw [lg_entry_eq]
  generalize (lg_sl ([.ref a_g, .int px, .int py]) ++ List.replicate (3 - (lg_sl ([.ref a_g, .int px, .int py])).length) Slot.unset).toArray = ls at hl ⊢
  have hl : lv_has ls 3 [(0, .ref a_g), (1, .int px), (2, .int py)] := hl
  refine qW (fun QF hQF => ?_)
  have z0_ := hts (.fieldLink RX3 50 "HeardSeen$Garden" "fountains" "J") (by decide +kernel)
  have zi3_ : ∀ w ∈ u_ws RX3 TX3 16, w ∈ wsX3_turn := by decide +kernel
  have z2_ := hts (.fieldLink RX3 46 "HeardSeen$Garden" "hedges" "J") (by decide +kernel)
  refine lv_iload_n hx hb dX3_turn_0 rfl (lv_at hl 1 rfl) ?_
  refine lv_if_ne (tgt := 19) hx hb dX3_turn_1 (by decide) (fun c1 => ?_) (fun c1 => ?_)
  · skip
    refine lv_aload_n hx hb dX3_turn_19 rfl (lv_at hl 0 rfl) ?_
    refine lv_dup hx hb dX3_turn_20 rfl ?_
    refine va_get (D := D) (ci := 3) (v := .long g_fountains) (C := RX3) (T := TX3) (N := 16) hx hb hts zi3_ hown hK hP 0 rfl rfl 5 (by decide) z0_ (fun _ h9 => h9) rfl dX3_turn_21 ?_
    refine lv_lconst (v := 1) hx hb dX3_turn_24 (by decide) ?_
    refine lv_iload_n hx hb dX3_turn_25 rfl (lv_at hl 2 rfl) ?_
    refine lv_lshl hx hb dX3_turn_26 rfl ?_
    refine lv_lxor hx hb dX3_turn_27 ?_
    refine lv_topl (fun x2 ex2 => ?_)
    refine va_put (D := D) (ci := 3) (v := .long x2) (ty := .long) (C := RX3) (T := TX3) (N := 16) hx hb hts zi3_ tyX3 tyX3_ok nmX3 hown hK hP hD hS 0 rfl rfl 5 (by decide) z0_ (fun _ h9 => h9) rfl (by decide +kernel) rfl rfl (Nat.le_of_ble_eq_true rfl) dX3_turn_28 (fun H locs hP hD hS => ?_)
    have hP : va_P D vwCl [(a_g, .inr (3, [.int g_wide, .int g_high, .int g_drown, .int g_wind, .long g_hedges, .long x2, .int g_people, .int g_tellings, .int g_reports, .ref a_g_kinds, .ref a_g_squares, .ref a_g_voices, .ref a_g_tellers, .ref a_g_listeners, .ref a_g_witnesses, .ref a_g_claims]))] H := hP
    have hD : va_D A [(a_g, .inr (3, [.int g_wide, .int g_high, .int g_drown, .int g_wind, .long g_hedges, .long x2, .int g_people, .int g_tellings, .int g_reports, .ref a_g_kinds, .ref a_g_squares, .ref a_g_voices, .ref a_g_tellers, .ref a_g_listeners, .ref a_g_witnesses, .ref a_g_claims]))] := hD
    subst hQF
    have hP9 := hP
    have hD9 := hD
    exact W.vret hx hb hr (fun t ht hW => ⟨⟨(g_hedges, x2), rfl, trivial, by rw [ht]; exact hP9, hD9⟩, hS.F ht⟩) hS.2.2 dX3_turn_31
  · skip
    refine lv_aload_n hx hb dX3_turn_4 rfl (lv_at hl 0 rfl) ?_
    refine lv_dup hx hb dX3_turn_5 rfl ?_
    refine va_get (D := D) (ci := 3) (v := .long g_hedges) (C := RX3) (T := TX3) (N := 16) hx hb hts zi3_ hown hK hP 0 rfl rfl 4 (by decide) z2_ (fun _ h9 => h9) rfl dX3_turn_6 ?_
    refine lv_lconst (v := 1) hx hb dX3_turn_9 (by decide) ?_
    refine lv_iload_n hx hb dX3_turn_10 rfl (lv_at hl 2 rfl) ?_
    refine lv_lshl hx hb dX3_turn_11 rfl ?_
    refine lv_lxor hx hb dX3_turn_12 ?_
    refine lv_topl (fun x3 ex3 => ?_)
    refine va_put (D := D) (ci := 3) (v := .long x3) (ty := .long) (C := RX3) (T := TX3) (N := 16) hx hb hts zi3_ tyX3 tyX3_ok nmX3 hown hK hP hD hS 0 rfl rfl 4 (by decide) z2_ (fun _ h9 => h9) rfl (by decide +kernel) rfl rfl (Nat.le_of_ble_eq_true rfl) dX3_turn_13 (fun H locs hP hD hS => ?_)
    have hP : va_P D vwCl [(a_g, .inr (3, [.int g_wide, .int g_high, .int g_drown, .int g_wind, .long x3, .long g_fountains, .int g_people, .int g_tellings, .int g_reports, .ref a_g_kinds, .ref a_g_squares, .ref a_g_voices, .ref a_g_tellers, .ref a_g_listeners, .ref a_g_witnesses, .ref a_g_claims]))] H := hP
    have hD : va_D A [(a_g, .inr (3, [.int g_wide, .int g_high, .int g_drown, .int g_wind, .long x3, .long g_fountains, .int g_people, .int g_tellings, .int g_reports, .ref a_g_kinds, .ref a_g_squares, .ref a_g_voices, .ref a_g_tellers, .ref a_g_listeners, .ref a_g_witnesses, .ref a_g_claims]))] := hD
    refine lv_goto (tgt := 31) hx hb dX3_turn_16 (by decide) ?_
    subst hQF
    have hP9 := hP
    have hD9 := hD
    exact W.vret hx hb hr (fun t ht hW => ⟨⟨(x3, g_fountains), rfl, trivial, by rw [ht]; exact hP9, hD9⟩, hS.F ht⟩) hS.2.2 dX3_turn_31

set_option maxHeartbeats 4000000 in
set_option maxRecDepth 100000 in
theorem n_X3_isTaken (l : Launch) (D : va_G) (cy : Nat → ClassId) (a_g : Nat) (g_wide : Int32) (g_high : Int32) (g_drown : Int32) (g_wind : Int32) (g_hedges : Int64) (g_fountains : Int64) (g_people : Int32) (g_tellings : Int32) (g_reports : Int32) (a_g_kinds : Nat) (a_g_squares : Nat) (a_g_voices : Nat) (a_g_tellers : Nat) (a_g_listeners : Nat) (a_g_witnesses : Nat) (a_g_claims : Nat) (g_squares_f : Nat → Int32) (px : Int32) (sz : Nat)  : Met l yX3_isTaken wsX3_isTaken ({ frames := 0, cells := 0, slots := 0, locals := 0 }) (va_Pc [.ref a_g, .int px] (kPre D cy [(a_g, .inr (3, [.int g_wide, .int g_high, .int g_drown, .int g_wind, .long g_hedges, .long g_fountains, .int g_people, .int g_tellings, .int g_reports, .ref a_g_kinds, .ref a_g_squares, .ref a_g_voices, .ref a_g_tellers, .ref a_g_listeners, .ref a_g_witnesses, .ref a_g_claims])), (a_g_squares, .inl (cy 1, 5, .inl g_squares_f))] sz)) (va_Qi (fun (r : Int32) (u : Unit) => (r = 1 ∧ True) ∨ (r = 0 ∧ True)) (fun _ _ => True) (fun q : Nat => sz ≤ q)) 0 0 (fun q : Nat => sz ≤ q) := by
  refine Met.ofW (cc := cX3_isTaken) (maxL := 3) (ret := (some .boolean)) (by decide) rfl ?_
  intro p e s m args below meth c s₁ B hml hv
  obtain ⟨rfl, hsz, hP, hKA, hD0⟩ := hv
  have hx := B.exec
  have hb := B.bytes
  have hr := B.returns
  have hts := atoms_spec (ws := wsX3_isTaken) B.pre
  have hown : s.vm.findClass RX3 = some m.cls := findClass_of_methodNamed B.named
  have hlocks := B.notSynchronized
  subst hsz
  have hK := hKA.1
  have hD := hD0
  generalize hAe : (fun q : Nat => s.heap.size ≤ q) = A
  have hA : ∀ q : Nat, s.heap.size ≤ q → A q := fun q h => by rw [← hAe]; exact h
  have hS : va_S A s.heap s.heap [] := va_S.rf
  have hP : va_P D vwCl [(a_g, .inr (3, [.int g_wide, .int g_high, .int g_drown, .int g_wind, .long g_hedges, .long g_fountains, .int g_people, .int g_tellings, .int g_reports, .ref a_g_kinds, .ref a_g_squares, .ref a_g_voices, .ref a_g_tellers, .ref a_g_listeners, .ref a_g_witnesses, .ref a_g_claims])), (a_g_squares, .inl (cy 1, 5, .inl g_squares_f))] s.heap := hP
  have hl := lv_entry ([.ref a_g, .int px]) (n := 3) (Nat.le_of_ble_eq_true rfl)
  rw [lg_entry_eq]
  generalize (lg_sl ([.ref a_g, .int px]) ++ List.replicate (3 - (lg_sl ([.ref a_g, .int px])).length) Slot.unset).toArray = ls at hl ⊢
  have hl : lv_has ls 3 [(0, .ref a_g), (1, .int px)] := hl
  refine qW (fun QF hQF => ?_)
  have z0_ := hts (.fieldLink RX3 53 "HeardSeen$Garden" "people" "I") (by decide +kernel)
  have zi3_ : ∀ w ∈ u_ws RX3 TX3 16, w ∈ wsX3_isTaken := by decide +kernel
  have z2_ := hts (.fieldLink RX3 15 "HeardSeen$Garden" "squares" "[I") (by decide +kernel)
  refine lv_iconst (v := 0) hx hb dX3_isTaken_0 (by decide) ?_
  refine lv_istore_n (lv' := [(2, .int 0), (0, .ref a_g), (1, .int px)]) hx hb dX3_isTaken_1 rfl hl (by decide) rfl (fun ls hl => ?_)
  have lp2 : ∀ (n2 : Nat) (v2_2 : Nat) (hv2_2 : v2_2 < 2147483648), 2147483648 - v2_2 < n2 → ∀ (H : Heap) (locs : List Loc), va_P D vwCl [(a_g, .inr (3, [.int g_wide, .int g_high, .int g_drown, .int g_wind, .long g_hedges, .long g_fountains, .int g_people, .int g_tellings, .int g_reports, .ref a_g_kinds, .ref a_g_squares, .ref a_g_voices, .ref a_g_tellers, .ref a_g_listeners, .ref a_g_witnesses, .ref a_g_claims])), (a_g_squares, .inl (cy 1, 5, .inl g_squares_f))] H → va_D (fun _ => True) [(a_g, .inr (3, [.int g_wide, .int g_high, .int g_drown, .int g_wind, .long g_hedges, .long g_fountains, .int g_people, .int g_tellings, .int g_reports, .ref a_g_kinds, .ref a_g_squares, .ref a_g_voices, .ref a_g_tellers, .ref a_g_listeners, .ref a_g_witnesses, .ref a_g_claims])), (a_g_squares, .inl (cy 1, 5, .inl g_squares_f))] → va_S A s.heap H locs → ∀ ls : Array Slot, lv_has ls 3 [(2, .int (nI v2_2)), (0, .ref a_g), (1, .int px)] → W p l e (headSpec wsX3_isTaken ({ frames := 0, cells := 0, slots := 0, locals := 0 })).room s m [.ref a_g, .int px].toArray below meth c H locs 0 0 QF (F0 m 2 ls []) := by
    intro n2
    induction n2 with
    | zero => intro v2_2 hv2_2 hm; exact absurd hm (Nat.not_lt_zero _)
    | succ n2 ih2 =>
      intro v2_2 hv2_2 hm2 H locs hP hD hS ls hl
      refine lv_iload_n hx hb dX3_isTaken_2 rfl (lv_at hl 0 rfl) ?_
      refine lv_aload_n hx hb dX3_isTaken_3 rfl (lv_at hl 1 rfl) ?_
      refine va_get (D := D) (ci := 3) (v := .int g_people) (C := RX3) (T := TX3) (N := 16) hx hb hts zi3_ hown hK hP 0 rfl rfl 6 (by decide) z0_ (fun _ h9 => h9) rfl dX3_isTaken_4 ?_
      refine lv_icmp_ge (tgt := 33) hx hb dX3_isTaken_7 (by decide) (fun c1 => ?_) (fun c1 => ?_)
      · skip
        refine lv_iconst (v := 0) hx hb dX3_isTaken_33 (by decide) ?_
        subst hQF
        exact W.zret (v := 0) hx hb hr rfl (fun t ht hW => ⟨⟨0, (), rfl, (Or.inr ⟨rfl, trivial⟩), trivial⟩, hS.F ht⟩) hS.2.2 dX3_isTaken_34
      · skip
        refine lv_iload_n hx hb dX3_isTaken_10 rfl (lv_at hl 0 rfl) ?_
        refine lv_iconst (v := 5) hx hb dX3_isTaken_11 (by decide) ?_
        refine lv_icmp_ge (tgt := 33) hx hb dX3_isTaken_12 (by decide) (fun c2 => ?_) (fun c2 => ?_)
        · skip
          refine lv_iconst (v := 0) hx hb dX3_isTaken_33 (by decide) ?_
          subst hQF
          exact W.zret (v := 0) hx hb hr rfl (fun t ht hW => ⟨⟨0, (), rfl, (Or.inr ⟨rfl, trivial⟩), trivial⟩, hS.F ht⟩) hS.2.2 dX3_isTaken_34
        · skip
          refine lv_aload_n hx hb dX3_isTaken_15 rfl (lv_at hl 1 rfl) ?_
          refine va_get (D := D) (ci := 3) (v := .ref a_g_squares) (C := RX3) (T := TX3) (N := 16) hx hb hts zi3_ hown hK hP 0 rfl rfl 10 (by decide) z2_ (fun _ h9 => h9) rfl dX3_isTaken_16 ?_
          refine lv_iload_n hx hb dX3_isTaken_19 rfl (lv_at hl 0 rfl) ?_
          refine my_iald hx hb hK hP 1 1 rfl rfl (by first | exact in_ge (N := 5) (by decide) (by omega) (by assumption) | exact vp_in_nI (by omega) (by omega)) (nI_clamp (by omega)) dX3_isTaken_20 ?_
          refine lv_iload_n hx hb dX3_isTaken_21 rfl (lv_at hl 2 rfl) ?_
          refine lv_icmp_ne (tgt := 27) hx hb dX3_isTaken_22 (by decide) (fun c3 => ?_) (fun c3 => ?_)
          · skip
            refine lv_iinc (v := nI (v2_2 + 1)) (lv' := [(2, .int (nI (v2_2 + 1))), (0, .ref a_g), (1, .int px)]) hx hb dX3_isTaken_27 hl (k := 0) rfl (nI_1 _) (by decide) rfl (fun ls hl => ?_)
            refine lv_goto (tgt := 2) hx hb dX3_isTaken_30 (by decide) ?_
            exact ih2 (v2_2 + 1) (by first | omega | exact nlt_max hv2_2 (by assumption)) (by first | omega | (have := nlt_max hv2_2 (by assumption); omega)) _ _ hP hD hS ls hl
          · skip
            refine lv_iconst (v := 1) hx hb dX3_isTaken_25 (by decide) ?_
            subst hQF
            exact W.zret (v := 1) hx hb hr rfl (fun t ht hW => ⟨⟨1, (), rfl, (Or.inl ⟨rfl, trivial⟩), trivial⟩, hS.F ht⟩) hS.2.2 dX3_isTaken_26
  exact lp2 (2147483648 - 0 + 1) 0 (by first | omega | exact nlt_max (by assumption) (by assumption)) (Nat.lt_succ_self _) _ _ hP hD hS ls hl

set_option maxHeartbeats 4000000 in
set_option maxRecDepth 100000 in
theorem n_X3_isFree (l : Launch) (D : va_G) (cy : Nat → ClassId) (a_g : Nat) (g_wide : Int32) (g_high : Int32) (g_drown : Int32) (g_wind : Int32) (g_hedges : Int64) (g_fountains : Int64) (g_people : Int32) (g_tellings : Int32) (g_reports : Int32) (a_g_kinds : Nat) (a_g_squares : Nat) (a_g_voices : Nat) (a_g_tellers : Nat) (a_g_listeners : Nat) (a_g_witnesses : Nat) (a_g_claims : Nat) (g_squares_f : Nat → Int32) (px : Int32) (sz : Nat)  : Met l yX3_isFree wsX3_isFree ({ frames := 2, cells := 0, slots := 0, locals := 44 }) (va_Pc [.ref a_g, .int px] (kPre D cy [(a_g, .inr (3, [.int g_wide, .int g_high, .int g_drown, .int g_wind, .long g_hedges, .long g_fountains, .int g_people, .int g_tellings, .int g_reports, .ref a_g_kinds, .ref a_g_squares, .ref a_g_voices, .ref a_g_tellers, .ref a_g_listeners, .ref a_g_witnesses, .ref a_g_claims])), (a_g_squares, .inl (cy 1, 5, .inl g_squares_f))] sz)) (va_Qi (fun (r : Int32) (u : Unit) => (r = 1 ∧ True) ∨ (r = 0 ∧ True)) (fun _ _ => True) (fun q : Nat => sz ≤ q)) 0 0 (fun q : Nat => sz ≤ q) := by
  refine Met.ofW (cc := cX3_isFree) (maxL := 2) (ret := (some .boolean)) (by decide) rfl ?_
  intro p e s m args below meth c s₁ B hml hv
  obtain ⟨rfl, hsz, hP, hKA, hD0⟩ := hv
  have hx := B.exec
  have hb := B.bytes
  have hr := B.returns
  have hts := atoms_spec (ws := wsX3_isFree) B.pre
  have hown : s.vm.findClass RX3 = some m.cls := findClass_of_methodNamed B.named
  have hlocks := B.notSynchronized
  subst hsz
  have hK := hKA.1
  have hD := hD0
  generalize hAe : (fun q : Nat => s.heap.size ≤ q) = A
  have hA : ∀ q : Nat, s.heap.size ≤ q → A q := fun q h => by rw [← hAe]; exact h
  have hS : va_S A s.heap s.heap [] := va_S.rf
  have hP : va_P D vwCl [(a_g, .inr (3, [.int g_wide, .int g_high, .int g_drown, .int g_wind, .long g_hedges, .long g_fountains, .int g_people, .int g_tellings, .int g_reports, .ref a_g_kinds, .ref a_g_squares, .ref a_g_voices, .ref a_g_tellers, .ref a_g_listeners, .ref a_g_witnesses, .ref a_g_claims])), (a_g_squares, .inl (cy 1, 5, .inl g_squares_f))] s.heap := hP
  have hl := lv_entry ([.ref a_g, .int px]) (n := 2) (Nat.le_of_ble_eq_true rfl)
  rw [lg_entry_eq]
  generalize (lg_sl ([.ref a_g, .int px]) ++ List.replicate (2 - (lg_sl ([.ref a_g, .int px])).length) Slot.unset).toArray = ls at hl ⊢
  have hl : lv_has ls 2 [(0, .ref a_g), (1, .int px)] := hl
  refine qW (fun QF hQF => ?_)
  refine lv_aload_n hx hb dX3_isFree_0 rfl (lv_at hl 0 rfl) ?_
  refine lv_iconst (v := 0) hx hb dX3_isFree_1 (by decide) ?_
  refine lv_iload_n hx hb dX3_isFree_2 rfl (lv_at hl 1 rfl) ?_
  refine rd_i (va_runV (As := [.int 0, .int px]) (rest := []) ⟨hx, hb, hml, hown, hts⟩ (n_X3_has l D cy a_g g_wide g_high g_drown g_wind g_hedges g_fountains g_people g_tellings g_reports a_g_kinds a_g_squares a_g_voices a_g_tellers a_g_listeners a_g_witnesses a_g_claims (0) px _ ) (cwV 2 hts gX3_isFree_X3_has rfl rfl rfl (by decide +kernel) ⟨Nat.le_of_ble_eq_true rfl, Nat.le_of_ble_eq_true rfl⟩) (pV (ci := 3) (k := 0) hKA (hP.sub (ws' := [(a_g, .inr (3, [.int g_wide, .int g_high, .int g_drown, .int g_wind, .long g_hedges, .long g_fountains, .int g_people, .int g_tellings, .int g_reports, .ref a_g_kinds, .ref a_g_squares, .ref a_g_voices, .ref a_g_tellers, .ref a_g_listeners, .ref a_g_witnesses, .ref a_g_claims]))]) [0] rfl) (hD.sub (ws' := [(a_g, .inr (3, [.int g_wide, .int g_high, .int g_drown, .int g_wind, .long g_hedges, .long g_fountains, .int g_people, .int g_tellings, .int g_reports, .ref a_g_kinds, .ref a_g_squares, .ref a_g_voices, .ref a_g_tellers, .ref a_g_listeners, .ref a_g_witnesses, .ref a_g_claims]))]) [0] (by decide) rfl) rfl rfl) rfl rfl hl.1 rfl (lv_room (Nat.le_of_ble_eq_true rfl)) dX3_isFree_3 ⟨Nat.le_of_ble_eq_true rfl, Nat.le_of_ble_eq_true rfl⟩) hP hS hA (fun r1 H locs hwr1 hP hS => ?_)
  have hwr1 : (r1 = 1 ∧ True) ∨ (r1 = 0 ∧ True) := hwr1
  refine lv_if_ne (tgt := 21) hx hb dX3_isFree_6 (by decide) (fun c2 => ?_) (fun c2 => ?_)
  · skip
    refine lv_iconst (v := 0) hx hb dX3_isFree_21 (by decide) ?_
    subst hQF
    exact W.zret (v := 0) hx hb hr rfl (fun t ht hW => ⟨⟨0, (), rfl, (Or.inr ⟨rfl, trivial⟩), trivial⟩, hS.F ht⟩) hS.2.2 dX3_isFree_22
  · skip
    refine lv_aload_n hx hb dX3_isFree_9 rfl (lv_at hl 0 rfl) ?_
    refine lv_iload_n hx hb dX3_isFree_10 rfl (lv_at hl 1 rfl) ?_
    refine rd_i (va_runV (As := [.int px]) (rest := []) ⟨hx, hb, hml, hown, hts⟩ (n_X3_isTaken l D cy a_g g_wide g_high g_drown g_wind g_hedges g_fountains g_people g_tellings g_reports a_g_kinds a_g_squares a_g_voices a_g_tellers a_g_listeners a_g_witnesses a_g_claims g_squares_f px _ ) (cwV 1 hts gX3_isFree_X3_isTaken rfl rfl rfl (by decide +kernel) ⟨Nat.le_of_ble_eq_true rfl, Nat.le_of_ble_eq_true rfl⟩) (pV (ci := 3) (k := 0) hKA (hP.sub (ws' := [(a_g, .inr (3, [.int g_wide, .int g_high, .int g_drown, .int g_wind, .long g_hedges, .long g_fountains, .int g_people, .int g_tellings, .int g_reports, .ref a_g_kinds, .ref a_g_squares, .ref a_g_voices, .ref a_g_tellers, .ref a_g_listeners, .ref a_g_witnesses, .ref a_g_claims])), (a_g_squares, .inl (cy 1, 5, .inl g_squares_f))]) [0, 1] rfl) (hD.sub (ws' := [(a_g, .inr (3, [.int g_wide, .int g_high, .int g_drown, .int g_wind, .long g_hedges, .long g_fountains, .int g_people, .int g_tellings, .int g_reports, .ref a_g_kinds, .ref a_g_squares, .ref a_g_voices, .ref a_g_tellers, .ref a_g_listeners, .ref a_g_witnesses, .ref a_g_claims])), (a_g_squares, .inl (cy 1, 5, .inl g_squares_f))]) [0, 1] (by decide) rfl) rfl rfl) rfl rfl hl.1 rfl (lv_room (Nat.le_of_ble_eq_true rfl)) dX3_isFree_11 ⟨Nat.le_of_ble_eq_true rfl, Nat.le_of_ble_eq_true rfl⟩) hP hS hA (fun r3 H locs hwr3 hP hS => ?_)
    have hwr3 : (r3 = 1 ∧ True) ∨ (r3 = 0 ∧ True) := hwr3
    refine lv_if_ne (tgt := 21) hx hb dX3_isFree_14 (by decide) (fun c4 => ?_) (fun c4 => ?_)
    · skip
      refine lv_iconst (v := 0) hx hb dX3_isFree_21 (by decide) ?_
      subst hQF
      exact W.zret (v := 0) hx hb hr rfl (fun t ht hW => ⟨⟨0, (), rfl, (Or.inr ⟨rfl, trivial⟩), trivial⟩, hS.F ht⟩) hS.2.2 dX3_isFree_22
    · skip
      refine lv_iconst (v := 1) hx hb dX3_isFree_17 (by decide) ?_
      refine lv_goto (tgt := 22) hx hb dX3_isFree_18 (by decide) ?_
      subst hQF
      exact W.zret (v := 1) hx hb hr rfl (fun t ht hW => ⟨⟨1, (), rfl, (Or.inl ⟨rfl, trivial⟩), trivial⟩, hS.F ht⟩) hS.2.2 dX3_isFree_22

set_option maxHeartbeats 4000000 in
set_option maxRecDepth 100000 in
theorem n_X3_addPerson (l : Launch) (D : va_G) (cy : Nat → ClassId) (a_g : Nat) (g_wide : Int32) (g_high : Int32) (g_drown : Int32) (g_wind : Int32) (g_hedges : Int64) (g_fountains : Int64) (g_people : Int32) (g_tellings : Int32) (g_reports : Int32) (a_g_kinds : Nat) (a_g_squares : Nat) (a_g_voices : Nat) (a_g_tellers : Nat) (a_g_listeners : Nat) (a_g_witnesses : Nat) (a_g_claims : Nat) (g_kinds_f : Nat → Int32) (g_squares_f : Nat → Int32) (g_voices_f : Nat → Int32) (px : Int32) (py : Int32) (pz : Int32) (sz : Nat)  : Met l yX3_addPerson wsX3_addPerson ({ frames := 0, cells := 0, slots := 0, locals := 0 }) (va_Pc [.ref a_g, .int px, .int py, .int pz] (kPre D cy [(a_g, .inr (3, [.int g_wide, .int g_high, .int g_drown, .int g_wind, .long g_hedges, .long g_fountains, .int g_people, .int g_tellings, .int g_reports, .ref a_g_kinds, .ref a_g_squares, .ref a_g_voices, .ref a_g_tellers, .ref a_g_listeners, .ref a_g_witnesses, .ref a_g_claims])), (a_g_kinds, .inl (cy 1, 5, .inl g_kinds_f)), (a_g_squares, .inl (cy 1, 5, .inl g_squares_f)), (a_g_voices, .inl (cy 1, 5, .inl g_voices_f))] sz)) (va_Qi (fun (r : Int32) (u : Int32 × (Nat → Int32) × (Nat → Int32) × (Nat → Int32)) => True) (fun (u : Int32 × (Nat → Int32) × (Nat → Int32) × (Nat → Int32)) t => va_P D vwCl ([(a_g, .inr (3, [.int g_wide, .int g_high, .int g_drown, .int g_wind, .long g_hedges, .long g_fountains, .int u.1, .int g_tellings, .int g_reports, .ref a_g_kinds, .ref a_g_squares, .ref a_g_voices, .ref a_g_tellers, .ref a_g_listeners, .ref a_g_witnesses, .ref a_g_claims])), (a_g_kinds, .inl (cy 1, 5, .inl u.2.1)), (a_g_squares, .inl (cy 1, 5, .inl u.2.2.1)), (a_g_voices, .inl (cy 1, 5, .inl u.2.2.2))]) t.heap ∧ va_D (va_A [(a_g, .inr (3, [.int g_wide, .int g_high, .int g_drown, .int g_wind, .long g_hedges, .long g_fountains, .int g_people, .int g_tellings, .int g_reports, .ref a_g_kinds, .ref a_g_squares, .ref a_g_voices, .ref a_g_tellers, .ref a_g_listeners, .ref a_g_witnesses, .ref a_g_claims])), (a_g_kinds, .inl (cy 1, 5, .inl g_kinds_f)), (a_g_squares, .inl (cy 1, 5, .inl g_squares_f)), (a_g_voices, .inl (cy 1, 5, .inl g_voices_f))] sz) ([(a_g, .inr (3, [.int g_wide, .int g_high, .int g_drown, .int g_wind, .long g_hedges, .long g_fountains, .int u.1, .int g_tellings, .int g_reports, .ref a_g_kinds, .ref a_g_squares, .ref a_g_voices, .ref a_g_tellers, .ref a_g_listeners, .ref a_g_witnesses, .ref a_g_claims])), (a_g_kinds, .inl (cy 1, 5, .inl u.2.1)), (a_g_squares, .inl (cy 1, 5, .inl u.2.2.1)), (a_g_voices, .inl (cy 1, 5, .inl u.2.2.2))])) (va_A [(a_g, .inr (3, [.int g_wide, .int g_high, .int g_drown, .int g_wind, .long g_hedges, .long g_fountains, .int g_people, .int g_tellings, .int g_reports, .ref a_g_kinds, .ref a_g_squares, .ref a_g_voices, .ref a_g_tellers, .ref a_g_listeners, .ref a_g_witnesses, .ref a_g_claims])), (a_g_kinds, .inl (cy 1, 5, .inl g_kinds_f)), (a_g_squares, .inl (cy 1, 5, .inl g_squares_f)), (a_g_voices, .inl (cy 1, 5, .inl g_voices_f))] sz)) 0 0 (va_A [(a_g, .inr (3, [.int g_wide, .int g_high, .int g_drown, .int g_wind, .long g_hedges, .long g_fountains, .int g_people, .int g_tellings, .int g_reports, .ref a_g_kinds, .ref a_g_squares, .ref a_g_voices, .ref a_g_tellers, .ref a_g_listeners, .ref a_g_witnesses, .ref a_g_claims])), (a_g_kinds, .inl (cy 1, 5, .inl g_kinds_f)), (a_g_squares, .inl (cy 1, 5, .inl g_squares_f)), (a_g_voices, .inl (cy 1, 5, .inl g_voices_f))] sz) := by
  refine Met.ofW (cc := cX3_addPerson) (maxL := 4) (ret := (some .int)) (by decide) rfl ?_
  intro p e s m args below meth c s₁ B hml hv
  obtain ⟨rfl, hsz, hP, hKA, hD0⟩ := hv
  have hx := B.exec
  have hb := B.bytes
  have hr := B.returns
  have hts := atoms_spec (ws := wsX3_addPerson) B.pre
  have hown : s.vm.findClass RX3 = some m.cls := findClass_of_methodNamed B.named
  have hlocks := B.notSynchronized
  subst hsz
  have hK := hKA.1
  have hD := hD0.self (sz := s.heap.size)
  generalize hAe : va_A [(a_g, .inr (3, [.int g_wide, .int g_high, .int g_drown, .int g_wind, .long g_hedges, .long g_fountains, .int g_people, .int g_tellings, .int g_reports, .ref a_g_kinds, .ref a_g_squares, .ref a_g_voices, .ref a_g_tellers, .ref a_g_listeners, .ref a_g_witnesses, .ref a_g_claims])), (a_g_kinds, .inl (cy 1, 5, .inl g_kinds_f)), (a_g_squares, .inl (cy 1, 5, .inl g_squares_f)), (a_g_voices, .inl (cy 1, 5, .inl g_voices_f))] s.heap.size = A at hD ⊢
  have hA : ∀ q : Nat, s.heap.size ≤ q → A q := fun q h => by rw [← hAe]; exact Or.inr h
  have hS : va_S A s.heap s.heap [] := va_S.rf
  have hP : va_P D vwCl [(a_g, .inr (3, [.int g_wide, .int g_high, .int g_drown, .int g_wind, .long g_hedges, .long g_fountains, .int g_people, .int g_tellings, .int g_reports, .ref a_g_kinds, .ref a_g_squares, .ref a_g_voices, .ref a_g_tellers, .ref a_g_listeners, .ref a_g_witnesses, .ref a_g_claims])), (a_g_kinds, .inl (cy 1, 5, .inl g_kinds_f)), (a_g_squares, .inl (cy 1, 5, .inl g_squares_f)), (a_g_voices, .inl (cy 1, 5, .inl g_voices_f))] s.heap := hP
  have hl := lv_entry ([.ref a_g, .int px, .int py, .int pz]) (n := 4) (Nat.le_of_ble_eq_true rfl)
  rw [lg_entry_eq]
  generalize (lg_sl ([.ref a_g, .int px, .int py, .int pz]) ++ List.replicate (4 - (lg_sl ([.ref a_g, .int px, .int py, .int pz])).length) Slot.unset).toArray = ls at hl ⊢
  have hl : lv_has ls 4 [(0, .ref a_g), (1, .int px), (2, .int py), (3, .int pz)] := hl
  refine qW (fun QF hQF => ?_)
  have z0_ := hts (.fieldLink RX3 53 "HeardSeen$Garden" "people" "I") (by decide +kernel)
  have zi3_ : ∀ w ∈ u_ws RX3 TX3 16, w ∈ wsX3_addPerson := by decide +kernel
  have z2_ := hts (.fieldLink RX3 9 "HeardSeen$Garden" "kinds" "[I") (by decide +kernel)
  have z3_ := hts (.fieldLink RX3 15 "HeardSeen$Garden" "squares" "[I") (by decide +kernel)
  have z4_ := hts (.fieldLink RX3 18 "HeardSeen$Garden" "voices" "[I") (by decide +kernel)
  refine lv_aload_n hx hb dX3_addPerson_0 rfl (lv_at hl 0 rfl) ?_
  refine va_get (D := D) (ci := 3) (v := .int g_people) (C := RX3) (T := TX3) (N := 16) hx hb hts zi3_ hown hK hP 0 rfl rfl 6 (by decide) z0_ (fun _ h9 => h9) rfl dX3_addPerson_1 ?_
  refine lv_if_lt (tgt := 15) hx hb dX3_addPerson_4 (by decide) (fun c1 => ?_) (fun c1 => ?_)
  · skip
    refine lv_iconst (v := (-1)) hx hb dX3_addPerson_15 (by decide) ?_
    subst hQF
    have hP9 := hP
    have hD9 := hD
    exact W.iret (v := (-1)) hx hb hr (fun t ht hW => ⟨⟨(-1), (g_people, g_kinds_f, g_squares_f, g_voices_f), rfl, trivial, by rw [ht]; exact hP9, hD9⟩, hS.F ht⟩) hS.2.2 dX3_addPerson_16
  · skip
    refine lv_aload_n hx hb dX3_addPerson_7 rfl (lv_at hl 0 rfl) ?_
    refine va_get (D := D) (ci := 3) (v := .int g_people) (C := RX3) (T := TX3) (N := 16) hx hb hts zi3_ hown hK hP 0 rfl rfl 6 (by decide) z0_ (fun _ h9 => h9) rfl dX3_addPerson_8 ?_
    refine lv_iconst (v := 5) hx hb dX3_addPerson_11 (by decide) ?_
    refine lv_icmp_lt (tgt := 17) hx hb dX3_addPerson_12 (by decide) (fun c2 => ?_) (fun c2 => ?_)
    · skip
      refine lv_aload_n hx hb dX3_addPerson_17 rfl (lv_at hl 0 rfl) ?_
      refine va_get (D := D) (ci := 3) (v := .ref a_g_kinds) (C := RX3) (T := TX3) (N := 16) hx hb hts zi3_ hown hK hP 0 rfl rfl 9 (by decide) z2_ (fun _ h9 => h9) rfl dX3_addPerson_18 ?_
      refine lv_aload_n hx hb dX3_addPerson_21 rfl (lv_at hl 0 rfl) ?_
      refine va_get (D := D) (ci := 3) (v := .int g_people) (C := RX3) (T := TX3) (N := 16) hx hb hts zi3_ hown hK hP 0 rfl rfl 6 (by decide) z0_ (fun _ h9 => h9) rfl dX3_addPerson_22 ?_
      refine lv_iload_n hx hb dX3_addPerson_25 rfl (lv_at hl 1 rfl) ?_
      refine my_iast hx hb hK hP hD hS 1 1 rfl rfl (by first | exact in_x (N := 5) (by decide) (by assumption) (by assumption) | exact in_y (N := 5) (by decide) (by assumption) (by assumption) | exact in_z (N := 5) (by decide) (by assumption) (by assumption)) rfl dX3_addPerson_26 (fun H locs hP hD hS => ?_)
      have hP : va_P D vwCl [(a_g, .inr (3, [.int g_wide, .int g_high, .int g_drown, .int g_wind, .long g_hedges, .long g_fountains, .int g_people, .int g_tellings, .int g_reports, .ref a_g_kinds, .ref a_g_squares, .ref a_g_voices, .ref a_g_tellers, .ref a_g_listeners, .ref a_g_witnesses, .ref a_g_claims])), (a_g_kinds, .inl (cy 1, 5, .inl (upd g_kinds_f (g_people : Int32).toNatClampNeg px))), (a_g_squares, .inl (cy 1, 5, .inl g_squares_f)), (a_g_voices, .inl (cy 1, 5, .inl g_voices_f))] H := hP
      have hD : va_D A [(a_g, .inr (3, [.int g_wide, .int g_high, .int g_drown, .int g_wind, .long g_hedges, .long g_fountains, .int g_people, .int g_tellings, .int g_reports, .ref a_g_kinds, .ref a_g_squares, .ref a_g_voices, .ref a_g_tellers, .ref a_g_listeners, .ref a_g_witnesses, .ref a_g_claims])), (a_g_kinds, .inl (cy 1, 5, .inl (upd g_kinds_f (g_people : Int32).toNatClampNeg px))), (a_g_squares, .inl (cy 1, 5, .inl g_squares_f)), (a_g_voices, .inl (cy 1, 5, .inl g_voices_f))] := hD
      refine lv_aload_n hx hb dX3_addPerson_27 rfl (lv_at hl 0 rfl) ?_
      refine va_get (D := D) (ci := 3) (v := .ref a_g_squares) (C := RX3) (T := TX3) (N := 16) hx hb hts zi3_ hown hK hP 0 rfl rfl 10 (by decide) z3_ (fun _ h9 => h9) rfl dX3_addPerson_28 ?_
      refine lv_aload_n hx hb dX3_addPerson_31 rfl (lv_at hl 0 rfl) ?_
      refine va_get (D := D) (ci := 3) (v := .int g_people) (C := RX3) (T := TX3) (N := 16) hx hb hts zi3_ hown hK hP 0 rfl rfl 6 (by decide) z0_ (fun _ h9 => h9) rfl dX3_addPerson_32 ?_
      refine lv_iload_n hx hb dX3_addPerson_35 rfl (lv_at hl 2 rfl) ?_
      refine my_iast hx hb hK hP hD hS 2 1 rfl rfl (by first | exact in_x (N := 5) (by decide) (by assumption) (by assumption) | exact in_y (N := 5) (by decide) (by assumption) (by assumption) | exact in_z (N := 5) (by decide) (by assumption) (by assumption)) rfl dX3_addPerson_36 (fun H locs hP hD hS => ?_)
      have hP : va_P D vwCl [(a_g, .inr (3, [.int g_wide, .int g_high, .int g_drown, .int g_wind, .long g_hedges, .long g_fountains, .int g_people, .int g_tellings, .int g_reports, .ref a_g_kinds, .ref a_g_squares, .ref a_g_voices, .ref a_g_tellers, .ref a_g_listeners, .ref a_g_witnesses, .ref a_g_claims])), (a_g_kinds, .inl (cy 1, 5, .inl (upd g_kinds_f (g_people : Int32).toNatClampNeg px))), (a_g_squares, .inl (cy 1, 5, .inl (upd g_squares_f (g_people : Int32).toNatClampNeg py))), (a_g_voices, .inl (cy 1, 5, .inl g_voices_f))] H := hP
      have hD : va_D A [(a_g, .inr (3, [.int g_wide, .int g_high, .int g_drown, .int g_wind, .long g_hedges, .long g_fountains, .int g_people, .int g_tellings, .int g_reports, .ref a_g_kinds, .ref a_g_squares, .ref a_g_voices, .ref a_g_tellers, .ref a_g_listeners, .ref a_g_witnesses, .ref a_g_claims])), (a_g_kinds, .inl (cy 1, 5, .inl (upd g_kinds_f (g_people : Int32).toNatClampNeg px))), (a_g_squares, .inl (cy 1, 5, .inl (upd g_squares_f (g_people : Int32).toNatClampNeg py))), (a_g_voices, .inl (cy 1, 5, .inl g_voices_f))] := hD
      refine lv_aload_n hx hb dX3_addPerson_37 rfl (lv_at hl 0 rfl) ?_
      refine va_get (D := D) (ci := 3) (v := .ref a_g_voices) (C := RX3) (T := TX3) (N := 16) hx hb hts zi3_ hown hK hP 0 rfl rfl 11 (by decide) z4_ (fun _ h9 => h9) rfl dX3_addPerson_38 ?_
      refine lv_aload_n hx hb dX3_addPerson_41 rfl (lv_at hl 0 rfl) ?_
      refine va_get (D := D) (ci := 3) (v := .int g_people) (C := RX3) (T := TX3) (N := 16) hx hb hts zi3_ hown hK hP 0 rfl rfl 6 (by decide) z0_ (fun _ h9 => h9) rfl dX3_addPerson_42 ?_
      refine lv_iload_n hx hb dX3_addPerson_45 rfl (lv_at hl 3 rfl) ?_
      refine my_iast hx hb hK hP hD hS 3 1 rfl rfl (by first | exact in_x (N := 5) (by decide) (by assumption) (by assumption) | exact in_y (N := 5) (by decide) (by assumption) (by assumption) | exact in_z (N := 5) (by decide) (by assumption) (by assumption)) rfl dX3_addPerson_46 (fun H locs hP hD hS => ?_)
      have hP : va_P D vwCl [(a_g, .inr (3, [.int g_wide, .int g_high, .int g_drown, .int g_wind, .long g_hedges, .long g_fountains, .int g_people, .int g_tellings, .int g_reports, .ref a_g_kinds, .ref a_g_squares, .ref a_g_voices, .ref a_g_tellers, .ref a_g_listeners, .ref a_g_witnesses, .ref a_g_claims])), (a_g_kinds, .inl (cy 1, 5, .inl (upd g_kinds_f (g_people : Int32).toNatClampNeg px))), (a_g_squares, .inl (cy 1, 5, .inl (upd g_squares_f (g_people : Int32).toNatClampNeg py))), (a_g_voices, .inl (cy 1, 5, .inl (upd g_voices_f (g_people : Int32).toNatClampNeg pz)))] H := hP
      have hD : va_D A [(a_g, .inr (3, [.int g_wide, .int g_high, .int g_drown, .int g_wind, .long g_hedges, .long g_fountains, .int g_people, .int g_tellings, .int g_reports, .ref a_g_kinds, .ref a_g_squares, .ref a_g_voices, .ref a_g_tellers, .ref a_g_listeners, .ref a_g_witnesses, .ref a_g_claims])), (a_g_kinds, .inl (cy 1, 5, .inl (upd g_kinds_f (g_people : Int32).toNatClampNeg px))), (a_g_squares, .inl (cy 1, 5, .inl (upd g_squares_f (g_people : Int32).toNatClampNeg py))), (a_g_voices, .inl (cy 1, 5, .inl (upd g_voices_f (g_people : Int32).toNatClampNeg pz)))] := hD
      refine lv_aload_n hx hb dX3_addPerson_47 rfl (lv_at hl 0 rfl) ?_
      refine lv_dup hx hb dX3_addPerson_48 rfl ?_
      refine va_get (D := D) (ci := 3) (v := .int g_people) (C := RX3) (T := TX3) (N := 16) hx hb hts zi3_ hown hK hP 0 rfl rfl 6 (by decide) z0_ (fun _ h9 => h9) rfl dX3_addPerson_49 ?_
      refine lv_dup_x1 hx hb dX3_addPerson_52 rfl rfl ?_
      refine lv_iconst (v := 1) hx hb dX3_addPerson_53 (by decide) ?_
      refine lv_iadd hx hb dX3_addPerson_54 ?_
      refine va_put (D := D) (ci := 3) (v := .int (g_people + 1)) (ty := .int) (C := RX3) (T := TX3) (N := 16) hx hb hts zi3_ tyX3 tyX3_ok nmX3 hown hK hP hD hS 0 rfl rfl 6 (by decide) z0_ (fun _ h9 => h9) rfl (by decide +kernel) rfl rfl (Nat.le_of_ble_eq_true rfl) dX3_addPerson_55 (fun H locs hP hD hS => ?_)
      have hP : va_P D vwCl [(a_g, .inr (3, [.int g_wide, .int g_high, .int g_drown, .int g_wind, .long g_hedges, .long g_fountains, .int (g_people + 1), .int g_tellings, .int g_reports, .ref a_g_kinds, .ref a_g_squares, .ref a_g_voices, .ref a_g_tellers, .ref a_g_listeners, .ref a_g_witnesses, .ref a_g_claims])), (a_g_kinds, .inl (cy 1, 5, .inl (upd g_kinds_f (g_people : Int32).toNatClampNeg px))), (a_g_squares, .inl (cy 1, 5, .inl (upd g_squares_f (g_people : Int32).toNatClampNeg py))), (a_g_voices, .inl (cy 1, 5, .inl (upd g_voices_f (g_people : Int32).toNatClampNeg pz)))] H := hP
      have hD : va_D A [(a_g, .inr (3, [.int g_wide, .int g_high, .int g_drown, .int g_wind, .long g_hedges, .long g_fountains, .int (g_people + 1), .int g_tellings, .int g_reports, .ref a_g_kinds, .ref a_g_squares, .ref a_g_voices, .ref a_g_tellers, .ref a_g_listeners, .ref a_g_witnesses, .ref a_g_claims])), (a_g_kinds, .inl (cy 1, 5, .inl (upd g_kinds_f (g_people : Int32).toNatClampNeg px))), (a_g_squares, .inl (cy 1, 5, .inl (upd g_squares_f (g_people : Int32).toNatClampNeg py))), (a_g_voices, .inl (cy 1, 5, .inl (upd g_voices_f (g_people : Int32).toNatClampNeg pz)))] := hD
      subst hQF
      have hP9 := hP
      have hD9 := hD
      exact W.iret (v := g_people) hx hb hr (fun t ht hW => ⟨⟨g_people, (g_people + 1, upd g_kinds_f (g_people : Int32).toNatClampNeg px, upd g_squares_f (g_people : Int32).toNatClampNeg py, upd g_voices_f (g_people : Int32).toNatClampNeg pz), rfl, trivial, by rw [ht]; exact hP9, hD9⟩, hS.F ht⟩) hS.2.2 dX3_addPerson_58
    · skip
      refine lv_iconst (v := (-1)) hx hb dX3_addPerson_15 (by decide) ?_
      subst hQF
      have hP9 := hP
      have hD9 := hD
      exact W.iret (v := (-1)) hx hb hr (fun t ht hW => ⟨⟨(-1), (g_people, g_kinds_f, g_squares_f, g_voices_f), rfl, trivial, by rw [ht]; exact hP9, hD9⟩, hS.F ht⟩) hS.2.2 dX3_addPerson_16

set_option maxHeartbeats 4000000 in
set_option maxRecDepth 100000 in
theorem n_X3_addTelling (l : Launch) (D : va_G) (cy : Nat → ClassId) (a_g : Nat) (g_wide : Int32) (g_high : Int32) (g_drown : Int32) (g_wind : Int32) (g_hedges : Int64) (g_fountains : Int64) (g_people : Int32) (g_tellings : Int32) (g_reports : Int32) (a_g_kinds : Nat) (a_g_squares : Nat) (a_g_voices : Nat) (a_g_tellers : Nat) (a_g_listeners : Nat) (a_g_witnesses : Nat) (a_g_claims : Nat) (g_tellers_f : Nat → Int32) (g_listeners_f : Nat → Int32) (px : Int32) (py : Int32) (sz : Nat)  : Met l yX3_addTelling wsX3_addTelling ({ frames := 0, cells := 0, slots := 0, locals := 0 }) (va_Pc [.ref a_g, .int px, .int py] (kPre D cy [(a_g, .inr (3, [.int g_wide, .int g_high, .int g_drown, .int g_wind, .long g_hedges, .long g_fountains, .int g_people, .int g_tellings, .int g_reports, .ref a_g_kinds, .ref a_g_squares, .ref a_g_voices, .ref a_g_tellers, .ref a_g_listeners, .ref a_g_witnesses, .ref a_g_claims])), (a_g_tellers, .inl (cy 1, 6, .inl g_tellers_f)), (a_g_listeners, .inl (cy 1, 6, .inl g_listeners_f))] sz)) (va_Qi (fun (r : Int32) (u : Int32 × (Nat → Int32) × (Nat → Int32)) => True) (fun (u : Int32 × (Nat → Int32) × (Nat → Int32)) t => va_P D vwCl ([(a_g, .inr (3, [.int g_wide, .int g_high, .int g_drown, .int g_wind, .long g_hedges, .long g_fountains, .int g_people, .int u.1, .int g_reports, .ref a_g_kinds, .ref a_g_squares, .ref a_g_voices, .ref a_g_tellers, .ref a_g_listeners, .ref a_g_witnesses, .ref a_g_claims])), (a_g_tellers, .inl (cy 1, 6, .inl u.2.1)), (a_g_listeners, .inl (cy 1, 6, .inl u.2.2))]) t.heap ∧ va_D (va_A [(a_g, .inr (3, [.int g_wide, .int g_high, .int g_drown, .int g_wind, .long g_hedges, .long g_fountains, .int g_people, .int g_tellings, .int g_reports, .ref a_g_kinds, .ref a_g_squares, .ref a_g_voices, .ref a_g_tellers, .ref a_g_listeners, .ref a_g_witnesses, .ref a_g_claims])), (a_g_tellers, .inl (cy 1, 6, .inl g_tellers_f)), (a_g_listeners, .inl (cy 1, 6, .inl g_listeners_f))] sz) ([(a_g, .inr (3, [.int g_wide, .int g_high, .int g_drown, .int g_wind, .long g_hedges, .long g_fountains, .int g_people, .int u.1, .int g_reports, .ref a_g_kinds, .ref a_g_squares, .ref a_g_voices, .ref a_g_tellers, .ref a_g_listeners, .ref a_g_witnesses, .ref a_g_claims])), (a_g_tellers, .inl (cy 1, 6, .inl u.2.1)), (a_g_listeners, .inl (cy 1, 6, .inl u.2.2))])) (va_A [(a_g, .inr (3, [.int g_wide, .int g_high, .int g_drown, .int g_wind, .long g_hedges, .long g_fountains, .int g_people, .int g_tellings, .int g_reports, .ref a_g_kinds, .ref a_g_squares, .ref a_g_voices, .ref a_g_tellers, .ref a_g_listeners, .ref a_g_witnesses, .ref a_g_claims])), (a_g_tellers, .inl (cy 1, 6, .inl g_tellers_f)), (a_g_listeners, .inl (cy 1, 6, .inl g_listeners_f))] sz)) 0 0 (va_A [(a_g, .inr (3, [.int g_wide, .int g_high, .int g_drown, .int g_wind, .long g_hedges, .long g_fountains, .int g_people, .int g_tellings, .int g_reports, .ref a_g_kinds, .ref a_g_squares, .ref a_g_voices, .ref a_g_tellers, .ref a_g_listeners, .ref a_g_witnesses, .ref a_g_claims])), (a_g_tellers, .inl (cy 1, 6, .inl g_tellers_f)), (a_g_listeners, .inl (cy 1, 6, .inl g_listeners_f))] sz) := by
  refine Met.ofW (cc := cX3_addTelling) (maxL := 3) (ret := (some .int)) (by decide) rfl ?_
  intro p e s m args below meth c s₁ B hml hv
  obtain ⟨rfl, hsz, hP, hKA, hD0⟩ := hv
  have hx := B.exec
  have hb := B.bytes
  have hr := B.returns
  have hts := atoms_spec (ws := wsX3_addTelling) B.pre
  have hown : s.vm.findClass RX3 = some m.cls := findClass_of_methodNamed B.named
  have hlocks := B.notSynchronized
  subst hsz
  have hK := hKA.1
  have hD := hD0.self (sz := s.heap.size)
  generalize hAe : va_A [(a_g, .inr (3, [.int g_wide, .int g_high, .int g_drown, .int g_wind, .long g_hedges, .long g_fountains, .int g_people, .int g_tellings, .int g_reports, .ref a_g_kinds, .ref a_g_squares, .ref a_g_voices, .ref a_g_tellers, .ref a_g_listeners, .ref a_g_witnesses, .ref a_g_claims])), (a_g_tellers, .inl (cy 1, 6, .inl g_tellers_f)), (a_g_listeners, .inl (cy 1, 6, .inl g_listeners_f))] s.heap.size = A at hD ⊢
  have hA : ∀ q : Nat, s.heap.size ≤ q → A q := fun q h => by rw [← hAe]; exact Or.inr h
  have hS : va_S A s.heap s.heap [] := va_S.rf
  have hP : va_P D vwCl [(a_g, .inr (3, [.int g_wide, .int g_high, .int g_drown, .int g_wind, .long g_hedges, .long g_fountains, .int g_people, .int g_tellings, .int g_reports, .ref a_g_kinds, .ref a_g_squares, .ref a_g_voices, .ref a_g_tellers, .ref a_g_listeners, .ref a_g_witnesses, .ref a_g_claims])), (a_g_tellers, .inl (cy 1, 6, .inl g_tellers_f)), (a_g_listeners, .inl (cy 1, 6, .inl g_listeners_f))] s.heap := hP
  have hl := lv_entry ([.ref a_g, .int px, .int py]) (n := 3) (Nat.le_of_ble_eq_true rfl)
  rw [lg_entry_eq]
  generalize (lg_sl ([.ref a_g, .int px, .int py]) ++ List.replicate (3 - (lg_sl ([.ref a_g, .int px, .int py])).length) Slot.unset).toArray = ls at hl ⊢
  have hl : lv_has ls 3 [(0, .ref a_g), (1, .int px), (2, .int py)] := hl
  refine qW (fun QF hQF => ?_)
  have z0_ := hts (.fieldLink RX3 56 "HeardSeen$Garden" "tellings" "I") (by decide +kernel)
  have zi3_ : ∀ w ∈ u_ws RX3 TX3 16, w ∈ wsX3_addTelling := by decide +kernel
  have z2_ := hts (.fieldLink RX3 21 "HeardSeen$Garden" "tellers" "[I") (by decide +kernel)
  have z3_ := hts (.fieldLink RX3 24 "HeardSeen$Garden" "listeners" "[I") (by decide +kernel)
  refine lv_aload_n hx hb dX3_addTelling_0 rfl (lv_at hl 0 rfl) ?_
  refine va_get (D := D) (ci := 3) (v := .int g_tellings) (C := RX3) (T := TX3) (N := 16) hx hb hts zi3_ hown hK hP 0 rfl rfl 7 (by decide) z0_ (fun _ h9 => h9) rfl dX3_addTelling_1 ?_
  refine lv_if_lt (tgt := 16) hx hb dX3_addTelling_4 (by decide) (fun c1 => ?_) (fun c1 => ?_)
  · skip
    refine lv_iconst (v := (-1)) hx hb dX3_addTelling_16 (by decide) ?_
    subst hQF
    have hP9 := hP
    have hD9 := hD
    exact W.iret (v := (-1)) hx hb hr (fun t ht hW => ⟨⟨(-1), (g_tellings, g_tellers_f, g_listeners_f), rfl, trivial, by rw [ht]; exact hP9, hD9⟩, hS.F ht⟩) hS.2.2 dX3_addTelling_17
  · skip
    refine lv_aload_n hx hb dX3_addTelling_7 rfl (lv_at hl 0 rfl) ?_
    refine va_get (D := D) (ci := 3) (v := .int g_tellings) (C := RX3) (T := TX3) (N := 16) hx hb hts zi3_ hown hK hP 0 rfl rfl 7 (by decide) z0_ (fun _ h9 => h9) rfl dX3_addTelling_8 ?_
    refine lv_bipush (v := 6) hx hb dX3_addTelling_11 (by decide) ?_
    refine lv_icmp_lt (tgt := 18) hx hb dX3_addTelling_13 (by decide) (fun c2 => ?_) (fun c2 => ?_)
    · skip
      refine lv_aload_n hx hb dX3_addTelling_18 rfl (lv_at hl 0 rfl) ?_
      refine va_get (D := D) (ci := 3) (v := .ref a_g_tellers) (C := RX3) (T := TX3) (N := 16) hx hb hts zi3_ hown hK hP 0 rfl rfl 12 (by decide) z2_ (fun _ h9 => h9) rfl dX3_addTelling_19 ?_
      refine lv_aload_n hx hb dX3_addTelling_22 rfl (lv_at hl 0 rfl) ?_
      refine va_get (D := D) (ci := 3) (v := .int g_tellings) (C := RX3) (T := TX3) (N := 16) hx hb hts zi3_ hown hK hP 0 rfl rfl 7 (by decide) z0_ (fun _ h9 => h9) rfl dX3_addTelling_23 ?_
      refine lv_iload_n hx hb dX3_addTelling_26 rfl (lv_at hl 1 rfl) ?_
      refine my_iast hx hb hK hP hD hS 1 1 rfl rfl (by first | exact in_x (N := 6) (by decide) (by assumption) (by assumption) | exact in_y (N := 6) (by decide) (by assumption) (by assumption) | exact in_z (N := 6) (by decide) (by assumption) (by assumption)) rfl dX3_addTelling_27 (fun H locs hP hD hS => ?_)
      have hP : va_P D vwCl [(a_g, .inr (3, [.int g_wide, .int g_high, .int g_drown, .int g_wind, .long g_hedges, .long g_fountains, .int g_people, .int g_tellings, .int g_reports, .ref a_g_kinds, .ref a_g_squares, .ref a_g_voices, .ref a_g_tellers, .ref a_g_listeners, .ref a_g_witnesses, .ref a_g_claims])), (a_g_tellers, .inl (cy 1, 6, .inl (upd g_tellers_f (g_tellings : Int32).toNatClampNeg px))), (a_g_listeners, .inl (cy 1, 6, .inl g_listeners_f))] H := hP
      have hD : va_D A [(a_g, .inr (3, [.int g_wide, .int g_high, .int g_drown, .int g_wind, .long g_hedges, .long g_fountains, .int g_people, .int g_tellings, .int g_reports, .ref a_g_kinds, .ref a_g_squares, .ref a_g_voices, .ref a_g_tellers, .ref a_g_listeners, .ref a_g_witnesses, .ref a_g_claims])), (a_g_tellers, .inl (cy 1, 6, .inl (upd g_tellers_f (g_tellings : Int32).toNatClampNeg px))), (a_g_listeners, .inl (cy 1, 6, .inl g_listeners_f))] := hD
      refine lv_aload_n hx hb dX3_addTelling_28 rfl (lv_at hl 0 rfl) ?_
      refine va_get (D := D) (ci := 3) (v := .ref a_g_listeners) (C := RX3) (T := TX3) (N := 16) hx hb hts zi3_ hown hK hP 0 rfl rfl 13 (by decide) z3_ (fun _ h9 => h9) rfl dX3_addTelling_29 ?_
      refine lv_aload_n hx hb dX3_addTelling_32 rfl (lv_at hl 0 rfl) ?_
      refine va_get (D := D) (ci := 3) (v := .int g_tellings) (C := RX3) (T := TX3) (N := 16) hx hb hts zi3_ hown hK hP 0 rfl rfl 7 (by decide) z0_ (fun _ h9 => h9) rfl dX3_addTelling_33 ?_
      refine lv_iload_n hx hb dX3_addTelling_36 rfl (lv_at hl 2 rfl) ?_
      refine my_iast hx hb hK hP hD hS 2 1 rfl rfl (by first | exact in_x (N := 6) (by decide) (by assumption) (by assumption) | exact in_y (N := 6) (by decide) (by assumption) (by assumption) | exact in_z (N := 6) (by decide) (by assumption) (by assumption)) rfl dX3_addTelling_37 (fun H locs hP hD hS => ?_)
      have hP : va_P D vwCl [(a_g, .inr (3, [.int g_wide, .int g_high, .int g_drown, .int g_wind, .long g_hedges, .long g_fountains, .int g_people, .int g_tellings, .int g_reports, .ref a_g_kinds, .ref a_g_squares, .ref a_g_voices, .ref a_g_tellers, .ref a_g_listeners, .ref a_g_witnesses, .ref a_g_claims])), (a_g_tellers, .inl (cy 1, 6, .inl (upd g_tellers_f (g_tellings : Int32).toNatClampNeg px))), (a_g_listeners, .inl (cy 1, 6, .inl (upd g_listeners_f (g_tellings : Int32).toNatClampNeg py)))] H := hP
      have hD : va_D A [(a_g, .inr (3, [.int g_wide, .int g_high, .int g_drown, .int g_wind, .long g_hedges, .long g_fountains, .int g_people, .int g_tellings, .int g_reports, .ref a_g_kinds, .ref a_g_squares, .ref a_g_voices, .ref a_g_tellers, .ref a_g_listeners, .ref a_g_witnesses, .ref a_g_claims])), (a_g_tellers, .inl (cy 1, 6, .inl (upd g_tellers_f (g_tellings : Int32).toNatClampNeg px))), (a_g_listeners, .inl (cy 1, 6, .inl (upd g_listeners_f (g_tellings : Int32).toNatClampNeg py)))] := hD
      refine lv_aload_n hx hb dX3_addTelling_38 rfl (lv_at hl 0 rfl) ?_
      refine lv_dup hx hb dX3_addTelling_39 rfl ?_
      refine va_get (D := D) (ci := 3) (v := .int g_tellings) (C := RX3) (T := TX3) (N := 16) hx hb hts zi3_ hown hK hP 0 rfl rfl 7 (by decide) z0_ (fun _ h9 => h9) rfl dX3_addTelling_40 ?_
      refine lv_dup_x1 hx hb dX3_addTelling_43 rfl rfl ?_
      refine lv_iconst (v := 1) hx hb dX3_addTelling_44 (by decide) ?_
      refine lv_iadd hx hb dX3_addTelling_45 ?_
      refine va_put (D := D) (ci := 3) (v := .int (g_tellings + 1)) (ty := .int) (C := RX3) (T := TX3) (N := 16) hx hb hts zi3_ tyX3 tyX3_ok nmX3 hown hK hP hD hS 0 rfl rfl 7 (by decide) z0_ (fun _ h9 => h9) rfl (by decide +kernel) rfl rfl (Nat.le_of_ble_eq_true rfl) dX3_addTelling_46 (fun H locs hP hD hS => ?_)
      have hP : va_P D vwCl [(a_g, .inr (3, [.int g_wide, .int g_high, .int g_drown, .int g_wind, .long g_hedges, .long g_fountains, .int g_people, .int (g_tellings + 1), .int g_reports, .ref a_g_kinds, .ref a_g_squares, .ref a_g_voices, .ref a_g_tellers, .ref a_g_listeners, .ref a_g_witnesses, .ref a_g_claims])), (a_g_tellers, .inl (cy 1, 6, .inl (upd g_tellers_f (g_tellings : Int32).toNatClampNeg px))), (a_g_listeners, .inl (cy 1, 6, .inl (upd g_listeners_f (g_tellings : Int32).toNatClampNeg py)))] H := hP
      have hD : va_D A [(a_g, .inr (3, [.int g_wide, .int g_high, .int g_drown, .int g_wind, .long g_hedges, .long g_fountains, .int g_people, .int (g_tellings + 1), .int g_reports, .ref a_g_kinds, .ref a_g_squares, .ref a_g_voices, .ref a_g_tellers, .ref a_g_listeners, .ref a_g_witnesses, .ref a_g_claims])), (a_g_tellers, .inl (cy 1, 6, .inl (upd g_tellers_f (g_tellings : Int32).toNatClampNeg px))), (a_g_listeners, .inl (cy 1, 6, .inl (upd g_listeners_f (g_tellings : Int32).toNatClampNeg py)))] := hD
      subst hQF
      have hP9 := hP
      have hD9 := hD
      exact W.iret (v := g_tellings) hx hb hr (fun t ht hW => ⟨⟨g_tellings, (g_tellings + 1, upd g_tellers_f (g_tellings : Int32).toNatClampNeg px, upd g_listeners_f (g_tellings : Int32).toNatClampNeg py), rfl, trivial, by rw [ht]; exact hP9, hD9⟩, hS.F ht⟩) hS.2.2 dX3_addTelling_49
    · skip
      refine lv_iconst (v := (-1)) hx hb dX3_addTelling_16 (by decide) ?_
      subst hQF
      have hP9 := hP
      have hD9 := hD
      exact W.iret (v := (-1)) hx hb hr (fun t ht hW => ⟨⟨(-1), (g_tellings, g_tellers_f, g_listeners_f), rfl, trivial, by rw [ht]; exact hP9, hD9⟩, hS.F ht⟩) hS.2.2 dX3_addTelling_17

set_option maxHeartbeats 4000000 in
set_option maxRecDepth 100000 in
theorem n_X3_addReport (l : Launch) (D : va_G) (cy : Nat → ClassId) (a_g : Nat) (g_wide : Int32) (g_high : Int32) (g_drown : Int32) (g_wind : Int32) (g_hedges : Int64) (g_fountains : Int64) (g_people : Int32) (g_tellings : Int32) (g_reports : Int32) (a_g_kinds : Nat) (a_g_squares : Nat) (a_g_voices : Nat) (a_g_tellers : Nat) (a_g_listeners : Nat) (a_g_witnesses : Nat) (a_g_claims : Nat) (g_witnesses_f : Nat → Int32) (g_claims_f : Nat → Int32) (px : Int32) (py : Int32) (sz : Nat)  : Met l yX3_addReport wsX3_addReport ({ frames := 0, cells := 0, slots := 0, locals := 0 }) (va_Pc [.ref a_g, .int px, .int py] (kPre D cy [(a_g, .inr (3, [.int g_wide, .int g_high, .int g_drown, .int g_wind, .long g_hedges, .long g_fountains, .int g_people, .int g_tellings, .int g_reports, .ref a_g_kinds, .ref a_g_squares, .ref a_g_voices, .ref a_g_tellers, .ref a_g_listeners, .ref a_g_witnesses, .ref a_g_claims])), (a_g_witnesses, .inl (cy 1, 8, .inl g_witnesses_f)), (a_g_claims, .inl (cy 1, 8, .inl g_claims_f))] sz)) (va_Qi (fun (r : Int32) (u : Int32 × (Nat → Int32) × (Nat → Int32)) => True) (fun (u : Int32 × (Nat → Int32) × (Nat → Int32)) t => va_P D vwCl ([(a_g, .inr (3, [.int g_wide, .int g_high, .int g_drown, .int g_wind, .long g_hedges, .long g_fountains, .int g_people, .int g_tellings, .int u.1, .ref a_g_kinds, .ref a_g_squares, .ref a_g_voices, .ref a_g_tellers, .ref a_g_listeners, .ref a_g_witnesses, .ref a_g_claims])), (a_g_witnesses, .inl (cy 1, 8, .inl u.2.1)), (a_g_claims, .inl (cy 1, 8, .inl u.2.2))]) t.heap ∧ va_D (va_A [(a_g, .inr (3, [.int g_wide, .int g_high, .int g_drown, .int g_wind, .long g_hedges, .long g_fountains, .int g_people, .int g_tellings, .int g_reports, .ref a_g_kinds, .ref a_g_squares, .ref a_g_voices, .ref a_g_tellers, .ref a_g_listeners, .ref a_g_witnesses, .ref a_g_claims])), (a_g_witnesses, .inl (cy 1, 8, .inl g_witnesses_f)), (a_g_claims, .inl (cy 1, 8, .inl g_claims_f))] sz) ([(a_g, .inr (3, [.int g_wide, .int g_high, .int g_drown, .int g_wind, .long g_hedges, .long g_fountains, .int g_people, .int g_tellings, .int u.1, .ref a_g_kinds, .ref a_g_squares, .ref a_g_voices, .ref a_g_tellers, .ref a_g_listeners, .ref a_g_witnesses, .ref a_g_claims])), (a_g_witnesses, .inl (cy 1, 8, .inl u.2.1)), (a_g_claims, .inl (cy 1, 8, .inl u.2.2))])) (va_A [(a_g, .inr (3, [.int g_wide, .int g_high, .int g_drown, .int g_wind, .long g_hedges, .long g_fountains, .int g_people, .int g_tellings, .int g_reports, .ref a_g_kinds, .ref a_g_squares, .ref a_g_voices, .ref a_g_tellers, .ref a_g_listeners, .ref a_g_witnesses, .ref a_g_claims])), (a_g_witnesses, .inl (cy 1, 8, .inl g_witnesses_f)), (a_g_claims, .inl (cy 1, 8, .inl g_claims_f))] sz)) 0 0 (va_A [(a_g, .inr (3, [.int g_wide, .int g_high, .int g_drown, .int g_wind, .long g_hedges, .long g_fountains, .int g_people, .int g_tellings, .int g_reports, .ref a_g_kinds, .ref a_g_squares, .ref a_g_voices, .ref a_g_tellers, .ref a_g_listeners, .ref a_g_witnesses, .ref a_g_claims])), (a_g_witnesses, .inl (cy 1, 8, .inl g_witnesses_f)), (a_g_claims, .inl (cy 1, 8, .inl g_claims_f))] sz) := by
  refine Met.ofW (cc := cX3_addReport) (maxL := 3) (ret := (some .int)) (by decide) rfl ?_
  intro p e s m args below meth c s₁ B hml hv
  obtain ⟨rfl, hsz, hP, hKA, hD0⟩ := hv
  have hx := B.exec
  have hb := B.bytes
  have hr := B.returns
  have hts := atoms_spec (ws := wsX3_addReport) B.pre
  have hown : s.vm.findClass RX3 = some m.cls := findClass_of_methodNamed B.named
  have hlocks := B.notSynchronized
  subst hsz
  have hK := hKA.1
  have hD := hD0.self (sz := s.heap.size)
  generalize hAe : va_A [(a_g, .inr (3, [.int g_wide, .int g_high, .int g_drown, .int g_wind, .long g_hedges, .long g_fountains, .int g_people, .int g_tellings, .int g_reports, .ref a_g_kinds, .ref a_g_squares, .ref a_g_voices, .ref a_g_tellers, .ref a_g_listeners, .ref a_g_witnesses, .ref a_g_claims])), (a_g_witnesses, .inl (cy 1, 8, .inl g_witnesses_f)), (a_g_claims, .inl (cy 1, 8, .inl g_claims_f))] s.heap.size = A at hD ⊢
  have hA : ∀ q : Nat, s.heap.size ≤ q → A q := fun q h => by rw [← hAe]; exact Or.inr h
  have hS : va_S A s.heap s.heap [] := va_S.rf
  have hP : va_P D vwCl [(a_g, .inr (3, [.int g_wide, .int g_high, .int g_drown, .int g_wind, .long g_hedges, .long g_fountains, .int g_people, .int g_tellings, .int g_reports, .ref a_g_kinds, .ref a_g_squares, .ref a_g_voices, .ref a_g_tellers, .ref a_g_listeners, .ref a_g_witnesses, .ref a_g_claims])), (a_g_witnesses, .inl (cy 1, 8, .inl g_witnesses_f)), (a_g_claims, .inl (cy 1, 8, .inl g_claims_f))] s.heap := hP
  have hl := lv_entry ([.ref a_g, .int px, .int py]) (n := 3) (Nat.le_of_ble_eq_true rfl)
  rw [lg_entry_eq]
  generalize (lg_sl ([.ref a_g, .int px, .int py]) ++ List.replicate (3 - (lg_sl ([.ref a_g, .int px, .int py])).length) Slot.unset).toArray = ls at hl ⊢
  have hl : lv_has ls 3 [(0, .ref a_g), (1, .int px), (2, .int py)] := hl
  refine qW (fun QF hQF => ?_)
  have z0_ := hts (.fieldLink RX3 59 "HeardSeen$Garden" "reports" "I") (by decide +kernel)
  have zi3_ : ∀ w ∈ u_ws RX3 TX3 16, w ∈ wsX3_addReport := by decide +kernel
  have z2_ := hts (.fieldLink RX3 27 "HeardSeen$Garden" "witnesses" "[I") (by decide +kernel)
  have z3_ := hts (.fieldLink RX3 30 "HeardSeen$Garden" "claims" "[I") (by decide +kernel)
  refine lv_aload_n hx hb dX3_addReport_0 rfl (lv_at hl 0 rfl) ?_
  refine va_get (D := D) (ci := 3) (v := .int g_reports) (C := RX3) (T := TX3) (N := 16) hx hb hts zi3_ hown hK hP 0 rfl rfl 8 (by decide) z0_ (fun _ h9 => h9) rfl dX3_addReport_1 ?_
  refine lv_if_lt (tgt := 16) hx hb dX3_addReport_4 (by decide) (fun c1 => ?_) (fun c1 => ?_)
  · skip
    refine lv_iconst (v := (-1)) hx hb dX3_addReport_16 (by decide) ?_
    subst hQF
    have hP9 := hP
    have hD9 := hD
    exact W.iret (v := (-1)) hx hb hr (fun t ht hW => ⟨⟨(-1), (g_reports, g_witnesses_f, g_claims_f), rfl, trivial, by rw [ht]; exact hP9, hD9⟩, hS.F ht⟩) hS.2.2 dX3_addReport_17
  · skip
    refine lv_aload_n hx hb dX3_addReport_7 rfl (lv_at hl 0 rfl) ?_
    refine va_get (D := D) (ci := 3) (v := .int g_reports) (C := RX3) (T := TX3) (N := 16) hx hb hts zi3_ hown hK hP 0 rfl rfl 8 (by decide) z0_ (fun _ h9 => h9) rfl dX3_addReport_8 ?_
    refine lv_bipush (v := 8) hx hb dX3_addReport_11 (by decide) ?_
    refine lv_icmp_lt (tgt := 18) hx hb dX3_addReport_13 (by decide) (fun c2 => ?_) (fun c2 => ?_)
    · skip
      refine lv_aload_n hx hb dX3_addReport_18 rfl (lv_at hl 0 rfl) ?_
      refine va_get (D := D) (ci := 3) (v := .ref a_g_witnesses) (C := RX3) (T := TX3) (N := 16) hx hb hts zi3_ hown hK hP 0 rfl rfl 14 (by decide) z2_ (fun _ h9 => h9) rfl dX3_addReport_19 ?_
      refine lv_aload_n hx hb dX3_addReport_22 rfl (lv_at hl 0 rfl) ?_
      refine va_get (D := D) (ci := 3) (v := .int g_reports) (C := RX3) (T := TX3) (N := 16) hx hb hts zi3_ hown hK hP 0 rfl rfl 8 (by decide) z0_ (fun _ h9 => h9) rfl dX3_addReport_23 ?_
      refine lv_iload_n hx hb dX3_addReport_26 rfl (lv_at hl 1 rfl) ?_
      refine my_iast hx hb hK hP hD hS 1 1 rfl rfl (by first | exact in_x (N := 8) (by decide) (by assumption) (by assumption) | exact in_y (N := 8) (by decide) (by assumption) (by assumption) | exact in_z (N := 8) (by decide) (by assumption) (by assumption)) rfl dX3_addReport_27 (fun H locs hP hD hS => ?_)
      have hP : va_P D vwCl [(a_g, .inr (3, [.int g_wide, .int g_high, .int g_drown, .int g_wind, .long g_hedges, .long g_fountains, .int g_people, .int g_tellings, .int g_reports, .ref a_g_kinds, .ref a_g_squares, .ref a_g_voices, .ref a_g_tellers, .ref a_g_listeners, .ref a_g_witnesses, .ref a_g_claims])), (a_g_witnesses, .inl (cy 1, 8, .inl (upd g_witnesses_f (g_reports : Int32).toNatClampNeg px))), (a_g_claims, .inl (cy 1, 8, .inl g_claims_f))] H := hP
      have hD : va_D A [(a_g, .inr (3, [.int g_wide, .int g_high, .int g_drown, .int g_wind, .long g_hedges, .long g_fountains, .int g_people, .int g_tellings, .int g_reports, .ref a_g_kinds, .ref a_g_squares, .ref a_g_voices, .ref a_g_tellers, .ref a_g_listeners, .ref a_g_witnesses, .ref a_g_claims])), (a_g_witnesses, .inl (cy 1, 8, .inl (upd g_witnesses_f (g_reports : Int32).toNatClampNeg px))), (a_g_claims, .inl (cy 1, 8, .inl g_claims_f))] := hD
      refine lv_aload_n hx hb dX3_addReport_28 rfl (lv_at hl 0 rfl) ?_
      refine va_get (D := D) (ci := 3) (v := .ref a_g_claims) (C := RX3) (T := TX3) (N := 16) hx hb hts zi3_ hown hK hP 0 rfl rfl 15 (by decide) z3_ (fun _ h9 => h9) rfl dX3_addReport_29 ?_
      refine lv_aload_n hx hb dX3_addReport_32 rfl (lv_at hl 0 rfl) ?_
      refine va_get (D := D) (ci := 3) (v := .int g_reports) (C := RX3) (T := TX3) (N := 16) hx hb hts zi3_ hown hK hP 0 rfl rfl 8 (by decide) z0_ (fun _ h9 => h9) rfl dX3_addReport_33 ?_
      refine lv_iload_n hx hb dX3_addReport_36 rfl (lv_at hl 2 rfl) ?_
      refine my_iast hx hb hK hP hD hS 2 1 rfl rfl (by first | exact in_x (N := 8) (by decide) (by assumption) (by assumption) | exact in_y (N := 8) (by decide) (by assumption) (by assumption) | exact in_z (N := 8) (by decide) (by assumption) (by assumption)) rfl dX3_addReport_37 (fun H locs hP hD hS => ?_)
      have hP : va_P D vwCl [(a_g, .inr (3, [.int g_wide, .int g_high, .int g_drown, .int g_wind, .long g_hedges, .long g_fountains, .int g_people, .int g_tellings, .int g_reports, .ref a_g_kinds, .ref a_g_squares, .ref a_g_voices, .ref a_g_tellers, .ref a_g_listeners, .ref a_g_witnesses, .ref a_g_claims])), (a_g_witnesses, .inl (cy 1, 8, .inl (upd g_witnesses_f (g_reports : Int32).toNatClampNeg px))), (a_g_claims, .inl (cy 1, 8, .inl (upd g_claims_f (g_reports : Int32).toNatClampNeg py)))] H := hP
      have hD : va_D A [(a_g, .inr (3, [.int g_wide, .int g_high, .int g_drown, .int g_wind, .long g_hedges, .long g_fountains, .int g_people, .int g_tellings, .int g_reports, .ref a_g_kinds, .ref a_g_squares, .ref a_g_voices, .ref a_g_tellers, .ref a_g_listeners, .ref a_g_witnesses, .ref a_g_claims])), (a_g_witnesses, .inl (cy 1, 8, .inl (upd g_witnesses_f (g_reports : Int32).toNatClampNeg px))), (a_g_claims, .inl (cy 1, 8, .inl (upd g_claims_f (g_reports : Int32).toNatClampNeg py)))] := hD
      refine lv_aload_n hx hb dX3_addReport_38 rfl (lv_at hl 0 rfl) ?_
      refine lv_dup hx hb dX3_addReport_39 rfl ?_
      refine va_get (D := D) (ci := 3) (v := .int g_reports) (C := RX3) (T := TX3) (N := 16) hx hb hts zi3_ hown hK hP 0 rfl rfl 8 (by decide) z0_ (fun _ h9 => h9) rfl dX3_addReport_40 ?_
      refine lv_dup_x1 hx hb dX3_addReport_43 rfl rfl ?_
      refine lv_iconst (v := 1) hx hb dX3_addReport_44 (by decide) ?_
      refine lv_iadd hx hb dX3_addReport_45 ?_
      refine va_put (D := D) (ci := 3) (v := .int (g_reports + 1)) (ty := .int) (C := RX3) (T := TX3) (N := 16) hx hb hts zi3_ tyX3 tyX3_ok nmX3 hown hK hP hD hS 0 rfl rfl 8 (by decide) z0_ (fun _ h9 => h9) rfl (by decide +kernel) rfl rfl (Nat.le_of_ble_eq_true rfl) dX3_addReport_46 (fun H locs hP hD hS => ?_)
      have hP : va_P D vwCl [(a_g, .inr (3, [.int g_wide, .int g_high, .int g_drown, .int g_wind, .long g_hedges, .long g_fountains, .int g_people, .int g_tellings, .int (g_reports + 1), .ref a_g_kinds, .ref a_g_squares, .ref a_g_voices, .ref a_g_tellers, .ref a_g_listeners, .ref a_g_witnesses, .ref a_g_claims])), (a_g_witnesses, .inl (cy 1, 8, .inl (upd g_witnesses_f (g_reports : Int32).toNatClampNeg px))), (a_g_claims, .inl (cy 1, 8, .inl (upd g_claims_f (g_reports : Int32).toNatClampNeg py)))] H := hP
      have hD : va_D A [(a_g, .inr (3, [.int g_wide, .int g_high, .int g_drown, .int g_wind, .long g_hedges, .long g_fountains, .int g_people, .int g_tellings, .int (g_reports + 1), .ref a_g_kinds, .ref a_g_squares, .ref a_g_voices, .ref a_g_tellers, .ref a_g_listeners, .ref a_g_witnesses, .ref a_g_claims])), (a_g_witnesses, .inl (cy 1, 8, .inl (upd g_witnesses_f (g_reports : Int32).toNatClampNeg px))), (a_g_claims, .inl (cy 1, 8, .inl (upd g_claims_f (g_reports : Int32).toNatClampNeg py)))] := hD
      subst hQF
      have hP9 := hP
      have hD9 := hD
      exact W.iret (v := g_reports) hx hb hr (fun t ht hW => ⟨⟨g_reports, (g_reports + 1, upd g_witnesses_f (g_reports : Int32).toNatClampNeg px, upd g_claims_f (g_reports : Int32).toNatClampNeg py), rfl, trivial, by rw [ht]; exact hP9, hD9⟩, hS.F ht⟩) hS.2.2 dX3_addReport_49
    · skip
      refine lv_iconst (v := (-1)) hx hb dX3_addReport_16 (by decide) ?_
      subst hQF
      have hP9 := hP
      have hD9 := hD
      exact W.iret (v := (-1)) hx hb hr (fun t ht hW => ⟨⟨(-1), (g_reports, g_witnesses_f, g_claims_f), rfl, trivial, by rw [ht]; exact hP9, hD9⟩, hS.F ht⟩) hS.2.2 dX3_addReport_17

set_option maxHeartbeats 4000000 in
set_option maxRecDepth 100000 in
theorem n_X3_yardsOf (l : Launch) (D : va_G) (cy : Nat → ClassId) (a_g : Nat) (g_wide : Int32) (g_high : Int32) (g_drown : Int32) (g_wind : Int32) (g_hedges : Int64) (g_fountains : Int64) (g_people : Int32) (g_tellings : Int32) (g_reports : Int32) (a_g_kinds : Nat) (a_g_squares : Nat) (a_g_voices : Nat) (a_g_tellers : Nat) (a_g_listeners : Nat) (a_g_witnesses : Nat) (a_g_claims : Nat) (px : Int32) (py : Int32) (sz : Nat)  : Met l yX3_yardsOf wsX3_yardsOf ({ frames := 1, cells := 0, slots := 0, locals := 21 }) (va_Pc [.ref a_g, .int px, .int py] (kPre D cy [(a_g, .inr (3, [.int g_wide, .int g_high, .int g_drown, .int g_wind, .long g_hedges, .long g_fountains, .int g_people, .int g_tellings, .int g_reports, .ref a_g_kinds, .ref a_g_squares, .ref a_g_voices, .ref a_g_tellers, .ref a_g_listeners, .ref a_g_witnesses, .ref a_g_claims]))] sz)) (va_Qi (fun (r : Int32) (u : Unit) => True) (fun _ _ => True) (fun q : Nat => sz ≤ q)) 0 0 (fun q : Nat => sz ≤ q) := by
  refine Met.ofW (cc := cX3_yardsOf) (maxL := 3) (ret := (some .int)) (by decide) rfl ?_
  intro p e s m args below meth c s₁ B hml hv
  obtain ⟨rfl, hsz, hP, hKA, hD0⟩ := hv
  have hx := B.exec
  have hb := B.bytes
  have hr := B.returns
  have hts := atoms_spec (ws := wsX3_yardsOf) B.pre
  have hown : s.vm.findClass RX3 = some m.cls := findClass_of_methodNamed B.named
  have hlocks := B.notSynchronized
  subst hsz
  have hK := hKA.1
  have hD := hD0
  generalize hAe : (fun q : Nat => s.heap.size ≤ q) = A
  have hA : ∀ q : Nat, s.heap.size ≤ q → A q := fun q h => by rw [← hAe]; exact h
  have hS : va_S A s.heap s.heap [] := va_S.rf
  have hP : va_P D vwCl [(a_g, .inr (3, [.int g_wide, .int g_high, .int g_drown, .int g_wind, .long g_hedges, .long g_fountains, .int g_people, .int g_tellings, .int g_reports, .ref a_g_kinds, .ref a_g_squares, .ref a_g_voices, .ref a_g_tellers, .ref a_g_listeners, .ref a_g_witnesses, .ref a_g_claims]))] s.heap := hP
  have hl := lv_entry ([.ref a_g, .int px, .int py]) (n := 3) (Nat.le_of_ble_eq_true rfl)
  rw [lg_entry_eq]
  generalize (lg_sl ([.ref a_g, .int px, .int py]) ++ List.replicate (3 - (lg_sl ([.ref a_g, .int px, .int py])).length) Slot.unset).toArray = ls at hl ⊢
  have hl : lv_has ls 3 [(0, .ref a_g), (1, .int px), (2, .int py)] := hl
  refine qW (fun QF hQF => ?_)
  have z0_ := hts (.methodLink RX3 91 Lib.Math.abs.name) (by decide +kernel)
  have z1_ := hts (.static Lib.Math.abs.name) (by decide +kernel)
  have z2_ := hts (.initialized "java/lang/Math") (by decide +kernel)
  have z3_ := hts (.code Lib.Math.abs.name Lib.Math.abs.code 1 (some .int)) (by decide +kernel)
  refine lv_aload_n hx hb dX3_yardsOf_0 rfl (lv_at hl 0 rfl) ?_
  refine lv_iload_n hx hb dX3_yardsOf_1 rfl (lv_at hl 1 rfl) ?_
  refine rd_i (va_runV (As := [.int px]) (rest := []) ⟨hx, hb, hml, hown, hts⟩ (n_X3_xOf l D cy a_g g_wide g_high g_drown g_wind g_hedges g_fountains g_people g_tellings g_reports a_g_kinds a_g_squares a_g_voices a_g_tellers a_g_listeners a_g_witnesses a_g_claims px _ ) (cwV 1 hts gX3_yardsOf_X3_xOf rfl rfl rfl (by decide +kernel) ⟨Nat.le_of_ble_eq_true rfl, Nat.le_of_ble_eq_true rfl⟩) (pV (ci := 3) (k := 0) hKA (hP.sub (ws' := [(a_g, .inr (3, [.int g_wide, .int g_high, .int g_drown, .int g_wind, .long g_hedges, .long g_fountains, .int g_people, .int g_tellings, .int g_reports, .ref a_g_kinds, .ref a_g_squares, .ref a_g_voices, .ref a_g_tellers, .ref a_g_listeners, .ref a_g_witnesses, .ref a_g_claims]))]) [0] rfl) (hD.sub (ws' := [(a_g, .inr (3, [.int g_wide, .int g_high, .int g_drown, .int g_wind, .long g_hedges, .long g_fountains, .int g_people, .int g_tellings, .int g_reports, .ref a_g_kinds, .ref a_g_squares, .ref a_g_voices, .ref a_g_tellers, .ref a_g_listeners, .ref a_g_witnesses, .ref a_g_claims]))]) [0] (by decide) rfl) rfl rfl) rfl rfl hl.1 rfl (lv_room (Nat.le_of_ble_eq_true rfl)) dX3_yardsOf_2 ⟨Nat.le_of_ble_eq_true rfl, Nat.le_of_ble_eq_true rfl⟩) hP hS hA (fun r1 H locs hwr1 hP hS => ?_)
  have hwr1 : r1.toInt < 2147483647 := hwr1
  refine lv_aload_n hx hb dX3_yardsOf_5 rfl (lv_at hl 0 rfl) ?_
  refine lv_iload_n hx hb dX3_yardsOf_6 rfl (lv_at hl 2 rfl) ?_
  refine rd_i (va_runV (As := [.int py]) (rest := [.int r1]) ⟨hx, hb, hml, hown, hts⟩ (n_X3_xOf l D cy a_g g_wide g_high g_drown g_wind g_hedges g_fountains g_people g_tellings g_reports a_g_kinds a_g_squares a_g_voices a_g_tellers a_g_listeners a_g_witnesses a_g_claims py _ ) (cwV 1 hts gX3_yardsOf_X3_xOf rfl rfl rfl (by decide +kernel) ⟨Nat.le_of_ble_eq_true rfl, Nat.le_of_ble_eq_true rfl⟩) (pV (ci := 3) (k := 0) hKA (hP.sub (ws' := [(a_g, .inr (3, [.int g_wide, .int g_high, .int g_drown, .int g_wind, .long g_hedges, .long g_fountains, .int g_people, .int g_tellings, .int g_reports, .ref a_g_kinds, .ref a_g_squares, .ref a_g_voices, .ref a_g_tellers, .ref a_g_listeners, .ref a_g_witnesses, .ref a_g_claims]))]) [0] rfl) (hD.sub (ws' := [(a_g, .inr (3, [.int g_wide, .int g_high, .int g_drown, .int g_wind, .long g_hedges, .long g_fountains, .int g_people, .int g_tellings, .int g_reports, .ref a_g_kinds, .ref a_g_squares, .ref a_g_voices, .ref a_g_tellers, .ref a_g_listeners, .ref a_g_witnesses, .ref a_g_claims]))]) [0] (by decide) rfl) rfl rfl) rfl rfl hl.1 rfl (lv_room (Nat.le_of_ble_eq_true rfl)) dX3_yardsOf_7 ⟨Nat.le_of_ble_eq_true rfl, Nat.le_of_ble_eq_true rfl⟩) hP hS hA (fun r2 H locs hwr2 hP hS => ?_)
  have hwr2 : r2.toInt < 2147483647 := hwr2
  refine lv_isub hx hb dX3_yardsOf_10 ?_
  refine va_mabs hx hb (by rw [hml]; exact hl.1.symm) hown z0_ z1_ z2_ z3_ (Nat.le_of_ble_eq_true rfl) (Nat.le_of_ble_eq_true rfl) (Nat.zero_le _) (Nat.zero_le _) dX3_yardsOf_11 ?_
  refine lv_topi (fun x3 ex3 => ?_)
  refine lv_aload_n hx hb dX3_yardsOf_14 rfl (lv_at hl 0 rfl) ?_
  refine lv_iload_n hx hb dX3_yardsOf_15 rfl (lv_at hl 1 rfl) ?_
  refine rd_i (va_runV (As := [.int px]) (rest := [.int x3]) ⟨hx, hb, hml, hown, hts⟩ (n_yOf0 l D cy a_g g_wide g_high g_drown g_wind g_hedges g_fountains g_people g_tellings g_reports a_g_kinds a_g_squares a_g_voices a_g_tellers a_g_listeners a_g_witnesses a_g_claims px _ ) (cwV 1 hts gX3_yardsOf_X3_yOf rfl rfl rfl (by decide +kernel) ⟨Nat.le_of_ble_eq_true rfl, Nat.le_of_ble_eq_true rfl⟩) (pV (ci := 3) (k := 0) hKA (hP.sub (ws' := [(a_g, .inr (3, [.int g_wide, .int g_high, .int g_drown, .int g_wind, .long g_hedges, .long g_fountains, .int g_people, .int g_tellings, .int g_reports, .ref a_g_kinds, .ref a_g_squares, .ref a_g_voices, .ref a_g_tellers, .ref a_g_listeners, .ref a_g_witnesses, .ref a_g_claims]))]) [0] rfl) (hD.sub (ws' := [(a_g, .inr (3, [.int g_wide, .int g_high, .int g_drown, .int g_wind, .long g_hedges, .long g_fountains, .int g_people, .int g_tellings, .int g_reports, .ref a_g_kinds, .ref a_g_squares, .ref a_g_voices, .ref a_g_tellers, .ref a_g_listeners, .ref a_g_witnesses, .ref a_g_claims]))]) [0] (by decide) rfl) rfl rfl) rfl rfl hl.1 rfl (lv_room (Nat.le_of_ble_eq_true rfl)) dX3_yardsOf_16 ⟨Nat.le_of_ble_eq_true rfl, Nat.le_of_ble_eq_true rfl⟩) hP hS hA (fun r4 H locs hwr4 hP hS => ?_)
  refine lv_aload_n hx hb dX3_yardsOf_19 rfl (lv_at hl 0 rfl) ?_
  refine lv_iload_n hx hb dX3_yardsOf_20 rfl (lv_at hl 2 rfl) ?_
  refine rd_i (va_runV (As := [.int py]) (rest := [.int r4, .int x3]) ⟨hx, hb, hml, hown, hts⟩ (n_yOf0 l D cy a_g g_wide g_high g_drown g_wind g_hedges g_fountains g_people g_tellings g_reports a_g_kinds a_g_squares a_g_voices a_g_tellers a_g_listeners a_g_witnesses a_g_claims py _ ) (cwV 1 hts gX3_yardsOf_X3_yOf rfl rfl rfl (by decide +kernel) ⟨Nat.le_of_ble_eq_true rfl, Nat.le_of_ble_eq_true rfl⟩) (pV (ci := 3) (k := 0) hKA (hP.sub (ws' := [(a_g, .inr (3, [.int g_wide, .int g_high, .int g_drown, .int g_wind, .long g_hedges, .long g_fountains, .int g_people, .int g_tellings, .int g_reports, .ref a_g_kinds, .ref a_g_squares, .ref a_g_voices, .ref a_g_tellers, .ref a_g_listeners, .ref a_g_witnesses, .ref a_g_claims]))]) [0] rfl) (hD.sub (ws' := [(a_g, .inr (3, [.int g_wide, .int g_high, .int g_drown, .int g_wind, .long g_hedges, .long g_fountains, .int g_people, .int g_tellings, .int g_reports, .ref a_g_kinds, .ref a_g_squares, .ref a_g_voices, .ref a_g_tellers, .ref a_g_listeners, .ref a_g_witnesses, .ref a_g_claims]))]) [0] (by decide) rfl) rfl rfl) rfl rfl hl.1 rfl (lv_room (Nat.le_of_ble_eq_true rfl)) dX3_yardsOf_21 ⟨Nat.le_of_ble_eq_true rfl, Nat.le_of_ble_eq_true rfl⟩) hP hS hA (fun r5 H locs hwr5 hP hS => ?_)
  refine lv_isub hx hb dX3_yardsOf_24 ?_
  refine va_mabs hx hb (by rw [hml]; exact hl.1.symm) hown z0_ z1_ z2_ z3_ (Nat.le_of_ble_eq_true rfl) (Nat.le_of_ble_eq_true rfl) (Nat.zero_le _) (Nat.zero_le _) dX3_yardsOf_25 ?_
  refine lv_topi (fun x6 ex6 => ?_)
  refine lv_iadd hx hb dX3_yardsOf_28 ?_
  refine lv_topi (fun x7 ex7 => ?_)
  subst hQF
  exact W.iret (v := x7) hx hb hr (fun t ht hW => ⟨⟨x7, (), rfl, trivial, trivial⟩, hS.F ht⟩) hS.2.2 dX3_yardsOf_29
