theorem dX10_refuseBad_0 : decode cX10_refuseBad 0 = .ok (.aload_n 0, 1) := by decide +kernel
theorem dX10_refuseBad_1 : decode cX10_refuseBad 1 = .ok (.dup, 1) := by decide +kernel
theorem dX10_refuseBad_2 : decode cX10_refuseBad 2 = .ok (.getfield 204, 3) := by decide +kernel
theorem dX10_refuseBad_5 : decode cX10_refuseBad 5 = .ok (.iconst 1, 1) := by decide +kernel
theorem dX10_refuseBad_6 : decode cX10_refuseBad 6 = .ok (.iadd, 1) := by decide +kernel
theorem dX10_refuseBad_7 : decode cX10_refuseBad 7 = .ok (.putfield 204, 3) := by decide +kernel
theorem dX10_refuseBad_10 : decode cX10_refuseBad 10 = .ok (.iload_n 1, 1) := by decide +kernel
theorem dX10_refuseBad_11 : decode cX10_refuseBad 11 = .ok (.ireturn, 1) := by decide +kernel
theorem dX10_refuseNo_0 : decode cX10_refuseNo 0 = .ok (.aload_n 0, 1) := by decide +kernel
theorem dX10_refuseNo_1 : decode cX10_refuseNo 1 = .ok (.dup, 1) := by decide +kernel
theorem dX10_refuseNo_2 : decode cX10_refuseNo 2 = .ok (.getfield 207, 3) := by decide +kernel
theorem dX10_refuseNo_5 : decode cX10_refuseNo 5 = .ok (.iconst 1, 1) := by decide +kernel
theorem dX10_refuseNo_6 : decode cX10_refuseNo 6 = .ok (.iadd, 1) := by decide +kernel
theorem dX10_refuseNo_7 : decode cX10_refuseNo 7 = .ok (.putfield 207, 3) := by decide +kernel
theorem dX10_refuseNo_10 : decode cX10_refuseNo 10 = .ok (.iload_n 1, 1) := by decide +kernel
theorem dX10_refuseNo_11 : decode cX10_refuseNo 11 = .ok (.ireturn, 1) := by decide +kernel
theorem dX10_refuseFull_0 : decode cX10_refuseFull 0 = .ok (.aload_n 0, 1) := by decide +kernel
theorem dX10_refuseFull_1 : decode cX10_refuseFull 1 = .ok (.dup, 1) := by decide +kernel
theorem dX10_refuseFull_2 : decode cX10_refuseFull 2 = .ok (.getfield 210, 3) := by decide +kernel
theorem dX10_refuseFull_5 : decode cX10_refuseFull 5 = .ok (.iconst 1, 1) := by decide +kernel
theorem dX10_refuseFull_6 : decode cX10_refuseFull 6 = .ok (.iadd, 1) := by decide +kernel
theorem dX10_refuseFull_7 : decode cX10_refuseFull 7 = .ok (.putfield 210, 3) := by decide +kernel
theorem dX10_refuseFull_10 : decode cX10_refuseFull 10 = .ok (.bipush (-4), 2) := by decide +kernel
theorem dX10_refuseFull_12 : decode cX10_refuseFull 12 = .ok (.ireturn, 1) := by decide +kernel
theorem dX10_isPairOfTwo_0 : decode cX10_isPairOfTwo 0 = .ok (.aload_n 0, 1) := by decide +kernel
theorem dX10_isPairOfTwo_1 : decode cX10_isPairOfTwo 1 = .ok (.getfield 10, 3) := by decide +kernel
theorem dX10_isPairOfTwo_4 : decode cX10_isPairOfTwo 4 = .ok (.iload_n 1, 1) := by decide +kernel
set_option maxRecDepth 20000 in
theorem ggX10_isPairOfTwo_X3_isPerson : GoodIn wsX10_isPairOfTwo wsX3_isPerson := goodIn_r _ [6, 7, 17, 18, 19, 20, 21, 22, 23, 24, 25, 26, 27, 28, 29, 30, 31, 32] (by decide +kernel) (by decide +kernel)
set_option maxRecDepth 20000 in
theorem gX10_isPairOfTwo_X3_isPerson : GoodIn wsX10_isPairOfTwo (wsV RX10 98 RX3 yX3_isPerson wsX3_isPerson) := goodIn_app (goodIn_of _ (by decide +kernel)) ggX10_isPairOfTwo_X3_isPerson
theorem dX10_isPairOfTwo_5 : decode cX10_isPairOfTwo 5 = .ok (.invokevirtual 98, 3) := by decide +kernel
theorem dX10_isPairOfTwo_8 : decode cX10_isPairOfTwo 8 = .ok (.ifCond .eq 23, 3) := by decide +kernel
theorem dX10_isPairOfTwo_31 : decode cX10_isPairOfTwo 31 = .ok (.iconst 0, 1) := by decide +kernel
theorem dX10_isPairOfTwo_32 : decode cX10_isPairOfTwo 32 = .ok (.ireturn, 1) := by decide +kernel
theorem dX10_isPairOfTwo_11 : decode cX10_isPairOfTwo 11 = .ok (.aload_n 0, 1) := by decide +kernel
theorem dX10_isPairOfTwo_12 : decode cX10_isPairOfTwo 12 = .ok (.getfield 10, 3) := by decide +kernel
theorem dX10_isPairOfTwo_15 : decode cX10_isPairOfTwo 15 = .ok (.iload_n 2, 1) := by decide +kernel
theorem dX10_isPairOfTwo_16 : decode cX10_isPairOfTwo 16 = .ok (.invokevirtual 98, 3) := by decide +kernel
theorem dX10_isPairOfTwo_19 : decode cX10_isPairOfTwo 19 = .ok (.ifCond .eq 12, 3) := by decide +kernel
theorem dX10_isPairOfTwo_22 : decode cX10_isPairOfTwo 22 = .ok (.iload_n 1, 1) := by decide +kernel
theorem dX10_isPairOfTwo_23 : decode cX10_isPairOfTwo 23 = .ok (.iload_n 2, 1) := by decide +kernel
theorem dX10_isPairOfTwo_24 : decode cX10_isPairOfTwo 24 = .ok (.if_icmp .eq 7, 3) := by decide +kernel
theorem dX10_isPairOfTwo_27 : decode cX10_isPairOfTwo 27 = .ok (.iconst 1, 1) := by decide +kernel
theorem dX10_isPairOfTwo_28 : decode cX10_isPairOfTwo 28 = .ok (.goto 4, 3) := by decide +kernel
theorem dX10_isGroup_0 : decode cX10_isGroup 0 = .ok (.iload_n 1, 1) := by decide +kernel
theorem dX10_isGroup_1 : decode cX10_isGroup 1 = .ok (.iconst 0, 1) := by decide +kernel
theorem dX10_isGroup_2 : decode cX10_isGroup 2 = .ok (.aload_n 0, 1) := by decide +kernel
theorem dX10_isGroup_3 : decode cX10_isGroup 3 = .ok (.getfield 10, 3) := by decide +kernel
set_option maxRecDepth 20000 in
theorem ggX10_isGroup_X3_everybody : GoodIn wsX10_isGroup wsX3_everybody := goodIn_r _ [6, 7, 21, 22, 23, 24, 25, 26, 27, 28, 29, 30, 31, 32, 33, 34, 35, 36] (by decide +kernel) (by decide +kernel)
set_option maxRecDepth 20000 in
theorem gX10_isGroup_X3_everybody : GoodIn wsX10_isGroup (wsV RX10 231 RX3 yX3_everybody wsX3_everybody) := goodIn_app (goodIn_of _ (by decide +kernel)) ggX10_isGroup_X3_everybody
theorem dX10_isGroup_6 : decode cX10_isGroup 6 = .ok (.invokevirtual 231, 3) := by decide +kernel
set_option maxRecDepth 20000 in
theorem ggX10_isGroup_X10_isWithin : GoodIn wsX10_isGroup wsX10_isWithin := goodIn_r _ [11] (by decide +kernel) (by decide +kernel)
set_option maxRecDepth 20000 in
theorem gX10_isGroup_X10_isWithin : GoodIn wsX10_isGroup (va_wsS RX10 48 yX10_isWithin wsX10_isWithin) := goodIn_app (goodIn_of _ (by decide +kernel)) ggX10_isGroup_X10_isWithin
theorem dX10_isGroup_9 : decode cX10_isGroup 9 = .ok (.invokestatic 48, 3) := by decide +kernel
theorem dX10_isGroup_12 : decode cX10_isGroup 12 = .ok (.ireturn, 1) := by decide +kernel
theorem dX10_howMany_0 : decode cX10_howMany 0 = .ok (.iload_n 1, 1) := by decide +kernel
theorem dX10_howMany_1 : decode cX10_howMany 1 = .ok (.tableswitch 105 0 6 #[43, 51, 62, 73, 81, 89, 97], 43) := by decide +kernel
theorem dX10_howMany_44 : decode cX10_howMany 44 = .ok (.aload_n 0, 1) := by decide +kernel
theorem dX10_howMany_45 : decode cX10_howMany 45 = .ok (.getfield 10, 3) := by decide +kernel
theorem dX10_howMany_48 : decode cX10_howMany 48 = .ok (.getfield 137, 3) := by decide +kernel
theorem dX10_howMany_51 : decode cX10_howMany 51 = .ok (.ireturn, 1) := by decide +kernel
theorem dX10_howMany_52 : decode cX10_howMany 52 = .ok (.aload_n 0, 1) := by decide +kernel
theorem dX10_howMany_53 : decode cX10_howMany 53 = .ok (.getfield 10, 3) := by decide +kernel
theorem dX10_howMany_56 : decode cX10_howMany 56 = .ok (.getfield 224, 3) := by decide +kernel
set_option maxRecDepth 20000 in
theorem ggX10_howMany_J13_bitCount_95d88 : GoodIn wsX10_howMany wsJ13_bitCount_95d88 := goodIn_r _ [12, 13, 14, 15] (by decide +kernel) (by decide +kernel)
set_option maxRecDepth 20000 in
theorem gX10_howMany_J13_bitCount_95d88 : GoodIn wsX10_howMany (va_wsS RX10 198 yJ13_bitCount_95d88 wsJ13_bitCount_95d88) := goodIn_app (goodIn_of _ (by decide +kernel)) ggX10_howMany_J13_bitCount_95d88
theorem dX10_howMany_59 : decode cX10_howMany 59 = .ok (.invokestatic 198, 3) := by decide +kernel
theorem dX10_howMany_62 : decode cX10_howMany 62 = .ok (.ireturn, 1) := by decide +kernel
theorem dX10_howMany_63 : decode cX10_howMany 63 = .ok (.aload_n 0, 1) := by decide +kernel
theorem dX10_howMany_64 : decode cX10_howMany 64 = .ok (.getfield 10, 3) := by decide +kernel
theorem dX10_howMany_67 : decode cX10_howMany 67 = .ok (.getfield 228, 3) := by decide +kernel
theorem dX10_howMany_70 : decode cX10_howMany 70 = .ok (.invokestatic 198, 3) := by decide +kernel
theorem dX10_howMany_73 : decode cX10_howMany 73 = .ok (.ireturn, 1) := by decide +kernel
theorem dX10_howMany_74 : decode cX10_howMany 74 = .ok (.aload_n 0, 1) := by decide +kernel
theorem dX10_howMany_75 : decode cX10_howMany 75 = .ok (.getfield 10, 3) := by decide +kernel
theorem dX10_howMany_78 : decode cX10_howMany 78 = .ok (.getfield 117, 3) := by decide +kernel
theorem dX10_howMany_81 : decode cX10_howMany 81 = .ok (.ireturn, 1) := by decide +kernel
theorem dX10_howMany_82 : decode cX10_howMany 82 = .ok (.aload_n 0, 1) := by decide +kernel
theorem dX10_howMany_83 : decode cX10_howMany 83 = .ok (.getfield 10, 3) := by decide +kernel
theorem dX10_howMany_86 : decode cX10_howMany 86 = .ok (.getfield 120, 3) := by decide +kernel
theorem dX10_howMany_89 : decode cX10_howMany 89 = .ok (.ireturn, 1) := by decide +kernel
theorem dX10_howMany_90 : decode cX10_howMany 90 = .ok (.aload_n 0, 1) := by decide +kernel
theorem dX10_howMany_91 : decode cX10_howMany 91 = .ok (.getfield 26, 3) := by decide +kernel
theorem dX10_howMany_94 : decode cX10_howMany 94 = .ok (.getfield 127, 3) := by decide +kernel
theorem dX10_howMany_97 : decode cX10_howMany 97 = .ok (.ireturn, 1) := by decide +kernel
theorem dX10_howMany_98 : decode cX10_howMany 98 = .ok (.aload_n 0, 1) := by decide +kernel
theorem dX10_howMany_99 : decode cX10_howMany 99 = .ok (.getfield 10, 3) := by decide +kernel
set_option maxRecDepth 20000 in
theorem ggX10_howMany_X3_squareCount : GoodIn wsX10_howMany wsX3_squareCount := goodIn_r _ [20, 21, 22, 32, 33, 34, 35, 36, 37, 38, 39, 40, 41, 42, 43, 44, 45, 46, 47] (by decide +kernel) (by decide +kernel)
set_option maxRecDepth 20000 in
theorem gX10_howMany_X3_squareCount : GoodIn wsX10_howMany (wsV RX10 60 RX3 yX3_squareCount wsX3_squareCount) := goodIn_app (goodIn_of _ (by decide +kernel)) ggX10_howMany_X3_squareCount
theorem dX10_howMany_102 : decode cX10_howMany 102 = .ok (.invokevirtual 60, 3) := by decide +kernel
theorem dX10_howMany_105 : decode cX10_howMany 105 = .ok (.ireturn, 1) := by decide +kernel
theorem dX10_howMany_106 : decode cX10_howMany 106 = .ok (.iconst (-1), 1) := by decide +kernel
theorem dX10_howMany_107 : decode cX10_howMany 107 = .ok (.ireturn, 1) := by decide +kernel
theorem dX10_garden_0 : decode cX10_garden 0 = .ok (.iload_n 1, 1) := by decide +kernel
theorem dX10_garden_1 : decode cX10_garden 1 = .ok (.iconst 2, 1) := by decide +kernel
theorem dX10_garden_2 : decode cX10_garden 2 = .ok (.bipush 6, 2) := by decide +kernel
set_option maxRecDepth 20000 in
theorem ggX10_garden_X10_isWithin : GoodIn wsX10_garden wsX10_isWithin := goodIn_r _ [5] (by decide +kernel) (by decide +kernel)
set_option maxRecDepth 20000 in
theorem gX10_garden_X10_isWithin : GoodIn wsX10_garden (va_wsS RX10 48 yX10_isWithin wsX10_isWithin) := goodIn_app (goodIn_of _ (by decide +kernel)) ggX10_garden_X10_isWithin
theorem dX10_garden_4 : decode cX10_garden 4 = .ok (.invokestatic 48, 3) := by decide +kernel
theorem dX10_garden_7 : decode cX10_garden 7 = .ok (.ifCond .eq 13, 3) := by decide +kernel
theorem dX10_garden_20 : decode cX10_garden 20 = .ok (.aload_n 0, 1) := by decide +kernel
theorem dX10_garden_21 : decode cX10_garden 21 = .ok (.bipush (-2), 2) := by decide +kernel
set_option maxRecDepth 20000 in
theorem ggX10_garden_X10_refuseBad : GoodIn wsX10_garden wsX10_refuseBad := goodIn_r _ [9, 10, 29, 30, 31, 32, 33, 34, 35, 36, 37] (by decide +kernel) (by decide +kernel)
set_option maxRecDepth 20000 in
theorem gX10_garden_X10_refuseBad : GoodIn wsX10_garden (wsV RX10 52 RX10 yX10_refuseBad wsX10_refuseBad) := goodIn_app (goodIn_of _ (by decide +kernel)) ggX10_garden_X10_refuseBad
theorem dX10_garden_23 : decode cX10_garden 23 = .ok (.invokevirtual 52, 3) := by decide +kernel
theorem dX10_garden_26 : decode cX10_garden 26 = .ok (.ireturn, 1) := by decide +kernel
theorem dX10_garden_10 : decode cX10_garden 10 = .ok (.iload_n 2, 1) := by decide +kernel
theorem dX10_garden_11 : decode cX10_garden 11 = .ok (.iconst 2, 1) := by decide +kernel
theorem dX10_garden_12 : decode cX10_garden 12 = .ok (.bipush 6, 2) := by decide +kernel
theorem dX10_garden_14 : decode cX10_garden 14 = .ok (.invokestatic 48, 3) := by decide +kernel
theorem dX10_garden_17 : decode cX10_garden 17 = .ok (.ifCond .ne 10, 3) := by decide +kernel
theorem dX10_garden_27 : decode cX10_garden 27 = .ok (.aload_n 0, 1) := by decide +kernel
theorem dX10_garden_28 : decode cX10_garden 28 = .ok (.getfield 10, 3) := by decide +kernel
theorem dX10_garden_31 : decode cX10_garden 31 = .ok (.iload_n 1, 1) := by decide +kernel
theorem dX10_garden_32 : decode cX10_garden 32 = .ok (.iload_n 2, 1) := by decide +kernel
set_option maxRecDepth 20000 in
theorem ggX10_garden_X3_layOut : GoodIn wsX10_garden wsX3_layOut := goodIn_r _ [15, 16, 17, 18, 19, 20, 21, 22, 23, 24, 38, 39, 40, 41, 42, 43, 44, 45, 46, 47, 48, 49, 50, 51, 52, 53] (by decide +kernel) (by decide +kernel)
set_option maxRecDepth 20000 in
theorem gX10_garden_X3_layOut : GoodIn wsX10_garden (wsV RX10 56 RX3 yX3_layOut wsX3_layOut) := goodIn_app (goodIn_of _ (by decide +kernel)) ggX10_garden_X3_layOut
theorem dX10_garden_33 : decode cX10_garden 33 = .ok (.invokevirtual 56, 3) := by decide +kernel
theorem dX10_garden_36 : decode cX10_garden 36 = .ok (.aload_n 0, 1) := by decide +kernel
theorem dX10_garden_37 : decode cX10_garden 37 = .ok (.getfield 10, 3) := by decide +kernel
set_option maxRecDepth 20000 in
theorem ggX10_garden_X3_squareCount : GoodIn wsX10_garden wsX3_squareCount := goodIn_r _ [28, 16, 17, 38, 39, 40, 41, 42, 43, 44, 45, 46, 47, 48, 49, 50, 51, 52, 53] (by decide +kernel) (by decide +kernel)
set_option maxRecDepth 20000 in
theorem gX10_garden_X3_squareCount : GoodIn wsX10_garden (wsV RX10 60 RX3 yX3_squareCount wsX3_squareCount) := goodIn_app (goodIn_of _ (by decide +kernel)) ggX10_garden_X3_squareCount
theorem dX10_garden_40 : decode cX10_garden 40 = .ok (.invokevirtual 60, 3) := by decide +kernel
theorem dX10_garden_43 : decode cX10_garden 43 = .ok (.ireturn, 1) := by decide +kernel
theorem dX10_set_0 : decode cX10_set 0 = .ok (.iload_n 1, 1) := by decide +kernel
theorem dX10_set_1 : decode cX10_set 1 = .ok (.iconst 0, 1) := by decide +kernel
theorem dX10_set_2 : decode cX10_set 2 = .ok (.iconst 1, 1) := by decide +kernel
set_option maxRecDepth 20000 in
theorem ggX10_set_X10_isWithin : GoodIn wsX10_set wsX10_isWithin := goodIn_r _ [5] (by decide +kernel) (by decide +kernel)
set_option maxRecDepth 20000 in
theorem gX10_set_X10_isWithin : GoodIn wsX10_set (va_wsS RX10 48 yX10_isWithin wsX10_isWithin) := goodIn_app (goodIn_of _ (by decide +kernel)) ggX10_set_X10_isWithin
theorem dX10_set_3 : decode cX10_set 3 = .ok (.invokestatic 48, 3) := by decide +kernel
theorem dX10_set_6 : decode cX10_set 6 = .ok (.ifCond .eq 14, 3) := by decide +kernel
theorem dX10_set_20 : decode cX10_set 20 = .ok (.aload_n 0, 1) := by decide +kernel
theorem dX10_set_21 : decode cX10_set 21 = .ok (.bipush (-2), 2) := by decide +kernel
set_option maxRecDepth 20000 in
theorem ggX10_set_X10_refuseBad : GoodIn wsX10_set wsX10_refuseBad := goodIn_r _ [20, 21, 45, 46, 47, 48, 49, 50, 51, 52, 53] (by decide +kernel) (by decide +kernel)
set_option maxRecDepth 20000 in
theorem gX10_set_X10_refuseBad : GoodIn wsX10_set (wsV RX10 52 RX10 yX10_refuseBad wsX10_refuseBad) := goodIn_app (goodIn_of _ (by decide +kernel)) ggX10_set_X10_refuseBad
theorem dX10_set_23 : decode cX10_set 23 = .ok (.invokevirtual 52, 3) := by decide +kernel
theorem dX10_set_26 : decode cX10_set 26 = .ok (.ireturn, 1) := by decide +kernel
theorem dX10_set_9 : decode cX10_set 9 = .ok (.aload_n 0, 1) := by decide +kernel
theorem dX10_set_10 : decode cX10_set 10 = .ok (.getfield 10, 3) := by decide +kernel
theorem dX10_set_13 : decode cX10_set 13 = .ok (.iload_n 2, 1) := by decide +kernel
set_option maxRecDepth 20000 in
theorem ggX10_set_X3_isSquare : GoodIn wsX10_set wsX3_isSquare := goodIn_r _ [10, 11, 12, 13, 9, 14, 15, 16, 54, 55, 56, 57, 58, 59, 60, 61, 62, 63, 64, 65, 66, 67, 68, 69] (by decide +kernel) (by decide +kernel)
set_option maxRecDepth 20000 in
theorem gX10_set_X3_isSquare : GoodIn wsX10_set (wsV RX10 64 RX3 yX3_isSquare wsX3_isSquare) := goodIn_app (goodIn_of _ (by decide +kernel)) ggX10_set_X3_isSquare
theorem dX10_set_14 : decode cX10_set 14 = .ok (.invokevirtual 64, 3) := by decide +kernel
theorem dX10_set_17 : decode cX10_set 17 = .ok (.ifCond .ne 10, 3) := by decide +kernel
theorem dX10_set_27 : decode cX10_set 27 = .ok (.aload_n 0, 1) := by decide +kernel
theorem dX10_set_28 : decode cX10_set 28 = .ok (.getfield 10, 3) := by decide +kernel
theorem dX10_set_31 : decode cX10_set 31 = .ok (.iload_n 1, 1) := by decide +kernel
theorem dX10_set_32 : decode cX10_set 32 = .ok (.iload_n 2, 1) := by decide +kernel
set_option maxRecDepth 20000 in
theorem ggX10_set_X3_has : GoodIn wsX10_set wsX3_has := goodIn_r _ [25, 26, 27, 28, 4, 29, 54, 55, 56, 57, 58, 59, 60, 61, 62, 63, 64, 65, 66, 67, 68, 69] (by decide +kernel) (by decide +kernel)
set_option maxRecDepth 20000 in
theorem gX10_set_X3_has : GoodIn wsX10_set (wsV RX10 68 RX3 yX3_has wsX3_has) := goodIn_app (goodIn_of _ (by decide +kernel)) ggX10_set_X3_has
theorem dX10_set_33 : decode cX10_set 33 = .ok (.invokevirtual 68, 3) := by decide +kernel
theorem dX10_set_36 : decode cX10_set 36 = .ok (.iload_n 3, 1) := by decide +kernel
theorem dX10_set_37 : decode cX10_set 37 = .ok (.if_icmp .ne 10, 3) := by decide +kernel
theorem dX10_set_47 : decode cX10_set 47 = .ok (.iload_n 1, 1) := by decide +kernel
theorem dX10_set_48 : decode cX10_set 48 = .ok (.ifCond .ne 25, 3) := by decide +kernel
theorem dX10_set_73 : decode cX10_set 73 = .ok (.aload_n 0, 1) := by decide +kernel
theorem dX10_set_74 : decode cX10_set 74 = .ok (.getfield 10, 3) := by decide +kernel
theorem dX10_set_77 : decode cX10_set 77 = .ok (.iload_n 1, 1) := by decide +kernel
theorem dX10_set_78 : decode cX10_set 78 = .ok (.iload_n 2, 1) := by decide +kernel
set_option maxRecDepth 20000 in
theorem ggX10_set_X3_turn : GoodIn wsX10_set wsX3_turn := goodIn_r _ [44, 26, 27, 54, 55, 56, 57, 58, 59, 60, 61, 62, 63, 64, 65, 66, 67, 68, 69] (by decide +kernel) (by decide +kernel)
set_option maxRecDepth 20000 in
theorem gX10_set_X3_turn : GoodIn wsX10_set (wsV RX10 78 RX3 yX3_turn wsX3_turn) := goodIn_app (goodIn_of _ (by decide +kernel)) ggX10_set_X3_turn
theorem dX10_set_79 : decode cX10_set 79 = .ok (.invokevirtual 78, 3) := by decide +kernel
theorem dX10_set_82 : decode cX10_set 82 = .ok (.iconst 1, 1) := by decide +kernel
theorem dX10_set_83 : decode cX10_set 83 = .ok (.ireturn, 1) := by decide +kernel
theorem dX10_set_51 : decode cX10_set 51 = .ok (.iload_n 3, 1) := by decide +kernel
theorem dX10_set_52 : decode cX10_set 52 = .ok (.ifCond .eq 21, 3) := by decide +kernel
theorem dX10_set_55 : decode cX10_set 55 = .ok (.aload_n 0, 1) := by decide +kernel
theorem dX10_set_56 : decode cX10_set 56 = .ok (.getfield 10, 3) := by decide +kernel
theorem dX10_set_59 : decode cX10_set 59 = .ok (.iload_n 2, 1) := by decide +kernel
set_option maxRecDepth 20000 in
theorem ggX10_set_X3_isTaken : GoodIn wsX10_set wsX3_isTaken := goodIn_r _ [38, 39, 40, 54, 55, 56, 57, 58, 59, 60, 61, 62, 63, 64, 65, 66, 67, 68, 69] (by decide +kernel) (by decide +kernel)
set_option maxRecDepth 20000 in
theorem gX10_set_X3_isTaken : GoodIn wsX10_set (wsV RX10 75 RX3 yX3_isTaken wsX3_isTaken) := goodIn_app (goodIn_of _ (by decide +kernel)) ggX10_set_X3_isTaken
theorem dX10_set_60 : decode cX10_set 60 = .ok (.invokevirtual 75, 3) := by decide +kernel
theorem dX10_set_63 : decode cX10_set 63 = .ok (.ifCond .eq 10, 3) := by decide +kernel
theorem dX10_set_66 : decode cX10_set 66 = .ok (.aload_n 0, 1) := by decide +kernel
theorem dX10_set_67 : decode cX10_set 67 = .ok (.bipush (-3), 2) := by decide +kernel
set_option maxRecDepth 20000 in
theorem ggX10_set_X10_refuseNo : GoodIn wsX10_set wsX10_refuseNo := goodIn_r _ [33, 34, 45, 46, 47, 48, 49, 50, 51, 52, 53] (by decide +kernel) (by decide +kernel)
set_option maxRecDepth 20000 in
theorem gX10_set_X10_refuseNo : GoodIn wsX10_set (wsV RX10 72 RX10 yX10_refuseNo wsX10_refuseNo) := goodIn_app (goodIn_of _ (by decide +kernel)) ggX10_set_X10_refuseNo
theorem dX10_set_69 : decode cX10_set 69 = .ok (.invokevirtual 72, 3) := by decide +kernel
theorem dX10_set_72 : decode cX10_set 72 = .ok (.ireturn, 1) := by decide +kernel
theorem dX10_set_40 : decode cX10_set 40 = .ok (.aload_n 0, 1) := by decide +kernel
theorem dX10_set_41 : decode cX10_set 41 = .ok (.bipush (-3), 2) := by decide +kernel
theorem dX10_set_43 : decode cX10_set 43 = .ok (.invokevirtual 72, 3) := by decide +kernel
theorem dX10_set_46 : decode cX10_set 46 = .ok (.ireturn, 1) := by decide +kernel
theorem dX10_put_0 : decode cX10_put 0 = .ok (.iload_n 1, 1) := by decide +kernel
theorem dX10_put_1 : decode cX10_put 1 = .ok (.ifCond .ne 30, 3) := by decide +kernel
theorem dX10_put_31 : decode cX10_put 31 = .ok (.iload_n 1, 1) := by decide +kernel
theorem dX10_put_32 : decode cX10_put 32 = .ok (.iconst 1, 1) := by decide +kernel
theorem dX10_put_33 : decode cX10_put 33 = .ok (.if_icmp .ne 30, 3) := by decide +kernel
theorem dX10_put_63 : decode cX10_put 63 = .ok (.aload_n 0, 1) := by decide +kernel
theorem dX10_put_64 : decode cX10_put 64 = .ok (.bipush (-10), 2) := by decide +kernel
set_option maxRecDepth 20000 in
theorem ggX10_put_X10_refuseBad : GoodIn wsX10_put wsX10_refuseBad := goodIn_r _ [11, 12, 13, 14, 15, 16, 17, 18, 19, 20, 21] (by decide +kernel) (by decide +kernel)
set_option maxRecDepth 20000 in
theorem gX10_put_X10_refuseBad : GoodIn wsX10_put (wsV RX10 52 RX10 yX10_refuseBad wsX10_refuseBad) := goodIn_app (goodIn_of _ (by decide +kernel)) ggX10_put_X10_refuseBad
theorem dX10_put_66 : decode cX10_put 66 = .ok (.invokevirtual 52, 3) := by decide +kernel
theorem dX10_put_69 : decode cX10_put 69 = .ok (.ireturn, 1) := by decide +kernel
theorem dX10_put_36 : decode cX10_put 36 = .ok (.iload_n 2, 1) := by decide +kernel
theorem dX10_put_37 : decode cX10_put 37 = .ok (.iconst (-1), 1) := by decide +kernel
theorem dX10_put_38 : decode cX10_put 38 = .ok (.iconst 1, 1) := by decide +kernel
set_option maxRecDepth 20000 in
theorem ggX10_put_X10_isWithin : GoodIn wsX10_put wsX10_isWithin := goodIn_r _ [7] (by decide +kernel) (by decide +kernel)
set_option maxRecDepth 20000 in
theorem gX10_put_X10_isWithin : GoodIn wsX10_put (va_wsS RX10 48 yX10_isWithin wsX10_isWithin) := goodIn_app (goodIn_of _ (by decide +kernel)) ggX10_put_X10_isWithin
theorem dX10_put_39 : decode cX10_put 39 = .ok (.invokestatic 48, 3) := by decide +kernel
theorem dX10_put_42 : decode cX10_put 42 = .ok (.ifCond .eq 21, 3) := by decide +kernel
theorem dX10_put_45 : decode cX10_put 45 = .ok (.aload_n 0, 1) := by decide +kernel
theorem dX10_put_46 : decode cX10_put 46 = .ok (.getfield 10, 3) := by decide +kernel
theorem dX10_put_49 : decode cX10_put 49 = .ok (.getfield 85, 3) := by decide +kernel
theorem dX10_put_52 : decode cX10_put 52 = .ok (.istore_n 3, 1) := by decide +kernel
theorem dX10_put_53 : decode cX10_put 53 = .ok (.aload_n 0, 1) := by decide +kernel
theorem dX10_put_54 : decode cX10_put 54 = .ok (.getfield 10, 3) := by decide +kernel
theorem dX10_put_57 : decode cX10_put 57 = .ok (.iload_n 2, 1) := by decide +kernel
theorem dX10_put_58 : decode cX10_put 58 = .ok (.putfield 85, 3) := by decide +kernel
theorem dX10_put_61 : decode cX10_put 61 = .ok (.iload_n 3, 1) := by decide +kernel
theorem dX10_put_62 : decode cX10_put 62 = .ok (.ireturn, 1) := by decide +kernel
theorem dX10_put_4 : decode cX10_put 4 = .ok (.iload_n 2, 1) := by decide +kernel
theorem dX10_put_5 : decode cX10_put 5 = .ok (.iconst 0, 1) := by decide +kernel
theorem dX10_put_6 : decode cX10_put 6 = .ok (.iconst 4, 1) := by decide +kernel
theorem dX10_put_7 : decode cX10_put 7 = .ok (.invokestatic 48, 3) := by decide +kernel
theorem dX10_put_10 : decode cX10_put 10 = .ok (.ifCond .eq 21, 3) := by decide +kernel
theorem dX10_put_13 : decode cX10_put 13 = .ok (.aload_n 0, 1) := by decide +kernel
theorem dX10_put_14 : decode cX10_put 14 = .ok (.getfield 10, 3) := by decide +kernel
theorem dX10_put_17 : decode cX10_put 17 = .ok (.getfield 81, 3) := by decide +kernel
theorem dX10_put_20 : decode cX10_put 20 = .ok (.istore_n 3, 1) := by decide +kernel
theorem dX10_put_21 : decode cX10_put 21 = .ok (.aload_n 0, 1) := by decide +kernel
theorem dX10_put_22 : decode cX10_put 22 = .ok (.getfield 10, 3) := by decide +kernel
theorem dX10_put_25 : decode cX10_put 25 = .ok (.iload_n 2, 1) := by decide +kernel
theorem dX10_put_26 : decode cX10_put 26 = .ok (.putfield 81, 3) := by decide +kernel
theorem dX10_put_29 : decode cX10_put 29 = .ok (.iload_n 3, 1) := by decide +kernel
theorem dX10_put_30 : decode cX10_put 30 = .ok (.ireturn, 1) := by decide +kernel
theorem dX10_person_0 : decode cX10_person 0 = .ok (.iload_n 1, 1) := by decide +kernel
theorem dX10_person_1 : decode cX10_person 1 = .ok (.iconst 0, 1) := by decide +kernel
theorem dX10_person_2 : decode cX10_person 2 = .ok (.iconst 5, 1) := by decide +kernel
set_option maxRecDepth 20000 in
theorem ggX10_person_X10_isWithin : GoodIn wsX10_person wsX10_isWithin := goodIn_r _ [5] (by decide +kernel) (by decide +kernel)
set_option maxRecDepth 20000 in
theorem gX10_person_X10_isWithin : GoodIn wsX10_person (va_wsS RX10 48 yX10_isWithin wsX10_isWithin) := goodIn_app (goodIn_of _ (by decide +kernel)) ggX10_person_X10_isWithin
theorem dX10_person_3 : decode cX10_person 3 = .ok (.invokestatic 48, 3) := by decide +kernel
theorem dX10_person_6 : decode cX10_person 6 = .ok (.ifCond .eq 24, 3) := by decide +kernel
theorem dX10_person_30 : decode cX10_person 30 = .ok (.aload_n 0, 1) := by decide +kernel
theorem dX10_person_31 : decode cX10_person 31 = .ok (.bipush (-2), 2) := by decide +kernel
set_option maxRecDepth 20000 in
theorem ggX10_person_X10_refuseBad : GoodIn wsX10_person wsX10_refuseBad := goodIn_r _ [20, 21, 56, 57, 58, 59, 60, 61, 62, 63, 64] (by decide +kernel) (by decide +kernel)
set_option maxRecDepth 20000 in
theorem gX10_person_X10_refuseBad : GoodIn wsX10_person (wsV RX10 52 RX10 yX10_refuseBad wsX10_refuseBad) := goodIn_app (goodIn_of _ (by decide +kernel)) ggX10_person_X10_refuseBad
theorem dX10_person_33 : decode cX10_person 33 = .ok (.invokevirtual 52, 3) := by decide +kernel
theorem dX10_person_36 : decode cX10_person 36 = .ok (.ireturn, 1) := by decide +kernel
theorem dX10_person_9 : decode cX10_person 9 = .ok (.aload_n 0, 1) := by decide +kernel
theorem dX10_person_10 : decode cX10_person 10 = .ok (.getfield 10, 3) := by decide +kernel
theorem dX10_person_13 : decode cX10_person 13 = .ok (.iload_n 2, 1) := by decide +kernel
set_option maxRecDepth 20000 in
theorem ggX10_person_X3_isSquare : GoodIn wsX10_person wsX3_isSquare := goodIn_r _ [10, 11, 12, 13, 9, 14, 15, 16, 65, 66, 67, 68, 69, 70, 71, 72, 73, 74, 75, 76, 77, 78, 79, 80] (by decide +kernel) (by decide +kernel)
set_option maxRecDepth 20000 in
theorem gX10_person_X3_isSquare : GoodIn wsX10_person (wsV RX10 64 RX3 yX3_isSquare wsX3_isSquare) := goodIn_app (goodIn_of _ (by decide +kernel)) ggX10_person_X3_isSquare
theorem dX10_person_14 : decode cX10_person 14 = .ok (.invokevirtual 64, 3) := by decide +kernel
theorem dX10_person_17 : decode cX10_person 17 = .ok (.ifCond .eq 13, 3) := by decide +kernel
theorem dX10_person_20 : decode cX10_person 20 = .ok (.iload_n 3, 1) := by decide +kernel
theorem dX10_person_21 : decode cX10_person 21 = .ok (.iconst 0, 1) := by decide +kernel
theorem dX10_person_22 : decode cX10_person 22 = .ok (.bipush 9, 2) := by decide +kernel
theorem dX10_person_24 : decode cX10_person 24 = .ok (.invokestatic 48, 3) := by decide +kernel
theorem dX10_person_27 : decode cX10_person 27 = .ok (.ifCond .ne 10, 3) := by decide +kernel
theorem dX10_person_37 : decode cX10_person 37 = .ok (.aload_n 0, 1) := by decide +kernel
theorem dX10_person_38 : decode cX10_person 38 = .ok (.getfield 10, 3) := by decide +kernel
theorem dX10_person_41 : decode cX10_person 41 = .ok (.iload_n 2, 1) := by decide +kernel
set_option maxRecDepth 20000 in
theorem ggX10_person_X3_isFree : GoodIn wsX10_person wsX3_isFree := goodIn_r _ [25, 26, 27, 28, 9, 29, 30, 31, 32, 4, 33, 34, 35, 36, 37, 38, 39, 65, 66, 67, 68, 69, 70, 71, 72, 73, 74, 75, 76, 77, 78, 79, 80] (by decide +kernel) (by decide +kernel)
set_option maxRecDepth 20000 in
theorem gX10_person_X3_isFree : GoodIn wsX10_person (wsV RX10 88 RX3 yX3_isFree wsX3_isFree) := goodIn_app (goodIn_of _ (by decide +kernel)) ggX10_person_X3_isFree
theorem dX10_person_42 : decode cX10_person 42 = .ok (.invokevirtual 88, 3) := by decide +kernel
theorem dX10_person_45 : decode cX10_person 45 = .ok (.ifCond .ne 10, 3) := by decide +kernel
theorem dX10_person_55 : decode cX10_person 55 = .ok (.aload_n 0, 1) := by decide +kernel
theorem dX10_person_56 : decode cX10_person 56 = .ok (.getfield 10, 3) := by decide +kernel
theorem dX10_person_59 : decode cX10_person 59 = .ok (.iload_n 1, 1) := by decide +kernel
theorem dX10_person_60 : decode cX10_person 60 = .ok (.iload_n 2, 1) := by decide +kernel
theorem dX10_person_61 : decode cX10_person 61 = .ok (.iload_n 3, 1) := by decide +kernel
set_option maxRecDepth 20000 in
theorem ggX10_person_X3_addPerson : GoodIn wsX10_person wsX3_addPerson := goodIn_r _ [48, 38, 49, 39, 50, 65, 66, 67, 68, 69, 70, 71, 72, 73, 74, 75, 76, 77, 78, 79, 80] (by decide +kernel) (by decide +kernel)
set_option maxRecDepth 20000 in
theorem gX10_person_X3_addPerson : GoodIn wsX10_person (wsV RX10 91 RX3 yX3_addPerson wsX3_addPerson) := goodIn_app (goodIn_of _ (by decide +kernel)) ggX10_person_X3_addPerson
theorem dX10_person_62 : decode cX10_person 62 = .ok (.invokevirtual 91, 3) := by decide +kernel
theorem dX10_person_65 : decode cX10_person 65 = .ok (.istore 4, 2) := by decide +kernel
theorem dX10_person_67 : decode cX10_person 67 = .ok (.iload 4, 2) := by decide +kernel
theorem dX10_person_69 : decode cX10_person 69 = .ok (.iconst (-1), 1) := by decide +kernel
theorem dX10_person_70 : decode cX10_person 70 = .ok (.if_icmp .ne 10, 3) := by decide +kernel
theorem dX10_person_80 : decode cX10_person 80 = .ok (.iload 4, 2) := by decide +kernel
theorem dX10_person_82 : decode cX10_person 82 = .ok (.ireturn, 1) := by decide +kernel
theorem dX10_person_73 : decode cX10_person 73 = .ok (.aload_n 0, 1) := by decide +kernel
set_option maxRecDepth 20000 in
theorem ggX10_person_X10_refuseFull : GoodIn wsX10_person wsX10_refuseFull := goodIn_r _ [54, 55, 56, 57, 58, 59, 60, 61, 62, 63, 64] (by decide +kernel) (by decide +kernel)
set_option maxRecDepth 20000 in
theorem gX10_person_X10_refuseFull : GoodIn wsX10_person (wsV RX10 95 RX10 yX10_refuseFull wsX10_refuseFull) := goodIn_app (goodIn_of _ (by decide +kernel)) ggX10_person_X10_refuseFull
theorem dX10_person_74 : decode cX10_person 74 = .ok (.invokevirtual 95, 3) := by decide +kernel
theorem dX10_person_77 : decode cX10_person 77 = .ok (.goto 5, 3) := by decide +kernel
theorem dX10_person_48 : decode cX10_person 48 = .ok (.aload_n 0, 1) := by decide +kernel
theorem dX10_person_49 : decode cX10_person 49 = .ok (.bipush (-3), 2) := by decide +kernel
set_option maxRecDepth 20000 in
theorem ggX10_person_X10_refuseNo : GoodIn wsX10_person wsX10_refuseNo := goodIn_r _ [43, 44, 56, 57, 58, 59, 60, 61, 62, 63, 64] (by decide +kernel) (by decide +kernel)
set_option maxRecDepth 20000 in
theorem gX10_person_X10_refuseNo : GoodIn wsX10_person (wsV RX10 72 RX10 yX10_refuseNo wsX10_refuseNo) := goodIn_app (goodIn_of _ (by decide +kernel)) ggX10_person_X10_refuseNo
theorem dX10_person_51 : decode cX10_person 51 = .ok (.invokevirtual 72, 3) := by decide +kernel
theorem dX10_person_54 : decode cX10_person 54 = .ok (.ireturn, 1) := by decide +kernel
theorem dX10_move_0 : decode cX10_move 0 = .ok (.aload_n 0, 1) := by decide +kernel
theorem dX10_move_1 : decode cX10_move 1 = .ok (.getfield 10, 3) := by decide +kernel
theorem dX10_move_4 : decode cX10_move 4 = .ok (.iload_n 1, 1) := by decide +kernel
set_option maxRecDepth 20000 in
theorem ggX10_move_X3_isPerson : GoodIn wsX10_move wsX3_isPerson := goodIn_r _ [6, 7, 64, 65, 66, 67, 68, 69, 70, 71, 72, 73, 74, 75, 76, 77, 78, 79] (by decide +kernel) (by decide +kernel)
set_option maxRecDepth 20000 in
theorem gX10_move_X3_isPerson : GoodIn wsX10_move (wsV RX10 98 RX3 yX3_isPerson wsX3_isPerson) := goodIn_app (goodIn_of _ (by decide +kernel)) ggX10_move_X3_isPerson
theorem dX10_move_5 : decode cX10_move 5 = .ok (.invokevirtual 98, 3) := by decide +kernel
theorem dX10_move_8 : decode cX10_move 8 = .ok (.ifCond .eq 14, 3) := by decide +kernel
theorem dX10_move_22 : decode cX10_move 22 = .ok (.aload_n 0, 1) := by decide +kernel
theorem dX10_move_23 : decode cX10_move 23 = .ok (.bipush (-10), 2) := by decide +kernel
set_option maxRecDepth 20000 in
theorem ggX10_move_X10_refuseBad : GoodIn wsX10_move wsX10_refuseBad := goodIn_r _ [22, 23, 55, 56, 57, 58, 59, 60, 61, 62, 63] (by decide +kernel) (by decide +kernel)
set_option maxRecDepth 20000 in
theorem gX10_move_X10_refuseBad : GoodIn wsX10_move (wsV RX10 52 RX10 yX10_refuseBad wsX10_refuseBad) := goodIn_app (goodIn_of _ (by decide +kernel)) ggX10_move_X10_refuseBad
theorem dX10_move_25 : decode cX10_move 25 = .ok (.invokevirtual 52, 3) := by decide +kernel
theorem dX10_move_28 : decode cX10_move 28 = .ok (.ireturn, 1) := by decide +kernel
theorem dX10_move_11 : decode cX10_move 11 = .ok (.aload_n 0, 1) := by decide +kernel
theorem dX10_move_12 : decode cX10_move 12 = .ok (.getfield 10, 3) := by decide +kernel
theorem dX10_move_15 : decode cX10_move 15 = .ok (.iload_n 2, 1) := by decide +kernel
set_option maxRecDepth 20000 in
theorem ggX10_move_X3_isSquare : GoodIn wsX10_move wsX3_isSquare := goodIn_r _ [11, 12, 13, 14, 5, 15, 16, 17, 64, 65, 66, 67, 68, 69, 70, 71, 72, 73, 74, 75, 76, 77, 78, 79] (by decide +kernel) (by decide +kernel)
set_option maxRecDepth 20000 in
theorem gX10_move_X3_isSquare : GoodIn wsX10_move (wsV RX10 64 RX3 yX3_isSquare wsX3_isSquare) := goodIn_app (goodIn_of _ (by decide +kernel)) ggX10_move_X3_isSquare
theorem dX10_move_16 : decode cX10_move 16 = .ok (.invokevirtual 64, 3) := by decide +kernel
theorem dX10_move_19 : decode cX10_move 19 = .ok (.ifCond .ne 10, 3) := by decide +kernel
theorem dX10_move_29 : decode cX10_move 29 = .ok (.aload_n 0, 1) := by decide +kernel
theorem dX10_move_30 : decode cX10_move 30 = .ok (.getfield 10, 3) := by decide +kernel
theorem dX10_move_33 : decode cX10_move 33 = .ok (.iload_n 1, 1) := by decide +kernel
set_option maxRecDepth 20000 in
theorem ggX10_move_X3_squareOf : GoodIn wsX10_move wsX3_squareOf := goodIn_r _ [27, 28, 29, 3, 4, 5, 6, 7, 64, 65, 66, 67, 68, 69, 70, 71, 72, 73, 74, 75, 76, 77, 78, 79] (by decide +kernel) (by decide +kernel)
set_option maxRecDepth 20000 in
theorem gX10_move_X3_squareOf : GoodIn wsX10_move (wsV RX10 101 RX3 yX3_squareOf wsX3_squareOf) := goodIn_app (goodIn_of _ (by decide +kernel)) ggX10_move_X3_squareOf
theorem dX10_move_34 : decode cX10_move 34 = .ok (.invokevirtual 101, 3) := by decide +kernel
theorem dX10_move_37 : decode cX10_move 37 = .ok (.istore_n 3, 1) := by decide +kernel
theorem dX10_move_38 : decode cX10_move 38 = .ok (.iload_n 2, 1) := by decide +kernel
theorem dX10_move_39 : decode cX10_move 39 = .ok (.iload_n 3, 1) := by decide +kernel
theorem dX10_move_40 : decode cX10_move 40 = .ok (.if_icmp .eq 21, 3) := by decide +kernel
theorem dX10_move_61 : decode cX10_move 61 = .ok (.aload_n 0, 1) := by decide +kernel
theorem dX10_move_62 : decode cX10_move 62 = .ok (.getfield 10, 3) := by decide +kernel
theorem dX10_move_65 : decode cX10_move 65 = .ok (.iload_n 1, 1) := by decide +kernel
theorem dX10_move_66 : decode cX10_move 66 = .ok (.iload_n 2, 1) := by decide +kernel
set_option maxRecDepth 20000 in
theorem ggX10_move_X3_stand : GoodIn wsX10_move wsX3_stand := goodIn_r _ [54, 28, 29, 3, 4, 5, 6, 7, 64, 65, 66, 67, 68, 69, 70, 71, 72, 73, 74, 75, 76, 77, 78, 79] (by decide +kernel) (by decide +kernel)
set_option maxRecDepth 20000 in
theorem gX10_move_X3_stand : GoodIn wsX10_move (wsV RX10 104 RX3 yX3_stand wsX3_stand) := goodIn_app (goodIn_of _ (by decide +kernel)) ggX10_move_X3_stand
theorem dX10_move_67 : decode cX10_move 67 = .ok (.invokevirtual 104, 3) := by decide +kernel
theorem dX10_move_70 : decode cX10_move 70 = .ok (.iload_n 3, 1) := by decide +kernel
theorem dX10_move_71 : decode cX10_move 71 = .ok (.ireturn, 1) := by decide +kernel
theorem dX10_move_43 : decode cX10_move 43 = .ok (.aload_n 0, 1) := by decide +kernel
theorem dX10_move_44 : decode cX10_move 44 = .ok (.getfield 10, 3) := by decide +kernel
theorem dX10_move_47 : decode cX10_move 47 = .ok (.iload_n 2, 1) := by decide +kernel
set_option maxRecDepth 20000 in
theorem ggX10_move_X3_isFree : GoodIn wsX10_move wsX3_isFree := goodIn_r _ [33, 34, 35, 36, 5, 37, 38, 39, 40, 21, 41, 42, 43, 44, 45, 7, 28, 64, 65, 66, 67, 68, 69, 70, 71, 72, 73, 74, 75, 76, 77, 78, 79] (by decide +kernel) (by decide +kernel)
set_option maxRecDepth 20000 in
theorem gX10_move_X3_isFree : GoodIn wsX10_move (wsV RX10 88 RX3 yX3_isFree wsX3_isFree) := goodIn_app (goodIn_of _ (by decide +kernel)) ggX10_move_X3_isFree
theorem dX10_move_48 : decode cX10_move 48 = .ok (.invokevirtual 88, 3) := by decide +kernel
theorem dX10_move_51 : decode cX10_move 51 = .ok (.ifCond .ne 10, 3) := by decide +kernel
theorem dX10_move_54 : decode cX10_move 54 = .ok (.aload_n 0, 1) := by decide +kernel
theorem dX10_move_55 : decode cX10_move 55 = .ok (.bipush (-20), 2) := by decide +kernel
set_option maxRecDepth 20000 in
theorem ggX10_move_X10_refuseNo : GoodIn wsX10_move wsX10_refuseNo := goodIn_r _ [49, 50, 55, 56, 57, 58, 59, 60, 61, 62, 63] (by decide +kernel) (by decide +kernel)
set_option maxRecDepth 20000 in
theorem gX10_move_X10_refuseNo : GoodIn wsX10_move (wsV RX10 72 RX10 yX10_refuseNo wsX10_refuseNo) := goodIn_app (goodIn_of _ (by decide +kernel)) ggX10_move_X10_refuseNo
theorem dX10_move_57 : decode cX10_move 57 = .ok (.invokevirtual 72, 3) := by decide +kernel
theorem dX10_move_60 : decode cX10_move 60 = .ok (.ireturn, 1) := by decide +kernel
theorem dX10_tell_0 : decode cX10_tell 0 = .ok (.aload_n 0, 1) := by decide +kernel
theorem dX10_tell_1 : decode cX10_tell 1 = .ok (.iload_n 1, 1) := by decide +kernel
theorem dX10_tell_2 : decode cX10_tell 2 = .ok (.iload_n 2, 1) := by decide +kernel
set_option maxRecDepth 20000 in
theorem ggX10_tell_X10_isPairOfTwo : GoodIn wsX10_tell wsX10_isPairOfTwo := goodIn_r _ [6, 1, 7, 8, 9, 10, 11, 12, 30, 31, 32, 33, 34, 35, 36, 37, 38, 39, 40, 41, 42, 43, 44, 45, 46, 47, 48, 49, 50, 51, 52, 53, 54] (by decide +kernel) (by decide +kernel)
set_option maxRecDepth 20000 in
theorem gX10_tell_X10_isPairOfTwo : GoodIn wsX10_tell (wsV RX10 107 RX10 yX10_isPairOfTwo wsX10_isPairOfTwo) := goodIn_app (goodIn_of _ (by decide +kernel)) ggX10_tell_X10_isPairOfTwo
theorem dX10_tell_3 : decode cX10_tell 3 = .ok (.invokevirtual 107, 3) := by decide +kernel
theorem dX10_tell_6 : decode cX10_tell 6 = .ok (.ifCond .ne 10, 3) := by decide +kernel
theorem dX10_tell_16 : decode cX10_tell 16 = .ok (.aload_n 0, 1) := by decide +kernel
theorem dX10_tell_17 : decode cX10_tell 17 = .ok (.getfield 10, 3) := by decide +kernel
theorem dX10_tell_20 : decode cX10_tell 20 = .ok (.iload_n 1, 1) := by decide +kernel
theorem dX10_tell_21 : decode cX10_tell 21 = .ok (.iload_n 2, 1) := by decide +kernel
set_option maxRecDepth 20000 in
theorem ggX10_tell_X3_addTelling : GoodIn wsX10_tell wsX3_addTelling := goodIn_r _ [21, 22, 23, 24, 39, 40, 41, 42, 43, 44, 45, 46, 47, 48, 49, 50, 51, 52, 53, 54] (by decide +kernel) (by decide +kernel)
set_option maxRecDepth 20000 in
theorem gX10_tell_X3_addTelling : GoodIn wsX10_tell (wsV RX10 110 RX3 yX3_addTelling wsX3_addTelling) := goodIn_app (goodIn_of _ (by decide +kernel)) ggX10_tell_X3_addTelling
theorem dX10_tell_22 : decode cX10_tell 22 = .ok (.invokevirtual 110, 3) := by decide +kernel
theorem dX10_tell_25 : decode cX10_tell 25 = .ok (.istore_n 3, 1) := by decide +kernel
theorem dX10_tell_26 : decode cX10_tell 26 = .ok (.iload_n 3, 1) := by decide +kernel
theorem dX10_tell_27 : decode cX10_tell 27 = .ok (.iconst (-1), 1) := by decide +kernel
theorem dX10_tell_28 : decode cX10_tell 28 = .ok (.if_icmp .ne 10, 3) := by decide +kernel
theorem dX10_tell_38 : decode cX10_tell 38 = .ok (.iload_n 3, 1) := by decide +kernel
theorem dX10_tell_39 : decode cX10_tell 39 = .ok (.ireturn, 1) := by decide +kernel
theorem dX10_tell_31 : decode cX10_tell 31 = .ok (.aload_n 0, 1) := by decide +kernel
set_option maxRecDepth 20000 in
theorem ggX10_tell_X10_refuseFull : GoodIn wsX10_tell wsX10_refuseFull := goodIn_r _ [28, 29, 30, 31, 32, 33, 34, 35, 36, 37, 38] (by decide +kernel) (by decide +kernel)
set_option maxRecDepth 20000 in
theorem gX10_tell_X10_refuseFull : GoodIn wsX10_tell (wsV RX10 95 RX10 yX10_refuseFull wsX10_refuseFull) := goodIn_app (goodIn_of _ (by decide +kernel)) ggX10_tell_X10_refuseFull
theorem dX10_tell_32 : decode cX10_tell 32 = .ok (.invokevirtual 95, 3) := by decide +kernel
theorem dX10_tell_35 : decode cX10_tell 35 = .ok (.goto 4, 3) := by decide +kernel
theorem dX10_tell_9 : decode cX10_tell 9 = .ok (.aload_n 0, 1) := by decide +kernel
theorem dX10_tell_10 : decode cX10_tell 10 = .ok (.bipush (-2), 2) := by decide +kernel
set_option maxRecDepth 20000 in
theorem ggX10_tell_X10_refuseBad : GoodIn wsX10_tell wsX10_refuseBad := goodIn_r _ [16, 17, 30, 31, 32, 33, 34, 35, 36, 37, 38] (by decide +kernel) (by decide +kernel)
set_option maxRecDepth 20000 in
theorem gX10_tell_X10_refuseBad : GoodIn wsX10_tell (wsV RX10 52 RX10 yX10_refuseBad wsX10_refuseBad) := goodIn_app (goodIn_of _ (by decide +kernel)) ggX10_tell_X10_refuseBad
theorem dX10_tell_12 : decode cX10_tell 12 = .ok (.invokevirtual 52, 3) := by decide +kernel
theorem dX10_tell_15 : decode cX10_tell 15 = .ok (.ireturn, 1) := by decide +kernel
theorem dX10_report_0 : decode cX10_report 0 = .ok (.aload_n 0, 1) := by decide +kernel
theorem dX10_report_1 : decode cX10_report 1 = .ok (.getfield 10, 3) := by decide +kernel
theorem dX10_report_4 : decode cX10_report 4 = .ok (.iload_n 1, 1) := by decide +kernel
set_option maxRecDepth 20000 in
theorem ggX10_report_X3_isPerson : GoodIn wsX10_report wsX3_isPerson := goodIn_r _ [6, 7, 38, 39, 40, 41, 42, 43, 44, 45, 46, 47, 48, 49, 50, 51, 52, 53] (by decide +kernel) (by decide +kernel)
set_option maxRecDepth 20000 in
theorem gX10_report_X3_isPerson : GoodIn wsX10_report (wsV RX10 98 RX3 yX3_isPerson wsX3_isPerson) := goodIn_app (goodIn_of _ (by decide +kernel)) ggX10_report_X3_isPerson
theorem dX10_report_5 : decode cX10_report 5 = .ok (.invokevirtual 98, 3) := by decide +kernel
theorem dX10_report_8 : decode cX10_report 8 = .ok (.ifCond .eq 12, 3) := by decide +kernel
theorem dX10_report_20 : decode cX10_report 20 = .ok (.aload_n 0, 1) := by decide +kernel
theorem dX10_report_21 : decode cX10_report 21 = .ok (.bipush (-2), 2) := by decide +kernel
set_option maxRecDepth 20000 in
theorem ggX10_report_X10_refuseBad : GoodIn wsX10_report wsX10_refuseBad := goodIn_r _ [15, 16, 29, 30, 31, 32, 33, 34, 35, 36, 37] (by decide +kernel) (by decide +kernel)
set_option maxRecDepth 20000 in
theorem gX10_report_X10_refuseBad : GoodIn wsX10_report (wsV RX10 52 RX10 yX10_refuseBad wsX10_refuseBad) := goodIn_app (goodIn_of _ (by decide +kernel)) ggX10_report_X10_refuseBad
theorem dX10_report_23 : decode cX10_report 23 = .ok (.invokevirtual 52, 3) := by decide +kernel
theorem dX10_report_26 : decode cX10_report 26 = .ok (.ireturn, 1) := by decide +kernel
theorem dX10_report_11 : decode cX10_report 11 = .ok (.iload_n 2, 1) := by decide +kernel
theorem dX10_report_12 : decode cX10_report 12 = .ok (.iconst 0, 1) := by decide +kernel
theorem dX10_report_13 : decode cX10_report 13 = .ok (.iconst 3, 1) := by decide +kernel
set_option maxRecDepth 20000 in
theorem ggX10_report_X10_isWithin : GoodIn wsX10_report wsX10_isWithin := goodIn_r _ [11] (by decide +kernel) (by decide +kernel)
set_option maxRecDepth 20000 in
theorem gX10_report_X10_isWithin : GoodIn wsX10_report (va_wsS RX10 48 yX10_isWithin wsX10_isWithin) := goodIn_app (goodIn_of _ (by decide +kernel)) ggX10_report_X10_isWithin
theorem dX10_report_14 : decode cX10_report 14 = .ok (.invokestatic 48, 3) := by decide +kernel
theorem dX10_report_17 : decode cX10_report 17 = .ok (.ifCond .ne 10, 3) := by decide +kernel
theorem dX10_report_27 : decode cX10_report 27 = .ok (.aload_n 0, 1) := by decide +kernel
theorem dX10_report_28 : decode cX10_report 28 = .ok (.getfield 10, 3) := by decide +kernel
theorem dX10_report_31 : decode cX10_report 31 = .ok (.iload_n 1, 1) := by decide +kernel
theorem dX10_report_32 : decode cX10_report 32 = .ok (.iload_n 2, 1) := by decide +kernel
set_option maxRecDepth 20000 in
theorem ggX10_report_X3_addReport : GoodIn wsX10_report wsX3_addReport := goodIn_r _ [20, 21, 22, 23, 38, 39, 40, 41, 42, 43, 44, 45, 46, 47, 48, 49, 50, 51, 52, 53] (by decide +kernel) (by decide +kernel)
set_option maxRecDepth 20000 in
theorem gX10_report_X3_addReport : GoodIn wsX10_report (wsV RX10 114 RX3 yX3_addReport wsX3_addReport) := goodIn_app (goodIn_of _ (by decide +kernel)) ggX10_report_X3_addReport
theorem dX10_report_33 : decode cX10_report 33 = .ok (.invokevirtual 114, 3) := by decide +kernel
theorem dX10_report_36 : decode cX10_report 36 = .ok (.istore_n 3, 1) := by decide +kernel
theorem dX10_report_37 : decode cX10_report 37 = .ok (.iload_n 3, 1) := by decide +kernel
theorem dX10_report_38 : decode cX10_report 38 = .ok (.iconst (-1), 1) := by decide +kernel
theorem dX10_report_39 : decode cX10_report 39 = .ok (.if_icmp .ne 10, 3) := by decide +kernel
theorem dX10_report_49 : decode cX10_report 49 = .ok (.iload_n 3, 1) := by decide +kernel
theorem dX10_report_50 : decode cX10_report 50 = .ok (.ireturn, 1) := by decide +kernel
theorem dX10_report_42 : decode cX10_report 42 = .ok (.aload_n 0, 1) := by decide +kernel
set_option maxRecDepth 20000 in
theorem ggX10_report_X10_refuseFull : GoodIn wsX10_report wsX10_refuseFull := goodIn_r _ [27, 28, 29, 30, 31, 32, 33, 34, 35, 36, 37] (by decide +kernel) (by decide +kernel)
set_option maxRecDepth 20000 in
theorem gX10_report_X10_refuseFull : GoodIn wsX10_report (wsV RX10 95 RX10 yX10_refuseFull wsX10_refuseFull) := goodIn_app (goodIn_of _ (by decide +kernel)) ggX10_report_X10_refuseFull
theorem dX10_report_43 : decode cX10_report 43 = .ok (.invokevirtual 95, 3) := by decide +kernel
theorem dX10_report_46 : decode cX10_report 46 = .ok (.goto 4, 3) := by decide +kernel
theorem dX10_clears_0 : decode cX10_clears 0 = .ok (.iload_n 1, 1) := by decide +kernel
theorem dX10_clears_1 : decode cX10_clears 1 = .ok (.ifCond .ne 21, 3) := by decide +kernel
theorem dX10_clears_22 : decode cX10_clears 22 = .ok (.iload_n 1, 1) := by decide +kernel
theorem dX10_clears_23 : decode cX10_clears 23 = .ok (.iconst 1, 1) := by decide +kernel
theorem dX10_clears_24 : decode cX10_clears 24 = .ok (.if_icmp .ne 21, 3) := by decide +kernel
theorem dX10_clears_45 : decode cX10_clears 45 = .ok (.aload_n 0, 1) := by decide +kernel
theorem dX10_clears_46 : decode cX10_clears 46 = .ok (.bipush (-2), 2) := by decide +kernel
set_option maxRecDepth 20000 in
theorem ggX10_clears_X10_refuseBad : GoodIn wsX10_clears wsX10_refuseBad := goodIn_r _ [8, 9, 10, 11, 12, 13, 14, 15, 16, 17, 18] (by decide +kernel) (by decide +kernel)
set_option maxRecDepth 20000 in
theorem gX10_clears_X10_refuseBad : GoodIn wsX10_clears (wsV RX10 52 RX10 yX10_refuseBad wsX10_refuseBad) := goodIn_app (goodIn_of _ (by decide +kernel)) ggX10_clears_X10_refuseBad
theorem dX10_clears_48 : decode cX10_clears 48 = .ok (.invokevirtual 52, 3) := by decide +kernel
theorem dX10_clears_51 : decode cX10_clears 51 = .ok (.ireturn, 1) := by decide +kernel
theorem dX10_clears_27 : decode cX10_clears 27 = .ok (.aload_n 0, 1) := by decide +kernel
theorem dX10_clears_28 : decode cX10_clears 28 = .ok (.getfield 10, 3) := by decide +kernel
theorem dX10_clears_31 : decode cX10_clears 31 = .ok (.getfield 120, 3) := by decide +kernel
theorem dX10_clears_34 : decode cX10_clears 34 = .ok (.istore_n 2, 1) := by decide +kernel
theorem dX10_clears_35 : decode cX10_clears 35 = .ok (.aload_n 0, 1) := by decide +kernel
theorem dX10_clears_36 : decode cX10_clears 36 = .ok (.getfield 10, 3) := by decide +kernel
theorem dX10_clears_39 : decode cX10_clears 39 = .ok (.iconst 0, 1) := by decide +kernel
theorem dX10_clears_40 : decode cX10_clears 40 = .ok (.putfield 120, 3) := by decide +kernel
theorem dX10_clears_43 : decode cX10_clears 43 = .ok (.iload_n 2, 1) := by decide +kernel
theorem dX10_clears_44 : decode cX10_clears 44 = .ok (.ireturn, 1) := by decide +kernel
theorem dX10_clears_4 : decode cX10_clears 4 = .ok (.aload_n 0, 1) := by decide +kernel
theorem dX10_clears_5 : decode cX10_clears 5 = .ok (.getfield 10, 3) := by decide +kernel
theorem dX10_clears_8 : decode cX10_clears 8 = .ok (.getfield 117, 3) := by decide +kernel
theorem dX10_clears_11 : decode cX10_clears 11 = .ok (.istore_n 2, 1) := by decide +kernel
theorem dX10_clears_12 : decode cX10_clears 12 = .ok (.aload_n 0, 1) := by decide +kernel
theorem dX10_clears_13 : decode cX10_clears 13 = .ok (.getfield 10, 3) := by decide +kernel
theorem dX10_clears_16 : decode cX10_clears 16 = .ok (.iconst 0, 1) := by decide +kernel
theorem dX10_clears_17 : decode cX10_clears 17 = .ok (.putfield 117, 3) := by decide +kernel
theorem dX10_clears_20 : decode cX10_clears 20 = .ok (.iload_n 2, 1) := by decide +kernel
theorem dX10_clears_21 : decode cX10_clears 21 = .ok (.ireturn, 1) := by decide +kernel
set_option maxHeartbeats 4000000 in
set_option maxRecDepth 100000 in
theorem n_X10_refuseBad (l : Launch) (D : va_G) (cy : Nat → ClassId) (a_h : Nat) (a_g : Nat) (a_df : Nat) (a_im : Nat) (a_pn : Nat) (a_w : Nat) (a_pa : Nat) (h_bads : Int32) (h_nos : Int32) (h_fulls : Int32) (px : Int32) (sz : Nat)  : Met l yX10_refuseBad wsX10_refuseBad ({ frames := 0, cells := 0, slots := 0, locals := 0 }) (va_Pc [.ref a_h, .int px] (kPre D cy [(a_h, .inr (10, [.ref a_g, .ref a_df, .ref a_im, .ref a_pn, .ref a_w, .ref a_pa, .int h_bads, .int h_nos, .int h_fulls]))] sz)) (va_Qi (fun (r : Int32) (u : Int32) => r = px) (fun (u : Int32) t => va_P D vwCl ([(a_h, .inr (10, [.ref a_g, .ref a_df, .ref a_im, .ref a_pn, .ref a_w, .ref a_pa, .int u, .int h_nos, .int h_fulls]))]) t.heap ∧ va_D (va_A [(a_h, .inr (10, [.ref a_g, .ref a_df, .ref a_im, .ref a_pn, .ref a_w, .ref a_pa, .int h_bads, .int h_nos, .int h_fulls]))] sz) ([(a_h, .inr (10, [.ref a_g, .ref a_df, .ref a_im, .ref a_pn, .ref a_w, .ref a_pa, .int u, .int h_nos, .int h_fulls]))])) (va_A [(a_h, .inr (10, [.ref a_g, .ref a_df, .ref a_im, .ref a_pn, .ref a_w, .ref a_pa, .int h_bads, .int h_nos, .int h_fulls]))] sz)) 0 0 (va_A [(a_h, .inr (10, [.ref a_g, .ref a_df, .ref a_im, .ref a_pn, .ref a_w, .ref a_pa, .int h_bads, .int h_nos, .int h_fulls]))] sz) := by
  refine Met.ofW (cc := cX10_refuseBad) (maxL := 2) (ret := (some .int)) (by decide) rfl ?_
  intro p e s m args below meth c s₁ B hml hv
  obtain ⟨rfl, hsz, hP, hKA, hD0⟩ := hv
  have hx := B.exec
  have hb := B.bytes
  have hr := B.returns
  have hts := atoms_spec (ws := wsX10_refuseBad) B.pre
  have hown : s.vm.findClass RX10 = some m.cls := findClass_of_methodNamed B.named
  have hlocks := B.notSynchronized
  subst hsz
  have hK := hKA.1
  have hD := hD0.self (sz := s.heap.size)
  generalize hAe : va_A [(a_h, .inr (10, [.ref a_g, .ref a_df, .ref a_im, .ref a_pn, .ref a_w, .ref a_pa, .int h_bads, .int h_nos, .int h_fulls]))] s.heap.size = A at hD ⊢
  have hA : ∀ q : Nat, s.heap.size ≤ q → A q := fun q h => by rw [← hAe]; exact Or.inr h
  have hS : va_S A s.heap s.heap [] := va_S.rf
  have hP : va_P D vwCl [(a_h, .inr (10, [.ref a_g, .ref a_df, .ref a_im, .ref a_pn, .ref a_w, .ref a_pa, .int h_bads, .int h_nos, .int h_fulls]))] s.heap := hP
  have hl := lv_entry ([.ref a_h, .int px]) (n := 2) (Nat.le_of_ble_eq_true rfl)
  rw [lg_entry_eq]
  generalize (lg_sl ([.ref a_h, .int px]) ++ List.replicate (2 - (lg_sl ([.ref a_h, .int px])).length) Slot.unset).toArray = ls at hl ⊢
  have hl : lv_has ls 2 [(0, .ref a_h), (1, .int px)] := hl
  refine qW (fun QF hQF => ?_)
  have z0_ := hts (.fieldLink RX10 204 "HeardSeen" "bads" "I") (by decide +kernel)
  have zi10_ : ∀ w ∈ u_ws RX10 TX10 9, w ∈ wsX10_refuseBad := by decide +kernel
  refine lv_aload_n hx hb dX10_refuseBad_0 rfl (lv_at hl 0 rfl) ?_
  refine lv_dup hx hb dX10_refuseBad_1 rfl ?_
  refine va_get (D := D) (ci := 10) (v := .int h_bads) (C := RX10) (T := TX10) (N := 9) hx hb hts zi10_ hown hK hP 0 rfl rfl 6 (by decide) z0_ (fun _ h9 => h9) rfl dX10_refuseBad_2 ?_
  refine lv_iconst (v := 1) hx hb dX10_refuseBad_5 (by decide) ?_
  refine lv_iadd hx hb dX10_refuseBad_6 ?_
  refine va_put (D := D) (ci := 10) (v := .int (h_bads + 1)) (ty := .int) (C := RX10) (T := TX10) (N := 9) hx hb hts zi10_ tyX10 tyX10_ok nmX10 hown hK hP hD hS 0 rfl rfl 6 (by decide) z0_ (fun _ h9 => h9) rfl (by decide +kernel) rfl rfl (Nat.le_of_ble_eq_true rfl) dX10_refuseBad_7 (fun H locs hP hD hS => ?_)
  have hP : va_P D vwCl [(a_h, .inr (10, [.ref a_g, .ref a_df, .ref a_im, .ref a_pn, .ref a_w, .ref a_pa, .int (h_bads + 1), .int h_nos, .int h_fulls]))] H := hP
  have hD : va_D A [(a_h, .inr (10, [.ref a_g, .ref a_df, .ref a_im, .ref a_pn, .ref a_w, .ref a_pa, .int (h_bads + 1), .int h_nos, .int h_fulls]))] := hD
  refine lv_iload_n hx hb dX10_refuseBad_10 rfl (lv_at hl 1 rfl) ?_
  subst hQF
  have hP9 := hP
  have hD9 := hD
  exact W.iret (v := px) hx hb hr (fun t ht hW => ⟨⟨px, (h_bads + 1), rfl, rfl, by rw [ht]; exact hP9, hD9⟩, hS.F ht⟩) hS.2.2 dX10_refuseBad_11

set_option maxHeartbeats 4000000 in
set_option maxRecDepth 100000 in
theorem n_X10_refuseNo (l : Launch) (D : va_G) (cy : Nat → ClassId) (a_h : Nat) (a_g : Nat) (a_df : Nat) (a_im : Nat) (a_pn : Nat) (a_w : Nat) (a_pa : Nat) (h_bads : Int32) (h_nos : Int32) (h_fulls : Int32) (px : Int32) (sz : Nat)  : Met l yX10_refuseNo wsX10_refuseNo ({ frames := 0, cells := 0, slots := 0, locals := 0 }) (va_Pc [.ref a_h, .int px] (kPre D cy [(a_h, .inr (10, [.ref a_g, .ref a_df, .ref a_im, .ref a_pn, .ref a_w, .ref a_pa, .int h_bads, .int h_nos, .int h_fulls]))] sz)) (va_Qi (fun (r : Int32) (u : Int32) => r = px) (fun (u : Int32) t => va_P D vwCl ([(a_h, .inr (10, [.ref a_g, .ref a_df, .ref a_im, .ref a_pn, .ref a_w, .ref a_pa, .int h_bads, .int u, .int h_fulls]))]) t.heap ∧ va_D (va_A [(a_h, .inr (10, [.ref a_g, .ref a_df, .ref a_im, .ref a_pn, .ref a_w, .ref a_pa, .int h_bads, .int h_nos, .int h_fulls]))] sz) ([(a_h, .inr (10, [.ref a_g, .ref a_df, .ref a_im, .ref a_pn, .ref a_w, .ref a_pa, .int h_bads, .int u, .int h_fulls]))])) (va_A [(a_h, .inr (10, [.ref a_g, .ref a_df, .ref a_im, .ref a_pn, .ref a_w, .ref a_pa, .int h_bads, .int h_nos, .int h_fulls]))] sz)) 0 0 (va_A [(a_h, .inr (10, [.ref a_g, .ref a_df, .ref a_im, .ref a_pn, .ref a_w, .ref a_pa, .int h_bads, .int h_nos, .int h_fulls]))] sz) := by
  refine Met.ofW (cc := cX10_refuseNo) (maxL := 2) (ret := (some .int)) (by decide) rfl ?_
  intro p e s m args below meth c s₁ B hml hv
  obtain ⟨rfl, hsz, hP, hKA, hD0⟩ := hv
  have hx := B.exec
  have hb := B.bytes
  have hr := B.returns
  have hts := atoms_spec (ws := wsX10_refuseNo) B.pre
  have hown : s.vm.findClass RX10 = some m.cls := findClass_of_methodNamed B.named
  have hlocks := B.notSynchronized
  subst hsz
  have hK := hKA.1
  have hD := hD0.self (sz := s.heap.size)
  generalize hAe : va_A [(a_h, .inr (10, [.ref a_g, .ref a_df, .ref a_im, .ref a_pn, .ref a_w, .ref a_pa, .int h_bads, .int h_nos, .int h_fulls]))] s.heap.size = A at hD ⊢
  have hA : ∀ q : Nat, s.heap.size ≤ q → A q := fun q h => by rw [← hAe]; exact Or.inr h
  have hS : va_S A s.heap s.heap [] := va_S.rf
  have hP : va_P D vwCl [(a_h, .inr (10, [.ref a_g, .ref a_df, .ref a_im, .ref a_pn, .ref a_w, .ref a_pa, .int h_bads, .int h_nos, .int h_fulls]))] s.heap := hP
  have hl := lv_entry ([.ref a_h, .int px]) (n := 2) (Nat.le_of_ble_eq_true rfl)
  rw [lg_entry_eq]
  generalize (lg_sl ([.ref a_h, .int px]) ++ List.replicate (2 - (lg_sl ([.ref a_h, .int px])).length) Slot.unset).toArray = ls at hl ⊢
  have hl : lv_has ls 2 [(0, .ref a_h), (1, .int px)] := hl
  refine qW (fun QF hQF => ?_)
  have z0_ := hts (.fieldLink RX10 207 "HeardSeen" "nos" "I") (by decide +kernel)
  have zi10_ : ∀ w ∈ u_ws RX10 TX10 9, w ∈ wsX10_refuseNo := by decide +kernel
  refine lv_aload_n hx hb dX10_refuseNo_0 rfl (lv_at hl 0 rfl) ?_
  refine lv_dup hx hb dX10_refuseNo_1 rfl ?_
  refine va_get (D := D) (ci := 10) (v := .int h_nos) (C := RX10) (T := TX10) (N := 9) hx hb hts zi10_ hown hK hP 0 rfl rfl 7 (by decide) z0_ (fun _ h9 => h9) rfl dX10_refuseNo_2 ?_
  refine lv_iconst (v := 1) hx hb dX10_refuseNo_5 (by decide) ?_
  refine lv_iadd hx hb dX10_refuseNo_6 ?_
  refine va_put (D := D) (ci := 10) (v := .int (h_nos + 1)) (ty := .int) (C := RX10) (T := TX10) (N := 9) hx hb hts zi10_ tyX10 tyX10_ok nmX10 hown hK hP hD hS 0 rfl rfl 7 (by decide) z0_ (fun _ h9 => h9) rfl (by decide +kernel) rfl rfl (Nat.le_of_ble_eq_true rfl) dX10_refuseNo_7 (fun H locs hP hD hS => ?_)
  have hP : va_P D vwCl [(a_h, .inr (10, [.ref a_g, .ref a_df, .ref a_im, .ref a_pn, .ref a_w, .ref a_pa, .int h_bads, .int (h_nos + 1), .int h_fulls]))] H := hP
  have hD : va_D A [(a_h, .inr (10, [.ref a_g, .ref a_df, .ref a_im, .ref a_pn, .ref a_w, .ref a_pa, .int h_bads, .int (h_nos + 1), .int h_fulls]))] := hD
  refine lv_iload_n hx hb dX10_refuseNo_10 rfl (lv_at hl 1 rfl) ?_
  subst hQF
  have hP9 := hP
  have hD9 := hD
  exact W.iret (v := px) hx hb hr (fun t ht hW => ⟨⟨px, (h_nos + 1), rfl, rfl, by rw [ht]; exact hP9, hD9⟩, hS.F ht⟩) hS.2.2 dX10_refuseNo_11

set_option maxHeartbeats 4000000 in
set_option maxRecDepth 100000 in
theorem n_X10_refuseFull (l : Launch) (D : va_G) (cy : Nat → ClassId) (a_h : Nat) (a_g : Nat) (a_df : Nat) (a_im : Nat) (a_pn : Nat) (a_w : Nat) (a_pa : Nat) (h_bads : Int32) (h_nos : Int32) (h_fulls : Int32) (sz : Nat)  : Met l yX10_refuseFull wsX10_refuseFull ({ frames := 0, cells := 0, slots := 0, locals := 0 }) (va_Pc [.ref a_h] (kPre D cy [(a_h, .inr (10, [.ref a_g, .ref a_df, .ref a_im, .ref a_pn, .ref a_w, .ref a_pa, .int h_bads, .int h_nos, .int h_fulls]))] sz)) (va_Qi (fun (r : Int32) (u : Int32) => r = -4) (fun (u : Int32) t => va_P D vwCl ([(a_h, .inr (10, [.ref a_g, .ref a_df, .ref a_im, .ref a_pn, .ref a_w, .ref a_pa, .int h_bads, .int h_nos, .int u]))]) t.heap ∧ va_D (va_A [(a_h, .inr (10, [.ref a_g, .ref a_df, .ref a_im, .ref a_pn, .ref a_w, .ref a_pa, .int h_bads, .int h_nos, .int h_fulls]))] sz) ([(a_h, .inr (10, [.ref a_g, .ref a_df, .ref a_im, .ref a_pn, .ref a_w, .ref a_pa, .int h_bads, .int h_nos, .int u]))])) (va_A [(a_h, .inr (10, [.ref a_g, .ref a_df, .ref a_im, .ref a_pn, .ref a_w, .ref a_pa, .int h_bads, .int h_nos, .int h_fulls]))] sz)) 0 0 (va_A [(a_h, .inr (10, [.ref a_g, .ref a_df, .ref a_im, .ref a_pn, .ref a_w, .ref a_pa, .int h_bads, .int h_nos, .int h_fulls]))] sz) := by
  refine Met.ofW (cc := cX10_refuseFull) (maxL := 1) (ret := (some .int)) (by decide) rfl ?_
  intro p e s m args below meth c s₁ B hml hv
  obtain ⟨rfl, hsz, hP, hKA, hD0⟩ := hv
  have hx := B.exec
  have hb := B.bytes
  have hr := B.returns
  have hts := atoms_spec (ws := wsX10_refuseFull) B.pre
  have hown : s.vm.findClass RX10 = some m.cls := findClass_of_methodNamed B.named
  have hlocks := B.notSynchronized
  subst hsz
  have hK := hKA.1
  have hD := hD0.self (sz := s.heap.size)
  generalize hAe : va_A [(a_h, .inr (10, [.ref a_g, .ref a_df, .ref a_im, .ref a_pn, .ref a_w, .ref a_pa, .int h_bads, .int h_nos, .int h_fulls]))] s.heap.size = A at hD ⊢
  have hA : ∀ q : Nat, s.heap.size ≤ q → A q := fun q h => by rw [← hAe]; exact Or.inr h
  have hS : va_S A s.heap s.heap [] := va_S.rf
  have hP : va_P D vwCl [(a_h, .inr (10, [.ref a_g, .ref a_df, .ref a_im, .ref a_pn, .ref a_w, .ref a_pa, .int h_bads, .int h_nos, .int h_fulls]))] s.heap := hP
  have hl := lv_entry ([.ref a_h]) (n := 1) (Nat.le_of_ble_eq_true rfl)
  rw [lg_entry_eq]
  generalize (lg_sl ([.ref a_h]) ++ List.replicate (1 - (lg_sl ([.ref a_h])).length) Slot.unset).toArray = ls at hl ⊢
  have hl : lv_has ls 1 [(0, .ref a_h)] := hl
  refine qW (fun QF hQF => ?_)
  have z0_ := hts (.fieldLink RX10 210 "HeardSeen" "fulls" "I") (by decide +kernel)
  have zi10_ : ∀ w ∈ u_ws RX10 TX10 9, w ∈ wsX10_refuseFull := by decide +kernel
  refine lv_aload_n hx hb dX10_refuseFull_0 rfl (lv_at hl 0 rfl) ?_
  refine lv_dup hx hb dX10_refuseFull_1 rfl ?_
  refine va_get (D := D) (ci := 10) (v := .int h_fulls) (C := RX10) (T := TX10) (N := 9) hx hb hts zi10_ hown hK hP 0 rfl rfl 8 (by decide) z0_ (fun _ h9 => h9) rfl dX10_refuseFull_2 ?_
  refine lv_iconst (v := 1) hx hb dX10_refuseFull_5 (by decide) ?_
  refine lv_iadd hx hb dX10_refuseFull_6 ?_
  refine va_put (D := D) (ci := 10) (v := .int (h_fulls + 1)) (ty := .int) (C := RX10) (T := TX10) (N := 9) hx hb hts zi10_ tyX10 tyX10_ok nmX10 hown hK hP hD hS 0 rfl rfl 8 (by decide) z0_ (fun _ h9 => h9) rfl (by decide +kernel) rfl rfl (Nat.le_of_ble_eq_true rfl) dX10_refuseFull_7 (fun H locs hP hD hS => ?_)
  have hP : va_P D vwCl [(a_h, .inr (10, [.ref a_g, .ref a_df, .ref a_im, .ref a_pn, .ref a_w, .ref a_pa, .int h_bads, .int h_nos, .int (h_fulls + 1)]))] H := hP
  have hD : va_D A [(a_h, .inr (10, [.ref a_g, .ref a_df, .ref a_im, .ref a_pn, .ref a_w, .ref a_pa, .int h_bads, .int h_nos, .int (h_fulls + 1)]))] := hD
  refine lv_bipush (v := (-4)) hx hb dX10_refuseFull_10 (by decide) ?_
  subst hQF
  have hP9 := hP
  have hD9 := hD
  exact W.iret (v := (-4)) hx hb hr (fun t ht hW => ⟨⟨(-4), (h_fulls + 1), rfl, rfl, by rw [ht]; exact hP9, hD9⟩, hS.F ht⟩) hS.2.2 dX10_refuseFull_12

set_option maxHeartbeats 4000000 in
set_option maxRecDepth 100000 in
theorem n_X10_isPairOfTwo (l : Launch) (D : va_G) (cy : Nat → ClassId) (a_h : Nat) (a_g : Nat) (a_df : Nat) (a_im : Nat) (a_pn : Nat) (a_w : Nat) (a_pa : Nat) (h_bads : Int32) (h_nos : Int32) (h_fulls : Int32) (g_wide : Int32) (g_high : Int32) (g_drown : Int32) (g_wind : Int32) (g_hedges : Int64) (g_fountains : Int64) (g_people : Int32) (g_tellings : Int32) (g_reports : Int32) (a_g_kinds : Nat) (a_g_squares : Nat) (a_g_voices : Nat) (a_g_tellers : Nat) (a_g_listeners : Nat) (a_g_witnesses : Nat) (a_g_claims : Nat) (px : Int32) (py : Int32) (sz : Nat)  : Met l yX10_isPairOfTwo wsX10_isPairOfTwo ({ frames := 1, cells := 0, slots := 0, locals := 21 }) (va_Pc [.ref a_h, .int px, .int py] (kPre D cy [(a_h, .inr (10, [.ref a_g, .ref a_df, .ref a_im, .ref a_pn, .ref a_w, .ref a_pa, .int h_bads, .int h_nos, .int h_fulls])), (a_g, .inr (3, [.int g_wide, .int g_high, .int g_drown, .int g_wind, .long g_hedges, .long g_fountains, .int g_people, .int g_tellings, .int g_reports, .ref a_g_kinds, .ref a_g_squares, .ref a_g_voices, .ref a_g_tellers, .ref a_g_listeners, .ref a_g_witnesses, .ref a_g_claims]))] sz)) (va_Qi (fun (r : Int32) (u : Unit) => (r = 1 ∧ True) ∨ (r = 0 ∧ True)) (fun _ _ => True) (fun q : Nat => sz ≤ q)) 0 0 (fun q : Nat => sz ≤ q) := by
  refine Met.ofW (cc := cX10_isPairOfTwo) (maxL := 3) (ret := (some .boolean)) (by decide) rfl ?_
  intro p e s m args below meth c s₁ B hml hv
  obtain ⟨rfl, hsz, hP, hKA, hD0⟩ := hv
  have hx := B.exec
  have hb := B.bytes
  have hr := B.returns
  have hts := atoms_spec (ws := wsX10_isPairOfTwo) B.pre
  have hown : s.vm.findClass RX10 = some m.cls := findClass_of_methodNamed B.named
  have hlocks := B.notSynchronized
  subst hsz
  have hK := hKA.1
  have hD := hD0
  generalize hAe : (fun q : Nat => s.heap.size ≤ q) = A
  have hA : ∀ q : Nat, s.heap.size ≤ q → A q := fun q h => by rw [← hAe]; exact h
  have hS : va_S A s.heap s.heap [] := va_S.rf
  have hP : va_P D vwCl [(a_h, .inr (10, [.ref a_g, .ref a_df, .ref a_im, .ref a_pn, .ref a_w, .ref a_pa, .int h_bads, .int h_nos, .int h_fulls])), (a_g, .inr (3, [.int g_wide, .int g_high, .int g_drown, .int g_wind, .long g_hedges, .long g_fountains, .int g_people, .int g_tellings, .int g_reports, .ref a_g_kinds, .ref a_g_squares, .ref a_g_voices, .ref a_g_tellers, .ref a_g_listeners, .ref a_g_witnesses, .ref a_g_claims]))] s.heap := hP
  have hl := lv_entry ([.ref a_h, .int px, .int py]) (n := 3) (Nat.le_of_ble_eq_true rfl)
  rw [lg_entry_eq]
  generalize (lg_sl ([.ref a_h, .int px, .int py]) ++ List.replicate (3 - (lg_sl ([.ref a_h, .int px, .int py])).length) Slot.unset).toArray = ls at hl ⊢
  have hl : lv_has ls 3 [(0, .ref a_h), (1, .int px), (2, .int py)] := hl
  refine qW (fun QF hQF => ?_)
  have z0_ := hts (.fieldLink RX10 10 "HeardSeen" "now" "LHeardSeen$Garden;") (by decide +kernel)
  have zi10_ : ∀ w ∈ u_ws RX10 TX10 9, w ∈ wsX10_isPairOfTwo := by decide +kernel
  refine lv_aload_n hx hb dX10_isPairOfTwo_0 rfl (lv_at hl 0 rfl) ?_
  refine va_get (D := D) (ci := 10) (v := .ref a_g) (C := RX10) (T := TX10) (N := 9) hx hb hts zi10_ hown hK hP 0 rfl rfl 0 (by decide) z0_ (fun _ h9 => h9) rfl dX10_isPairOfTwo_1 ?_
  refine lv_iload_n hx hb dX10_isPairOfTwo_4 rfl (lv_at hl 1 rfl) ?_
  refine rd_i (va_runV (As := [.int px]) (rest := []) ⟨hx, hb, hml, hown, hts⟩ (n_X3_isPerson l D cy a_g g_wide g_high g_drown g_wind g_hedges g_fountains g_people g_tellings g_reports a_g_kinds a_g_squares a_g_voices a_g_tellers a_g_listeners a_g_witnesses a_g_claims px _ ) (cwV 1 hts gX10_isPairOfTwo_X3_isPerson rfl rfl rfl (by decide +kernel) ⟨Nat.le_of_ble_eq_true rfl, Nat.le_of_ble_eq_true rfl⟩) (pV (ci := 3) (k := 0) hKA (hP.sub (ws' := [(a_g, .inr (3, [.int g_wide, .int g_high, .int g_drown, .int g_wind, .long g_hedges, .long g_fountains, .int g_people, .int g_tellings, .int g_reports, .ref a_g_kinds, .ref a_g_squares, .ref a_g_voices, .ref a_g_tellers, .ref a_g_listeners, .ref a_g_witnesses, .ref a_g_claims]))]) [1] rfl) (hD.sub (ws' := [(a_g, .inr (3, [.int g_wide, .int g_high, .int g_drown, .int g_wind, .long g_hedges, .long g_fountains, .int g_people, .int g_tellings, .int g_reports, .ref a_g_kinds, .ref a_g_squares, .ref a_g_voices, .ref a_g_tellers, .ref a_g_listeners, .ref a_g_witnesses, .ref a_g_claims]))]) [1] (by decide) rfl) rfl rfl) rfl rfl hl.1 rfl (lv_room (Nat.le_of_ble_eq_true rfl)) dX10_isPairOfTwo_5 ⟨Nat.le_of_ble_eq_true rfl, Nat.le_of_ble_eq_true rfl⟩) hP hS hA (fun r1 H locs hwr1 hP hS => ?_)
  have hwr1 : (r1 = 1 ∧ (0 ≤ px ∧ px < g_people ∧ px < 5)) ∨ (r1 = 0 ∧ True) := hwr1
  refine lv_if_eq (tgt := 31) hx hb dX10_isPairOfTwo_8 (by decide) (fun c2 => ?_) (fun c2 => ?_)
  · skip
    refine lv_iconst (v := 0) hx hb dX10_isPairOfTwo_31 (by decide) ?_
    subst hQF
    exact W.zret (v := 0) hx hb hr rfl (fun t ht hW => ⟨⟨0, (), rfl, (Or.inr ⟨rfl, trivial⟩), trivial⟩, hS.F ht⟩) hS.2.2 dX10_isPairOfTwo_32
  · skip
    obtain ⟨hp3, hp4, hp5⟩ := z_b1 hwr1 c2
    refine lv_aload_n hx hb dX10_isPairOfTwo_11 rfl (lv_at hl 0 rfl) ?_
    refine va_get (D := D) (ci := 10) (v := .ref a_g) (C := RX10) (T := TX10) (N := 9) hx hb hts zi10_ hown hK hP 0 rfl rfl 0 (by decide) z0_ (fun _ h9 => h9) rfl dX10_isPairOfTwo_12 ?_
    refine lv_iload_n hx hb dX10_isPairOfTwo_15 rfl (lv_at hl 2 rfl) ?_
    refine rd_i (va_runV (As := [.int py]) (rest := []) ⟨hx, hb, hml, hown, hts⟩ (n_X3_isPerson l D cy a_g g_wide g_high g_drown g_wind g_hedges g_fountains g_people g_tellings g_reports a_g_kinds a_g_squares a_g_voices a_g_tellers a_g_listeners a_g_witnesses a_g_claims py _ ) (cwV 1 hts gX10_isPairOfTwo_X3_isPerson rfl rfl rfl (by decide +kernel) ⟨Nat.le_of_ble_eq_true rfl, Nat.le_of_ble_eq_true rfl⟩) (pV (ci := 3) (k := 0) hKA (hP.sub (ws' := [(a_g, .inr (3, [.int g_wide, .int g_high, .int g_drown, .int g_wind, .long g_hedges, .long g_fountains, .int g_people, .int g_tellings, .int g_reports, .ref a_g_kinds, .ref a_g_squares, .ref a_g_voices, .ref a_g_tellers, .ref a_g_listeners, .ref a_g_witnesses, .ref a_g_claims]))]) [1] rfl) (hD.sub (ws' := [(a_g, .inr (3, [.int g_wide, .int g_high, .int g_drown, .int g_wind, .long g_hedges, .long g_fountains, .int g_people, .int g_tellings, .int g_reports, .ref a_g_kinds, .ref a_g_squares, .ref a_g_voices, .ref a_g_tellers, .ref a_g_listeners, .ref a_g_witnesses, .ref a_g_claims]))]) [1] (by decide) rfl) rfl rfl) rfl rfl hl.1 rfl (lv_room (Nat.le_of_ble_eq_true rfl)) dX10_isPairOfTwo_16 ⟨Nat.le_of_ble_eq_true rfl, Nat.le_of_ble_eq_true rfl⟩) hP hS hA (fun r6 H locs hwr6 hP hS => ?_)
    have hwr6 : (r6 = 1 ∧ (0 ≤ py ∧ py < g_people ∧ py < 5)) ∨ (r6 = 0 ∧ True) := hwr6
    refine lv_if_eq (tgt := 31) hx hb dX10_isPairOfTwo_19 (by decide) (fun c7 => ?_) (fun c7 => ?_)
    · skip
      refine lv_iconst (v := 0) hx hb dX10_isPairOfTwo_31 (by decide) ?_
      subst hQF
      exact W.zret (v := 0) hx hb hr rfl (fun t ht hW => ⟨⟨0, (), rfl, (Or.inr ⟨rfl, trivial⟩), trivial⟩, hS.F ht⟩) hS.2.2 dX10_isPairOfTwo_32
    · skip
      obtain ⟨hp8, hp9, hp10⟩ := z_b1 hwr6 c7
      refine lv_iload_n hx hb dX10_isPairOfTwo_22 rfl (lv_at hl 1 rfl) ?_
      refine lv_iload_n hx hb dX10_isPairOfTwo_23 rfl (lv_at hl 2 rfl) ?_
      refine lv_icmp_eq (tgt := 31) hx hb dX10_isPairOfTwo_24 (by decide) (fun c11 => ?_) (fun c11 => ?_)
      · skip
        refine lv_iconst (v := 0) hx hb dX10_isPairOfTwo_31 (by decide) ?_
        subst hQF
        exact W.zret (v := 0) hx hb hr rfl (fun t ht hW => ⟨⟨0, (), rfl, (Or.inr ⟨rfl, trivial⟩), trivial⟩, hS.F ht⟩) hS.2.2 dX10_isPairOfTwo_32
      · skip
        refine lv_iconst (v := 1) hx hb dX10_isPairOfTwo_27 (by decide) ?_
        refine lv_goto (tgt := 32) hx hb dX10_isPairOfTwo_28 (by decide) ?_
        subst hQF
        exact W.zret (v := 1) hx hb hr rfl (fun t ht hW => ⟨⟨1, (), rfl, (Or.inl ⟨rfl, trivial⟩), trivial⟩, hS.F ht⟩) hS.2.2 dX10_isPairOfTwo_32

set_option maxHeartbeats 4000000 in
set_option maxRecDepth 100000 in
theorem n_X10_isGroup (l : Launch) (D : va_G) (cy : Nat → ClassId) (a_h : Nat) (a_g : Nat) (a_df : Nat) (a_im : Nat) (a_pn : Nat) (a_w : Nat) (a_pa : Nat) (h_bads : Int32) (h_nos : Int32) (h_fulls : Int32) (g_wide : Int32) (g_high : Int32) (g_drown : Int32) (g_wind : Int32) (g_hedges : Int64) (g_fountains : Int64) (g_people : Int32) (g_tellings : Int32) (g_reports : Int32) (a_g_kinds : Nat) (a_g_squares : Nat) (a_g_voices : Nat) (a_g_tellers : Nat) (a_g_listeners : Nat) (a_g_witnesses : Nat) (a_g_claims : Nat) (px : Int32) (sz : Nat)  : Met l yX10_isGroup wsX10_isGroup ({ frames := 1, cells := 0, slots := 0, locals := 22 }) (va_Pc [.ref a_h, .int px] (kPre D cy [(a_h, .inr (10, [.ref a_g, .ref a_df, .ref a_im, .ref a_pn, .ref a_w, .ref a_pa, .int h_bads, .int h_nos, .int h_fulls])), (a_g, .inr (3, [.int g_wide, .int g_high, .int g_drown, .int g_wind, .long g_hedges, .long g_fountains, .int g_people, .int g_tellings, .int g_reports, .ref a_g_kinds, .ref a_g_squares, .ref a_g_voices, .ref a_g_tellers, .ref a_g_listeners, .ref a_g_witnesses, .ref a_g_claims]))] sz)) (va_Qi (fun (r : Int32) (u : Unit) => (r = 1 ∧ True) ∨ (r = 0 ∧ True)) (fun _ _ => True) (fun q : Nat => sz ≤ q)) 0 0 (fun q : Nat => sz ≤ q) := by
  refine Met.ofW (cc := cX10_isGroup) (maxL := 2) (ret := (some .boolean)) (by decide) rfl ?_
  intro p e s m args below meth c s₁ B hml hv
  obtain ⟨rfl, hsz, hP, hKA, hD0⟩ := hv
  have hx := B.exec
  have hb := B.bytes
  have hr := B.returns
  have hts := atoms_spec (ws := wsX10_isGroup) B.pre
  have hown : s.vm.findClass RX10 = some m.cls := findClass_of_methodNamed B.named
  have hlocks := B.notSynchronized
  subst hsz
  have hK := hKA.1
  have hD := hD0
  generalize hAe : (fun q : Nat => s.heap.size ≤ q) = A
  have hA : ∀ q : Nat, s.heap.size ≤ q → A q := fun q h => by rw [← hAe]; exact h
  have hS : va_S A s.heap s.heap [] := va_S.rf
  have hP : va_P D vwCl [(a_h, .inr (10, [.ref a_g, .ref a_df, .ref a_im, .ref a_pn, .ref a_w, .ref a_pa, .int h_bads, .int h_nos, .int h_fulls])), (a_g, .inr (3, [.int g_wide, .int g_high, .int g_drown, .int g_wind, .long g_hedges, .long g_fountains, .int g_people, .int g_tellings, .int g_reports, .ref a_g_kinds, .ref a_g_squares, .ref a_g_voices, .ref a_g_tellers, .ref a_g_listeners, .ref a_g_witnesses, .ref a_g_claims]))] s.heap := hP
  have hl := lv_entry ([.ref a_h, .int px]) (n := 2) (Nat.le_of_ble_eq_true rfl)
  rw [lg_entry_eq]
  generalize (lg_sl ([.ref a_h, .int px]) ++ List.replicate (2 - (lg_sl ([.ref a_h, .int px])).length) Slot.unset).toArray = ls at hl ⊢
  have hl : lv_has ls 2 [(0, .ref a_h), (1, .int px)] := hl
  refine qW (fun QF hQF => ?_)
  have z0_ := hts (.fieldLink RX10 10 "HeardSeen" "now" "LHeardSeen$Garden;") (by decide +kernel)
  have zi10_ : ∀ w ∈ u_ws RX10 TX10 9, w ∈ wsX10_isGroup := by decide +kernel
  refine lv_iload_n hx hb dX10_isGroup_0 rfl (lv_at hl 1 rfl) ?_
  refine lv_iconst (v := 0) hx hb dX10_isGroup_1 (by decide) ?_
  refine lv_aload_n hx hb dX10_isGroup_2 rfl (lv_at hl 0 rfl) ?_
  refine va_get (D := D) (ci := 10) (v := .ref a_g) (C := RX10) (T := TX10) (N := 9) hx hb hts zi10_ hown hK hP 0 rfl rfl 0 (by decide) z0_ (fun _ h9 => h9) rfl dX10_isGroup_3 ?_
  refine rd_i (va_runV (As := []) (rest := [.int 0, .int px]) ⟨hx, hb, hml, hown, hts⟩ (n_X3_everybody l D cy a_g g_wide g_high g_drown g_wind g_hedges g_fountains g_people g_tellings g_reports a_g_kinds a_g_squares a_g_voices a_g_tellers a_g_listeners a_g_witnesses a_g_claims _ ) (cwV 0 hts gX10_isGroup_X3_everybody rfl rfl rfl (by decide +kernel) ⟨Nat.le_of_ble_eq_true rfl, Nat.le_of_ble_eq_true rfl⟩) (pV (ci := 3) (k := 0) hKA (hP.sub (ws' := [(a_g, .inr (3, [.int g_wide, .int g_high, .int g_drown, .int g_wind, .long g_hedges, .long g_fountains, .int g_people, .int g_tellings, .int g_reports, .ref a_g_kinds, .ref a_g_squares, .ref a_g_voices, .ref a_g_tellers, .ref a_g_listeners, .ref a_g_witnesses, .ref a_g_claims]))]) [1] rfl) (hD.sub (ws' := [(a_g, .inr (3, [.int g_wide, .int g_high, .int g_drown, .int g_wind, .long g_hedges, .long g_fountains, .int g_people, .int g_tellings, .int g_reports, .ref a_g_kinds, .ref a_g_squares, .ref a_g_voices, .ref a_g_tellers, .ref a_g_listeners, .ref a_g_witnesses, .ref a_g_claims]))]) [1] (by decide) rfl) rfl rfl) rfl rfl hl.1 rfl (lv_room (Nat.le_of_ble_eq_true rfl)) dX10_isGroup_6 ⟨Nat.le_of_ble_eq_true rfl, Nat.le_of_ble_eq_true rfl⟩) hP hS hA (fun r1 H locs hwr1 hP hS => ?_)
  refine rd_i (va_runS (As := [.int px, .int 0, .int r1]) (rest := []) ⟨hx, hb, hml, hown, hts⟩ (n_X10_isWithin l D cy px (0) r1 _ ) (va_cwS 3 hts gX10_isGroup_X10_isWithin rfl rfl rfl (by decide +kernel) ⟨Nat.le_of_ble_eq_true rfl, Nat.le_of_ble_eq_true rfl⟩) (pS hKA pE (dE (A := A))) rfl rfl hl.1 rfl (lv_room (Nat.le_of_ble_eq_true rfl)) dX10_isGroup_9 ⟨Nat.le_of_ble_eq_true rfl, Nat.le_of_ble_eq_true rfl⟩) hP hS hA (fun r2 H locs hwr2 hP hS => ?_)
  have hwr2 : (r2 = 1 ∧ ((0) ≤ px ∧ px ≤ r1)) ∨ (r2 = 0 ∧ (¬ ((0) ≤ px ∧ px ≤ r1))) := hwr2
  subst hQF
  exact W.zret (v := r2) hx hb hr (z_bn hwr2) (fun t ht hW => ⟨⟨r2, (), rfl, (z_bt hwr2), trivial⟩, hS.F ht⟩) hS.2.2 dX10_isGroup_12

set_option maxHeartbeats 4000000 in
set_option maxRecDepth 100000 in
theorem n_X10_howMany (l : Launch) (D : va_G) (cy : Nat → ClassId) (a_h : Nat) (a_g : Nat) (a_df : Nat) (a_im : Nat) (a_pn : Nat) (a_w : Nat) (a_pa : Nat) (h_bads : Int32) (h_nos : Int32) (h_fulls : Int32) (g_wide : Int32) (g_high : Int32) (g_drown : Int32) (g_wind : Int32) (g_hedges : Int64) (g_fountains : Int64) (g_people : Int32) (g_tellings : Int32) (g_reports : Int32) (a_g_kinds : Nat) (a_g_squares : Nat) (a_g_voices : Nat) (a_g_tellers : Nat) (a_g_listeners : Nat) (a_g_witnesses : Nat) (a_g_claims : Nat) (a_by : Nat) (pn_length : Int32) (pn_next : Int32) (pn_sort : Int32) (pn_start : Int32) (pn_value : Int32) (pn_fault : Int32) (px : Int32) (sz : Nat)  : Met l yX10_howMany wsX10_howMany ({ frames := 1, cells := 0, slots := 0, locals := 21 }) (va_Pc [.ref a_h, .int px] (kPre D cy [(a_h, .inr (10, [.ref a_g, .ref a_df, .ref a_im, .ref a_pn, .ref a_w, .ref a_pa, .int h_bads, .int h_nos, .int h_fulls])), (a_g, .inr (3, [.int g_wide, .int g_high, .int g_drown, .int g_wind, .long g_hedges, .long g_fountains, .int g_people, .int g_tellings, .int g_reports, .ref a_g_kinds, .ref a_g_squares, .ref a_g_voices, .ref a_g_tellers, .ref a_g_listeners, .ref a_g_witnesses, .ref a_g_claims])), (a_pn, .inr (8, [.ref a_by, .int pn_length, .int pn_next, .int pn_sort, .int pn_start, .int pn_value, .int pn_fault]))] sz)) (va_Qi (fun (r : Int32) (u : Unit) => True) (fun _ _ => True) (fun q : Nat => sz ≤ q)) 0 0 (fun q : Nat => sz ≤ q) := by
  refine Met.ofW (cc := cX10_howMany) (maxL := 2) (ret := (some .int)) (by decide) rfl ?_
  intro p e s m args below meth c s₁ B hml hv
  obtain ⟨rfl, hsz, hP, hKA, hD0⟩ := hv
  have hx := B.exec
  have hb := B.bytes
  have hr := B.returns
  have hts := atoms_spec (ws := wsX10_howMany) B.pre
  have hown : s.vm.findClass RX10 = some m.cls := findClass_of_methodNamed B.named
  have hlocks := B.notSynchronized
  subst hsz
  have hK := hKA.1
  have hD := hD0
  generalize hAe : (fun q : Nat => s.heap.size ≤ q) = A
  have hA : ∀ q : Nat, s.heap.size ≤ q → A q := fun q h => by rw [← hAe]; exact h
  have hS : va_S A s.heap s.heap [] := va_S.rf
  have hP : va_P D vwCl [(a_h, .inr (10, [.ref a_g, .ref a_df, .ref a_im, .ref a_pn, .ref a_w, .ref a_pa, .int h_bads, .int h_nos, .int h_fulls])), (a_g, .inr (3, [.int g_wide, .int g_high, .int g_drown, .int g_wind, .long g_hedges, .long g_fountains, .int g_people, .int g_tellings, .int g_reports, .ref a_g_kinds, .ref a_g_squares, .ref a_g_voices, .ref a_g_tellers, .ref a_g_listeners, .ref a_g_witnesses, .ref a_g_claims])), (a_pn, .inr (8, [.ref a_by, .int pn_length, .int pn_next, .int pn_sort, .int pn_start, .int pn_value, .int pn_fault]))] s.heap := hP
  have hl := lv_entry ([.ref a_h, .int px]) (n := 2) (Nat.le_of_ble_eq_true rfl)
  rw [lg_entry_eq]
  generalize (lg_sl ([.ref a_h, .int px]) ++ List.replicate (2 - (lg_sl ([.ref a_h, .int px])).length) Slot.unset).toArray = ls at hl ⊢
  have hl : lv_has ls 2 [(0, .ref a_h), (1, .int px)] := hl
  refine qW (fun QF hQF => ?_)
  have z0_ := hts (.fieldLink RX10 10 "HeardSeen" "now" "LHeardSeen$Garden;") (by decide +kernel)
  have zi10_ : ∀ w ∈ u_ws RX10 TX10 9, w ∈ wsX10_howMany := by decide +kernel
  have z2_ := hts (.fieldLink RX10 137 "HeardSeen$Garden" "people" "I") (by decide +kernel)
  have zi3_ : ∀ w ∈ u_ws RX3 TX3 16, w ∈ wsX10_howMany := by decide +kernel
  have z4_ := hts (.fieldLink RX10 224 "HeardSeen$Garden" "hedges" "J") (by decide +kernel)
  have z5_ := hts (.fieldLink RX10 228 "HeardSeen$Garden" "fountains" "J") (by decide +kernel)
  have z6_ := hts (.fieldLink RX10 117 "HeardSeen$Garden" "tellings" "I") (by decide +kernel)
  have z7_ := hts (.fieldLink RX10 120 "HeardSeen$Garden" "reports" "I") (by decide +kernel)
  have z8_ := hts (.fieldLink RX10 26 "HeardSeen" "plan" "LHeardSeen$Plan;") (by decide +kernel)
  have z9_ := hts (.fieldLink RX10 127 "HeardSeen$Plan" "length" "I") (by decide +kernel)
  have zi8_ : ∀ w ∈ u_ws RX8 TX8 7, w ∈ wsX10_howMany := by decide +kernel
  refine lv_iload_n hx hb dX10_howMany_0 rfl (lv_at hl 1 rfl) ?_
  by_cases c1 : px = 0
  · skip
    refine lv_tableIn (tgt := 44) hx hb dX10_howMany_1 (by rw [c1]; decide) (by rw [c1]; decide) (by rw [c1]; rfl) (by decide) ?_
    refine lv_aload_n hx hb dX10_howMany_44 rfl (lv_at hl 0 rfl) ?_
    refine va_get (D := D) (ci := 10) (v := .ref a_g) (C := RX10) (T := TX10) (N := 9) hx hb hts zi10_ hown hK hP 0 rfl rfl 0 (by decide) z0_ (fun _ h9 => h9) rfl dX10_howMany_45 ?_
    refine va_get (D := D) (ci := 3) (v := .int g_people) (C := RX3) (T := TX3) (N := 16) hx hb hts zi3_ hown hK hP 1 rfl rfl 6 (by decide) z2_ (fun _ h9 => h9) rfl dX10_howMany_48 ?_
    subst hQF
    exact W.iret (v := g_people) hx hb hr (fun t ht hW => ⟨⟨g_people, (), rfl, trivial, trivial⟩, hS.F ht⟩) hS.2.2 dX10_howMany_51
  by_cases c2 : px = 1
  · skip
    refine lv_tableIn (tgt := 52) hx hb dX10_howMany_1 (by rw [c2]; decide) (by rw [c2]; decide) (by rw [c2]; rfl) (by decide) ?_
    refine lv_aload_n hx hb dX10_howMany_52 rfl (lv_at hl 0 rfl) ?_
    refine va_get (D := D) (ci := 10) (v := .ref a_g) (C := RX10) (T := TX10) (N := 9) hx hb hts zi10_ hown hK hP 0 rfl rfl 0 (by decide) z0_ (fun _ h9 => h9) rfl dX10_howMany_53 ?_
    refine va_get (D := D) (ci := 3) (v := .long g_hedges) (C := RX3) (T := TX3) (N := 16) hx hb hts zi3_ hown hK hP 1 rfl rfl 4 (by decide) z4_ (fun _ h9 => h9) rfl dX10_howMany_56 ?_
    refine rd_i (va_runS (As := [.long g_hedges]) (rest := []) ⟨hx, hb, hml, hown, hts⟩ (n_J13_bitCount_95d88 l D cy g_hedges _ ) (va_cwS 1 hts gX10_howMany_J13_bitCount_95d88 rfl rfl rfl (by decide +kernel) ⟨Nat.le_of_ble_eq_true rfl, Nat.le_of_ble_eq_true rfl⟩) (pS hKA pE (dE (A := A))) rfl rfl hl.1 rfl (lv_room (Nat.le_of_ble_eq_true rfl)) dX10_howMany_59 ⟨Nat.le_of_ble_eq_true rfl, Nat.le_of_ble_eq_true rfl⟩) hP hS hA (fun r3 H locs hwr3 hP hS => ?_)
    subst hQF
    exact W.iret (v := r3) hx hb hr (fun t ht hW => ⟨⟨r3, (), rfl, trivial, trivial⟩, hS.F ht⟩) hS.2.2 dX10_howMany_62
  by_cases c4 : px = 2
  · skip
    refine lv_tableIn (tgt := 63) hx hb dX10_howMany_1 (by rw [c4]; decide) (by rw [c4]; decide) (by rw [c4]; rfl) (by decide) ?_
    refine lv_aload_n hx hb dX10_howMany_63 rfl (lv_at hl 0 rfl) ?_
    refine va_get (D := D) (ci := 10) (v := .ref a_g) (C := RX10) (T := TX10) (N := 9) hx hb hts zi10_ hown hK hP 0 rfl rfl 0 (by decide) z0_ (fun _ h9 => h9) rfl dX10_howMany_64 ?_
    refine va_get (D := D) (ci := 3) (v := .long g_fountains) (C := RX3) (T := TX3) (N := 16) hx hb hts zi3_ hown hK hP 1 rfl rfl 5 (by decide) z5_ (fun _ h9 => h9) rfl dX10_howMany_67 ?_
    refine rd_i (va_runS (As := [.long g_fountains]) (rest := []) ⟨hx, hb, hml, hown, hts⟩ (n_J13_bitCount_95d88 l D cy g_fountains _ ) (va_cwS 1 hts gX10_howMany_J13_bitCount_95d88 rfl rfl rfl (by decide +kernel) ⟨Nat.le_of_ble_eq_true rfl, Nat.le_of_ble_eq_true rfl⟩) (pS hKA pE (dE (A := A))) rfl rfl hl.1 rfl (lv_room (Nat.le_of_ble_eq_true rfl)) dX10_howMany_70 ⟨Nat.le_of_ble_eq_true rfl, Nat.le_of_ble_eq_true rfl⟩) hP hS hA (fun r5 H locs hwr5 hP hS => ?_)
    subst hQF
    exact W.iret (v := r5) hx hb hr (fun t ht hW => ⟨⟨r5, (), rfl, trivial, trivial⟩, hS.F ht⟩) hS.2.2 dX10_howMany_73
  by_cases c6 : px = 3
  · skip
    refine lv_tableIn (tgt := 74) hx hb dX10_howMany_1 (by rw [c6]; decide) (by rw [c6]; decide) (by rw [c6]; rfl) (by decide) ?_
    refine lv_aload_n hx hb dX10_howMany_74 rfl (lv_at hl 0 rfl) ?_
    refine va_get (D := D) (ci := 10) (v := .ref a_g) (C := RX10) (T := TX10) (N := 9) hx hb hts zi10_ hown hK hP 0 rfl rfl 0 (by decide) z0_ (fun _ h9 => h9) rfl dX10_howMany_75 ?_
    refine va_get (D := D) (ci := 3) (v := .int g_tellings) (C := RX3) (T := TX3) (N := 16) hx hb hts zi3_ hown hK hP 1 rfl rfl 7 (by decide) z6_ (fun _ h9 => h9) rfl dX10_howMany_78 ?_
    subst hQF
    exact W.iret (v := g_tellings) hx hb hr (fun t ht hW => ⟨⟨g_tellings, (), rfl, trivial, trivial⟩, hS.F ht⟩) hS.2.2 dX10_howMany_81
  by_cases c7 : px = 4
  · skip
    refine lv_tableIn (tgt := 82) hx hb dX10_howMany_1 (by rw [c7]; decide) (by rw [c7]; decide) (by rw [c7]; rfl) (by decide) ?_
    refine lv_aload_n hx hb dX10_howMany_82 rfl (lv_at hl 0 rfl) ?_
    refine va_get (D := D) (ci := 10) (v := .ref a_g) (C := RX10) (T := TX10) (N := 9) hx hb hts zi10_ hown hK hP 0 rfl rfl 0 (by decide) z0_ (fun _ h9 => h9) rfl dX10_howMany_83 ?_
    refine va_get (D := D) (ci := 3) (v := .int g_reports) (C := RX3) (T := TX3) (N := 16) hx hb hts zi3_ hown hK hP 1 rfl rfl 8 (by decide) z7_ (fun _ h9 => h9) rfl dX10_howMany_86 ?_
    subst hQF
    exact W.iret (v := g_reports) hx hb hr (fun t ht hW => ⟨⟨g_reports, (), rfl, trivial, trivial⟩, hS.F ht⟩) hS.2.2 dX10_howMany_89
  by_cases c8 : px = 5
  · skip
    refine lv_tableIn (tgt := 90) hx hb dX10_howMany_1 (by rw [c8]; decide) (by rw [c8]; decide) (by rw [c8]; rfl) (by decide) ?_
    refine lv_aload_n hx hb dX10_howMany_90 rfl (lv_at hl 0 rfl) ?_
    refine va_get (D := D) (ci := 10) (v := .ref a_pn) (C := RX10) (T := TX10) (N := 9) hx hb hts zi10_ hown hK hP 0 rfl rfl 3 (by decide) z8_ (fun _ h9 => h9) rfl dX10_howMany_91 ?_
    refine va_get (D := D) (ci := 8) (v := .int pn_length) (C := RX8) (T := TX8) (N := 7) hx hb hts zi8_ hown hK hP 2 rfl rfl 1 (by decide) z9_ (fun _ h9 => h9) rfl dX10_howMany_94 ?_
    subst hQF
    exact W.iret (v := pn_length) hx hb hr (fun t ht hW => ⟨⟨pn_length, (), rfl, trivial, trivial⟩, hS.F ht⟩) hS.2.2 dX10_howMany_97
  by_cases c9 : px = 6
  · skip
    refine lv_tableIn (tgt := 98) hx hb dX10_howMany_1 (by rw [c9]; decide) (by rw [c9]; decide) (by rw [c9]; rfl) (by decide) ?_
    refine lv_aload_n hx hb dX10_howMany_98 rfl (lv_at hl 0 rfl) ?_
    refine va_get (D := D) (ci := 10) (v := .ref a_g) (C := RX10) (T := TX10) (N := 9) hx hb hts zi10_ hown hK hP 0 rfl rfl 0 (by decide) z0_ (fun _ h9 => h9) rfl dX10_howMany_99 ?_
    refine rd_i (va_runV (As := []) (rest := []) ⟨hx, hb, hml, hown, hts⟩ (n_X3_squareCount l D cy a_g g_wide g_high g_drown g_wind g_hedges g_fountains g_people g_tellings g_reports a_g_kinds a_g_squares a_g_voices a_g_tellers a_g_listeners a_g_witnesses a_g_claims _ ) (cwV 0 hts gX10_howMany_X3_squareCount rfl rfl rfl (by decide +kernel) ⟨Nat.le_of_ble_eq_true rfl, Nat.le_of_ble_eq_true rfl⟩) (pV (ci := 3) (k := 0) hKA (hP.sub (ws' := [(a_g, .inr (3, [.int g_wide, .int g_high, .int g_drown, .int g_wind, .long g_hedges, .long g_fountains, .int g_people, .int g_tellings, .int g_reports, .ref a_g_kinds, .ref a_g_squares, .ref a_g_voices, .ref a_g_tellers, .ref a_g_listeners, .ref a_g_witnesses, .ref a_g_claims]))]) [1] rfl) (hD.sub (ws' := [(a_g, .inr (3, [.int g_wide, .int g_high, .int g_drown, .int g_wind, .long g_hedges, .long g_fountains, .int g_people, .int g_tellings, .int g_reports, .ref a_g_kinds, .ref a_g_squares, .ref a_g_voices, .ref a_g_tellers, .ref a_g_listeners, .ref a_g_witnesses, .ref a_g_claims]))]) [1] (by decide) rfl) rfl rfl) rfl rfl hl.1 rfl (lv_room (Nat.le_of_ble_eq_true rfl)) dX10_howMany_102 ⟨Nat.le_of_ble_eq_true rfl, Nat.le_of_ble_eq_true rfl⟩) hP hS hA (fun r10 H locs hwr10 hP hS => ?_)
    have hwr10 : r10 = g_wide * g_high := hwr10
    subst hwr10
    refine lv_topi (fun x11 ex11 => ?_)
    subst hQF
    exact W.iret (v := x11) hx hb hr (fun t ht hW => ⟨⟨x11, (), rfl, trivial, trivial⟩, hS.F ht⟩) hS.2.2 dX10_howMany_105
  refine lv_tableOut (tgt := 106) hx hb dX10_howMany_1 (by have q0 : ¬ px.toInt = 0 := fun h2 => absurd (Int32.toInt_inj.mp (h2.trans (by decide : (0 : Int) = (0 : Int32).toInt))) (by assumption); have q1 : ¬ px.toInt = 1 := fun h2 => absurd (Int32.toInt_inj.mp (h2.trans (by decide : (1 : Int) = (1 : Int32).toInt))) (by assumption); have q2 : ¬ px.toInt = 2 := fun h2 => absurd (Int32.toInt_inj.mp (h2.trans (by decide : (2 : Int) = (2 : Int32).toInt))) (by assumption); have q3 : ¬ px.toInt = 3 := fun h2 => absurd (Int32.toInt_inj.mp (h2.trans (by decide : (3 : Int) = (3 : Int32).toInt))) (by assumption); have q4 : ¬ px.toInt = 4 := fun h2 => absurd (Int32.toInt_inj.mp (h2.trans (by decide : (4 : Int) = (4 : Int32).toInt))) (by assumption); have q5 : ¬ px.toInt = 5 := fun h2 => absurd (Int32.toInt_inj.mp (h2.trans (by decide : (5 : Int) = (5 : Int32).toInt))) (by assumption); have q6 : ¬ px.toInt = 6 := fun h2 => absurd (Int32.toInt_inj.mp (h2.trans (by decide : (6 : Int) = (6 : Int32).toInt))) (by assumption); omega) (by decide) ?_
  refine lv_iconst (v := (-1)) hx hb dX10_howMany_106 (by decide) ?_
  subst hQF
  exact W.iret (v := (-1)) hx hb hr (fun t ht hW => ⟨⟨(-1), (), rfl, trivial, trivial⟩, hS.F ht⟩) hS.2.2 dX10_howMany_107

set_option maxHeartbeats 4000000 in
set_option maxRecDepth 100000 in
theorem n_X10_garden (l : Launch) (D : va_G) (cy : Nat → ClassId) (a_h : Nat) (a_g : Nat) (a_df : Nat) (a_im : Nat) (a_pn : Nat) (a_w : Nat) (a_pa : Nat) (h_bads : Int32) (h_nos : Int32) (h_fulls : Int32) (g_wide : Int32) (g_high : Int32) (g_drown : Int32) (g_wind : Int32) (g_hedges : Int64) (g_fountains : Int64) (g_people : Int32) (g_tellings : Int32) (g_reports : Int32) (a_g_kinds : Nat) (a_g_squares : Nat) (a_g_voices : Nat) (a_g_tellers : Nat) (a_g_listeners : Nat) (a_g_witnesses : Nat) (a_g_claims : Nat) (px : Int32) (py : Int32) (sz : Nat) (hW2 : 2 ≤ g_wide) : Met l yX10_garden wsX10_garden ({ frames := 1, cells := 0, slots := 0, locals := 22 }) (va_Pc [.ref a_h, .int px, .int py] (kPre D cy [(a_h, .inr (10, [.ref a_g, .ref a_df, .ref a_im, .ref a_pn, .ref a_w, .ref a_pa, .int h_bads, .int h_nos, .int h_fulls])), (a_g, .inr (3, [.int g_wide, .int g_high, .int g_drown, .int g_wind, .long g_hedges, .long g_fountains, .int g_people, .int g_tellings, .int g_reports, .ref a_g_kinds, .ref a_g_squares, .ref a_g_voices, .ref a_g_tellers, .ref a_g_listeners, .ref a_g_witnesses, .ref a_g_claims]))] sz)) (va_Qi (fun (r : Int32) (u : Int32 × Int32 × Int32 × Int32 × Int32 × Int64 × Int64 × Int32 × Int32 × Int32) => 2 ≤ u.2.1 ∧ r = sp_garden px py) (fun (u : Int32 × Int32 × Int32 × Int32 × Int32 × Int64 × Int64 × Int32 × Int32 × Int32) t => va_P D vwCl ([(a_h, .inr (10, [.ref a_g, .ref a_df, .ref a_im, .ref a_pn, .ref a_w, .ref a_pa, .int u.1, .int h_nos, .int h_fulls])), (a_g, .inr (3, [.int u.2.1, .int u.2.2.1, .int u.2.2.2.1, .int u.2.2.2.2.1, .long u.2.2.2.2.2.1, .long u.2.2.2.2.2.2.1, .int u.2.2.2.2.2.2.2.1, .int u.2.2.2.2.2.2.2.2.1, .int u.2.2.2.2.2.2.2.2.2, .ref a_g_kinds, .ref a_g_squares, .ref a_g_voices, .ref a_g_tellers, .ref a_g_listeners, .ref a_g_witnesses, .ref a_g_claims]))]) t.heap ∧ va_D (va_A [(a_h, .inr (10, [.ref a_g, .ref a_df, .ref a_im, .ref a_pn, .ref a_w, .ref a_pa, .int h_bads, .int h_nos, .int h_fulls])), (a_g, .inr (3, [.int g_wide, .int g_high, .int g_drown, .int g_wind, .long g_hedges, .long g_fountains, .int g_people, .int g_tellings, .int g_reports, .ref a_g_kinds, .ref a_g_squares, .ref a_g_voices, .ref a_g_tellers, .ref a_g_listeners, .ref a_g_witnesses, .ref a_g_claims]))] sz) ([(a_h, .inr (10, [.ref a_g, .ref a_df, .ref a_im, .ref a_pn, .ref a_w, .ref a_pa, .int u.1, .int h_nos, .int h_fulls])), (a_g, .inr (3, [.int u.2.1, .int u.2.2.1, .int u.2.2.2.1, .int u.2.2.2.2.1, .long u.2.2.2.2.2.1, .long u.2.2.2.2.2.2.1, .int u.2.2.2.2.2.2.2.1, .int u.2.2.2.2.2.2.2.2.1, .int u.2.2.2.2.2.2.2.2.2, .ref a_g_kinds, .ref a_g_squares, .ref a_g_voices, .ref a_g_tellers, .ref a_g_listeners, .ref a_g_witnesses, .ref a_g_claims]))])) (va_A [(a_h, .inr (10, [.ref a_g, .ref a_df, .ref a_im, .ref a_pn, .ref a_w, .ref a_pa, .int h_bads, .int h_nos, .int h_fulls])), (a_g, .inr (3, [.int g_wide, .int g_high, .int g_drown, .int g_wind, .long g_hedges, .long g_fountains, .int g_people, .int g_tellings, .int g_reports, .ref a_g_kinds, .ref a_g_squares, .ref a_g_voices, .ref a_g_tellers, .ref a_g_listeners, .ref a_g_witnesses, .ref a_g_claims]))] sz)) 0 0 (va_A [(a_h, .inr (10, [.ref a_g, .ref a_df, .ref a_im, .ref a_pn, .ref a_w, .ref a_pa, .int h_bads, .int h_nos, .int h_fulls])), (a_g, .inr (3, [.int g_wide, .int g_high, .int g_drown, .int g_wind, .long g_hedges, .long g_fountains, .int g_people, .int g_tellings, .int g_reports, .ref a_g_kinds, .ref a_g_squares, .ref a_g_voices, .ref a_g_tellers, .ref a_g_listeners, .ref a_g_witnesses, .ref a_g_claims]))] sz) := by
  refine Met.ofW (cc := cX10_garden) (maxL := 3) (ret := (some .int)) (by decide) rfl ?_
  intro p e s m args below meth c s₁ B hml hv
  obtain ⟨rfl, hsz, hP, hKA, hD0⟩ := hv
  have hx := B.exec
  have hb := B.bytes
  have hr := B.returns
  have hts := atoms_spec (ws := wsX10_garden) B.pre
  have hown : s.vm.findClass RX10 = some m.cls := findClass_of_methodNamed B.named
  have hlocks := B.notSynchronized
  subst hsz
  have hK := hKA.1
  have hD := hD0.self (sz := s.heap.size)
  generalize hAe : va_A [(a_h, .inr (10, [.ref a_g, .ref a_df, .ref a_im, .ref a_pn, .ref a_w, .ref a_pa, .int h_bads, .int h_nos, .int h_fulls])), (a_g, .inr (3, [.int g_wide, .int g_high, .int g_drown, .int g_wind, .long g_hedges, .long g_fountains, .int g_people, .int g_tellings, .int g_reports, .ref a_g_kinds, .ref a_g_squares, .ref a_g_voices, .ref a_g_tellers, .ref a_g_listeners, .ref a_g_witnesses, .ref a_g_claims]))] s.heap.size = A at hD ⊢
  have hA : ∀ q : Nat, s.heap.size ≤ q → A q := fun q h => by rw [← hAe]; exact Or.inr h
  have hS : va_S A s.heap s.heap [] := va_S.rf
  have hP : va_P D vwCl [(a_h, .inr (10, [.ref a_g, .ref a_df, .ref a_im, .ref a_pn, .ref a_w, .ref a_pa, .int h_bads, .int h_nos, .int h_fulls])), (a_g, .inr (3, [.int g_wide, .int g_high, .int g_drown, .int g_wind, .long g_hedges, .long g_fountains, .int g_people, .int g_tellings, .int g_reports, .ref a_g_kinds, .ref a_g_squares, .ref a_g_voices, .ref a_g_tellers, .ref a_g_listeners, .ref a_g_witnesses, .ref a_g_claims]))] s.heap := hP
  have hl := lv_entry ([.ref a_h, .int px, .int py]) (n := 3) (Nat.le_of_ble_eq_true rfl)
  rw [lg_entry_eq]
  generalize (lg_sl ([.ref a_h, .int px, .int py]) ++ List.replicate (3 - (lg_sl ([.ref a_h, .int px, .int py])).length) Slot.unset).toArray = ls at hl ⊢
  have hl : lv_has ls 3 [(0, .ref a_h), (1, .int px), (2, .int py)] := hl
  refine qW (fun QF hQF => ?_)
  have z0_ := hts (.fieldLink RX10 10 "HeardSeen" "now" "LHeardSeen$Garden;") (by decide +kernel)
  have zi10_ : ∀ w ∈ u_ws RX10 TX10 9, w ∈ wsX10_garden := by decide +kernel
  refine lv_iload_n hx hb dX10_garden_0 rfl (lv_at hl 1 rfl) ?_
  refine lv_iconst (v := 2) hx hb dX10_garden_1 (by decide) ?_
  refine lv_bipush (v := 6) hx hb dX10_garden_2 (by decide) ?_
  refine rd_i (va_runS (As := [.int px, .int 2, .int 6]) (rest := []) ⟨hx, hb, hml, hown, hts⟩ (n_X10_isWithin l D cy px (2) (6) _ ) (va_cwS 3 hts gX10_garden_X10_isWithin rfl rfl rfl (by decide +kernel) ⟨Nat.le_of_ble_eq_true rfl, Nat.le_of_ble_eq_true rfl⟩) (pS hKA pE (dE (A := A))) rfl rfl hl.1 rfl (lv_room (Nat.le_of_ble_eq_true rfl)) dX10_garden_4 ⟨Nat.le_of_ble_eq_true rfl, Nat.le_of_ble_eq_true rfl⟩) hP hS hA (fun r1 H locs hwr1 hP hS => ?_)
  have hwr1 : (r1 = 1 ∧ ((2) ≤ px ∧ px ≤ (6))) ∨ (r1 = 0 ∧ (¬ ((2) ≤ px ∧ px ≤ (6)))) := hwr1
  refine lv_if_eq (tgt := 20) hx hb dX10_garden_7 (by decide) (fun c2 => ?_) (fun c2 => ?_)
  · skip
    have hq3 := z_b0 hwr1 c2
    refine lv_aload_n hx hb dX10_garden_20 rfl (lv_at hl 0 rfl) ?_
    refine lv_bipush (v := (-2)) hx hb dX10_garden_21 (by decide) ?_
    refine wr_i (wr := [(a_g, .inr (3, [.int g_wide, .int g_high, .int g_drown, .int g_wind, .long g_hedges, .long g_fountains, .int g_people, .int g_tellings, .int g_reports, .ref a_g_kinds, .ref a_g_squares, .ref a_g_voices, .ref a_g_tellers, .ref a_g_listeners, .ref a_g_witnesses, .ref a_g_claims]))]) (va_runV (As := [.int (-2)]) (rest := []) ⟨hx, hb, hml, hown, hts⟩ (n_X10_refuseBad l D cy a_h a_g a_df a_im a_pn a_w a_pa h_bads h_nos h_fulls (-2) _ ) (cwV 1 hts gX10_garden_X10_refuseBad rfl rfl rfl (by decide +kernel) ⟨Nat.le_of_ble_eq_true rfl, Nat.le_of_ble_eq_true rfl⟩) (pV (ci := 10) (k := 0) hKA (hP.sub (ws' := [(a_h, .inr (10, [.ref a_g, .ref a_df, .ref a_im, .ref a_pn, .ref a_w, .ref a_pa, .int h_bads, .int h_nos, .int h_fulls]))]) [0] rfl) (hD.sub (ws' := [(a_h, .inr (10, [.ref a_g, .ref a_df, .ref a_im, .ref a_pn, .ref a_w, .ref a_pa, .int h_bads, .int h_nos, .int h_fulls]))]) [0] (by decide) rfl) rfl rfl) rfl rfl hl.1 rfl (lv_room (Nat.le_of_ble_eq_true rfl)) dX10_garden_23 ⟨Nat.le_of_ble_eq_true rfl, Nat.le_of_ble_eq_true rfl⟩) hP hD hS hA [0] [1] rfl rfl (by decide +kernel) (by decide +kernel) (fun r4 ur4 H locs hwr4 hP hD hS => ?_)
    obtain ⟨z5, rfl⟩ : ∃ z, z = ur4 := ⟨_, rfl⟩
    have hP : va_P D vwCl [(a_g, .inr (3, [.int g_wide, .int g_high, .int g_drown, .int g_wind, .long g_hedges, .long g_fountains, .int g_people, .int g_tellings, .int g_reports, .ref a_g_kinds, .ref a_g_squares, .ref a_g_voices, .ref a_g_tellers, .ref a_g_listeners, .ref a_g_witnesses, .ref a_g_claims])), (a_h, .inr (10, [.ref a_g, .ref a_df, .ref a_im, .ref a_pn, .ref a_w, .ref a_pa, .int z5, .int h_nos, .int h_fulls]))] H := hP
    have hD : va_D A [(a_g, .inr (3, [.int g_wide, .int g_high, .int g_drown, .int g_wind, .long g_hedges, .long g_fountains, .int g_people, .int g_tellings, .int g_reports, .ref a_g_kinds, .ref a_g_squares, .ref a_g_voices, .ref a_g_tellers, .ref a_g_listeners, .ref a_g_witnesses, .ref a_g_claims])), (a_h, .inr (10, [.ref a_g, .ref a_df, .ref a_im, .ref a_pn, .ref a_w, .ref a_pa, .int z5, .int h_nos, .int h_fulls]))] := hD
    have hwr4 : r4 = (-2) := hwr4
    subst hwr4
    subst hQF
    have hP9 := hP.sub (ws' := [(a_h, .inr (10, [.ref a_g, .ref a_df, .ref a_im, .ref a_pn, .ref a_w, .ref a_pa, .int z5, .int h_nos, .int h_fulls])), (a_g, .inr (3, [.int g_wide, .int g_high, .int g_drown, .int g_wind, .long g_hedges, .long g_fountains, .int g_people, .int g_tellings, .int g_reports, .ref a_g_kinds, .ref a_g_squares, .ref a_g_voices, .ref a_g_tellers, .ref a_g_listeners, .ref a_g_witnesses, .ref a_g_claims]))]) [1, 0] rfl
    have hD9 := hD.sub (ws' := [(a_h, .inr (10, [.ref a_g, .ref a_df, .ref a_im, .ref a_pn, .ref a_w, .ref a_pa, .int z5, .int h_nos, .int h_fulls])), (a_g, .inr (3, [.int g_wide, .int g_high, .int g_drown, .int g_wind, .long g_hedges, .long g_fountains, .int g_people, .int g_tellings, .int g_reports, .ref a_g_kinds, .ref a_g_squares, .ref a_g_voices, .ref a_g_tellers, .ref a_g_listeners, .ref a_g_witnesses, .ref a_g_claims]))]) [1, 0] (by decide) rfl
    exact W.iret (v := (-2)) hx hb hr (fun t ht hW => ⟨⟨(-2), (z5, g_wide, g_high, g_drown, g_wind, g_hedges, g_fountains, g_people, g_tellings, g_reports), rfl, ⟨by first | assumption | (simp only [*]; done), by simp [sp_garden, *]⟩, by rw [ht]; exact hP9, hD9⟩, hS.F ht⟩) hS.2.2 dX10_garden_26
  · skip
    obtain ⟨hp6, hp7⟩ := z_b1 hwr1 c2
    refine lv_iload_n hx hb dX10_garden_10 rfl (lv_at hl 2 rfl) ?_
    refine lv_iconst (v := 2) hx hb dX10_garden_11 (by decide) ?_
    refine lv_bipush (v := 6) hx hb dX10_garden_12 (by decide) ?_
    refine rd_i (va_runS (As := [.int py, .int 2, .int 6]) (rest := []) ⟨hx, hb, hml, hown, hts⟩ (n_X10_isWithin l D cy py (2) (6) _ ) (va_cwS 3 hts gX10_garden_X10_isWithin rfl rfl rfl (by decide +kernel) ⟨Nat.le_of_ble_eq_true rfl, Nat.le_of_ble_eq_true rfl⟩) (pS hKA pE (dE (A := A))) rfl rfl hl.1 rfl (lv_room (Nat.le_of_ble_eq_true rfl)) dX10_garden_14 ⟨Nat.le_of_ble_eq_true rfl, Nat.le_of_ble_eq_true rfl⟩) hP hS hA (fun r8 H locs hwr8 hP hS => ?_)
    have hwr8 : (r8 = 1 ∧ ((2) ≤ py ∧ py ≤ (6))) ∨ (r8 = 0 ∧ (¬ ((2) ≤ py ∧ py ≤ (6)))) := hwr8
    refine lv_if_ne (tgt := 27) hx hb dX10_garden_17 (by decide) (fun c9 => ?_) (fun c9 => ?_)
    · skip
      obtain ⟨hp10, hp11⟩ := z_b1 hwr8 c9
      refine lv_aload_n hx hb dX10_garden_27 rfl (lv_at hl 0 rfl) ?_
      refine va_get (D := D) (ci := 10) (v := .ref a_g) (C := RX10) (T := TX10) (N := 9) hx hb hts zi10_ hown hK hP 0 rfl rfl 0 (by decide) z0_ (fun _ h9 => h9) rfl dX10_garden_28 ?_
      refine lv_iload_n hx hb dX10_garden_31 rfl (lv_at hl 1 rfl) ?_
      refine lv_iload_n hx hb dX10_garden_32 rfl (lv_at hl 2 rfl) ?_
      refine wr_v (wr := [(a_h, .inr (10, [.ref a_g, .ref a_df, .ref a_im, .ref a_pn, .ref a_w, .ref a_pa, .int h_bads, .int h_nos, .int h_fulls]))]) (va_runV (As := [.int px, .int py]) (rest := []) ⟨hx, hb, hml, hown, hts⟩ (n_X3_layOut l D cy a_g g_wide g_high g_drown g_wind g_hedges g_fountains g_people g_tellings g_reports a_g_kinds a_g_squares a_g_voices a_g_tellers a_g_listeners a_g_witnesses a_g_claims px py _ ) (cwV 2 hts gX10_garden_X3_layOut rfl rfl rfl (by decide +kernel) ⟨Nat.le_of_ble_eq_true rfl, Nat.le_of_ble_eq_true rfl⟩) (pV (ci := 3) (k := 0) hKA (hP.sub (ws' := [(a_g, .inr (3, [.int g_wide, .int g_high, .int g_drown, .int g_wind, .long g_hedges, .long g_fountains, .int g_people, .int g_tellings, .int g_reports, .ref a_g_kinds, .ref a_g_squares, .ref a_g_voices, .ref a_g_tellers, .ref a_g_listeners, .ref a_g_witnesses, .ref a_g_claims]))]) [1] rfl) (hD.sub (ws' := [(a_g, .inr (3, [.int g_wide, .int g_high, .int g_drown, .int g_wind, .long g_hedges, .long g_fountains, .int g_people, .int g_tellings, .int g_reports, .ref a_g_kinds, .ref a_g_squares, .ref a_g_voices, .ref a_g_tellers, .ref a_g_listeners, .ref a_g_witnesses, .ref a_g_claims]))]) [1] (by decide) rfl) rfl rfl) rfl rfl hl.1 rfl (lv_room (Nat.le_of_ble_eq_true rfl)) dX10_garden_33 ⟨Nat.le_of_ble_eq_true rfl, Nat.le_of_ble_eq_true rfl⟩) hP hD hS hA [1] [0] rfl rfl (by decide +kernel) (by decide +kernel) (fun ur12 H locs hwr12 hP hD hS => ?_)
      obtain ⟨z13, z14, z15, z16, z17, z18, z19, z20, z21⟩ := ur12
      have hP : va_P D vwCl [(a_h, .inr (10, [.ref a_g, .ref a_df, .ref a_im, .ref a_pn, .ref a_w, .ref a_pa, .int h_bads, .int h_nos, .int h_fulls])), (a_g, .inr (3, [.int z13, .int z14, .int z15, .int z16, .long z17, .long z18, .int z19, .int z20, .int z21, .ref a_g_kinds, .ref a_g_squares, .ref a_g_voices, .ref a_g_tellers, .ref a_g_listeners, .ref a_g_witnesses, .ref a_g_claims]))] H := hP
      have hD : va_D A [(a_h, .inr (10, [.ref a_g, .ref a_df, .ref a_im, .ref a_pn, .ref a_w, .ref a_pa, .int h_bads, .int h_nos, .int h_fulls])), (a_g, .inr (3, [.int z13, .int z14, .int z15, .int z16, .long z17, .long z18, .int z19, .int z20, .int z21, .ref a_g_kinds, .ref a_g_squares, .ref a_g_voices, .ref a_g_tellers, .ref a_g_listeners, .ref a_g_witnesses, .ref a_g_claims]))] := hD
      have hwr12 : z13 = px ∧ z14 = py := hwr12
      refine lv_aload_n hx hb dX10_garden_36 rfl (lv_at hl 0 rfl) ?_
      refine va_get (D := D) (ci := 10) (v := .ref a_g) (C := RX10) (T := TX10) (N := 9) hx hb hts zi10_ hown hK hP 0 rfl rfl 0 (by decide) z0_ (fun _ h9 => h9) rfl dX10_garden_37 ?_
      refine rd_i (va_runV (As := []) (rest := []) ⟨hx, hb, hml, hown, hts⟩ (n_X3_squareCount l D cy a_g z13 z14 z15 z16 z17 z18 z19 z20 z21 a_g_kinds a_g_squares a_g_voices a_g_tellers a_g_listeners a_g_witnesses a_g_claims _ ) (cwV 0 hts gX10_garden_X3_squareCount rfl rfl rfl (by decide +kernel) ⟨Nat.le_of_ble_eq_true rfl, Nat.le_of_ble_eq_true rfl⟩) (pV (ci := 3) (k := 0) hKA (hP.sub (ws' := [(a_g, .inr (3, [.int z13, .int z14, .int z15, .int z16, .long z17, .long z18, .int z19, .int z20, .int z21, .ref a_g_kinds, .ref a_g_squares, .ref a_g_voices, .ref a_g_tellers, .ref a_g_listeners, .ref a_g_witnesses, .ref a_g_claims]))]) [1] rfl) (hD.sub (ws' := [(a_g, .inr (3, [.int z13, .int z14, .int z15, .int z16, .long z17, .long z18, .int z19, .int z20, .int z21, .ref a_g_kinds, .ref a_g_squares, .ref a_g_voices, .ref a_g_tellers, .ref a_g_listeners, .ref a_g_witnesses, .ref a_g_claims]))]) [1] (by decide) rfl) rfl rfl) rfl rfl hl.1 rfl (lv_room (Nat.le_of_ble_eq_true rfl)) dX10_garden_40 ⟨Nat.le_of_ble_eq_true rfl, Nat.le_of_ble_eq_true rfl⟩) hP hS hA (fun r22 H locs hwr22 hP hS => ?_)
      have hwr22 : r22 = z13 * z14 := hwr22
      subst hwr22
      refine lv_topi (fun x23 ex23 => ?_)
      subst hQF
      have hP9 := hP
      have hD9 := hD
      exact W.iret (v := x23) hx hb hr (fun t ht hW => ⟨⟨x23, (h_bads, z13, z14, z15, z16, z17, z18, z19, z20, z21), rfl, ⟨by first | assumption | (simp only [*]; done), by simp [sp_garden, *]⟩, by rw [ht]; exact hP9, hD9⟩, hS.F ht⟩) hS.2.2 dX10_garden_43
    · skip
      have hq24 := z_b0 hwr8 c9
      refine lv_aload_n hx hb dX10_garden_20 rfl (lv_at hl 0 rfl) ?_
      refine lv_bipush (v := (-2)) hx hb dX10_garden_21 (by decide) ?_
      refine wr_i (wr := [(a_g, .inr (3, [.int g_wide, .int g_high, .int g_drown, .int g_wind, .long g_hedges, .long g_fountains, .int g_people, .int g_tellings, .int g_reports, .ref a_g_kinds, .ref a_g_squares, .ref a_g_voices, .ref a_g_tellers, .ref a_g_listeners, .ref a_g_witnesses, .ref a_g_claims]))]) (va_runV (As := [.int (-2)]) (rest := []) ⟨hx, hb, hml, hown, hts⟩ (n_X10_refuseBad l D cy a_h a_g a_df a_im a_pn a_w a_pa h_bads h_nos h_fulls (-2) _ ) (cwV 1 hts gX10_garden_X10_refuseBad rfl rfl rfl (by decide +kernel) ⟨Nat.le_of_ble_eq_true rfl, Nat.le_of_ble_eq_true rfl⟩) (pV (ci := 10) (k := 0) hKA (hP.sub (ws' := [(a_h, .inr (10, [.ref a_g, .ref a_df, .ref a_im, .ref a_pn, .ref a_w, .ref a_pa, .int h_bads, .int h_nos, .int h_fulls]))]) [0] rfl) (hD.sub (ws' := [(a_h, .inr (10, [.ref a_g, .ref a_df, .ref a_im, .ref a_pn, .ref a_w, .ref a_pa, .int h_bads, .int h_nos, .int h_fulls]))]) [0] (by decide) rfl) rfl rfl) rfl rfl hl.1 rfl (lv_room (Nat.le_of_ble_eq_true rfl)) dX10_garden_23 ⟨Nat.le_of_ble_eq_true rfl, Nat.le_of_ble_eq_true rfl⟩) hP hD hS hA [0] [1] rfl rfl (by decide +kernel) (by decide +kernel) (fun r25 ur25 H locs hwr25 hP hD hS => ?_)
      obtain ⟨z26, rfl⟩ : ∃ z, z = ur25 := ⟨_, rfl⟩
      have hP : va_P D vwCl [(a_g, .inr (3, [.int g_wide, .int g_high, .int g_drown, .int g_wind, .long g_hedges, .long g_fountains, .int g_people, .int g_tellings, .int g_reports, .ref a_g_kinds, .ref a_g_squares, .ref a_g_voices, .ref a_g_tellers, .ref a_g_listeners, .ref a_g_witnesses, .ref a_g_claims])), (a_h, .inr (10, [.ref a_g, .ref a_df, .ref a_im, .ref a_pn, .ref a_w, .ref a_pa, .int z26, .int h_nos, .int h_fulls]))] H := hP
      have hD : va_D A [(a_g, .inr (3, [.int g_wide, .int g_high, .int g_drown, .int g_wind, .long g_hedges, .long g_fountains, .int g_people, .int g_tellings, .int g_reports, .ref a_g_kinds, .ref a_g_squares, .ref a_g_voices, .ref a_g_tellers, .ref a_g_listeners, .ref a_g_witnesses, .ref a_g_claims])), (a_h, .inr (10, [.ref a_g, .ref a_df, .ref a_im, .ref a_pn, .ref a_w, .ref a_pa, .int z26, .int h_nos, .int h_fulls]))] := hD
      have hwr25 : r25 = (-2) := hwr25
      subst hwr25
      subst hQF
      have hP9 := hP.sub (ws' := [(a_h, .inr (10, [.ref a_g, .ref a_df, .ref a_im, .ref a_pn, .ref a_w, .ref a_pa, .int z26, .int h_nos, .int h_fulls])), (a_g, .inr (3, [.int g_wide, .int g_high, .int g_drown, .int g_wind, .long g_hedges, .long g_fountains, .int g_people, .int g_tellings, .int g_reports, .ref a_g_kinds, .ref a_g_squares, .ref a_g_voices, .ref a_g_tellers, .ref a_g_listeners, .ref a_g_witnesses, .ref a_g_claims]))]) [1, 0] rfl
      have hD9 := hD.sub (ws' := [(a_h, .inr (10, [.ref a_g, .ref a_df, .ref a_im, .ref a_pn, .ref a_w, .ref a_pa, .int z26, .int h_nos, .int h_fulls])), (a_g, .inr (3, [.int g_wide, .int g_high, .int g_drown, .int g_wind, .long g_hedges, .long g_fountains, .int g_people, .int g_tellings, .int g_reports, .ref a_g_kinds, .ref a_g_squares, .ref a_g_voices, .ref a_g_tellers, .ref a_g_listeners, .ref a_g_witnesses, .ref a_g_claims]))]) [1, 0] (by decide) rfl
      exact W.iret (v := (-2)) hx hb hr (fun t ht hW => ⟨⟨(-2), (z26, g_wide, g_high, g_drown, g_wind, g_hedges, g_fountains, g_people, g_tellings, g_reports), rfl, ⟨by first | assumption | (simp only [*]; done), by simp [sp_garden, *]⟩, by rw [ht]; exact hP9, hD9⟩, hS.F ht⟩) hS.2.2 dX10_garden_26

set_option maxHeartbeats 4000000 in
set_option maxRecDepth 100000 in
theorem n_X10_set (l : Launch) (D : va_G) (cy : Nat → ClassId) (a_h : Nat) (a_g : Nat) (a_df : Nat) (a_im : Nat) (a_pn : Nat) (a_w : Nat) (a_pa : Nat) (h_bads : Int32) (h_nos : Int32) (h_fulls : Int32) (g_wide : Int32) (g_high : Int32) (g_drown : Int32) (g_wind : Int32) (g_hedges : Int64) (g_fountains : Int64) (g_people : Int32) (g_tellings : Int32) (g_reports : Int32) (a_g_kinds : Nat) (a_g_squares : Nat) (a_g_voices : Nat) (a_g_tellers : Nat) (a_g_listeners : Nat) (a_g_witnesses : Nat) (a_g_claims : Nat) (g_squares_f : Nat → Int32) (px : Int32) (py : Int32) (pz : Int32) (sz : Nat)  : Met l yX10_set wsX10_set ({ frames := 2, cells := 0, slots := 0, locals := 44 }) (va_Pc [.ref a_h, .int px, .int py, .int pz] (kPre D cy [(a_h, .inr (10, [.ref a_g, .ref a_df, .ref a_im, .ref a_pn, .ref a_w, .ref a_pa, .int h_bads, .int h_nos, .int h_fulls])), (a_g, .inr (3, [.int g_wide, .int g_high, .int g_drown, .int g_wind, .long g_hedges, .long g_fountains, .int g_people, .int g_tellings, .int g_reports, .ref a_g_kinds, .ref a_g_squares, .ref a_g_voices, .ref a_g_tellers, .ref a_g_listeners, .ref a_g_witnesses, .ref a_g_claims])), (a_g_squares, .inl (cy 1, 5, .inl g_squares_f))] sz)) (va_Qi (fun (r : Int32) (u : Int32 × Int32 × Int64 × Int64) => True) (fun (u : Int32 × Int32 × Int64 × Int64) t => va_P D vwCl ([(a_h, .inr (10, [.ref a_g, .ref a_df, .ref a_im, .ref a_pn, .ref a_w, .ref a_pa, .int u.1, .int u.2.1, .int h_fulls])), (a_g, .inr (3, [.int g_wide, .int g_high, .int g_drown, .int g_wind, .long u.2.2.1, .long u.2.2.2, .int g_people, .int g_tellings, .int g_reports, .ref a_g_kinds, .ref a_g_squares, .ref a_g_voices, .ref a_g_tellers, .ref a_g_listeners, .ref a_g_witnesses, .ref a_g_claims])), (a_g_squares, .inl (cy 1, 5, .inl g_squares_f))]) t.heap ∧ va_D (va_A [(a_h, .inr (10, [.ref a_g, .ref a_df, .ref a_im, .ref a_pn, .ref a_w, .ref a_pa, .int h_bads, .int h_nos, .int h_fulls])), (a_g, .inr (3, [.int g_wide, .int g_high, .int g_drown, .int g_wind, .long g_hedges, .long g_fountains, .int g_people, .int g_tellings, .int g_reports, .ref a_g_kinds, .ref a_g_squares, .ref a_g_voices, .ref a_g_tellers, .ref a_g_listeners, .ref a_g_witnesses, .ref a_g_claims])), (a_g_squares, .inl (cy 1, 5, .inl g_squares_f))] sz) ([(a_h, .inr (10, [.ref a_g, .ref a_df, .ref a_im, .ref a_pn, .ref a_w, .ref a_pa, .int u.1, .int u.2.1, .int h_fulls])), (a_g, .inr (3, [.int g_wide, .int g_high, .int g_drown, .int g_wind, .long u.2.2.1, .long u.2.2.2, .int g_people, .int g_tellings, .int g_reports, .ref a_g_kinds, .ref a_g_squares, .ref a_g_voices, .ref a_g_tellers, .ref a_g_listeners, .ref a_g_witnesses, .ref a_g_claims])), (a_g_squares, .inl (cy 1, 5, .inl g_squares_f))])) (va_A [(a_h, .inr (10, [.ref a_g, .ref a_df, .ref a_im, .ref a_pn, .ref a_w, .ref a_pa, .int h_bads, .int h_nos, .int h_fulls])), (a_g, .inr (3, [.int g_wide, .int g_high, .int g_drown, .int g_wind, .long g_hedges, .long g_fountains, .int g_people, .int g_tellings, .int g_reports, .ref a_g_kinds, .ref a_g_squares, .ref a_g_voices, .ref a_g_tellers, .ref a_g_listeners, .ref a_g_witnesses, .ref a_g_claims])), (a_g_squares, .inl (cy 1, 5, .inl g_squares_f))] sz)) 0 0 (va_A [(a_h, .inr (10, [.ref a_g, .ref a_df, .ref a_im, .ref a_pn, .ref a_w, .ref a_pa, .int h_bads, .int h_nos, .int h_fulls])), (a_g, .inr (3, [.int g_wide, .int g_high, .int g_drown, .int g_wind, .long g_hedges, .long g_fountains, .int g_people, .int g_tellings, .int g_reports, .ref a_g_kinds, .ref a_g_squares, .ref a_g_voices, .ref a_g_tellers, .ref a_g_listeners, .ref a_g_witnesses, .ref a_g_claims])), (a_g_squares, .inl (cy 1, 5, .inl g_squares_f))] sz) := by
  refine Met.ofW (cc := cX10_set) (maxL := 4) (ret := (some .int)) (by decide) rfl ?_
  intro p e s m args below meth c s₁ B hml hv
  obtain ⟨rfl, hsz, hP, hKA, hD0⟩ := hv
  have hx := B.exec
  have hb := B.bytes
  have hr := B.returns
  have hts := atoms_spec (ws := wsX10_set) B.pre
  have hown : s.vm.findClass RX10 = some m.cls := findClass_of_methodNamed B.named
  have hlocks := B.notSynchronized
  subst hsz
  have hK := hKA.1
  have hD := hD0.self (sz := s.heap.size)
  generalize hAe : va_A [(a_h, .inr (10, [.ref a_g, .ref a_df, .ref a_im, .ref a_pn, .ref a_w, .ref a_pa, .int h_bads, .int h_nos, .int h_fulls])), (a_g, .inr (3, [.int g_wide, .int g_high, .int g_drown, .int g_wind, .long g_hedges, .long g_fountains, .int g_people, .int g_tellings, .int g_reports, .ref a_g_kinds, .ref a_g_squares, .ref a_g_voices, .ref a_g_tellers, .ref a_g_listeners, .ref a_g_witnesses, .ref a_g_claims])), (a_g_squares, .inl (cy 1, 5, .inl g_squares_f))] s.heap.size = A at hD ⊢
  have hA : ∀ q : Nat, s.heap.size ≤ q → A q := fun q h => by rw [← hAe]; exact Or.inr h
  have hS : va_S A s.heap s.heap [] := va_S.rf
  have hP : va_P D vwCl [(a_h, .inr (10, [.ref a_g, .ref a_df, .ref a_im, .ref a_pn, .ref a_w, .ref a_pa, .int h_bads, .int h_nos, .int h_fulls])), (a_g, .inr (3, [.int g_wide, .int g_high, .int g_drown, .int g_wind, .long g_hedges, .long g_fountains, .int g_people, .int g_tellings, .int g_reports, .ref a_g_kinds, .ref a_g_squares, .ref a_g_voices, .ref a_g_tellers, .ref a_g_listeners, .ref a_g_witnesses, .ref a_g_claims])), (a_g_squares, .inl (cy 1, 5, .inl g_squares_f))] s.heap := hP
  have hl := lv_entry ([.ref a_h, .int px, .int py, .int pz]) (n := 4) (Nat.le_of_ble_eq_true rfl)
  rw [lg_entry_eq]
  generalize (lg_sl ([.ref a_h, .int px, .int py, .int pz]) ++ List.replicate (4 - (lg_sl ([.ref a_h, .int px, .int py, .int pz])).length) Slot.unset).toArray = ls at hl ⊢
  have hl : lv_has ls 4 [(0, .ref a_h), (1, .int px), (2, .int py), (3, .int pz)] := hl
  refine qW (fun QF hQF => ?_)
  have z0_ := hts (.fieldLink RX10 10 "HeardSeen" "now" "LHeardSeen$Garden;") (by decide +kernel)
  have zi10_ : ∀ w ∈ u_ws RX10 TX10 9, w ∈ wsX10_set := by decide +kernel
  refine lv_iload_n hx hb dX10_set_0 rfl (lv_at hl 1 rfl) ?_
  refine lv_iconst (v := 0) hx hb dX10_set_1 (by decide) ?_
  refine lv_iconst (v := 1) hx hb dX10_set_2 (by decide) ?_
  refine rd_i (va_runS (As := [.int px, .int 0, .int 1]) (rest := []) ⟨hx, hb, hml, hown, hts⟩ (n_X10_isWithin l D cy px (0) (1) _ ) (va_cwS 3 hts gX10_set_X10_isWithin rfl rfl rfl (by decide +kernel) ⟨Nat.le_of_ble_eq_true rfl, Nat.le_of_ble_eq_true rfl⟩) (pS hKA pE (dE (A := A))) rfl rfl hl.1 rfl (lv_room (Nat.le_of_ble_eq_true rfl)) dX10_set_3 ⟨Nat.le_of_ble_eq_true rfl, Nat.le_of_ble_eq_true rfl⟩) hP hS hA (fun r1 H locs hwr1 hP hS => ?_)
  have hwr1 : (r1 = 1 ∧ ((0) ≤ px ∧ px ≤ (1))) ∨ (r1 = 0 ∧ (¬ ((0) ≤ px ∧ px ≤ (1)))) := hwr1
  refine lv_if_eq (tgt := 20) hx hb dX10_set_6 (by decide) (fun c2 => ?_) (fun c2 => ?_)
  · skip
    have hq3 := z_b0 hwr1 c2
    refine lv_aload_n hx hb dX10_set_20 rfl (lv_at hl 0 rfl) ?_
    refine lv_bipush (v := (-2)) hx hb dX10_set_21 (by decide) ?_
    refine wr_i (wr := [(a_g, .inr (3, [.int g_wide, .int g_high, .int g_drown, .int g_wind, .long g_hedges, .long g_fountains, .int g_people, .int g_tellings, .int g_reports, .ref a_g_kinds, .ref a_g_squares, .ref a_g_voices, .ref a_g_tellers, .ref a_g_listeners, .ref a_g_witnesses, .ref a_g_claims])), (a_g_squares, .inl (cy 1, 5, .inl g_squares_f))]) (va_runV (As := [.int (-2)]) (rest := []) ⟨hx, hb, hml, hown, hts⟩ (n_X10_refuseBad l D cy a_h a_g a_df a_im a_pn a_w a_pa h_bads h_nos h_fulls (-2) _ ) (cwV 1 hts gX10_set_X10_refuseBad rfl rfl rfl (by decide +kernel) ⟨Nat.le_of_ble_eq_true rfl, Nat.le_of_ble_eq_true rfl⟩) (pV (ci := 10) (k := 0) hKA (hP.sub (ws' := [(a_h, .inr (10, [.ref a_g, .ref a_df, .ref a_im, .ref a_pn, .ref a_w, .ref a_pa, .int h_bads, .int h_nos, .int h_fulls]))]) [0] rfl) (hD.sub (ws' := [(a_h, .inr (10, [.ref a_g, .ref a_df, .ref a_im, .ref a_pn, .ref a_w, .ref a_pa, .int h_bads, .int h_nos, .int h_fulls]))]) [0] (by decide) rfl) rfl rfl) rfl rfl hl.1 rfl (lv_room (Nat.le_of_ble_eq_true rfl)) dX10_set_23 ⟨Nat.le_of_ble_eq_true rfl, Nat.le_of_ble_eq_true rfl⟩) hP hD hS hA [0] [1, 2] rfl rfl (by decide +kernel) (by decide +kernel) (fun r4 ur4 H locs hwr4 hP hD hS => ?_)
    obtain ⟨z5, rfl⟩ : ∃ z, z = ur4 := ⟨_, rfl⟩
    have hP : va_P D vwCl [(a_g, .inr (3, [.int g_wide, .int g_high, .int g_drown, .int g_wind, .long g_hedges, .long g_fountains, .int g_people, .int g_tellings, .int g_reports, .ref a_g_kinds, .ref a_g_squares, .ref a_g_voices, .ref a_g_tellers, .ref a_g_listeners, .ref a_g_witnesses, .ref a_g_claims])), (a_g_squares, .inl (cy 1, 5, .inl g_squares_f)), (a_h, .inr (10, [.ref a_g, .ref a_df, .ref a_im, .ref a_pn, .ref a_w, .ref a_pa, .int z5, .int h_nos, .int h_fulls]))] H := hP
    have hD : va_D A [(a_g, .inr (3, [.int g_wide, .int g_high, .int g_drown, .int g_wind, .long g_hedges, .long g_fountains, .int g_people, .int g_tellings, .int g_reports, .ref a_g_kinds, .ref a_g_squares, .ref a_g_voices, .ref a_g_tellers, .ref a_g_listeners, .ref a_g_witnesses, .ref a_g_claims])), (a_g_squares, .inl (cy 1, 5, .inl g_squares_f)), (a_h, .inr (10, [.ref a_g, .ref a_df, .ref a_im, .ref a_pn, .ref a_w, .ref a_pa, .int z5, .int h_nos, .int h_fulls]))] := hD
    have hwr4 : r4 = (-2) := hwr4
    subst hwr4
    subst hQF
    have hP9 := hP.sub (ws' := [(a_h, .inr (10, [.ref a_g, .ref a_df, .ref a_im, .ref a_pn, .ref a_w, .ref a_pa, .int z5, .int h_nos, .int h_fulls])), (a_g, .inr (3, [.int g_wide, .int g_high, .int g_drown, .int g_wind, .long g_hedges, .long g_fountains, .int g_people, .int g_tellings, .int g_reports, .ref a_g_kinds, .ref a_g_squares, .ref a_g_voices, .ref a_g_tellers, .ref a_g_listeners, .ref a_g_witnesses, .ref a_g_claims])), (a_g_squares, .inl (cy 1, 5, .inl g_squares_f))]) [2, 0, 1] rfl
    have hD9 := hD.sub (ws' := [(a_h, .inr (10, [.ref a_g, .ref a_df, .ref a_im, .ref a_pn, .ref a_w, .ref a_pa, .int z5, .int h_nos, .int h_fulls])), (a_g, .inr (3, [.int g_wide, .int g_high, .int g_drown, .int g_wind, .long g_hedges, .long g_fountains, .int g_people, .int g_tellings, .int g_reports, .ref a_g_kinds, .ref a_g_squares, .ref a_g_voices, .ref a_g_tellers, .ref a_g_listeners, .ref a_g_witnesses, .ref a_g_claims])), (a_g_squares, .inl (cy 1, 5, .inl g_squares_f))]) [2, 0, 1] (by decide) rfl
    exact W.iret (v := (-2)) hx hb hr (fun t ht hW => ⟨⟨(-2), (z5, h_nos, g_hedges, g_fountains), rfl, trivial, by rw [ht]; exact hP9, hD9⟩, hS.F ht⟩) hS.2.2 dX10_set_26
  · skip
    obtain ⟨hp6, hp7⟩ := z_b1 hwr1 c2
    refine lv_aload_n hx hb dX10_set_9 rfl (lv_at hl 0 rfl) ?_
    refine va_get (D := D) (ci := 10) (v := .ref a_g) (C := RX10) (T := TX10) (N := 9) hx hb hts zi10_ hown hK hP 0 rfl rfl 0 (by decide) z0_ (fun _ h9 => h9) rfl dX10_set_10 ?_
    refine lv_iload_n hx hb dX10_set_13 rfl (lv_at hl 2 rfl) ?_
    refine rd_i (va_runV (As := [.int py]) (rest := []) ⟨hx, hb, hml, hown, hts⟩ (n_X3_isSquare l D cy a_g g_wide g_high g_drown g_wind g_hedges g_fountains g_people g_tellings g_reports a_g_kinds a_g_squares a_g_voices a_g_tellers a_g_listeners a_g_witnesses a_g_claims py _ ) (cwV 1 hts gX10_set_X3_isSquare rfl rfl rfl (by decide +kernel) ⟨Nat.le_of_ble_eq_true rfl, Nat.le_of_ble_eq_true rfl⟩) (pV (ci := 3) (k := 0) hKA (hP.sub (ws' := [(a_g, .inr (3, [.int g_wide, .int g_high, .int g_drown, .int g_wind, .long g_hedges, .long g_fountains, .int g_people, .int g_tellings, .int g_reports, .ref a_g_kinds, .ref a_g_squares, .ref a_g_voices, .ref a_g_tellers, .ref a_g_listeners, .ref a_g_witnesses, .ref a_g_claims]))]) [1] rfl) (hD.sub (ws' := [(a_g, .inr (3, [.int g_wide, .int g_high, .int g_drown, .int g_wind, .long g_hedges, .long g_fountains, .int g_people, .int g_tellings, .int g_reports, .ref a_g_kinds, .ref a_g_squares, .ref a_g_voices, .ref a_g_tellers, .ref a_g_listeners, .ref a_g_witnesses, .ref a_g_claims]))]) [1] (by decide) rfl) rfl rfl) rfl rfl hl.1 rfl (lv_room (Nat.le_of_ble_eq_true rfl)) dX10_set_14 ⟨Nat.le_of_ble_eq_true rfl, Nat.le_of_ble_eq_true rfl⟩) hP hS hA (fun r8 H locs hwr8 hP hS => ?_)
    have hwr8 : (r8 = 1 ∧ True) ∨ (r8 = 0 ∧ True) := hwr8
    refine lv_if_ne (tgt := 27) hx hb dX10_set_17 (by decide) (fun c9 => ?_) (fun c9 => ?_)
    · skip
      refine lv_aload_n hx hb dX10_set_27 rfl (lv_at hl 0 rfl) ?_
      refine va_get (D := D) (ci := 10) (v := .ref a_g) (C := RX10) (T := TX10) (N := 9) hx hb hts zi10_ hown hK hP 0 rfl rfl 0 (by decide) z0_ (fun _ h9 => h9) rfl dX10_set_28 ?_
      refine lv_iload_n hx hb dX10_set_31 rfl (lv_at hl 1 rfl) ?_
      refine lv_iload_n hx hb dX10_set_32 rfl (lv_at hl 2 rfl) ?_
      refine rd_i (va_runV (As := [.int px, .int py]) (rest := []) ⟨hx, hb, hml, hown, hts⟩ (n_X3_has l D cy a_g g_wide g_high g_drown g_wind g_hedges g_fountains g_people g_tellings g_reports a_g_kinds a_g_squares a_g_voices a_g_tellers a_g_listeners a_g_witnesses a_g_claims px py _ ) (cwV 2 hts gX10_set_X3_has rfl rfl rfl (by decide +kernel) ⟨Nat.le_of_ble_eq_true rfl, Nat.le_of_ble_eq_true rfl⟩) (pV (ci := 3) (k := 0) hKA (hP.sub (ws' := [(a_g, .inr (3, [.int g_wide, .int g_high, .int g_drown, .int g_wind, .long g_hedges, .long g_fountains, .int g_people, .int g_tellings, .int g_reports, .ref a_g_kinds, .ref a_g_squares, .ref a_g_voices, .ref a_g_tellers, .ref a_g_listeners, .ref a_g_witnesses, .ref a_g_claims]))]) [1] rfl) (hD.sub (ws' := [(a_g, .inr (3, [.int g_wide, .int g_high, .int g_drown, .int g_wind, .long g_hedges, .long g_fountains, .int g_people, .int g_tellings, .int g_reports, .ref a_g_kinds, .ref a_g_squares, .ref a_g_voices, .ref a_g_tellers, .ref a_g_listeners, .ref a_g_witnesses, .ref a_g_claims]))]) [1] (by decide) rfl) rfl rfl) rfl rfl hl.1 rfl (lv_room (Nat.le_of_ble_eq_true rfl)) dX10_set_33 ⟨Nat.le_of_ble_eq_true rfl, Nat.le_of_ble_eq_true rfl⟩) hP hS hA (fun r10 H locs hwr10 hP hS => ?_)
      have hwr10 : (r10 = 1 ∧ True) ∨ (r10 = 0 ∧ True) := hwr10
      refine lv_iload_n hx hb dX10_set_36 rfl (lv_at hl 3 rfl) ?_
      refine lv_icmp_ne (tgt := 47) hx hb dX10_set_37 (by decide) (fun c11 => ?_) (fun c11 => ?_)
      · skip
        refine lv_iload_n hx hb dX10_set_47 rfl (lv_at hl 1 rfl) ?_
        refine lv_if_ne (tgt := 73) hx hb dX10_set_48 (by decide) (fun c12 => ?_) (fun c12 => ?_)
        · skip
          refine lv_aload_n hx hb dX10_set_73 rfl (lv_at hl 0 rfl) ?_
          refine va_get (D := D) (ci := 10) (v := .ref a_g) (C := RX10) (T := TX10) (N := 9) hx hb hts zi10_ hown hK hP 0 rfl rfl 0 (by decide) z0_ (fun _ h9 => h9) rfl dX10_set_74 ?_
          refine lv_iload_n hx hb dX10_set_77 rfl (lv_at hl 1 rfl) ?_
          refine lv_iload_n hx hb dX10_set_78 rfl (lv_at hl 2 rfl) ?_
          refine wr_v (wr := [(a_h, .inr (10, [.ref a_g, .ref a_df, .ref a_im, .ref a_pn, .ref a_w, .ref a_pa, .int h_bads, .int h_nos, .int h_fulls])), (a_g_squares, .inl (cy 1, 5, .inl g_squares_f))]) (va_runV (As := [.int px, .int py]) (rest := []) ⟨hx, hb, hml, hown, hts⟩ (n_X3_turn l D cy a_g g_wide g_high g_drown g_wind g_hedges g_fountains g_people g_tellings g_reports a_g_kinds a_g_squares a_g_voices a_g_tellers a_g_listeners a_g_witnesses a_g_claims px py _ ) (cwV 2 hts gX10_set_X3_turn rfl rfl rfl (by decide +kernel) ⟨Nat.le_of_ble_eq_true rfl, Nat.le_of_ble_eq_true rfl⟩) (pV (ci := 3) (k := 0) hKA (hP.sub (ws' := [(a_g, .inr (3, [.int g_wide, .int g_high, .int g_drown, .int g_wind, .long g_hedges, .long g_fountains, .int g_people, .int g_tellings, .int g_reports, .ref a_g_kinds, .ref a_g_squares, .ref a_g_voices, .ref a_g_tellers, .ref a_g_listeners, .ref a_g_witnesses, .ref a_g_claims]))]) [1] rfl) (hD.sub (ws' := [(a_g, .inr (3, [.int g_wide, .int g_high, .int g_drown, .int g_wind, .long g_hedges, .long g_fountains, .int g_people, .int g_tellings, .int g_reports, .ref a_g_kinds, .ref a_g_squares, .ref a_g_voices, .ref a_g_tellers, .ref a_g_listeners, .ref a_g_witnesses, .ref a_g_claims]))]) [1] (by decide) rfl) rfl rfl) rfl rfl hl.1 rfl (lv_room (Nat.le_of_ble_eq_true rfl)) dX10_set_79 ⟨Nat.le_of_ble_eq_true rfl, Nat.le_of_ble_eq_true rfl⟩) hP hD hS hA [1] [0, 2] rfl rfl (by decide +kernel) (by decide +kernel) (fun ur13 H locs hwr13 hP hD hS => ?_)
          obtain ⟨z14, z15⟩ := ur13
          have hP : va_P D vwCl [(a_h, .inr (10, [.ref a_g, .ref a_df, .ref a_im, .ref a_pn, .ref a_w, .ref a_pa, .int h_bads, .int h_nos, .int h_fulls])), (a_g_squares, .inl (cy 1, 5, .inl g_squares_f)), (a_g, .inr (3, [.int g_wide, .int g_high, .int g_drown, .int g_wind, .long z14, .long z15, .int g_people, .int g_tellings, .int g_reports, .ref a_g_kinds, .ref a_g_squares, .ref a_g_voices, .ref a_g_tellers, .ref a_g_listeners, .ref a_g_witnesses, .ref a_g_claims]))] H := hP
          have hD : va_D A [(a_h, .inr (10, [.ref a_g, .ref a_df, .ref a_im, .ref a_pn, .ref a_w, .ref a_pa, .int h_bads, .int h_nos, .int h_fulls])), (a_g_squares, .inl (cy 1, 5, .inl g_squares_f)), (a_g, .inr (3, [.int g_wide, .int g_high, .int g_drown, .int g_wind, .long z14, .long z15, .int g_people, .int g_tellings, .int g_reports, .ref a_g_kinds, .ref a_g_squares, .ref a_g_voices, .ref a_g_tellers, .ref a_g_listeners, .ref a_g_witnesses, .ref a_g_claims]))] := hD
          refine lv_iconst (v := 1) hx hb dX10_set_82 (by decide) ?_
          subst hQF
          have hP9 := hP.sub (ws' := [(a_h, .inr (10, [.ref a_g, .ref a_df, .ref a_im, .ref a_pn, .ref a_w, .ref a_pa, .int h_bads, .int h_nos, .int h_fulls])), (a_g, .inr (3, [.int g_wide, .int g_high, .int g_drown, .int g_wind, .long z14, .long z15, .int g_people, .int g_tellings, .int g_reports, .ref a_g_kinds, .ref a_g_squares, .ref a_g_voices, .ref a_g_tellers, .ref a_g_listeners, .ref a_g_witnesses, .ref a_g_claims])), (a_g_squares, .inl (cy 1, 5, .inl g_squares_f))]) [0, 2, 1] rfl
          have hD9 := hD.sub (ws' := [(a_h, .inr (10, [.ref a_g, .ref a_df, .ref a_im, .ref a_pn, .ref a_w, .ref a_pa, .int h_bads, .int h_nos, .int h_fulls])), (a_g, .inr (3, [.int g_wide, .int g_high, .int g_drown, .int g_wind, .long z14, .long z15, .int g_people, .int g_tellings, .int g_reports, .ref a_g_kinds, .ref a_g_squares, .ref a_g_voices, .ref a_g_tellers, .ref a_g_listeners, .ref a_g_witnesses, .ref a_g_claims])), (a_g_squares, .inl (cy 1, 5, .inl g_squares_f))]) [0, 2, 1] (by decide) rfl
          exact W.iret (v := 1) hx hb hr (fun t ht hW => ⟨⟨1, (h_bads, h_nos, z14, z15), rfl, trivial, by rw [ht]; exact hP9, hD9⟩, hS.F ht⟩) hS.2.2 dX10_set_83
        · skip
          refine lv_iload_n hx hb dX10_set_51 rfl (lv_at hl 3 rfl) ?_
          refine lv_if_eq (tgt := 73) hx hb dX10_set_52 (by decide) (fun c16 => ?_) (fun c16 => ?_)
          · skip
            refine lv_aload_n hx hb dX10_set_73 rfl (lv_at hl 0 rfl) ?_
            refine va_get (D := D) (ci := 10) (v := .ref a_g) (C := RX10) (T := TX10) (N := 9) hx hb hts zi10_ hown hK hP 0 rfl rfl 0 (by decide) z0_ (fun _ h9 => h9) rfl dX10_set_74 ?_
            refine lv_iload_n hx hb dX10_set_77 rfl (lv_at hl 1 rfl) ?_
            refine lv_iload_n hx hb dX10_set_78 rfl (lv_at hl 2 rfl) ?_
            refine wr_v (wr := [(a_h, .inr (10, [.ref a_g, .ref a_df, .ref a_im, .ref a_pn, .ref a_w, .ref a_pa, .int h_bads, .int h_nos, .int h_fulls])), (a_g_squares, .inl (cy 1, 5, .inl g_squares_f))]) (va_runV (As := [.int px, .int py]) (rest := []) ⟨hx, hb, hml, hown, hts⟩ (n_X3_turn l D cy a_g g_wide g_high g_drown g_wind g_hedges g_fountains g_people g_tellings g_reports a_g_kinds a_g_squares a_g_voices a_g_tellers a_g_listeners a_g_witnesses a_g_claims px py _ ) (cwV 2 hts gX10_set_X3_turn rfl rfl rfl (by decide +kernel) ⟨Nat.le_of_ble_eq_true rfl, Nat.le_of_ble_eq_true rfl⟩) (pV (ci := 3) (k := 0) hKA (hP.sub (ws' := [(a_g, .inr (3, [.int g_wide, .int g_high, .int g_drown, .int g_wind, .long g_hedges, .long g_fountains, .int g_people, .int g_tellings, .int g_reports, .ref a_g_kinds, .ref a_g_squares, .ref a_g_voices, .ref a_g_tellers, .ref a_g_listeners, .ref a_g_witnesses, .ref a_g_claims]))]) [1] rfl) (hD.sub (ws' := [(a_g, .inr (3, [.int g_wide, .int g_high, .int g_drown, .int g_wind, .long g_hedges, .long g_fountains, .int g_people, .int g_tellings, .int g_reports, .ref a_g_kinds, .ref a_g_squares, .ref a_g_voices, .ref a_g_tellers, .ref a_g_listeners, .ref a_g_witnesses, .ref a_g_claims]))]) [1] (by decide) rfl) rfl rfl) rfl rfl hl.1 rfl (lv_room (Nat.le_of_ble_eq_true rfl)) dX10_set_79 ⟨Nat.le_of_ble_eq_true rfl, Nat.le_of_ble_eq_true rfl⟩) hP hD hS hA [1] [0, 2] rfl rfl (by decide +kernel) (by decide +kernel) (fun ur17 H locs hwr17 hP hD hS => ?_)
            obtain ⟨z18, z19⟩ := ur17
            have hP : va_P D vwCl [(a_h, .inr (10, [.ref a_g, .ref a_df, .ref a_im, .ref a_pn, .ref a_w, .ref a_pa, .int h_bads, .int h_nos, .int h_fulls])), (a_g_squares, .inl (cy 1, 5, .inl g_squares_f)), (a_g, .inr (3, [.int g_wide, .int g_high, .int g_drown, .int g_wind, .long z18, .long z19, .int g_people, .int g_tellings, .int g_reports, .ref a_g_kinds, .ref a_g_squares, .ref a_g_voices, .ref a_g_tellers, .ref a_g_listeners, .ref a_g_witnesses, .ref a_g_claims]))] H := hP
            have hD : va_D A [(a_h, .inr (10, [.ref a_g, .ref a_df, .ref a_im, .ref a_pn, .ref a_w, .ref a_pa, .int h_bads, .int h_nos, .int h_fulls])), (a_g_squares, .inl (cy 1, 5, .inl g_squares_f)), (a_g, .inr (3, [.int g_wide, .int g_high, .int g_drown, .int g_wind, .long z18, .long z19, .int g_people, .int g_tellings, .int g_reports, .ref a_g_kinds, .ref a_g_squares, .ref a_g_voices, .ref a_g_tellers, .ref a_g_listeners, .ref a_g_witnesses, .ref a_g_claims]))] := hD
            refine lv_iconst (v := 1) hx hb dX10_set_82 (by decide) ?_
            subst hQF
            have hP9 := hP.sub (ws' := [(a_h, .inr (10, [.ref a_g, .ref a_df, .ref a_im, .ref a_pn, .ref a_w, .ref a_pa, .int h_bads, .int h_nos, .int h_fulls])), (a_g, .inr (3, [.int g_wide, .int g_high, .int g_drown, .int g_wind, .long z18, .long z19, .int g_people, .int g_tellings, .int g_reports, .ref a_g_kinds, .ref a_g_squares, .ref a_g_voices, .ref a_g_tellers, .ref a_g_listeners, .ref a_g_witnesses, .ref a_g_claims])), (a_g_squares, .inl (cy 1, 5, .inl g_squares_f))]) [0, 2, 1] rfl
            have hD9 := hD.sub (ws' := [(a_h, .inr (10, [.ref a_g, .ref a_df, .ref a_im, .ref a_pn, .ref a_w, .ref a_pa, .int h_bads, .int h_nos, .int h_fulls])), (a_g, .inr (3, [.int g_wide, .int g_high, .int g_drown, .int g_wind, .long z18, .long z19, .int g_people, .int g_tellings, .int g_reports, .ref a_g_kinds, .ref a_g_squares, .ref a_g_voices, .ref a_g_tellers, .ref a_g_listeners, .ref a_g_witnesses, .ref a_g_claims])), (a_g_squares, .inl (cy 1, 5, .inl g_squares_f))]) [0, 2, 1] (by decide) rfl
            exact W.iret (v := 1) hx hb hr (fun t ht hW => ⟨⟨1, (h_bads, h_nos, z18, z19), rfl, trivial, by rw [ht]; exact hP9, hD9⟩, hS.F ht⟩) hS.2.2 dX10_set_83
          · skip
            refine lv_aload_n hx hb dX10_set_55 rfl (lv_at hl 0 rfl) ?_
            refine va_get (D := D) (ci := 10) (v := .ref a_g) (C := RX10) (T := TX10) (N := 9) hx hb hts zi10_ hown hK hP 0 rfl rfl 0 (by decide) z0_ (fun _ h9 => h9) rfl dX10_set_56 ?_
            refine lv_iload_n hx hb dX10_set_59 rfl (lv_at hl 2 rfl) ?_
            refine rd_i (va_runV (As := [.int py]) (rest := []) ⟨hx, hb, hml, hown, hts⟩ (n_X3_isTaken l D cy a_g g_wide g_high g_drown g_wind g_hedges g_fountains g_people g_tellings g_reports a_g_kinds a_g_squares a_g_voices a_g_tellers a_g_listeners a_g_witnesses a_g_claims g_squares_f py _ ) (cwV 1 hts gX10_set_X3_isTaken rfl rfl rfl (by decide +kernel) ⟨Nat.le_of_ble_eq_true rfl, Nat.le_of_ble_eq_true rfl⟩) (pV (ci := 3) (k := 0) hKA (hP.sub (ws' := [(a_g, .inr (3, [.int g_wide, .int g_high, .int g_drown, .int g_wind, .long g_hedges, .long g_fountains, .int g_people, .int g_tellings, .int g_reports, .ref a_g_kinds, .ref a_g_squares, .ref a_g_voices, .ref a_g_tellers, .ref a_g_listeners, .ref a_g_witnesses, .ref a_g_claims])), (a_g_squares, .inl (cy 1, 5, .inl g_squares_f))]) [1, 2] rfl) (hD.sub (ws' := [(a_g, .inr (3, [.int g_wide, .int g_high, .int g_drown, .int g_wind, .long g_hedges, .long g_fountains, .int g_people, .int g_tellings, .int g_reports, .ref a_g_kinds, .ref a_g_squares, .ref a_g_voices, .ref a_g_tellers, .ref a_g_listeners, .ref a_g_witnesses, .ref a_g_claims])), (a_g_squares, .inl (cy 1, 5, .inl g_squares_f))]) [1, 2] (by decide) rfl) rfl rfl) rfl rfl hl.1 rfl (lv_room (Nat.le_of_ble_eq_true rfl)) dX10_set_60 ⟨Nat.le_of_ble_eq_true rfl, Nat.le_of_ble_eq_true rfl⟩) hP hS hA (fun r20 H locs hwr20 hP hS => ?_)
            have hwr20 : (r20 = 1 ∧ True) ∨ (r20 = 0 ∧ True) := hwr20
            refine lv_if_eq (tgt := 73) hx hb dX10_set_63 (by decide) (fun c21 => ?_) (fun c21 => ?_)
            · skip
              refine lv_aload_n hx hb dX10_set_73 rfl (lv_at hl 0 rfl) ?_
              refine va_get (D := D) (ci := 10) (v := .ref a_g) (C := RX10) (T := TX10) (N := 9) hx hb hts zi10_ hown hK hP 0 rfl rfl 0 (by decide) z0_ (fun _ h9 => h9) rfl dX10_set_74 ?_
              refine lv_iload_n hx hb dX10_set_77 rfl (lv_at hl 1 rfl) ?_
              refine lv_iload_n hx hb dX10_set_78 rfl (lv_at hl 2 rfl) ?_
              refine wr_v (wr := [(a_h, .inr (10, [.ref a_g, .ref a_df, .ref a_im, .ref a_pn, .ref a_w, .ref a_pa, .int h_bads, .int h_nos, .int h_fulls])), (a_g_squares, .inl (cy 1, 5, .inl g_squares_f))]) (va_runV (As := [.int px, .int py]) (rest := []) ⟨hx, hb, hml, hown, hts⟩ (n_X3_turn l D cy a_g g_wide g_high g_drown g_wind g_hedges g_fountains g_people g_tellings g_reports a_g_kinds a_g_squares a_g_voices a_g_tellers a_g_listeners a_g_witnesses a_g_claims px py _ ) (cwV 2 hts gX10_set_X3_turn rfl rfl rfl (by decide +kernel) ⟨Nat.le_of_ble_eq_true rfl, Nat.le_of_ble_eq_true rfl⟩) (pV (ci := 3) (k := 0) hKA (hP.sub (ws' := [(a_g, .inr (3, [.int g_wide, .int g_high, .int g_drown, .int g_wind, .long g_hedges, .long g_fountains, .int g_people, .int g_tellings, .int g_reports, .ref a_g_kinds, .ref a_g_squares, .ref a_g_voices, .ref a_g_tellers, .ref a_g_listeners, .ref a_g_witnesses, .ref a_g_claims]))]) [1] rfl) (hD.sub (ws' := [(a_g, .inr (3, [.int g_wide, .int g_high, .int g_drown, .int g_wind, .long g_hedges, .long g_fountains, .int g_people, .int g_tellings, .int g_reports, .ref a_g_kinds, .ref a_g_squares, .ref a_g_voices, .ref a_g_tellers, .ref a_g_listeners, .ref a_g_witnesses, .ref a_g_claims]))]) [1] (by decide) rfl) rfl rfl) rfl rfl hl.1 rfl (lv_room (Nat.le_of_ble_eq_true rfl)) dX10_set_79 ⟨Nat.le_of_ble_eq_true rfl, Nat.le_of_ble_eq_true rfl⟩) hP hD hS hA [1] [0, 2] rfl rfl (by decide +kernel) (by decide +kernel) (fun ur22 H locs hwr22 hP hD hS => ?_)
              obtain ⟨z23, z24⟩ := ur22
              have hP : va_P D vwCl [(a_h, .inr (10, [.ref a_g, .ref a_df, .ref a_im, .ref a_pn, .ref a_w, .ref a_pa, .int h_bads, .int h_nos, .int h_fulls])), (a_g_squares, .inl (cy 1, 5, .inl g_squares_f)), (a_g, .inr (3, [.int g_wide, .int g_high, .int g_drown, .int g_wind, .long z23, .long z24, .int g_people, .int g_tellings, .int g_reports, .ref a_g_kinds, .ref a_g_squares, .ref a_g_voices, .ref a_g_tellers, .ref a_g_listeners, .ref a_g_witnesses, .ref a_g_claims]))] H := hP
              have hD : va_D A [(a_h, .inr (10, [.ref a_g, .ref a_df, .ref a_im, .ref a_pn, .ref a_w, .ref a_pa, .int h_bads, .int h_nos, .int h_fulls])), (a_g_squares, .inl (cy 1, 5, .inl g_squares_f)), (a_g, .inr (3, [.int g_wide, .int g_high, .int g_drown, .int g_wind, .long z23, .long z24, .int g_people, .int g_tellings, .int g_reports, .ref a_g_kinds, .ref a_g_squares, .ref a_g_voices, .ref a_g_tellers, .ref a_g_listeners, .ref a_g_witnesses, .ref a_g_claims]))] := hD
              refine lv_iconst (v := 1) hx hb dX10_set_82 (by decide) ?_
              subst hQF
              have hP9 := hP.sub (ws' := [(a_h, .inr (10, [.ref a_g, .ref a_df, .ref a_im, .ref a_pn, .ref a_w, .ref a_pa, .int h_bads, .int h_nos, .int h_fulls])), (a_g, .inr (3, [.int g_wide, .int g_high, .int g_drown, .int g_wind, .long z23, .long z24, .int g_people, .int g_tellings, .int g_reports, .ref a_g_kinds, .ref a_g_squares, .ref a_g_voices, .ref a_g_tellers, .ref a_g_listeners, .ref a_g_witnesses, .ref a_g_claims])), (a_g_squares, .inl (cy 1, 5, .inl g_squares_f))]) [0, 2, 1] rfl
              have hD9 := hD.sub (ws' := [(a_h, .inr (10, [.ref a_g, .ref a_df, .ref a_im, .ref a_pn, .ref a_w, .ref a_pa, .int h_bads, .int h_nos, .int h_fulls])), (a_g, .inr (3, [.int g_wide, .int g_high, .int g_drown, .int g_wind, .long z23, .long z24, .int g_people, .int g_tellings, .int g_reports, .ref a_g_kinds, .ref a_g_squares, .ref a_g_voices, .ref a_g_tellers, .ref a_g_listeners, .ref a_g_witnesses, .ref a_g_claims])), (a_g_squares, .inl (cy 1, 5, .inl g_squares_f))]) [0, 2, 1] (by decide) rfl
              exact W.iret (v := 1) hx hb hr (fun t ht hW => ⟨⟨1, (h_bads, h_nos, z23, z24), rfl, trivial, by rw [ht]; exact hP9, hD9⟩, hS.F ht⟩) hS.2.2 dX10_set_83
            · skip
              refine lv_aload_n hx hb dX10_set_66 rfl (lv_at hl 0 rfl) ?_
              refine lv_bipush (v := (-3)) hx hb dX10_set_67 (by decide) ?_
              refine wr_i (wr := [(a_g, .inr (3, [.int g_wide, .int g_high, .int g_drown, .int g_wind, .long g_hedges, .long g_fountains, .int g_people, .int g_tellings, .int g_reports, .ref a_g_kinds, .ref a_g_squares, .ref a_g_voices, .ref a_g_tellers, .ref a_g_listeners, .ref a_g_witnesses, .ref a_g_claims])), (a_g_squares, .inl (cy 1, 5, .inl g_squares_f))]) (va_runV (As := [.int (-3)]) (rest := []) ⟨hx, hb, hml, hown, hts⟩ (n_X10_refuseNo l D cy a_h a_g a_df a_im a_pn a_w a_pa h_bads h_nos h_fulls (-3) _ ) (cwV 1 hts gX10_set_X10_refuseNo rfl rfl rfl (by decide +kernel) ⟨Nat.le_of_ble_eq_true rfl, Nat.le_of_ble_eq_true rfl⟩) (pV (ci := 10) (k := 0) hKA (hP.sub (ws' := [(a_h, .inr (10, [.ref a_g, .ref a_df, .ref a_im, .ref a_pn, .ref a_w, .ref a_pa, .int h_bads, .int h_nos, .int h_fulls]))]) [0] rfl) (hD.sub (ws' := [(a_h, .inr (10, [.ref a_g, .ref a_df, .ref a_im, .ref a_pn, .ref a_w, .ref a_pa, .int h_bads, .int h_nos, .int h_fulls]))]) [0] (by decide) rfl) rfl rfl) rfl rfl hl.1 rfl (lv_room (Nat.le_of_ble_eq_true rfl)) dX10_set_69 ⟨Nat.le_of_ble_eq_true rfl, Nat.le_of_ble_eq_true rfl⟩) hP hD hS hA [0] [1, 2] rfl rfl (by decide +kernel) (by decide +kernel) (fun r25 ur25 H locs hwr25 hP hD hS => ?_)
              obtain ⟨z26, rfl⟩ : ∃ z, z = ur25 := ⟨_, rfl⟩
              have hP : va_P D vwCl [(a_g, .inr (3, [.int g_wide, .int g_high, .int g_drown, .int g_wind, .long g_hedges, .long g_fountains, .int g_people, .int g_tellings, .int g_reports, .ref a_g_kinds, .ref a_g_squares, .ref a_g_voices, .ref a_g_tellers, .ref a_g_listeners, .ref a_g_witnesses, .ref a_g_claims])), (a_g_squares, .inl (cy 1, 5, .inl g_squares_f)), (a_h, .inr (10, [.ref a_g, .ref a_df, .ref a_im, .ref a_pn, .ref a_w, .ref a_pa, .int h_bads, .int z26, .int h_fulls]))] H := hP
              have hD : va_D A [(a_g, .inr (3, [.int g_wide, .int g_high, .int g_drown, .int g_wind, .long g_hedges, .long g_fountains, .int g_people, .int g_tellings, .int g_reports, .ref a_g_kinds, .ref a_g_squares, .ref a_g_voices, .ref a_g_tellers, .ref a_g_listeners, .ref a_g_witnesses, .ref a_g_claims])), (a_g_squares, .inl (cy 1, 5, .inl g_squares_f)), (a_h, .inr (10, [.ref a_g, .ref a_df, .ref a_im, .ref a_pn, .ref a_w, .ref a_pa, .int h_bads, .int z26, .int h_fulls]))] := hD
              have hwr25 : r25 = (-3) := hwr25
              subst hwr25
              subst hQF
              have hP9 := hP.sub (ws' := [(a_h, .inr (10, [.ref a_g, .ref a_df, .ref a_im, .ref a_pn, .ref a_w, .ref a_pa, .int h_bads, .int z26, .int h_fulls])), (a_g, .inr (3, [.int g_wide, .int g_high, .int g_drown, .int g_wind, .long g_hedges, .long g_fountains, .int g_people, .int g_tellings, .int g_reports, .ref a_g_kinds, .ref a_g_squares, .ref a_g_voices, .ref a_g_tellers, .ref a_g_listeners, .ref a_g_witnesses, .ref a_g_claims])), (a_g_squares, .inl (cy 1, 5, .inl g_squares_f))]) [2, 0, 1] rfl
              have hD9 := hD.sub (ws' := [(a_h, .inr (10, [.ref a_g, .ref a_df, .ref a_im, .ref a_pn, .ref a_w, .ref a_pa, .int h_bads, .int z26, .int h_fulls])), (a_g, .inr (3, [.int g_wide, .int g_high, .int g_drown, .int g_wind, .long g_hedges, .long g_fountains, .int g_people, .int g_tellings, .int g_reports, .ref a_g_kinds, .ref a_g_squares, .ref a_g_voices, .ref a_g_tellers, .ref a_g_listeners, .ref a_g_witnesses, .ref a_g_claims])), (a_g_squares, .inl (cy 1, 5, .inl g_squares_f))]) [2, 0, 1] (by decide) rfl
              exact W.iret (v := (-3)) hx hb hr (fun t ht hW => ⟨⟨(-3), (h_bads, z26, g_hedges, g_fountains), rfl, trivial, by rw [ht]; exact hP9, hD9⟩, hS.F ht⟩) hS.2.2 dX10_set_72
      · skip
        refine lv_aload_n hx hb dX10_set_40 rfl (lv_at hl 0 rfl) ?_
        refine lv_bipush (v := (-3)) hx hb dX10_set_41 (by decide) ?_
        refine wr_i (wr := [(a_g, .inr (3, [.int g_wide, .int g_high, .int g_drown, .int g_wind, .long g_hedges, .long g_fountains, .int g_people, .int g_tellings, .int g_reports, .ref a_g_kinds, .ref a_g_squares, .ref a_g_voices, .ref a_g_tellers, .ref a_g_listeners, .ref a_g_witnesses, .ref a_g_claims])), (a_g_squares, .inl (cy 1, 5, .inl g_squares_f))]) (va_runV (As := [.int (-3)]) (rest := []) ⟨hx, hb, hml, hown, hts⟩ (n_X10_refuseNo l D cy a_h a_g a_df a_im a_pn a_w a_pa h_bads h_nos h_fulls (-3) _ ) (cwV 1 hts gX10_set_X10_refuseNo rfl rfl rfl (by decide +kernel) ⟨Nat.le_of_ble_eq_true rfl, Nat.le_of_ble_eq_true rfl⟩) (pV (ci := 10) (k := 0) hKA (hP.sub (ws' := [(a_h, .inr (10, [.ref a_g, .ref a_df, .ref a_im, .ref a_pn, .ref a_w, .ref a_pa, .int h_bads, .int h_nos, .int h_fulls]))]) [0] rfl) (hD.sub (ws' := [(a_h, .inr (10, [.ref a_g, .ref a_df, .ref a_im, .ref a_pn, .ref a_w, .ref a_pa, .int h_bads, .int h_nos, .int h_fulls]))]) [0] (by decide) rfl) rfl rfl) rfl rfl hl.1 rfl (lv_room (Nat.le_of_ble_eq_true rfl)) dX10_set_43 ⟨Nat.le_of_ble_eq_true rfl, Nat.le_of_ble_eq_true rfl⟩) hP hD hS hA [0] [1, 2] rfl rfl (by decide +kernel) (by decide +kernel) (fun r27 ur27 H locs hwr27 hP hD hS => ?_)
        obtain ⟨z28, rfl⟩ : ∃ z, z = ur27 := ⟨_, rfl⟩
        have hP : va_P D vwCl [(a_g, .inr (3, [.int g_wide, .int g_high, .int g_drown, .int g_wind, .long g_hedges, .long g_fountains, .int g_people, .int g_tellings, .int g_reports, .ref a_g_kinds, .ref a_g_squares, .ref a_g_voices, .ref a_g_tellers, .ref a_g_listeners, .ref a_g_witnesses, .ref a_g_claims])), (a_g_squares, .inl (cy 1, 5, .inl g_squares_f)), (a_h, .inr (10, [.ref a_g, .ref a_df, .ref a_im, .ref a_pn, .ref a_w, .ref a_pa, .int h_bads, .int z28, .int h_fulls]))] H := hP
        have hD : va_D A [(a_g, .inr (3, [.int g_wide, .int g_high, .int g_drown, .int g_wind, .long g_hedges, .long g_fountains, .int g_people, .int g_tellings, .int g_reports, .ref a_g_kinds, .ref a_g_squares, .ref a_g_voices, .ref a_g_tellers, .ref a_g_listeners, .ref a_g_witnesses, .ref a_g_claims])), (a_g_squares, .inl (cy 1, 5, .inl g_squares_f)), (a_h, .inr (10, [.ref a_g, .ref a_df, .ref a_im, .ref a_pn, .ref a_w, .ref a_pa, .int h_bads, .int z28, .int h_fulls]))] := hD
        have hwr27 : r27 = (-3) := hwr27
        subst hwr27
        subst hQF
        have hP9 := hP.sub (ws' := [(a_h, .inr (10, [.ref a_g, .ref a_df, .ref a_im, .ref a_pn, .ref a_w, .ref a_pa, .int h_bads, .int z28, .int h_fulls])), (a_g, .inr (3, [.int g_wide, .int g_high, .int g_drown, .int g_wind, .long g_hedges, .long g_fountains, .int g_people, .int g_tellings, .int g_reports, .ref a_g_kinds, .ref a_g_squares, .ref a_g_voices, .ref a_g_tellers, .ref a_g_listeners, .ref a_g_witnesses, .ref a_g_claims])), (a_g_squares, .inl (cy 1, 5, .inl g_squares_f))]) [2, 0, 1] rfl
        have hD9 := hD.sub (ws' := [(a_h, .inr (10, [.ref a_g, .ref a_df, .ref a_im, .ref a_pn, .ref a_w, .ref a_pa, .int h_bads, .int z28, .int h_fulls])), (a_g, .inr (3, [.int g_wide, .int g_high, .int g_drown, .int g_wind, .long g_hedges, .long g_fountains, .int g_people, .int g_tellings, .int g_reports, .ref a_g_kinds, .ref a_g_squares, .ref a_g_voices, .ref a_g_tellers, .ref a_g_listeners, .ref a_g_witnesses, .ref a_g_claims])), (a_g_squares, .inl (cy 1, 5, .inl g_squares_f))]) [2, 0, 1] (by decide) rfl
        exact W.iret (v := (-3)) hx hb hr (fun t ht hW => ⟨⟨(-3), (h_bads, z28, g_hedges, g_fountains), rfl, trivial, by rw [ht]; exact hP9, hD9⟩, hS.F ht⟩) hS.2.2 dX10_set_46
    · skip
      refine lv_aload_n hx hb dX10_set_20 rfl (lv_at hl 0 rfl) ?_
      refine lv_bipush (v := (-2)) hx hb dX10_set_21 (by decide) ?_
      refine wr_i (wr := [(a_g, .inr (3, [.int g_wide, .int g_high, .int g_drown, .int g_wind, .long g_hedges, .long g_fountains, .int g_people, .int g_tellings, .int g_reports, .ref a_g_kinds, .ref a_g_squares, .ref a_g_voices, .ref a_g_tellers, .ref a_g_listeners, .ref a_g_witnesses, .ref a_g_claims])), (a_g_squares, .inl (cy 1, 5, .inl g_squares_f))]) (va_runV (As := [.int (-2)]) (rest := []) ⟨hx, hb, hml, hown, hts⟩ (n_X10_refuseBad l D cy a_h a_g a_df a_im a_pn a_w a_pa h_bads h_nos h_fulls (-2) _ ) (cwV 1 hts gX10_set_X10_refuseBad rfl rfl rfl (by decide +kernel) ⟨Nat.le_of_ble_eq_true rfl, Nat.le_of_ble_eq_true rfl⟩) (pV (ci := 10) (k := 0) hKA (hP.sub (ws' := [(a_h, .inr (10, [.ref a_g, .ref a_df, .ref a_im, .ref a_pn, .ref a_w, .ref a_pa, .int h_bads, .int h_nos, .int h_fulls]))]) [0] rfl) (hD.sub (ws' := [(a_h, .inr (10, [.ref a_g, .ref a_df, .ref a_im, .ref a_pn, .ref a_w, .ref a_pa, .int h_bads, .int h_nos, .int h_fulls]))]) [0] (by decide) rfl) rfl rfl) rfl rfl hl.1 rfl (lv_room (Nat.le_of_ble_eq_true rfl)) dX10_set_23 ⟨Nat.le_of_ble_eq_true rfl, Nat.le_of_ble_eq_true rfl⟩) hP hD hS hA [0] [1, 2] rfl rfl (by decide +kernel) (by decide +kernel) (fun r29 ur29 H locs hwr29 hP hD hS => ?_)
      obtain ⟨z30, rfl⟩ : ∃ z, z = ur29 := ⟨_, rfl⟩
      have hP : va_P D vwCl [(a_g, .inr (3, [.int g_wide, .int g_high, .int g_drown, .int g_wind, .long g_hedges, .long g_fountains, .int g_people, .int g_tellings, .int g_reports, .ref a_g_kinds, .ref a_g_squares, .ref a_g_voices, .ref a_g_tellers, .ref a_g_listeners, .ref a_g_witnesses, .ref a_g_claims])), (a_g_squares, .inl (cy 1, 5, .inl g_squares_f)), (a_h, .inr (10, [.ref a_g, .ref a_df, .ref a_im, .ref a_pn, .ref a_w, .ref a_pa, .int z30, .int h_nos, .int h_fulls]))] H := hP
      have hD : va_D A [(a_g, .inr (3, [.int g_wide, .int g_high, .int g_drown, .int g_wind, .long g_hedges, .long g_fountains, .int g_people, .int g_tellings, .int g_reports, .ref a_g_kinds, .ref a_g_squares, .ref a_g_voices, .ref a_g_tellers, .ref a_g_listeners, .ref a_g_witnesses, .ref a_g_claims])), (a_g_squares, .inl (cy 1, 5, .inl g_squares_f)), (a_h, .inr (10, [.ref a_g, .ref a_df, .ref a_im, .ref a_pn, .ref a_w, .ref a_pa, .int z30, .int h_nos, .int h_fulls]))] := hD
      have hwr29 : r29 = (-2) := hwr29
      subst hwr29
      subst hQF
      have hP9 := hP.sub (ws' := [(a_h, .inr (10, [.ref a_g, .ref a_df, .ref a_im, .ref a_pn, .ref a_w, .ref a_pa, .int z30, .int h_nos, .int h_fulls])), (a_g, .inr (3, [.int g_wide, .int g_high, .int g_drown, .int g_wind, .long g_hedges, .long g_fountains, .int g_people, .int g_tellings, .int g_reports, .ref a_g_kinds, .ref a_g_squares, .ref a_g_voices, .ref a_g_tellers, .ref a_g_listeners, .ref a_g_witnesses, .ref a_g_claims])), (a_g_squares, .inl (cy 1, 5, .inl g_squares_f))]) [2, 0, 1] rfl
      have hD9 := hD.sub (ws' := [(a_h, .inr (10, [.ref a_g, .ref a_df, .ref a_im, .ref a_pn, .ref a_w, .ref a_pa, .int z30, .int h_nos, .int h_fulls])), (a_g, .inr (3, [.int g_wide, .int g_high, .int g_drown, .int g_wind, .long g_hedges, .long g_fountains, .int g_people, .int g_tellings, .int g_reports, .ref a_g_kinds, .ref a_g_squares, .ref a_g_voices, .ref a_g_tellers, .ref a_g_listeners, .ref a_g_witnesses, .ref a_g_claims])), (a_g_squares, .inl (cy 1, 5, .inl g_squares_f))]) [2, 0, 1] (by decide) rfl
      exact W.iret (v := (-2)) hx hb hr (fun t ht hW => ⟨⟨(-2), (z30, h_nos, g_hedges, g_fountains), rfl, trivial, by rw [ht]; exact hP9, hD9⟩, hS.F ht⟩) hS.2.2 dX10_set_26

set_option maxHeartbeats 4000000 in
set_option maxRecDepth 100000 in
theorem n_X10_put (l : Launch) (D : va_G) (cy : Nat → ClassId) (a_h : Nat) (a_g : Nat) (a_df : Nat) (a_im : Nat) (a_pn : Nat) (a_w : Nat) (a_pa : Nat) (h_bads : Int32) (h_nos : Int32) (h_fulls : Int32) (g_wide : Int32) (g_high : Int32) (g_drown : Int32) (g_wind : Int32) (g_hedges : Int64) (g_fountains : Int64) (g_people : Int32) (g_tellings : Int32) (g_reports : Int32) (a_g_kinds : Nat) (a_g_squares : Nat) (a_g_voices : Nat) (a_g_tellers : Nat) (a_g_listeners : Nat) (a_g_witnesses : Nat) (a_g_claims : Nat) (px : Int32) (py : Int32) (sz : Nat)  : Met l yX10_put wsX10_put ({ frames := 1, cells := 0, slots := 0, locals := 22 }) (va_Pc [.ref a_h, .int px, .int py] (kPre D cy [(a_h, .inr (10, [.ref a_g, .ref a_df, .ref a_im, .ref a_pn, .ref a_w, .ref a_pa, .int h_bads, .int h_nos, .int h_fulls])), (a_g, .inr (3, [.int g_wide, .int g_high, .int g_drown, .int g_wind, .long g_hedges, .long g_fountains, .int g_people, .int g_tellings, .int g_reports, .ref a_g_kinds, .ref a_g_squares, .ref a_g_voices, .ref a_g_tellers, .ref a_g_listeners, .ref a_g_witnesses, .ref a_g_claims]))] sz)) (va_Qi (fun (r : Int32) (u : Int32 × Int32 × Int32) => True) (fun (u : Int32 × Int32 × Int32) t => va_P D vwCl ([(a_h, .inr (10, [.ref a_g, .ref a_df, .ref a_im, .ref a_pn, .ref a_w, .ref a_pa, .int u.1, .int h_nos, .int h_fulls])), (a_g, .inr (3, [.int g_wide, .int g_high, .int u.2.1, .int u.2.2, .long g_hedges, .long g_fountains, .int g_people, .int g_tellings, .int g_reports, .ref a_g_kinds, .ref a_g_squares, .ref a_g_voices, .ref a_g_tellers, .ref a_g_listeners, .ref a_g_witnesses, .ref a_g_claims]))]) t.heap ∧ va_D (va_A [(a_h, .inr (10, [.ref a_g, .ref a_df, .ref a_im, .ref a_pn, .ref a_w, .ref a_pa, .int h_bads, .int h_nos, .int h_fulls])), (a_g, .inr (3, [.int g_wide, .int g_high, .int g_drown, .int g_wind, .long g_hedges, .long g_fountains, .int g_people, .int g_tellings, .int g_reports, .ref a_g_kinds, .ref a_g_squares, .ref a_g_voices, .ref a_g_tellers, .ref a_g_listeners, .ref a_g_witnesses, .ref a_g_claims]))] sz) ([(a_h, .inr (10, [.ref a_g, .ref a_df, .ref a_im, .ref a_pn, .ref a_w, .ref a_pa, .int u.1, .int h_nos, .int h_fulls])), (a_g, .inr (3, [.int g_wide, .int g_high, .int u.2.1, .int u.2.2, .long g_hedges, .long g_fountains, .int g_people, .int g_tellings, .int g_reports, .ref a_g_kinds, .ref a_g_squares, .ref a_g_voices, .ref a_g_tellers, .ref a_g_listeners, .ref a_g_witnesses, .ref a_g_claims]))])) (va_A [(a_h, .inr (10, [.ref a_g, .ref a_df, .ref a_im, .ref a_pn, .ref a_w, .ref a_pa, .int h_bads, .int h_nos, .int h_fulls])), (a_g, .inr (3, [.int g_wide, .int g_high, .int g_drown, .int g_wind, .long g_hedges, .long g_fountains, .int g_people, .int g_tellings, .int g_reports, .ref a_g_kinds, .ref a_g_squares, .ref a_g_voices, .ref a_g_tellers, .ref a_g_listeners, .ref a_g_witnesses, .ref a_g_claims]))] sz)) 0 0 (va_A [(a_h, .inr (10, [.ref a_g, .ref a_df, .ref a_im, .ref a_pn, .ref a_w, .ref a_pa, .int h_bads, .int h_nos, .int h_fulls])), (a_g, .inr (3, [.int g_wide, .int g_high, .int g_drown, .int g_wind, .long g_hedges, .long g_fountains, .int g_people, .int g_tellings, .int g_reports, .ref a_g_kinds, .ref a_g_squares, .ref a_g_voices, .ref a_g_tellers, .ref a_g_listeners, .ref a_g_witnesses, .ref a_g_claims]))] sz) := by
  refine Met.ofW (cc := cX10_put) (maxL := 4) (ret := (some .int)) (by decide) rfl ?_
  intro p e s m args below meth c s₁ B hml hv
  obtain ⟨rfl, hsz, hP, hKA, hD0⟩ := hv
  have hx := B.exec
  have hb := B.bytes
  have hr := B.returns
  have hts := atoms_spec (ws := wsX10_put) B.pre
  have hown : s.vm.findClass RX10 = some m.cls := findClass_of_methodNamed B.named
  have hlocks := B.notSynchronized
  subst hsz
  have hK := hKA.1
  have hD := hD0.self (sz := s.heap.size)
  generalize hAe : va_A [(a_h, .inr (10, [.ref a_g, .ref a_df, .ref a_im, .ref a_pn, .ref a_w, .ref a_pa, .int h_bads, .int h_nos, .int h_fulls])), (a_g, .inr (3, [.int g_wide, .int g_high, .int g_drown, .int g_wind, .long g_hedges, .long g_fountains, .int g_people, .int g_tellings, .int g_reports, .ref a_g_kinds, .ref a_g_squares, .ref a_g_voices, .ref a_g_tellers, .ref a_g_listeners, .ref a_g_witnesses, .ref a_g_claims]))] s.heap.size = A at hD ⊢
  have hA : ∀ q : Nat, s.heap.size ≤ q → A q := fun q h => by rw [← hAe]; exact Or.inr h
  have hS : va_S A s.heap s.heap [] := va_S.rf
  have hP : va_P D vwCl [(a_h, .inr (10, [.ref a_g, .ref a_df, .ref a_im, .ref a_pn, .ref a_w, .ref a_pa, .int h_bads, .int h_nos, .int h_fulls])), (a_g, .inr (3, [.int g_wide, .int g_high, .int g_drown, .int g_wind, .long g_hedges, .long g_fountains, .int g_people, .int g_tellings, .int g_reports, .ref a_g_kinds, .ref a_g_squares, .ref a_g_voices, .ref a_g_tellers, .ref a_g_listeners, .ref a_g_witnesses, .ref a_g_claims]))] s.heap := hP
  have hl := lv_entry ([.ref a_h, .int px, .int py]) (n := 4) (Nat.le_of_ble_eq_true rfl)
  rw [lg_entry_eq]
  generalize (lg_sl ([.ref a_h, .int px, .int py]) ++ List.replicate (4 - (lg_sl ([.ref a_h, .int px, .int py])).length) Slot.unset).toArray = ls at hl ⊢
  have hl : lv_has ls 4 [(0, .ref a_h), (1, .int px), (2, .int py)] := hl
  refine qW (fun QF hQF => ?_)
  have z0_ := hts (.fieldLink RX10 10 "HeardSeen" "now" "LHeardSeen$Garden;") (by decide +kernel)
  have zi10_ : ∀ w ∈ u_ws RX10 TX10 9, w ∈ wsX10_put := by decide +kernel
  have z2_ := hts (.fieldLink RX10 85 "HeardSeen$Garden" "wind" "I") (by decide +kernel)
  have zi3_ : ∀ w ∈ u_ws RX3 TX3 16, w ∈ wsX10_put := by decide +kernel
  have z4_ := hts (.fieldLink RX10 81 "HeardSeen$Garden" "drown" "I") (by decide +kernel)
  refine lv_iload_n hx hb dX10_put_0 rfl (lv_at hl 1 rfl) ?_
  refine lv_if_ne (tgt := 31) hx hb dX10_put_1 (by decide) (fun c1 => ?_) (fun c1 => ?_)
  · skip
    refine lv_iload_n hx hb dX10_put_31 rfl (lv_at hl 1 rfl) ?_
    refine lv_iconst (v := 1) hx hb dX10_put_32 (by decide) ?_
    refine lv_icmp_ne (tgt := 63) hx hb dX10_put_33 (by decide) (fun c2 => ?_) (fun c2 => ?_)
    · skip
      refine lv_aload_n hx hb dX10_put_63 rfl (lv_at hl 0 rfl) ?_
      refine lv_bipush (v := (-10)) hx hb dX10_put_64 (by decide) ?_
      refine wr_i (wr := [(a_g, .inr (3, [.int g_wide, .int g_high, .int g_drown, .int g_wind, .long g_hedges, .long g_fountains, .int g_people, .int g_tellings, .int g_reports, .ref a_g_kinds, .ref a_g_squares, .ref a_g_voices, .ref a_g_tellers, .ref a_g_listeners, .ref a_g_witnesses, .ref a_g_claims]))]) (va_runV (As := [.int (-10)]) (rest := []) ⟨hx, hb, hml, hown, hts⟩ (n_X10_refuseBad l D cy a_h a_g a_df a_im a_pn a_w a_pa h_bads h_nos h_fulls (-10) _ ) (cwV 1 hts gX10_put_X10_refuseBad rfl rfl rfl (by decide +kernel) ⟨Nat.le_of_ble_eq_true rfl, Nat.le_of_ble_eq_true rfl⟩) (pV (ci := 10) (k := 0) hKA (hP.sub (ws' := [(a_h, .inr (10, [.ref a_g, .ref a_df, .ref a_im, .ref a_pn, .ref a_w, .ref a_pa, .int h_bads, .int h_nos, .int h_fulls]))]) [0] rfl) (hD.sub (ws' := [(a_h, .inr (10, [.ref a_g, .ref a_df, .ref a_im, .ref a_pn, .ref a_w, .ref a_pa, .int h_bads, .int h_nos, .int h_fulls]))]) [0] (by decide) rfl) rfl rfl) rfl rfl hl.1 rfl (lv_room (Nat.le_of_ble_eq_true rfl)) dX10_put_66 ⟨Nat.le_of_ble_eq_true rfl, Nat.le_of_ble_eq_true rfl⟩) hP hD hS hA [0] [1] rfl rfl (by decide +kernel) (by decide +kernel) (fun r3 ur3 H locs hwr3 hP hD hS => ?_)
      obtain ⟨z4, rfl⟩ : ∃ z, z = ur3 := ⟨_, rfl⟩
      have hP : va_P D vwCl [(a_g, .inr (3, [.int g_wide, .int g_high, .int g_drown, .int g_wind, .long g_hedges, .long g_fountains, .int g_people, .int g_tellings, .int g_reports, .ref a_g_kinds, .ref a_g_squares, .ref a_g_voices, .ref a_g_tellers, .ref a_g_listeners, .ref a_g_witnesses, .ref a_g_claims])), (a_h, .inr (10, [.ref a_g, .ref a_df, .ref a_im, .ref a_pn, .ref a_w, .ref a_pa, .int z4, .int h_nos, .int h_fulls]))] H := hP
      have hD : va_D A [(a_g, .inr (3, [.int g_wide, .int g_high, .int g_drown, .int g_wind, .long g_hedges, .long g_fountains, .int g_people, .int g_tellings, .int g_reports, .ref a_g_kinds, .ref a_g_squares, .ref a_g_voices, .ref a_g_tellers, .ref a_g_listeners, .ref a_g_witnesses, .ref a_g_claims])), (a_h, .inr (10, [.ref a_g, .ref a_df, .ref a_im, .ref a_pn, .ref a_w, .ref a_pa, .int z4, .int h_nos, .int h_fulls]))] := hD
      have hwr3 : r3 = (-10) := hwr3
      subst hwr3
      subst hQF
      have hP9 := hP.sub (ws' := [(a_h, .inr (10, [.ref a_g, .ref a_df, .ref a_im, .ref a_pn, .ref a_w, .ref a_pa, .int z4, .int h_nos, .int h_fulls])), (a_g, .inr (3, [.int g_wide, .int g_high, .int g_drown, .int g_wind, .long g_hedges, .long g_fountains, .int g_people, .int g_tellings, .int g_reports, .ref a_g_kinds, .ref a_g_squares, .ref a_g_voices, .ref a_g_tellers, .ref a_g_listeners, .ref a_g_witnesses, .ref a_g_claims]))]) [1, 0] rfl
      have hD9 := hD.sub (ws' := [(a_h, .inr (10, [.ref a_g, .ref a_df, .ref a_im, .ref a_pn, .ref a_w, .ref a_pa, .int z4, .int h_nos, .int h_fulls])), (a_g, .inr (3, [.int g_wide, .int g_high, .int g_drown, .int g_wind, .long g_hedges, .long g_fountains, .int g_people, .int g_tellings, .int g_reports, .ref a_g_kinds, .ref a_g_squares, .ref a_g_voices, .ref a_g_tellers, .ref a_g_listeners, .ref a_g_witnesses, .ref a_g_claims]))]) [1, 0] (by decide) rfl
      exact W.iret (v := (-10)) hx hb hr (fun t ht hW => ⟨⟨(-10), (z4, g_drown, g_wind), rfl, trivial, by rw [ht]; exact hP9, hD9⟩, hS.F ht⟩) hS.2.2 dX10_put_69
    · skip
      refine lv_iload_n hx hb dX10_put_36 rfl (lv_at hl 2 rfl) ?_
      refine lv_iconst (v := (-1)) hx hb dX10_put_37 (by decide) ?_
      refine lv_iconst (v := 1) hx hb dX10_put_38 (by decide) ?_
      refine rd_i (va_runS (As := [.int py, .int (-1), .int 1]) (rest := []) ⟨hx, hb, hml, hown, hts⟩ (n_X10_isWithin l D cy py (-1) (1) _ ) (va_cwS 3 hts gX10_put_X10_isWithin rfl rfl rfl (by decide +kernel) ⟨Nat.le_of_ble_eq_true rfl, Nat.le_of_ble_eq_true rfl⟩) (pS hKA pE (dE (A := A))) rfl rfl hl.1 rfl (lv_room (Nat.le_of_ble_eq_true rfl)) dX10_put_39 ⟨Nat.le_of_ble_eq_true rfl, Nat.le_of_ble_eq_true rfl⟩) hP hS hA (fun r5 H locs hwr5 hP hS => ?_)
      have hwr5 : (r5 = 1 ∧ ((-1) ≤ py ∧ py ≤ (1))) ∨ (r5 = 0 ∧ (¬ ((-1) ≤ py ∧ py ≤ (1)))) := hwr5
      refine lv_if_eq (tgt := 63) hx hb dX10_put_42 (by decide) (fun c6 => ?_) (fun c6 => ?_)
      · skip
        have hq7 := z_b0 hwr5 c6
        refine lv_aload_n hx hb dX10_put_63 rfl (lv_at hl 0 rfl) ?_
        refine lv_bipush (v := (-10)) hx hb dX10_put_64 (by decide) ?_
        refine wr_i (wr := [(a_g, .inr (3, [.int g_wide, .int g_high, .int g_drown, .int g_wind, .long g_hedges, .long g_fountains, .int g_people, .int g_tellings, .int g_reports, .ref a_g_kinds, .ref a_g_squares, .ref a_g_voices, .ref a_g_tellers, .ref a_g_listeners, .ref a_g_witnesses, .ref a_g_claims]))]) (va_runV (As := [.int (-10)]) (rest := []) ⟨hx, hb, hml, hown, hts⟩ (n_X10_refuseBad l D cy a_h a_g a_df a_im a_pn a_w a_pa h_bads h_nos h_fulls (-10) _ ) (cwV 1 hts gX10_put_X10_refuseBad rfl rfl rfl (by decide +kernel) ⟨Nat.le_of_ble_eq_true rfl, Nat.le_of_ble_eq_true rfl⟩) (pV (ci := 10) (k := 0) hKA (hP.sub (ws' := [(a_h, .inr (10, [.ref a_g, .ref a_df, .ref a_im, .ref a_pn, .ref a_w, .ref a_pa, .int h_bads, .int h_nos, .int h_fulls]))]) [0] rfl) (hD.sub (ws' := [(a_h, .inr (10, [.ref a_g, .ref a_df, .ref a_im, .ref a_pn, .ref a_w, .ref a_pa, .int h_bads, .int h_nos, .int h_fulls]))]) [0] (by decide) rfl) rfl rfl) rfl rfl hl.1 rfl (lv_room (Nat.le_of_ble_eq_true rfl)) dX10_put_66 ⟨Nat.le_of_ble_eq_true rfl, Nat.le_of_ble_eq_true rfl⟩) hP hD hS hA [0] [1] rfl rfl (by decide +kernel) (by decide +kernel) (fun r8 ur8 H locs hwr8 hP hD hS => ?_)
        obtain ⟨z9, rfl⟩ : ∃ z, z = ur8 := ⟨_, rfl⟩
        have hP : va_P D vwCl [(a_g, .inr (3, [.int g_wide, .int g_high, .int g_drown, .int g_wind, .long g_hedges, .long g_fountains, .int g_people, .int g_tellings, .int g_reports, .ref a_g_kinds, .ref a_g_squares, .ref a_g_voices, .ref a_g_tellers, .ref a_g_listeners, .ref a_g_witnesses, .ref a_g_claims])), (a_h, .inr (10, [.ref a_g, .ref a_df, .ref a_im, .ref a_pn, .ref a_w, .ref a_pa, .int z9, .int h_nos, .int h_fulls]))] H := hP
        have hD : va_D A [(a_g, .inr (3, [.int g_wide, .int g_high, .int g_drown, .int g_wind, .long g_hedges, .long g_fountains, .int g_people, .int g_tellings, .int g_reports, .ref a_g_kinds, .ref a_g_squares, .ref a_g_voices, .ref a_g_tellers, .ref a_g_listeners, .ref a_g_witnesses, .ref a_g_claims])), (a_h, .inr (10, [.ref a_g, .ref a_df, .ref a_im, .ref a_pn, .ref a_w, .ref a_pa, .int z9, .int h_nos, .int h_fulls]))] := hD
        have hwr8 : r8 = (-10) := hwr8
        subst hwr8
        subst hQF
        have hP9 := hP.sub (ws' := [(a_h, .inr (10, [.ref a_g, .ref a_df, .ref a_im, .ref a_pn, .ref a_w, .ref a_pa, .int z9, .int h_nos, .int h_fulls])), (a_g, .inr (3, [.int g_wide, .int g_high, .int g_drown, .int g_wind, .long g_hedges, .long g_fountains, .int g_people, .int g_tellings, .int g_reports, .ref a_g_kinds, .ref a_g_squares, .ref a_g_voices, .ref a_g_tellers, .ref a_g_listeners, .ref a_g_witnesses, .ref a_g_claims]))]) [1, 0] rfl
        have hD9 := hD.sub (ws' := [(a_h, .inr (10, [.ref a_g, .ref a_df, .ref a_im, .ref a_pn, .ref a_w, .ref a_pa, .int z9, .int h_nos, .int h_fulls])), (a_g, .inr (3, [.int g_wide, .int g_high, .int g_drown, .int g_wind, .long g_hedges, .long g_fountains, .int g_people, .int g_tellings, .int g_reports, .ref a_g_kinds, .ref a_g_squares, .ref a_g_voices, .ref a_g_tellers, .ref a_g_listeners, .ref a_g_witnesses, .ref a_g_claims]))]) [1, 0] (by decide) rfl
        exact W.iret (v := (-10)) hx hb hr (fun t ht hW => ⟨⟨(-10), (z9, g_drown, g_wind), rfl, trivial, by rw [ht]; exact hP9, hD9⟩, hS.F ht⟩) hS.2.2 dX10_put_69
      · skip
        obtain ⟨hp10, hp11⟩ := z_b1 hwr5 c6
        refine lv_aload_n hx hb dX10_put_45 rfl (lv_at hl 0 rfl) ?_
        refine va_get (D := D) (ci := 10) (v := .ref a_g) (C := RX10) (T := TX10) (N := 9) hx hb hts zi10_ hown hK hP 0 rfl rfl 0 (by decide) z0_ (fun _ h9 => h9) rfl dX10_put_46 ?_
        refine va_get (D := D) (ci := 3) (v := .int g_wind) (C := RX3) (T := TX3) (N := 16) hx hb hts zi3_ hown hK hP 1 rfl rfl 3 (by decide) z2_ (fun _ h9 => h9) rfl dX10_put_49 ?_
        refine lv_istore_n (lv' := [(3, .int g_wind), (0, .ref a_h), (1, .int px), (2, .int py)]) hx hb dX10_put_52 rfl hl (by decide) rfl (fun ls hl => ?_)
        refine lv_aload_n hx hb dX10_put_53 rfl (lv_at hl 1 rfl) ?_
        refine va_get (D := D) (ci := 10) (v := .ref a_g) (C := RX10) (T := TX10) (N := 9) hx hb hts zi10_ hown hK hP 0 rfl rfl 0 (by decide) z0_ (fun _ h9 => h9) rfl dX10_put_54 ?_
        refine lv_iload_n hx hb dX10_put_57 rfl (lv_at hl 3 rfl) ?_
        refine va_put (D := D) (ci := 3) (v := .int py) (ty := .int) (C := RX3) (T := TX3) (N := 16) hx hb hts zi3_ tyX3 tyX3_ok nmX3 hown hK hP hD hS 1 rfl rfl 3 (by decide) z2_ (fun _ h9 => h9) rfl (by decide +kernel) rfl rfl (Nat.le_of_ble_eq_true rfl) dX10_put_58 (fun H locs hP hD hS => ?_)
        have hP : va_P D vwCl [(a_h, .inr (10, [.ref a_g, .ref a_df, .ref a_im, .ref a_pn, .ref a_w, .ref a_pa, .int h_bads, .int h_nos, .int h_fulls])), (a_g, .inr (3, [.int g_wide, .int g_high, .int g_drown, .int py, .long g_hedges, .long g_fountains, .int g_people, .int g_tellings, .int g_reports, .ref a_g_kinds, .ref a_g_squares, .ref a_g_voices, .ref a_g_tellers, .ref a_g_listeners, .ref a_g_witnesses, .ref a_g_claims]))] H := hP
        have hD : va_D A [(a_h, .inr (10, [.ref a_g, .ref a_df, .ref a_im, .ref a_pn, .ref a_w, .ref a_pa, .int h_bads, .int h_nos, .int h_fulls])), (a_g, .inr (3, [.int g_wide, .int g_high, .int g_drown, .int py, .long g_hedges, .long g_fountains, .int g_people, .int g_tellings, .int g_reports, .ref a_g_kinds, .ref a_g_squares, .ref a_g_voices, .ref a_g_tellers, .ref a_g_listeners, .ref a_g_witnesses, .ref a_g_claims]))] := hD
        refine lv_iload_n hx hb dX10_put_61 rfl (lv_at hl 0 rfl) ?_
        subst hQF
        have hP9 := hP
        have hD9 := hD
        exact W.iret (v := g_wind) hx hb hr (fun t ht hW => ⟨⟨g_wind, (h_bads, g_drown, py), rfl, trivial, by rw [ht]; exact hP9, hD9⟩, hS.F ht⟩) hS.2.2 dX10_put_62
  · skip
    refine lv_iload_n hx hb dX10_put_4 rfl (lv_at hl 2 rfl) ?_
    refine lv_iconst (v := 0) hx hb dX10_put_5 (by decide) ?_
    refine lv_iconst (v := 4) hx hb dX10_put_6 (by decide) ?_
    refine rd_i (va_runS (As := [.int py, .int 0, .int 4]) (rest := []) ⟨hx, hb, hml, hown, hts⟩ (n_X10_isWithin l D cy py (0) (4) _ ) (va_cwS 3 hts gX10_put_X10_isWithin rfl rfl rfl (by decide +kernel) ⟨Nat.le_of_ble_eq_true rfl, Nat.le_of_ble_eq_true rfl⟩) (pS hKA pE (dE (A := A))) rfl rfl hl.1 rfl (lv_room (Nat.le_of_ble_eq_true rfl)) dX10_put_7 ⟨Nat.le_of_ble_eq_true rfl, Nat.le_of_ble_eq_true rfl⟩) hP hS hA (fun r12 H locs hwr12 hP hS => ?_)
    have hwr12 : (r12 = 1 ∧ ((0) ≤ py ∧ py ≤ (4))) ∨ (r12 = 0 ∧ (¬ ((0) ≤ py ∧ py ≤ (4)))) := hwr12
    refine lv_if_eq (tgt := 31) hx hb dX10_put_10 (by decide) (fun c13 => ?_) (fun c13 => ?_)
    · skip
      have hq14 := z_b0 hwr12 c13
      refine lv_iload_n hx hb dX10_put_31 rfl (lv_at hl 1 rfl) ?_
      refine lv_iconst (v := 1) hx hb dX10_put_32 (by decide) ?_
      refine lv_icmp_ne (tgt := 63) hx hb dX10_put_33 (by decide) (fun c15 => ?_) (fun c15 => ?_)
      · skip
        refine lv_aload_n hx hb dX10_put_63 rfl (lv_at hl 0 rfl) ?_
        refine lv_bipush (v := (-10)) hx hb dX10_put_64 (by decide) ?_
        refine wr_i (wr := [(a_g, .inr (3, [.int g_wide, .int g_high, .int g_drown, .int g_wind, .long g_hedges, .long g_fountains, .int g_people, .int g_tellings, .int g_reports, .ref a_g_kinds, .ref a_g_squares, .ref a_g_voices, .ref a_g_tellers, .ref a_g_listeners, .ref a_g_witnesses, .ref a_g_claims]))]) (va_runV (As := [.int (-10)]) (rest := []) ⟨hx, hb, hml, hown, hts⟩ (n_X10_refuseBad l D cy a_h a_g a_df a_im a_pn a_w a_pa h_bads h_nos h_fulls (-10) _ ) (cwV 1 hts gX10_put_X10_refuseBad rfl rfl rfl (by decide +kernel) ⟨Nat.le_of_ble_eq_true rfl, Nat.le_of_ble_eq_true rfl⟩) (pV (ci := 10) (k := 0) hKA (hP.sub (ws' := [(a_h, .inr (10, [.ref a_g, .ref a_df, .ref a_im, .ref a_pn, .ref a_w, .ref a_pa, .int h_bads, .int h_nos, .int h_fulls]))]) [0] rfl) (hD.sub (ws' := [(a_h, .inr (10, [.ref a_g, .ref a_df, .ref a_im, .ref a_pn, .ref a_w, .ref a_pa, .int h_bads, .int h_nos, .int h_fulls]))]) [0] (by decide) rfl) rfl rfl) rfl rfl hl.1 rfl (lv_room (Nat.le_of_ble_eq_true rfl)) dX10_put_66 ⟨Nat.le_of_ble_eq_true rfl, Nat.le_of_ble_eq_true rfl⟩) hP hD hS hA [0] [1] rfl rfl (by decide +kernel) (by decide +kernel) (fun r16 ur16 H locs hwr16 hP hD hS => ?_)
        obtain ⟨z17, rfl⟩ : ∃ z, z = ur16 := ⟨_, rfl⟩
        have hP : va_P D vwCl [(a_g, .inr (3, [.int g_wide, .int g_high, .int g_drown, .int g_wind, .long g_hedges, .long g_fountains, .int g_people, .int g_tellings, .int g_reports, .ref a_g_kinds, .ref a_g_squares, .ref a_g_voices, .ref a_g_tellers, .ref a_g_listeners, .ref a_g_witnesses, .ref a_g_claims])), (a_h, .inr (10, [.ref a_g, .ref a_df, .ref a_im, .ref a_pn, .ref a_w, .ref a_pa, .int z17, .int h_nos, .int h_fulls]))] H := hP
        have hD : va_D A [(a_g, .inr (3, [.int g_wide, .int g_high, .int g_drown, .int g_wind, .long g_hedges, .long g_fountains, .int g_people, .int g_tellings, .int g_reports, .ref a_g_kinds, .ref a_g_squares, .ref a_g_voices, .ref a_g_tellers, .ref a_g_listeners, .ref a_g_witnesses, .ref a_g_claims])), (a_h, .inr (10, [.ref a_g, .ref a_df, .ref a_im, .ref a_pn, .ref a_w, .ref a_pa, .int z17, .int h_nos, .int h_fulls]))] := hD
        have hwr16 : r16 = (-10) := hwr16
        subst hwr16
        subst hQF
        have hP9 := hP.sub (ws' := [(a_h, .inr (10, [.ref a_g, .ref a_df, .ref a_im, .ref a_pn, .ref a_w, .ref a_pa, .int z17, .int h_nos, .int h_fulls])), (a_g, .inr (3, [.int g_wide, .int g_high, .int g_drown, .int g_wind, .long g_hedges, .long g_fountains, .int g_people, .int g_tellings, .int g_reports, .ref a_g_kinds, .ref a_g_squares, .ref a_g_voices, .ref a_g_tellers, .ref a_g_listeners, .ref a_g_witnesses, .ref a_g_claims]))]) [1, 0] rfl
        have hD9 := hD.sub (ws' := [(a_h, .inr (10, [.ref a_g, .ref a_df, .ref a_im, .ref a_pn, .ref a_w, .ref a_pa, .int z17, .int h_nos, .int h_fulls])), (a_g, .inr (3, [.int g_wide, .int g_high, .int g_drown, .int g_wind, .long g_hedges, .long g_fountains, .int g_people, .int g_tellings, .int g_reports, .ref a_g_kinds, .ref a_g_squares, .ref a_g_voices, .ref a_g_tellers, .ref a_g_listeners, .ref a_g_witnesses, .ref a_g_claims]))]) [1, 0] (by decide) rfl
        exact W.iret (v := (-10)) hx hb hr (fun t ht hW => ⟨⟨(-10), (z17, g_drown, g_wind), rfl, trivial, by rw [ht]; exact hP9, hD9⟩, hS.F ht⟩) hS.2.2 dX10_put_69
      · skip
        refine lv_iload_n hx hb dX10_put_36 rfl (lv_at hl 2 rfl) ?_
        refine lv_iconst (v := (-1)) hx hb dX10_put_37 (by decide) ?_
        refine lv_iconst (v := 1) hx hb dX10_put_38 (by decide) ?_
        refine rd_i (va_runS (As := [.int py, .int (-1), .int 1]) (rest := []) ⟨hx, hb, hml, hown, hts⟩ (n_X10_isWithin l D cy py (-1) (1) _ ) (va_cwS 3 hts gX10_put_X10_isWithin rfl rfl rfl (by decide +kernel) ⟨Nat.le_of_ble_eq_true rfl, Nat.le_of_ble_eq_true rfl⟩) (pS hKA pE (dE (A := A))) rfl rfl hl.1 rfl (lv_room (Nat.le_of_ble_eq_true rfl)) dX10_put_39 ⟨Nat.le_of_ble_eq_true rfl, Nat.le_of_ble_eq_true rfl⟩) hP hS hA (fun r18 H locs hwr18 hP hS => ?_)
        have hwr18 : (r18 = 1 ∧ ((-1) ≤ py ∧ py ≤ (1))) ∨ (r18 = 0 ∧ (¬ ((-1) ≤ py ∧ py ≤ (1)))) := hwr18
        refine lv_if_eq (tgt := 63) hx hb dX10_put_42 (by decide) (fun c19 => ?_) (fun c19 => ?_)
        · skip
          have hq20 := z_b0 hwr18 c19
          refine lv_aload_n hx hb dX10_put_63 rfl (lv_at hl 0 rfl) ?_
          refine lv_bipush (v := (-10)) hx hb dX10_put_64 (by decide) ?_
          refine wr_i (wr := [(a_g, .inr (3, [.int g_wide, .int g_high, .int g_drown, .int g_wind, .long g_hedges, .long g_fountains, .int g_people, .int g_tellings, .int g_reports, .ref a_g_kinds, .ref a_g_squares, .ref a_g_voices, .ref a_g_tellers, .ref a_g_listeners, .ref a_g_witnesses, .ref a_g_claims]))]) (va_runV (As := [.int (-10)]) (rest := []) ⟨hx, hb, hml, hown, hts⟩ (n_X10_refuseBad l D cy a_h a_g a_df a_im a_pn a_w a_pa h_bads h_nos h_fulls (-10) _ ) (cwV 1 hts gX10_put_X10_refuseBad rfl rfl rfl (by decide +kernel) ⟨Nat.le_of_ble_eq_true rfl, Nat.le_of_ble_eq_true rfl⟩) (pV (ci := 10) (k := 0) hKA (hP.sub (ws' := [(a_h, .inr (10, [.ref a_g, .ref a_df, .ref a_im, .ref a_pn, .ref a_w, .ref a_pa, .int h_bads, .int h_nos, .int h_fulls]))]) [0] rfl) (hD.sub (ws' := [(a_h, .inr (10, [.ref a_g, .ref a_df, .ref a_im, .ref a_pn, .ref a_w, .ref a_pa, .int h_bads, .int h_nos, .int h_fulls]))]) [0] (by decide) rfl) rfl rfl) rfl rfl hl.1 rfl (lv_room (Nat.le_of_ble_eq_true rfl)) dX10_put_66 ⟨Nat.le_of_ble_eq_true rfl, Nat.le_of_ble_eq_true rfl⟩) hP hD hS hA [0] [1] rfl rfl (by decide +kernel) (by decide +kernel) (fun r21 ur21 H locs hwr21 hP hD hS => ?_)
          obtain ⟨z22, rfl⟩ : ∃ z, z = ur21 := ⟨_, rfl⟩
          have hP : va_P D vwCl [(a_g, .inr (3, [.int g_wide, .int g_high, .int g_drown, .int g_wind, .long g_hedges, .long g_fountains, .int g_people, .int g_tellings, .int g_reports, .ref a_g_kinds, .ref a_g_squares, .ref a_g_voices, .ref a_g_tellers, .ref a_g_listeners, .ref a_g_witnesses, .ref a_g_claims])), (a_h, .inr (10, [.ref a_g, .ref a_df, .ref a_im, .ref a_pn, .ref a_w, .ref a_pa, .int z22, .int h_nos, .int h_fulls]))] H := hP
          have hD : va_D A [(a_g, .inr (3, [.int g_wide, .int g_high, .int g_drown, .int g_wind, .long g_hedges, .long g_fountains, .int g_people, .int g_tellings, .int g_reports, .ref a_g_kinds, .ref a_g_squares, .ref a_g_voices, .ref a_g_tellers, .ref a_g_listeners, .ref a_g_witnesses, .ref a_g_claims])), (a_h, .inr (10, [.ref a_g, .ref a_df, .ref a_im, .ref a_pn, .ref a_w, .ref a_pa, .int z22, .int h_nos, .int h_fulls]))] := hD
          have hwr21 : r21 = (-10) := hwr21
          subst hwr21
          subst hQF
          have hP9 := hP.sub (ws' := [(a_h, .inr (10, [.ref a_g, .ref a_df, .ref a_im, .ref a_pn, .ref a_w, .ref a_pa, .int z22, .int h_nos, .int h_fulls])), (a_g, .inr (3, [.int g_wide, .int g_high, .int g_drown, .int g_wind, .long g_hedges, .long g_fountains, .int g_people, .int g_tellings, .int g_reports, .ref a_g_kinds, .ref a_g_squares, .ref a_g_voices, .ref a_g_tellers, .ref a_g_listeners, .ref a_g_witnesses, .ref a_g_claims]))]) [1, 0] rfl
          have hD9 := hD.sub (ws' := [(a_h, .inr (10, [.ref a_g, .ref a_df, .ref a_im, .ref a_pn, .ref a_w, .ref a_pa, .int z22, .int h_nos, .int h_fulls])), (a_g, .inr (3, [.int g_wide, .int g_high, .int g_drown, .int g_wind, .long g_hedges, .long g_fountains, .int g_people, .int g_tellings, .int g_reports, .ref a_g_kinds, .ref a_g_squares, .ref a_g_voices, .ref a_g_tellers, .ref a_g_listeners, .ref a_g_witnesses, .ref a_g_claims]))]) [1, 0] (by decide) rfl
          exact W.iret (v := (-10)) hx hb hr (fun t ht hW => ⟨⟨(-10), (z22, g_drown, g_wind), rfl, trivial, by rw [ht]; exact hP9, hD9⟩, hS.F ht⟩) hS.2.2 dX10_put_69
        · skip
          obtain ⟨hp23, hp24⟩ := z_b1 hwr18 c19
          refine lv_aload_n hx hb dX10_put_45 rfl (lv_at hl 0 rfl) ?_
          refine va_get (D := D) (ci := 10) (v := .ref a_g) (C := RX10) (T := TX10) (N := 9) hx hb hts zi10_ hown hK hP 0 rfl rfl 0 (by decide) z0_ (fun _ h9 => h9) rfl dX10_put_46 ?_
          refine va_get (D := D) (ci := 3) (v := .int g_wind) (C := RX3) (T := TX3) (N := 16) hx hb hts zi3_ hown hK hP 1 rfl rfl 3 (by decide) z2_ (fun _ h9 => h9) rfl dX10_put_49 ?_
          refine lv_istore_n (lv' := [(3, .int g_wind), (0, .ref a_h), (1, .int px), (2, .int py)]) hx hb dX10_put_52 rfl hl (by decide) rfl (fun ls hl => ?_)
          refine lv_aload_n hx hb dX10_put_53 rfl (lv_at hl 1 rfl) ?_
          refine va_get (D := D) (ci := 10) (v := .ref a_g) (C := RX10) (T := TX10) (N := 9) hx hb hts zi10_ hown hK hP 0 rfl rfl 0 (by decide) z0_ (fun _ h9 => h9) rfl dX10_put_54 ?_
          refine lv_iload_n hx hb dX10_put_57 rfl (lv_at hl 3 rfl) ?_
          refine va_put (D := D) (ci := 3) (v := .int py) (ty := .int) (C := RX3) (T := TX3) (N := 16) hx hb hts zi3_ tyX3 tyX3_ok nmX3 hown hK hP hD hS 1 rfl rfl 3 (by decide) z2_ (fun _ h9 => h9) rfl (by decide +kernel) rfl rfl (Nat.le_of_ble_eq_true rfl) dX10_put_58 (fun H locs hP hD hS => ?_)
          have hP : va_P D vwCl [(a_h, .inr (10, [.ref a_g, .ref a_df, .ref a_im, .ref a_pn, .ref a_w, .ref a_pa, .int h_bads, .int h_nos, .int h_fulls])), (a_g, .inr (3, [.int g_wide, .int g_high, .int g_drown, .int py, .long g_hedges, .long g_fountains, .int g_people, .int g_tellings, .int g_reports, .ref a_g_kinds, .ref a_g_squares, .ref a_g_voices, .ref a_g_tellers, .ref a_g_listeners, .ref a_g_witnesses, .ref a_g_claims]))] H := hP
          have hD : va_D A [(a_h, .inr (10, [.ref a_g, .ref a_df, .ref a_im, .ref a_pn, .ref a_w, .ref a_pa, .int h_bads, .int h_nos, .int h_fulls])), (a_g, .inr (3, [.int g_wide, .int g_high, .int g_drown, .int py, .long g_hedges, .long g_fountains, .int g_people, .int g_tellings, .int g_reports, .ref a_g_kinds, .ref a_g_squares, .ref a_g_voices, .ref a_g_tellers, .ref a_g_listeners, .ref a_g_witnesses, .ref a_g_claims]))] := hD
          refine lv_iload_n hx hb dX10_put_61 rfl (lv_at hl 0 rfl) ?_
          subst hQF
          have hP9 := hP
          have hD9 := hD
          exact W.iret (v := g_wind) hx hb hr (fun t ht hW => ⟨⟨g_wind, (h_bads, g_drown, py), rfl, trivial, by rw [ht]; exact hP9, hD9⟩, hS.F ht⟩) hS.2.2 dX10_put_62
    · skip
      obtain ⟨hp25, hp26⟩ := z_b1 hwr12 c13
      refine lv_aload_n hx hb dX10_put_13 rfl (lv_at hl 0 rfl) ?_
      refine va_get (D := D) (ci := 10) (v := .ref a_g) (C := RX10) (T := TX10) (N := 9) hx hb hts zi10_ hown hK hP 0 rfl rfl 0 (by decide) z0_ (fun _ h9 => h9) rfl dX10_put_14 ?_
      refine va_get (D := D) (ci := 3) (v := .int g_drown) (C := RX3) (T := TX3) (N := 16) hx hb hts zi3_ hown hK hP 1 rfl rfl 2 (by decide) z4_ (fun _ h9 => h9) rfl dX10_put_17 ?_
      refine lv_istore_n (lv' := [(3, .int g_drown), (0, .ref a_h), (1, .int px), (2, .int py)]) hx hb dX10_put_20 rfl hl (by decide) rfl (fun ls hl => ?_)
      refine lv_aload_n hx hb dX10_put_21 rfl (lv_at hl 1 rfl) ?_
      refine va_get (D := D) (ci := 10) (v := .ref a_g) (C := RX10) (T := TX10) (N := 9) hx hb hts zi10_ hown hK hP 0 rfl rfl 0 (by decide) z0_ (fun _ h9 => h9) rfl dX10_put_22 ?_
      refine lv_iload_n hx hb dX10_put_25 rfl (lv_at hl 3 rfl) ?_
      refine va_put (D := D) (ci := 3) (v := .int py) (ty := .int) (C := RX3) (T := TX3) (N := 16) hx hb hts zi3_ tyX3 tyX3_ok nmX3 hown hK hP hD hS 1 rfl rfl 2 (by decide) z4_ (fun _ h9 => h9) rfl (by decide +kernel) rfl rfl (Nat.le_of_ble_eq_true rfl) dX10_put_26 (fun H locs hP hD hS => ?_)
      have hP : va_P D vwCl [(a_h, .inr (10, [.ref a_g, .ref a_df, .ref a_im, .ref a_pn, .ref a_w, .ref a_pa, .int h_bads, .int h_nos, .int h_fulls])), (a_g, .inr (3, [.int g_wide, .int g_high, .int py, .int g_wind, .long g_hedges, .long g_fountains, .int g_people, .int g_tellings, .int g_reports, .ref a_g_kinds, .ref a_g_squares, .ref a_g_voices, .ref a_g_tellers, .ref a_g_listeners, .ref a_g_witnesses, .ref a_g_claims]))] H := hP
      have hD : va_D A [(a_h, .inr (10, [.ref a_g, .ref a_df, .ref a_im, .ref a_pn, .ref a_w, .ref a_pa, .int h_bads, .int h_nos, .int h_fulls])), (a_g, .inr (3, [.int g_wide, .int g_high, .int py, .int g_wind, .long g_hedges, .long g_fountains, .int g_people, .int g_tellings, .int g_reports, .ref a_g_kinds, .ref a_g_squares, .ref a_g_voices, .ref a_g_tellers, .ref a_g_listeners, .ref a_g_witnesses, .ref a_g_claims]))] := hD
      refine lv_iload_n hx hb dX10_put_29 rfl (lv_at hl 0 rfl) ?_
      subst hQF
      have hP9 := hP
      have hD9 := hD
      exact W.iret (v := g_drown) hx hb hr (fun t ht hW => ⟨⟨g_drown, (h_bads, py, g_wind), rfl, trivial, by rw [ht]; exact hP9, hD9⟩, hS.F ht⟩) hS.2.2 dX10_put_30

set_option maxHeartbeats 4000000 in
set_option maxRecDepth 100000 in
theorem n_X10_person (l : Launch) (D : va_G) (cy : Nat → ClassId) (a_h : Nat) (a_g : Nat) (a_df : Nat) (a_im : Nat) (a_pn : Nat) (a_w : Nat) (a_pa : Nat) (h_bads : Int32) (h_nos : Int32) (h_fulls : Int32) (g_wide : Int32) (g_high : Int32) (g_drown : Int32) (g_wind : Int32) (g_hedges : Int64) (g_fountains : Int64) (g_people : Int32) (g_tellings : Int32) (g_reports : Int32) (a_g_kinds : Nat) (a_g_squares : Nat) (a_g_voices : Nat) (a_g_tellers : Nat) (a_g_listeners : Nat) (a_g_witnesses : Nat) (a_g_claims : Nat) (g_squares_f : Nat → Int32) (g_kinds_f : Nat → Int32) (g_voices_f : Nat → Int32) (px : Int32) (py : Int32) (pz : Int32) (sz : Nat)  : Met l yX10_person wsX10_person ({ frames := 3, cells := 0, slots := 0, locals := 65 }) (va_Pc [.ref a_h, .int px, .int py, .int pz] (kPre D cy [(a_h, .inr (10, [.ref a_g, .ref a_df, .ref a_im, .ref a_pn, .ref a_w, .ref a_pa, .int h_bads, .int h_nos, .int h_fulls])), (a_g, .inr (3, [.int g_wide, .int g_high, .int g_drown, .int g_wind, .long g_hedges, .long g_fountains, .int g_people, .int g_tellings, .int g_reports, .ref a_g_kinds, .ref a_g_squares, .ref a_g_voices, .ref a_g_tellers, .ref a_g_listeners, .ref a_g_witnesses, .ref a_g_claims])), (a_g_squares, .inl (cy 1, 5, .inl g_squares_f)), (a_g_kinds, .inl (cy 1, 5, .inl g_kinds_f)), (a_g_voices, .inl (cy 1, 5, .inl g_voices_f))] sz)) (va_Qi (fun (r : Int32) (u : Int32 × Int32 × Int32 × Int32 × (Nat → Int32) × (Nat → Int32) × (Nat → Int32)) => True) (fun (u : Int32 × Int32 × Int32 × Int32 × (Nat → Int32) × (Nat → Int32) × (Nat → Int32)) t => va_P D vwCl ([(a_h, .inr (10, [.ref a_g, .ref a_df, .ref a_im, .ref a_pn, .ref a_w, .ref a_pa, .int u.1, .int u.2.1, .int u.2.2.1])), (a_g, .inr (3, [.int g_wide, .int g_high, .int g_drown, .int g_wind, .long g_hedges, .long g_fountains, .int u.2.2.2.1, .int g_tellings, .int g_reports, .ref a_g_kinds, .ref a_g_squares, .ref a_g_voices, .ref a_g_tellers, .ref a_g_listeners, .ref a_g_witnesses, .ref a_g_claims])), (a_g_squares, .inl (cy 1, 5, .inl u.2.2.2.2.1)), (a_g_kinds, .inl (cy 1, 5, .inl u.2.2.2.2.2.1)), (a_g_voices, .inl (cy 1, 5, .inl u.2.2.2.2.2.2))]) t.heap ∧ va_D (va_A [(a_h, .inr (10, [.ref a_g, .ref a_df, .ref a_im, .ref a_pn, .ref a_w, .ref a_pa, .int h_bads, .int h_nos, .int h_fulls])), (a_g, .inr (3, [.int g_wide, .int g_high, .int g_drown, .int g_wind, .long g_hedges, .long g_fountains, .int g_people, .int g_tellings, .int g_reports, .ref a_g_kinds, .ref a_g_squares, .ref a_g_voices, .ref a_g_tellers, .ref a_g_listeners, .ref a_g_witnesses, .ref a_g_claims])), (a_g_squares, .inl (cy 1, 5, .inl g_squares_f)), (a_g_kinds, .inl (cy 1, 5, .inl g_kinds_f)), (a_g_voices, .inl (cy 1, 5, .inl g_voices_f))] sz) ([(a_h, .inr (10, [.ref a_g, .ref a_df, .ref a_im, .ref a_pn, .ref a_w, .ref a_pa, .int u.1, .int u.2.1, .int u.2.2.1])), (a_g, .inr (3, [.int g_wide, .int g_high, .int g_drown, .int g_wind, .long g_hedges, .long g_fountains, .int u.2.2.2.1, .int g_tellings, .int g_reports, .ref a_g_kinds, .ref a_g_squares, .ref a_g_voices, .ref a_g_tellers, .ref a_g_listeners, .ref a_g_witnesses, .ref a_g_claims])), (a_g_squares, .inl (cy 1, 5, .inl u.2.2.2.2.1)), (a_g_kinds, .inl (cy 1, 5, .inl u.2.2.2.2.2.1)), (a_g_voices, .inl (cy 1, 5, .inl u.2.2.2.2.2.2))])) (va_A [(a_h, .inr (10, [.ref a_g, .ref a_df, .ref a_im, .ref a_pn, .ref a_w, .ref a_pa, .int h_bads, .int h_nos, .int h_fulls])), (a_g, .inr (3, [.int g_wide, .int g_high, .int g_drown, .int g_wind, .long g_hedges, .long g_fountains, .int g_people, .int g_tellings, .int g_reports, .ref a_g_kinds, .ref a_g_squares, .ref a_g_voices, .ref a_g_tellers, .ref a_g_listeners, .ref a_g_witnesses, .ref a_g_claims])), (a_g_squares, .inl (cy 1, 5, .inl g_squares_f)), (a_g_kinds, .inl (cy 1, 5, .inl g_kinds_f)), (a_g_voices, .inl (cy 1, 5, .inl g_voices_f))] sz)) 0 0 (va_A [(a_h, .inr (10, [.ref a_g, .ref a_df, .ref a_im, .ref a_pn, .ref a_w, .ref a_pa, .int h_bads, .int h_nos, .int h_fulls])), (a_g, .inr (3, [.int g_wide, .int g_high, .int g_drown, .int g_wind, .long g_hedges, .long g_fountains, .int g_people, .int g_tellings, .int g_reports, .ref a_g_kinds, .ref a_g_squares, .ref a_g_voices, .ref a_g_tellers, .ref a_g_listeners, .ref a_g_witnesses, .ref a_g_claims])), (a_g_squares, .inl (cy 1, 5, .inl g_squares_f)), (a_g_kinds, .inl (cy 1, 5, .inl g_kinds_f)), (a_g_voices, .inl (cy 1, 5, .inl g_voices_f))] sz) := by
  refine Met.ofW (cc := cX10_person) (maxL := 5) (ret := (some .int)) (by decide) rfl ?_
  intro p e s m args below meth c s₁ B hml hv
  obtain ⟨rfl, hsz, hP, hKA, hD0⟩ := hv
  have hx := B.exec
  have hb := B.bytes
  have hr := B.returns
  have hts := atoms_spec (ws := wsX10_person) B.pre
  have hown : s.vm.findClass RX10 = some m.cls := findClass_of_methodNamed B.named
  have hlocks := B.notSynchronized
  subst hsz
  have hK := hKA.1
  have hD := hD0.self (sz := s.heap.size)
  generalize hAe : va_A [(a_h, .inr (10, [.ref a_g, .ref a_df, .ref a_im, .ref a_pn, .ref a_w, .ref a_pa, .int h_bads, .int h_nos, .int h_fulls])), (a_g, .inr (3, [.int g_wide, .int g_high, .int g_drown, .int g_wind, .long g_hedges, .long g_fountains, .int g_people, .int g_tellings, .int g_reports, .ref a_g_kinds, .ref a_g_squares, .ref a_g_voices, .ref a_g_tellers, .ref a_g_listeners, .ref a_g_witnesses, .ref a_g_claims])), (a_g_squares, .inl (cy 1, 5, .inl g_squares_f)), (a_g_kinds, .inl (cy 1, 5, .inl g_kinds_f)), (a_g_voices, .inl (cy 1, 5, .inl g_voices_f))] s.heap.size = A at hD ⊢
  have hA : ∀ q : Nat, s.heap.size ≤ q → A q := fun q h => by rw [← hAe]; exact Or.inr h
  have hS : va_S A s.heap s.heap [] := va_S.rf
  have hP : va_P D vwCl [(a_h, .inr (10, [.ref a_g, .ref a_df, .ref a_im, .ref a_pn, .ref a_w, .ref a_pa, .int h_bads, .int h_nos, .int h_fulls])), (a_g, .inr (3, [.int g_wide, .int g_high, .int g_drown, .int g_wind, .long g_hedges, .long g_fountains, .int g_people, .int g_tellings, .int g_reports, .ref a_g_kinds, .ref a_g_squares, .ref a_g_voices, .ref a_g_tellers, .ref a_g_listeners, .ref a_g_witnesses, .ref a_g_claims])), (a_g_squares, .inl (cy 1, 5, .inl g_squares_f)), (a_g_kinds, .inl (cy 1, 5, .inl g_kinds_f)), (a_g_voices, .inl (cy 1, 5, .inl g_voices_f))] s.heap := hP
  have hl := lv_entry ([.ref a_h, .int px, .int py, .int pz]) (n := 5) (Nat.le_of_ble_eq_true rfl)
  rw [lg_entry_eq]
  generalize (lg_sl ([.ref a_h, .int px, .int py, .int pz]) ++ List.replicate (5 - (lg_sl ([.ref a_h, .int px, .int py, .int pz])).length) Slot.unset).toArray = ls at hl ⊢
  have hl : lv_has ls 5 [(0, .ref a_h), (1, .int px), (2, .int py), (3, .int pz)] := hl
  refine qW (fun QF hQF => ?_)
  have z0_ := hts (.fieldLink RX10 10 "HeardSeen" "now" "LHeardSeen$Garden;") (by decide +kernel)
  have zi10_ : ∀ w ∈ u_ws RX10 TX10 9, w ∈ wsX10_person := by decide +kernel
  refine lv_iload_n hx hb dX10_person_0 rfl (lv_at hl 1 rfl) ?_
  refine lv_iconst (v := 0) hx hb dX10_person_1 (by decide) ?_
  refine lv_iconst (v := 5) hx hb dX10_person_2 (by decide) ?_
  refine rd_i (va_runS (As := [.int px, .int 0, .int 5]) (rest := []) ⟨hx, hb, hml, hown, hts⟩ (n_X10_isWithin l D cy px (0) (5) _ ) (va_cwS 3 hts gX10_person_X10_isWithin rfl rfl rfl (by decide +kernel) ⟨Nat.le_of_ble_eq_true rfl, Nat.le_of_ble_eq_true rfl⟩) (pS hKA pE (dE (A := A))) rfl rfl hl.1 rfl (lv_room (Nat.le_of_ble_eq_true rfl)) dX10_person_3 ⟨Nat.le_of_ble_eq_true rfl, Nat.le_of_ble_eq_true rfl⟩) hP hS hA (fun r1 H locs hwr1 hP hS => ?_)
  have hwr1 : (r1 = 1 ∧ ((0) ≤ px ∧ px ≤ (5))) ∨ (r1 = 0 ∧ (¬ ((0) ≤ px ∧ px ≤ (5)))) := hwr1
  refine lv_if_eq (tgt := 30) hx hb dX10_person_6 (by decide) (fun c2 => ?_) (fun c2 => ?_)
  · skip
    have hq3 := z_b0 hwr1 c2
    refine lv_aload_n hx hb dX10_person_30 rfl (lv_at hl 0 rfl) ?_
    refine lv_bipush (v := (-2)) hx hb dX10_person_31 (by decide) ?_
    refine wr_i (wr := [(a_g, .inr (3, [.int g_wide, .int g_high, .int g_drown, .int g_wind, .long g_hedges, .long g_fountains, .int g_people, .int g_tellings, .int g_reports, .ref a_g_kinds, .ref a_g_squares, .ref a_g_voices, .ref a_g_tellers, .ref a_g_listeners, .ref a_g_witnesses, .ref a_g_claims])), (a_g_squares, .inl (cy 1, 5, .inl g_squares_f)), (a_g_kinds, .inl (cy 1, 5, .inl g_kinds_f)), (a_g_voices, .inl (cy 1, 5, .inl g_voices_f))]) (va_runV (As := [.int (-2)]) (rest := []) ⟨hx, hb, hml, hown, hts⟩ (n_X10_refuseBad l D cy a_h a_g a_df a_im a_pn a_w a_pa h_bads h_nos h_fulls (-2) _ ) (cwV 1 hts gX10_person_X10_refuseBad rfl rfl rfl (by decide +kernel) ⟨Nat.le_of_ble_eq_true rfl, Nat.le_of_ble_eq_true rfl⟩) (pV (ci := 10) (k := 0) hKA (hP.sub (ws' := [(a_h, .inr (10, [.ref a_g, .ref a_df, .ref a_im, .ref a_pn, .ref a_w, .ref a_pa, .int h_bads, .int h_nos, .int h_fulls]))]) [0] rfl) (hD.sub (ws' := [(a_h, .inr (10, [.ref a_g, .ref a_df, .ref a_im, .ref a_pn, .ref a_w, .ref a_pa, .int h_bads, .int h_nos, .int h_fulls]))]) [0] (by decide) rfl) rfl rfl) rfl rfl hl.1 rfl (lv_room (Nat.le_of_ble_eq_true rfl)) dX10_person_33 ⟨Nat.le_of_ble_eq_true rfl, Nat.le_of_ble_eq_true rfl⟩) hP hD hS hA [0] [1, 2, 3, 4] rfl rfl (by decide +kernel) (by decide +kernel) (fun r4 ur4 H locs hwr4 hP hD hS => ?_)
    obtain ⟨z5, rfl⟩ : ∃ z, z = ur4 := ⟨_, rfl⟩
    have hP : va_P D vwCl [(a_g, .inr (3, [.int g_wide, .int g_high, .int g_drown, .int g_wind, .long g_hedges, .long g_fountains, .int g_people, .int g_tellings, .int g_reports, .ref a_g_kinds, .ref a_g_squares, .ref a_g_voices, .ref a_g_tellers, .ref a_g_listeners, .ref a_g_witnesses, .ref a_g_claims])), (a_g_squares, .inl (cy 1, 5, .inl g_squares_f)), (a_g_kinds, .inl (cy 1, 5, .inl g_kinds_f)), (a_g_voices, .inl (cy 1, 5, .inl g_voices_f)), (a_h, .inr (10, [.ref a_g, .ref a_df, .ref a_im, .ref a_pn, .ref a_w, .ref a_pa, .int z5, .int h_nos, .int h_fulls]))] H := hP
    have hD : va_D A [(a_g, .inr (3, [.int g_wide, .int g_high, .int g_drown, .int g_wind, .long g_hedges, .long g_fountains, .int g_people, .int g_tellings, .int g_reports, .ref a_g_kinds, .ref a_g_squares, .ref a_g_voices, .ref a_g_tellers, .ref a_g_listeners, .ref a_g_witnesses, .ref a_g_claims])), (a_g_squares, .inl (cy 1, 5, .inl g_squares_f)), (a_g_kinds, .inl (cy 1, 5, .inl g_kinds_f)), (a_g_voices, .inl (cy 1, 5, .inl g_voices_f)), (a_h, .inr (10, [.ref a_g, .ref a_df, .ref a_im, .ref a_pn, .ref a_w, .ref a_pa, .int z5, .int h_nos, .int h_fulls]))] := hD
    have hwr4 : r4 = (-2) := hwr4
    subst hwr4
    subst hQF
    have hP9 := hP.sub (ws' := [(a_h, .inr (10, [.ref a_g, .ref a_df, .ref a_im, .ref a_pn, .ref a_w, .ref a_pa, .int z5, .int h_nos, .int h_fulls])), (a_g, .inr (3, [.int g_wide, .int g_high, .int g_drown, .int g_wind, .long g_hedges, .long g_fountains, .int g_people, .int g_tellings, .int g_reports, .ref a_g_kinds, .ref a_g_squares, .ref a_g_voices, .ref a_g_tellers, .ref a_g_listeners, .ref a_g_witnesses, .ref a_g_claims])), (a_g_squares, .inl (cy 1, 5, .inl g_squares_f)), (a_g_kinds, .inl (cy 1, 5, .inl g_kinds_f)), (a_g_voices, .inl (cy 1, 5, .inl g_voices_f))]) [4, 0, 1, 2, 3] rfl
    have hD9 := hD.sub (ws' := [(a_h, .inr (10, [.ref a_g, .ref a_df, .ref a_im, .ref a_pn, .ref a_w, .ref a_pa, .int z5, .int h_nos, .int h_fulls])), (a_g, .inr (3, [.int g_wide, .int g_high, .int g_drown, .int g_wind, .long g_hedges, .long g_fountains, .int g_people, .int g_tellings, .int g_reports, .ref a_g_kinds, .ref a_g_squares, .ref a_g_voices, .ref a_g_tellers, .ref a_g_listeners, .ref a_g_witnesses, .ref a_g_claims])), (a_g_squares, .inl (cy 1, 5, .inl g_squares_f)), (a_g_kinds, .inl (cy 1, 5, .inl g_kinds_f)), (a_g_voices, .inl (cy 1, 5, .inl g_voices_f))]) [4, 0, 1, 2, 3] (by decide) rfl
    exact W.iret (v := (-2)) hx hb hr (fun t ht hW => ⟨⟨(-2), (z5, h_nos, h_fulls, g_people, g_squares_f, g_kinds_f, g_voices_f), rfl, trivial, by rw [ht]; exact hP9, hD9⟩, hS.F ht⟩) hS.2.2 dX10_person_36
  · skip
    obtain ⟨hp6, hp7⟩ := z_b1 hwr1 c2
    refine lv_aload_n hx hb dX10_person_9 rfl (lv_at hl 0 rfl) ?_
    refine va_get (D := D) (ci := 10) (v := .ref a_g) (C := RX10) (T := TX10) (N := 9) hx hb hts zi10_ hown hK hP 0 rfl rfl 0 (by decide) z0_ (fun _ h9 => h9) rfl dX10_person_10 ?_
    refine lv_iload_n hx hb dX10_person_13 rfl (lv_at hl 2 rfl) ?_
    refine rd_i (va_runV (As := [.int py]) (rest := []) ⟨hx, hb, hml, hown, hts⟩ (n_X3_isSquare l D cy a_g g_wide g_high g_drown g_wind g_hedges g_fountains g_people g_tellings g_reports a_g_kinds a_g_squares a_g_voices a_g_tellers a_g_listeners a_g_witnesses a_g_claims py _ ) (cwV 1 hts gX10_person_X3_isSquare rfl rfl rfl (by decide +kernel) ⟨Nat.le_of_ble_eq_true rfl, Nat.le_of_ble_eq_true rfl⟩) (pV (ci := 3) (k := 0) hKA (hP.sub (ws' := [(a_g, .inr (3, [.int g_wide, .int g_high, .int g_drown, .int g_wind, .long g_hedges, .long g_fountains, .int g_people, .int g_tellings, .int g_reports, .ref a_g_kinds, .ref a_g_squares, .ref a_g_voices, .ref a_g_tellers, .ref a_g_listeners, .ref a_g_witnesses, .ref a_g_claims]))]) [1] rfl) (hD.sub (ws' := [(a_g, .inr (3, [.int g_wide, .int g_high, .int g_drown, .int g_wind, .long g_hedges, .long g_fountains, .int g_people, .int g_tellings, .int g_reports, .ref a_g_kinds, .ref a_g_squares, .ref a_g_voices, .ref a_g_tellers, .ref a_g_listeners, .ref a_g_witnesses, .ref a_g_claims]))]) [1] (by decide) rfl) rfl rfl) rfl rfl hl.1 rfl (lv_room (Nat.le_of_ble_eq_true rfl)) dX10_person_14 ⟨Nat.le_of_ble_eq_true rfl, Nat.le_of_ble_eq_true rfl⟩) hP hS hA (fun r8 H locs hwr8 hP hS => ?_)
    have hwr8 : (r8 = 1 ∧ True) ∨ (r8 = 0 ∧ True) := hwr8
    refine lv_if_eq (tgt := 30) hx hb dX10_person_17 (by decide) (fun c9 => ?_) (fun c9 => ?_)
    · skip
      refine lv_aload_n hx hb dX10_person_30 rfl (lv_at hl 0 rfl) ?_
      refine lv_bipush (v := (-2)) hx hb dX10_person_31 (by decide) ?_
      refine wr_i (wr := [(a_g, .inr (3, [.int g_wide, .int g_high, .int g_drown, .int g_wind, .long g_hedges, .long g_fountains, .int g_people, .int g_tellings, .int g_reports, .ref a_g_kinds, .ref a_g_squares, .ref a_g_voices, .ref a_g_tellers, .ref a_g_listeners, .ref a_g_witnesses, .ref a_g_claims])), (a_g_squares, .inl (cy 1, 5, .inl g_squares_f)), (a_g_kinds, .inl (cy 1, 5, .inl g_kinds_f)), (a_g_voices, .inl (cy 1, 5, .inl g_voices_f))]) (va_runV (As := [.int (-2)]) (rest := []) ⟨hx, hb, hml, hown, hts⟩ (n_X10_refuseBad l D cy a_h a_g a_df a_im a_pn a_w a_pa h_bads h_nos h_fulls (-2) _ ) (cwV 1 hts gX10_person_X10_refuseBad rfl rfl rfl (by decide +kernel) ⟨Nat.le_of_ble_eq_true rfl, Nat.le_of_ble_eq_true rfl⟩) (pV (ci := 10) (k := 0) hKA (hP.sub (ws' := [(a_h, .inr (10, [.ref a_g, .ref a_df, .ref a_im, .ref a_pn, .ref a_w, .ref a_pa, .int h_bads, .int h_nos, .int h_fulls]))]) [0] rfl) (hD.sub (ws' := [(a_h, .inr (10, [.ref a_g, .ref a_df, .ref a_im, .ref a_pn, .ref a_w, .ref a_pa, .int h_bads, .int h_nos, .int h_fulls]))]) [0] (by decide) rfl) rfl rfl) rfl rfl hl.1 rfl (lv_room (Nat.le_of_ble_eq_true rfl)) dX10_person_33 ⟨Nat.le_of_ble_eq_true rfl, Nat.le_of_ble_eq_true rfl⟩) hP hD hS hA [0] [1, 2, 3, 4] rfl rfl (by decide +kernel) (by decide +kernel) (fun r10 ur10 H locs hwr10 hP hD hS => ?_)
      obtain ⟨z11, rfl⟩ : ∃ z, z = ur10 := ⟨_, rfl⟩
      have hP : va_P D vwCl [(a_g, .inr (3, [.int g_wide, .int g_high, .int g_drown, .int g_wind, .long g_hedges, .long g_fountains, .int g_people, .int g_tellings, .int g_reports, .ref a_g_kinds, .ref a_g_squares, .ref a_g_voices, .ref a_g_tellers, .ref a_g_listeners, .ref a_g_witnesses, .ref a_g_claims])), (a_g_squares, .inl (cy 1, 5, .inl g_squares_f)), (a_g_kinds, .inl (cy 1, 5, .inl g_kinds_f)), (a_g_voices, .inl (cy 1, 5, .inl g_voices_f)), (a_h, .inr (10, [.ref a_g, .ref a_df, .ref a_im, .ref a_pn, .ref a_w, .ref a_pa, .int z11, .int h_nos, .int h_fulls]))] H := hP
      have hD : va_D A [(a_g, .inr (3, [.int g_wide, .int g_high, .int g_drown, .int g_wind, .long g_hedges, .long g_fountains, .int g_people, .int g_tellings, .int g_reports, .ref a_g_kinds, .ref a_g_squares, .ref a_g_voices, .ref a_g_tellers, .ref a_g_listeners, .ref a_g_witnesses, .ref a_g_claims])), (a_g_squares, .inl (cy 1, 5, .inl g_squares_f)), (a_g_kinds, .inl (cy 1, 5, .inl g_kinds_f)), (a_g_voices, .inl (cy 1, 5, .inl g_voices_f)), (a_h, .inr (10, [.ref a_g, .ref a_df, .ref a_im, .ref a_pn, .ref a_w, .ref a_pa, .int z11, .int h_nos, .int h_fulls]))] := hD
      have hwr10 : r10 = (-2) := hwr10
      subst hwr10
      subst hQF
      have hP9 := hP.sub (ws' := [(a_h, .inr (10, [.ref a_g, .ref a_df, .ref a_im, .ref a_pn, .ref a_w, .ref a_pa, .int z11, .int h_nos, .int h_fulls])), (a_g, .inr (3, [.int g_wide, .int g_high, .int g_drown, .int g_wind, .long g_hedges, .long g_fountains, .int g_people, .int g_tellings, .int g_reports, .ref a_g_kinds, .ref a_g_squares, .ref a_g_voices, .ref a_g_tellers, .ref a_g_listeners, .ref a_g_witnesses, .ref a_g_claims])), (a_g_squares, .inl (cy 1, 5, .inl g_squares_f)), (a_g_kinds, .inl (cy 1, 5, .inl g_kinds_f)), (a_g_voices, .inl (cy 1, 5, .inl g_voices_f))]) [4, 0, 1, 2, 3] rfl
      have hD9 := hD.sub (ws' := [(a_h, .inr (10, [.ref a_g, .ref a_df, .ref a_im, .ref a_pn, .ref a_w, .ref a_pa, .int z11, .int h_nos, .int h_fulls])), (a_g, .inr (3, [.int g_wide, .int g_high, .int g_drown, .int g_wind, .long g_hedges, .long g_fountains, .int g_people, .int g_tellings, .int g_reports, .ref a_g_kinds, .ref a_g_squares, .ref a_g_voices, .ref a_g_tellers, .ref a_g_listeners, .ref a_g_witnesses, .ref a_g_claims])), (a_g_squares, .inl (cy 1, 5, .inl g_squares_f)), (a_g_kinds, .inl (cy 1, 5, .inl g_kinds_f)), (a_g_voices, .inl (cy 1, 5, .inl g_voices_f))]) [4, 0, 1, 2, 3] (by decide) rfl
      exact W.iret (v := (-2)) hx hb hr (fun t ht hW => ⟨⟨(-2), (z11, h_nos, h_fulls, g_people, g_squares_f, g_kinds_f, g_voices_f), rfl, trivial, by rw [ht]; exact hP9, hD9⟩, hS.F ht⟩) hS.2.2 dX10_person_36
    · skip
      refine lv_iload_n hx hb dX10_person_20 rfl (lv_at hl 3 rfl) ?_
      refine lv_iconst (v := 0) hx hb dX10_person_21 (by decide) ?_
      refine lv_bipush (v := 9) hx hb dX10_person_22 (by decide) ?_
      refine rd_i (va_runS (As := [.int pz, .int 0, .int 9]) (rest := []) ⟨hx, hb, hml, hown, hts⟩ (n_X10_isWithin l D cy pz (0) (9) _ ) (va_cwS 3 hts gX10_person_X10_isWithin rfl rfl rfl (by decide +kernel) ⟨Nat.le_of_ble_eq_true rfl, Nat.le_of_ble_eq_true rfl⟩) (pS hKA pE (dE (A := A))) rfl rfl hl.1 rfl (lv_room (Nat.le_of_ble_eq_true rfl)) dX10_person_24 ⟨Nat.le_of_ble_eq_true rfl, Nat.le_of_ble_eq_true rfl⟩) hP hS hA (fun r12 H locs hwr12 hP hS => ?_)
      have hwr12 : (r12 = 1 ∧ ((0) ≤ pz ∧ pz ≤ (9))) ∨ (r12 = 0 ∧ (¬ ((0) ≤ pz ∧ pz ≤ (9)))) := hwr12
      refine lv_if_ne (tgt := 37) hx hb dX10_person_27 (by decide) (fun c13 => ?_) (fun c13 => ?_)
      · skip
        obtain ⟨hp14, hp15⟩ := z_b1 hwr12 c13
        refine lv_aload_n hx hb dX10_person_37 rfl (lv_at hl 0 rfl) ?_
        refine va_get (D := D) (ci := 10) (v := .ref a_g) (C := RX10) (T := TX10) (N := 9) hx hb hts zi10_ hown hK hP 0 rfl rfl 0 (by decide) z0_ (fun _ h9 => h9) rfl dX10_person_38 ?_
        refine lv_iload_n hx hb dX10_person_41 rfl (lv_at hl 2 rfl) ?_
        refine rd_i (va_runV (As := [.int py]) (rest := []) ⟨hx, hb, hml, hown, hts⟩ (n_X3_isFree l D cy a_g g_wide g_high g_drown g_wind g_hedges g_fountains g_people g_tellings g_reports a_g_kinds a_g_squares a_g_voices a_g_tellers a_g_listeners a_g_witnesses a_g_claims g_squares_f py _ ) (cwV 1 hts gX10_person_X3_isFree rfl rfl rfl (by decide +kernel) ⟨Nat.le_of_ble_eq_true rfl, Nat.le_of_ble_eq_true rfl⟩) (pV (ci := 3) (k := 0) hKA (hP.sub (ws' := [(a_g, .inr (3, [.int g_wide, .int g_high, .int g_drown, .int g_wind, .long g_hedges, .long g_fountains, .int g_people, .int g_tellings, .int g_reports, .ref a_g_kinds, .ref a_g_squares, .ref a_g_voices, .ref a_g_tellers, .ref a_g_listeners, .ref a_g_witnesses, .ref a_g_claims])), (a_g_squares, .inl (cy 1, 5, .inl g_squares_f))]) [1, 2] rfl) (hD.sub (ws' := [(a_g, .inr (3, [.int g_wide, .int g_high, .int g_drown, .int g_wind, .long g_hedges, .long g_fountains, .int g_people, .int g_tellings, .int g_reports, .ref a_g_kinds, .ref a_g_squares, .ref a_g_voices, .ref a_g_tellers, .ref a_g_listeners, .ref a_g_witnesses, .ref a_g_claims])), (a_g_squares, .inl (cy 1, 5, .inl g_squares_f))]) [1, 2] (by decide) rfl) rfl rfl) rfl rfl hl.1 rfl (lv_room (Nat.le_of_ble_eq_true rfl)) dX10_person_42 ⟨Nat.le_of_ble_eq_true rfl, Nat.le_of_ble_eq_true rfl⟩) hP hS hA (fun r16 H locs hwr16 hP hS => ?_)
        have hwr16 : (r16 = 1 ∧ True) ∨ (r16 = 0 ∧ True) := hwr16
        refine lv_if_ne (tgt := 55) hx hb dX10_person_45 (by decide) (fun c17 => ?_) (fun c17 => ?_)
        · skip
          refine lv_aload_n hx hb dX10_person_55 rfl (lv_at hl 0 rfl) ?_
          refine va_get (D := D) (ci := 10) (v := .ref a_g) (C := RX10) (T := TX10) (N := 9) hx hb hts zi10_ hown hK hP 0 rfl rfl 0 (by decide) z0_ (fun _ h9 => h9) rfl dX10_person_56 ?_
          refine lv_iload_n hx hb dX10_person_59 rfl (lv_at hl 1 rfl) ?_
          refine lv_iload_n hx hb dX10_person_60 rfl (lv_at hl 2 rfl) ?_
          refine lv_iload_n hx hb dX10_person_61 rfl (lv_at hl 3 rfl) ?_
          refine wr_i (wr := [(a_h, .inr (10, [.ref a_g, .ref a_df, .ref a_im, .ref a_pn, .ref a_w, .ref a_pa, .int h_bads, .int h_nos, .int h_fulls]))]) (va_runV (As := [.int px, .int py, .int pz]) (rest := []) ⟨hx, hb, hml, hown, hts⟩ (n_X3_addPerson l D cy a_g g_wide g_high g_drown g_wind g_hedges g_fountains g_people g_tellings g_reports a_g_kinds a_g_squares a_g_voices a_g_tellers a_g_listeners a_g_witnesses a_g_claims g_kinds_f g_squares_f g_voices_f px py pz _ ) (cwV 3 hts gX10_person_X3_addPerson rfl rfl rfl (by decide +kernel) ⟨Nat.le_of_ble_eq_true rfl, Nat.le_of_ble_eq_true rfl⟩) (pV (ci := 3) (k := 0) hKA (hP.sub (ws' := [(a_g, .inr (3, [.int g_wide, .int g_high, .int g_drown, .int g_wind, .long g_hedges, .long g_fountains, .int g_people, .int g_tellings, .int g_reports, .ref a_g_kinds, .ref a_g_squares, .ref a_g_voices, .ref a_g_tellers, .ref a_g_listeners, .ref a_g_witnesses, .ref a_g_claims])), (a_g_kinds, .inl (cy 1, 5, .inl g_kinds_f)), (a_g_squares, .inl (cy 1, 5, .inl g_squares_f)), (a_g_voices, .inl (cy 1, 5, .inl g_voices_f))]) [1, 3, 2, 4] rfl) (hD.sub (ws' := [(a_g, .inr (3, [.int g_wide, .int g_high, .int g_drown, .int g_wind, .long g_hedges, .long g_fountains, .int g_people, .int g_tellings, .int g_reports, .ref a_g_kinds, .ref a_g_squares, .ref a_g_voices, .ref a_g_tellers, .ref a_g_listeners, .ref a_g_witnesses, .ref a_g_claims])), (a_g_kinds, .inl (cy 1, 5, .inl g_kinds_f)), (a_g_squares, .inl (cy 1, 5, .inl g_squares_f)), (a_g_voices, .inl (cy 1, 5, .inl g_voices_f))]) [1, 3, 2, 4] (by decide) rfl) rfl rfl) rfl rfl hl.1 rfl (lv_room (Nat.le_of_ble_eq_true rfl)) dX10_person_62 ⟨Nat.le_of_ble_eq_true rfl, Nat.le_of_ble_eq_true rfl⟩) hP hD hS hA [1, 3, 2, 4] [0] rfl rfl (by decide +kernel) (by decide +kernel) (fun r18 ur18 H locs hwr18 hP hD hS => ?_)
          obtain ⟨z19, z20, z21, z22⟩ := ur18
          have hP : va_P D vwCl [(a_h, .inr (10, [.ref a_g, .ref a_df, .ref a_im, .ref a_pn, .ref a_w, .ref a_pa, .int h_bads, .int h_nos, .int h_fulls])), (a_g, .inr (3, [.int g_wide, .int g_high, .int g_drown, .int g_wind, .long g_hedges, .long g_fountains, .int z19, .int g_tellings, .int g_reports, .ref a_g_kinds, .ref a_g_squares, .ref a_g_voices, .ref a_g_tellers, .ref a_g_listeners, .ref a_g_witnesses, .ref a_g_claims])), (a_g_kinds, .inl (cy 1, 5, .inl z20)), (a_g_squares, .inl (cy 1, 5, .inl z21)), (a_g_voices, .inl (cy 1, 5, .inl z22))] H := hP
          have hD : va_D A [(a_h, .inr (10, [.ref a_g, .ref a_df, .ref a_im, .ref a_pn, .ref a_w, .ref a_pa, .int h_bads, .int h_nos, .int h_fulls])), (a_g, .inr (3, [.int g_wide, .int g_high, .int g_drown, .int g_wind, .long g_hedges, .long g_fountains, .int z19, .int g_tellings, .int g_reports, .ref a_g_kinds, .ref a_g_squares, .ref a_g_voices, .ref a_g_tellers, .ref a_g_listeners, .ref a_g_witnesses, .ref a_g_claims])), (a_g_kinds, .inl (cy 1, 5, .inl z20)), (a_g_squares, .inl (cy 1, 5, .inl z21)), (a_g_voices, .inl (cy 1, 5, .inl z22))] := hD
          refine lv_istore (lv' := [(4, .int r18), (0, .ref a_h), (1, .int px), (2, .int py), (3, .int pz)]) hx hb dX10_person_65 hl (by decide) rfl (fun ls hl => ?_)
          refine lv_iload hx hb dX10_person_67 (lv_at hl 0 rfl) ?_
          refine lv_iconst (v := (-1)) hx hb dX10_person_69 (by decide) ?_
          refine lv_icmp_ne (tgt := 80) hx hb dX10_person_70 (by decide) (fun c23 => ?_) (fun c23 => ?_)
          · skip
            refine lv_iload hx hb dX10_person_80 (lv_at hl 0 rfl) ?_
            subst hQF
            have hP9 := hP.sub (ws' := [(a_h, .inr (10, [.ref a_g, .ref a_df, .ref a_im, .ref a_pn, .ref a_w, .ref a_pa, .int h_bads, .int h_nos, .int h_fulls])), (a_g, .inr (3, [.int g_wide, .int g_high, .int g_drown, .int g_wind, .long g_hedges, .long g_fountains, .int z19, .int g_tellings, .int g_reports, .ref a_g_kinds, .ref a_g_squares, .ref a_g_voices, .ref a_g_tellers, .ref a_g_listeners, .ref a_g_witnesses, .ref a_g_claims])), (a_g_squares, .inl (cy 1, 5, .inl z21)), (a_g_kinds, .inl (cy 1, 5, .inl z20)), (a_g_voices, .inl (cy 1, 5, .inl z22))]) [0, 1, 3, 2, 4] rfl
            have hD9 := hD.sub (ws' := [(a_h, .inr (10, [.ref a_g, .ref a_df, .ref a_im, .ref a_pn, .ref a_w, .ref a_pa, .int h_bads, .int h_nos, .int h_fulls])), (a_g, .inr (3, [.int g_wide, .int g_high, .int g_drown, .int g_wind, .long g_hedges, .long g_fountains, .int z19, .int g_tellings, .int g_reports, .ref a_g_kinds, .ref a_g_squares, .ref a_g_voices, .ref a_g_tellers, .ref a_g_listeners, .ref a_g_witnesses, .ref a_g_claims])), (a_g_squares, .inl (cy 1, 5, .inl z21)), (a_g_kinds, .inl (cy 1, 5, .inl z20)), (a_g_voices, .inl (cy 1, 5, .inl z22))]) [0, 1, 3, 2, 4] (by decide) rfl
            exact W.iret (v := r18) hx hb hr (fun t ht hW => ⟨⟨r18, (h_bads, h_nos, h_fulls, z19, z21, z20, z22), rfl, trivial, by rw [ht]; exact hP9, hD9⟩, hS.F ht⟩) hS.2.2 dX10_person_82
          · skip
            refine lv_aload_n hx hb dX10_person_73 rfl (lv_at hl 1 rfl) ?_
            refine wr_i (wr := [(a_g, .inr (3, [.int g_wide, .int g_high, .int g_drown, .int g_wind, .long g_hedges, .long g_fountains, .int z19, .int g_tellings, .int g_reports, .ref a_g_kinds, .ref a_g_squares, .ref a_g_voices, .ref a_g_tellers, .ref a_g_listeners, .ref a_g_witnesses, .ref a_g_claims])), (a_g_kinds, .inl (cy 1, 5, .inl z20)), (a_g_squares, .inl (cy 1, 5, .inl z21)), (a_g_voices, .inl (cy 1, 5, .inl z22))]) (va_runV (As := []) (rest := []) ⟨hx, hb, hml, hown, hts⟩ (n_X10_refuseFull l D cy a_h a_g a_df a_im a_pn a_w a_pa h_bads h_nos h_fulls _ ) (cwV 0 hts gX10_person_X10_refuseFull rfl rfl rfl (by decide +kernel) ⟨Nat.le_of_ble_eq_true rfl, Nat.le_of_ble_eq_true rfl⟩) (pV (ci := 10) (k := 0) hKA (hP.sub (ws' := [(a_h, .inr (10, [.ref a_g, .ref a_df, .ref a_im, .ref a_pn, .ref a_w, .ref a_pa, .int h_bads, .int h_nos, .int h_fulls]))]) [0] rfl) (hD.sub (ws' := [(a_h, .inr (10, [.ref a_g, .ref a_df, .ref a_im, .ref a_pn, .ref a_w, .ref a_pa, .int h_bads, .int h_nos, .int h_fulls]))]) [0] (by decide) rfl) rfl rfl) rfl rfl hl.1 rfl (lv_room (Nat.le_of_ble_eq_true rfl)) dX10_person_74 ⟨Nat.le_of_ble_eq_true rfl, Nat.le_of_ble_eq_true rfl⟩) hP hD hS hA [0] [1, 2, 3, 4] rfl rfl (by decide +kernel) (by decide +kernel) (fun r24 ur24 H locs hwr24 hP hD hS => ?_)
            obtain ⟨z25, rfl⟩ : ∃ z, z = ur24 := ⟨_, rfl⟩
            have hP : va_P D vwCl [(a_g, .inr (3, [.int g_wide, .int g_high, .int g_drown, .int g_wind, .long g_hedges, .long g_fountains, .int z19, .int g_tellings, .int g_reports, .ref a_g_kinds, .ref a_g_squares, .ref a_g_voices, .ref a_g_tellers, .ref a_g_listeners, .ref a_g_witnesses, .ref a_g_claims])), (a_g_kinds, .inl (cy 1, 5, .inl z20)), (a_g_squares, .inl (cy 1, 5, .inl z21)), (a_g_voices, .inl (cy 1, 5, .inl z22)), (a_h, .inr (10, [.ref a_g, .ref a_df, .ref a_im, .ref a_pn, .ref a_w, .ref a_pa, .int h_bads, .int h_nos, .int z25]))] H := hP
            have hD : va_D A [(a_g, .inr (3, [.int g_wide, .int g_high, .int g_drown, .int g_wind, .long g_hedges, .long g_fountains, .int z19, .int g_tellings, .int g_reports, .ref a_g_kinds, .ref a_g_squares, .ref a_g_voices, .ref a_g_tellers, .ref a_g_listeners, .ref a_g_witnesses, .ref a_g_claims])), (a_g_kinds, .inl (cy 1, 5, .inl z20)), (a_g_squares, .inl (cy 1, 5, .inl z21)), (a_g_voices, .inl (cy 1, 5, .inl z22)), (a_h, .inr (10, [.ref a_g, .ref a_df, .ref a_im, .ref a_pn, .ref a_w, .ref a_pa, .int h_bads, .int h_nos, .int z25]))] := hD
            have hwr24 : r24 = -4 := hwr24
            subst hwr24
            refine lv_goto (tgt := 82) hx hb dX10_person_77 (by decide) ?_
            subst hQF
            have hP9 := hP.sub (ws' := [(a_h, .inr (10, [.ref a_g, .ref a_df, .ref a_im, .ref a_pn, .ref a_w, .ref a_pa, .int h_bads, .int h_nos, .int z25])), (a_g, .inr (3, [.int g_wide, .int g_high, .int g_drown, .int g_wind, .long g_hedges, .long g_fountains, .int z19, .int g_tellings, .int g_reports, .ref a_g_kinds, .ref a_g_squares, .ref a_g_voices, .ref a_g_tellers, .ref a_g_listeners, .ref a_g_witnesses, .ref a_g_claims])), (a_g_squares, .inl (cy 1, 5, .inl z21)), (a_g_kinds, .inl (cy 1, 5, .inl z20)), (a_g_voices, .inl (cy 1, 5, .inl z22))]) [4, 0, 2, 1, 3] rfl
            have hD9 := hD.sub (ws' := [(a_h, .inr (10, [.ref a_g, .ref a_df, .ref a_im, .ref a_pn, .ref a_w, .ref a_pa, .int h_bads, .int h_nos, .int z25])), (a_g, .inr (3, [.int g_wide, .int g_high, .int g_drown, .int g_wind, .long g_hedges, .long g_fountains, .int z19, .int g_tellings, .int g_reports, .ref a_g_kinds, .ref a_g_squares, .ref a_g_voices, .ref a_g_tellers, .ref a_g_listeners, .ref a_g_witnesses, .ref a_g_claims])), (a_g_squares, .inl (cy 1, 5, .inl z21)), (a_g_kinds, .inl (cy 1, 5, .inl z20)), (a_g_voices, .inl (cy 1, 5, .inl z22))]) [4, 0, 2, 1, 3] (by decide) rfl
            exact W.iret (v := (-4)) hx hb hr (fun t ht hW => ⟨⟨(-4), (h_bads, h_nos, z25, z19, z21, z20, z22), rfl, trivial, by rw [ht]; exact hP9, hD9⟩, hS.F ht⟩) hS.2.2 dX10_person_82
        · skip
          refine lv_aload_n hx hb dX10_person_48 rfl (lv_at hl 0 rfl) ?_
          refine lv_bipush (v := (-3)) hx hb dX10_person_49 (by decide) ?_
          refine wr_i (wr := [(a_g, .inr (3, [.int g_wide, .int g_high, .int g_drown, .int g_wind, .long g_hedges, .long g_fountains, .int g_people, .int g_tellings, .int g_reports, .ref a_g_kinds, .ref a_g_squares, .ref a_g_voices, .ref a_g_tellers, .ref a_g_listeners, .ref a_g_witnesses, .ref a_g_claims])), (a_g_squares, .inl (cy 1, 5, .inl g_squares_f)), (a_g_kinds, .inl (cy 1, 5, .inl g_kinds_f)), (a_g_voices, .inl (cy 1, 5, .inl g_voices_f))]) (va_runV (As := [.int (-3)]) (rest := []) ⟨hx, hb, hml, hown, hts⟩ (n_X10_refuseNo l D cy a_h a_g a_df a_im a_pn a_w a_pa h_bads h_nos h_fulls (-3) _ ) (cwV 1 hts gX10_person_X10_refuseNo rfl rfl rfl (by decide +kernel) ⟨Nat.le_of_ble_eq_true rfl, Nat.le_of_ble_eq_true rfl⟩) (pV (ci := 10) (k := 0) hKA (hP.sub (ws' := [(a_h, .inr (10, [.ref a_g, .ref a_df, .ref a_im, .ref a_pn, .ref a_w, .ref a_pa, .int h_bads, .int h_nos, .int h_fulls]))]) [0] rfl) (hD.sub (ws' := [(a_h, .inr (10, [.ref a_g, .ref a_df, .ref a_im, .ref a_pn, .ref a_w, .ref a_pa, .int h_bads, .int h_nos, .int h_fulls]))]) [0] (by decide) rfl) rfl rfl) rfl rfl hl.1 rfl (lv_room (Nat.le_of_ble_eq_true rfl)) dX10_person_51 ⟨Nat.le_of_ble_eq_true rfl, Nat.le_of_ble_eq_true rfl⟩) hP hD hS hA [0] [1, 2, 3, 4] rfl rfl (by decide +kernel) (by decide +kernel) (fun r26 ur26 H locs hwr26 hP hD hS => ?_)
          obtain ⟨z27, rfl⟩ : ∃ z, z = ur26 := ⟨_, rfl⟩
          have hP : va_P D vwCl [(a_g, .inr (3, [.int g_wide, .int g_high, .int g_drown, .int g_wind, .long g_hedges, .long g_fountains, .int g_people, .int g_tellings, .int g_reports, .ref a_g_kinds, .ref a_g_squares, .ref a_g_voices, .ref a_g_tellers, .ref a_g_listeners, .ref a_g_witnesses, .ref a_g_claims])), (a_g_squares, .inl (cy 1, 5, .inl g_squares_f)), (a_g_kinds, .inl (cy 1, 5, .inl g_kinds_f)), (a_g_voices, .inl (cy 1, 5, .inl g_voices_f)), (a_h, .inr (10, [.ref a_g, .ref a_df, .ref a_im, .ref a_pn, .ref a_w, .ref a_pa, .int h_bads, .int z27, .int h_fulls]))] H := hP
          have hD : va_D A [(a_g, .inr (3, [.int g_wide, .int g_high, .int g_drown, .int g_wind, .long g_hedges, .long g_fountains, .int g_people, .int g_tellings, .int g_reports, .ref a_g_kinds, .ref a_g_squares, .ref a_g_voices, .ref a_g_tellers, .ref a_g_listeners, .ref a_g_witnesses, .ref a_g_claims])), (a_g_squares, .inl (cy 1, 5, .inl g_squares_f)), (a_g_kinds, .inl (cy 1, 5, .inl g_kinds_f)), (a_g_voices, .inl (cy 1, 5, .inl g_voices_f)), (a_h, .inr (10, [.ref a_g, .ref a_df, .ref a_im, .ref a_pn, .ref a_w, .ref a_pa, .int h_bads, .int z27, .int h_fulls]))] := hD
          have hwr26 : r26 = (-3) := hwr26
          subst hwr26
          subst hQF
          have hP9 := hP.sub (ws' := [(a_h, .inr (10, [.ref a_g, .ref a_df, .ref a_im, .ref a_pn, .ref a_w, .ref a_pa, .int h_bads, .int z27, .int h_fulls])), (a_g, .inr (3, [.int g_wide, .int g_high, .int g_drown, .int g_wind, .long g_hedges, .long g_fountains, .int g_people, .int g_tellings, .int g_reports, .ref a_g_kinds, .ref a_g_squares, .ref a_g_voices, .ref a_g_tellers, .ref a_g_listeners, .ref a_g_witnesses, .ref a_g_claims])), (a_g_squares, .inl (cy 1, 5, .inl g_squares_f)), (a_g_kinds, .inl (cy 1, 5, .inl g_kinds_f)), (a_g_voices, .inl (cy 1, 5, .inl g_voices_f))]) [4, 0, 1, 2, 3] rfl
          have hD9 := hD.sub (ws' := [(a_h, .inr (10, [.ref a_g, .ref a_df, .ref a_im, .ref a_pn, .ref a_w, .ref a_pa, .int h_bads, .int z27, .int h_fulls])), (a_g, .inr (3, [.int g_wide, .int g_high, .int g_drown, .int g_wind, .long g_hedges, .long g_fountains, .int g_people, .int g_tellings, .int g_reports, .ref a_g_kinds, .ref a_g_squares, .ref a_g_voices, .ref a_g_tellers, .ref a_g_listeners, .ref a_g_witnesses, .ref a_g_claims])), (a_g_squares, .inl (cy 1, 5, .inl g_squares_f)), (a_g_kinds, .inl (cy 1, 5, .inl g_kinds_f)), (a_g_voices, .inl (cy 1, 5, .inl g_voices_f))]) [4, 0, 1, 2, 3] (by decide) rfl
          exact W.iret (v := (-3)) hx hb hr (fun t ht hW => ⟨⟨(-3), (h_bads, z27, h_fulls, g_people, g_squares_f, g_kinds_f, g_voices_f), rfl, trivial, by rw [ht]; exact hP9, hD9⟩, hS.F ht⟩) hS.2.2 dX10_person_54
      · skip
        have hq28 := z_b0 hwr12 c13
        refine lv_aload_n hx hb dX10_person_30 rfl (lv_at hl 0 rfl) ?_
        refine lv_bipush (v := (-2)) hx hb dX10_person_31 (by decide) ?_
        refine wr_i (wr := [(a_g, .inr (3, [.int g_wide, .int g_high, .int g_drown, .int g_wind, .long g_hedges, .long g_fountains, .int g_people, .int g_tellings, .int g_reports, .ref a_g_kinds, .ref a_g_squares, .ref a_g_voices, .ref a_g_tellers, .ref a_g_listeners, .ref a_g_witnesses, .ref a_g_claims])), (a_g_squares, .inl (cy 1, 5, .inl g_squares_f)), (a_g_kinds, .inl (cy 1, 5, .inl g_kinds_f)), (a_g_voices, .inl (cy 1, 5, .inl g_voices_f))]) (va_runV (As := [.int (-2)]) (rest := []) ⟨hx, hb, hml, hown, hts⟩ (n_X10_refuseBad l D cy a_h a_g a_df a_im a_pn a_w a_pa h_bads h_nos h_fulls (-2) _ ) (cwV 1 hts gX10_person_X10_refuseBad rfl rfl rfl (by decide +kernel) ⟨Nat.le_of_ble_eq_true rfl, Nat.le_of_ble_eq_true rfl⟩) (pV (ci := 10) (k := 0) hKA (hP.sub (ws' := [(a_h, .inr (10, [.ref a_g, .ref a_df, .ref a_im, .ref a_pn, .ref a_w, .ref a_pa, .int h_bads, .int h_nos, .int h_fulls]))]) [0] rfl) (hD.sub (ws' := [(a_h, .inr (10, [.ref a_g, .ref a_df, .ref a_im, .ref a_pn, .ref a_w, .ref a_pa, .int h_bads, .int h_nos, .int h_fulls]))]) [0] (by decide) rfl) rfl rfl) rfl rfl hl.1 rfl (lv_room (Nat.le_of_ble_eq_true rfl)) dX10_person_33 ⟨Nat.le_of_ble_eq_true rfl, Nat.le_of_ble_eq_true rfl⟩) hP hD hS hA [0] [1, 2, 3, 4] rfl rfl (by decide +kernel) (by decide +kernel) (fun r29 ur29 H locs hwr29 hP hD hS => ?_)
        obtain ⟨z30, rfl⟩ : ∃ z, z = ur29 := ⟨_, rfl⟩
        have hP : va_P D vwCl [(a_g, .inr (3, [.int g_wide, .int g_high, .int g_drown, .int g_wind, .long g_hedges, .long g_fountains, .int g_people, .int g_tellings, .int g_reports, .ref a_g_kinds, .ref a_g_squares, .ref a_g_voices, .ref a_g_tellers, .ref a_g_listeners, .ref a_g_witnesses, .ref a_g_claims])), (a_g_squares, .inl (cy 1, 5, .inl g_squares_f)), (a_g_kinds, .inl (cy 1, 5, .inl g_kinds_f)), (a_g_voices, .inl (cy 1, 5, .inl g_voices_f)), (a_h, .inr (10, [.ref a_g, .ref a_df, .ref a_im, .ref a_pn, .ref a_w, .ref a_pa, .int z30, .int h_nos, .int h_fulls]))] H := hP
        have hD : va_D A [(a_g, .inr (3, [.int g_wide, .int g_high, .int g_drown, .int g_wind, .long g_hedges, .long g_fountains, .int g_people, .int g_tellings, .int g_reports, .ref a_g_kinds, .ref a_g_squares, .ref a_g_voices, .ref a_g_tellers, .ref a_g_listeners, .ref a_g_witnesses, .ref a_g_claims])), (a_g_squares, .inl (cy 1, 5, .inl g_squares_f)), (a_g_kinds, .inl (cy 1, 5, .inl g_kinds_f)), (a_g_voices, .inl (cy 1, 5, .inl g_voices_f)), (a_h, .inr (10, [.ref a_g, .ref a_df, .ref a_im, .ref a_pn, .ref a_w, .ref a_pa, .int z30, .int h_nos, .int h_fulls]))] := hD
        have hwr29 : r29 = (-2) := hwr29
        subst hwr29
        subst hQF
        have hP9 := hP.sub (ws' := [(a_h, .inr (10, [.ref a_g, .ref a_df, .ref a_im, .ref a_pn, .ref a_w, .ref a_pa, .int z30, .int h_nos, .int h_fulls])), (a_g, .inr (3, [.int g_wide, .int g_high, .int g_drown, .int g_wind, .long g_hedges, .long g_fountains, .int g_people, .int g_tellings, .int g_reports, .ref a_g_kinds, .ref a_g_squares, .ref a_g_voices, .ref a_g_tellers, .ref a_g_listeners, .ref a_g_witnesses, .ref a_g_claims])), (a_g_squares, .inl (cy 1, 5, .inl g_squares_f)), (a_g_kinds, .inl (cy 1, 5, .inl g_kinds_f)), (a_g_voices, .inl (cy 1, 5, .inl g_voices_f))]) [4, 0, 1, 2, 3] rfl
        have hD9 := hD.sub (ws' := [(a_h, .inr (10, [.ref a_g, .ref a_df, .ref a_im, .ref a_pn, .ref a_w, .ref a_pa, .int z30, .int h_nos, .int h_fulls])), (a_g, .inr (3, [.int g_wide, .int g_high, .int g_drown, .int g_wind, .long g_hedges, .long g_fountains, .int g_people, .int g_tellings, .int g_reports, .ref a_g_kinds, .ref a_g_squares, .ref a_g_voices, .ref a_g_tellers, .ref a_g_listeners, .ref a_g_witnesses, .ref a_g_claims])), (a_g_squares, .inl (cy 1, 5, .inl g_squares_f)), (a_g_kinds, .inl (cy 1, 5, .inl g_kinds_f)), (a_g_voices, .inl (cy 1, 5, .inl g_voices_f))]) [4, 0, 1, 2, 3] (by decide) rfl
        exact W.iret (v := (-2)) hx hb hr (fun t ht hW => ⟨⟨(-2), (z30, h_nos, h_fulls, g_people, g_squares_f, g_kinds_f, g_voices_f), rfl, trivial, by rw [ht]; exact hP9, hD9⟩, hS.F ht⟩) hS.2.2 dX10_person_36

set_option maxHeartbeats 4000000 in
set_option maxRecDepth 100000 in
theorem n_X10_move (l : Launch) (D : va_G) (cy : Nat → ClassId) (a_h : Nat) (a_g : Nat) (a_df : Nat) (a_im : Nat) (a_pn : Nat) (a_w : Nat) (a_pa : Nat) (h_bads : Int32) (h_nos : Int32) (h_fulls : Int32) (g_wide : Int32) (g_high : Int32) (g_drown : Int32) (g_wind : Int32) (g_hedges : Int64) (g_fountains : Int64) (g_people : Int32) (g_tellings : Int32) (g_reports : Int32) (a_g_kinds : Nat) (a_g_squares : Nat) (a_g_voices : Nat) (a_g_tellers : Nat) (a_g_listeners : Nat) (a_g_witnesses : Nat) (a_g_claims : Nat) (g_squares_f : Nat → Int32) (px : Int32) (py : Int32) (sz : Nat)  : Met l yX10_move wsX10_move ({ frames := 3, cells := 0, slots := 0, locals := 65 }) (va_Pc [.ref a_h, .int px, .int py] (kPre D cy [(a_h, .inr (10, [.ref a_g, .ref a_df, .ref a_im, .ref a_pn, .ref a_w, .ref a_pa, .int h_bads, .int h_nos, .int h_fulls])), (a_g, .inr (3, [.int g_wide, .int g_high, .int g_drown, .int g_wind, .long g_hedges, .long g_fountains, .int g_people, .int g_tellings, .int g_reports, .ref a_g_kinds, .ref a_g_squares, .ref a_g_voices, .ref a_g_tellers, .ref a_g_listeners, .ref a_g_witnesses, .ref a_g_claims])), (a_g_squares, .inl (cy 1, 5, .inl g_squares_f))] sz)) (va_Qi (fun (r : Int32) (u : Int32 × Int32 × (Nat → Int32)) => True) (fun (u : Int32 × Int32 × (Nat → Int32)) t => va_P D vwCl ([(a_h, .inr (10, [.ref a_g, .ref a_df, .ref a_im, .ref a_pn, .ref a_w, .ref a_pa, .int u.1, .int u.2.1, .int h_fulls])), (a_g, .inr (3, [.int g_wide, .int g_high, .int g_drown, .int g_wind, .long g_hedges, .long g_fountains, .int g_people, .int g_tellings, .int g_reports, .ref a_g_kinds, .ref a_g_squares, .ref a_g_voices, .ref a_g_tellers, .ref a_g_listeners, .ref a_g_witnesses, .ref a_g_claims])), (a_g_squares, .inl (cy 1, 5, .inl u.2.2))]) t.heap ∧ va_D (va_A [(a_h, .inr (10, [.ref a_g, .ref a_df, .ref a_im, .ref a_pn, .ref a_w, .ref a_pa, .int h_bads, .int h_nos, .int h_fulls])), (a_g, .inr (3, [.int g_wide, .int g_high, .int g_drown, .int g_wind, .long g_hedges, .long g_fountains, .int g_people, .int g_tellings, .int g_reports, .ref a_g_kinds, .ref a_g_squares, .ref a_g_voices, .ref a_g_tellers, .ref a_g_listeners, .ref a_g_witnesses, .ref a_g_claims])), (a_g_squares, .inl (cy 1, 5, .inl g_squares_f))] sz) ([(a_h, .inr (10, [.ref a_g, .ref a_df, .ref a_im, .ref a_pn, .ref a_w, .ref a_pa, .int u.1, .int u.2.1, .int h_fulls])), (a_g, .inr (3, [.int g_wide, .int g_high, .int g_drown, .int g_wind, .long g_hedges, .long g_fountains, .int g_people, .int g_tellings, .int g_reports, .ref a_g_kinds, .ref a_g_squares, .ref a_g_voices, .ref a_g_tellers, .ref a_g_listeners, .ref a_g_witnesses, .ref a_g_claims])), (a_g_squares, .inl (cy 1, 5, .inl u.2.2))])) (va_A [(a_h, .inr (10, [.ref a_g, .ref a_df, .ref a_im, .ref a_pn, .ref a_w, .ref a_pa, .int h_bads, .int h_nos, .int h_fulls])), (a_g, .inr (3, [.int g_wide, .int g_high, .int g_drown, .int g_wind, .long g_hedges, .long g_fountains, .int g_people, .int g_tellings, .int g_reports, .ref a_g_kinds, .ref a_g_squares, .ref a_g_voices, .ref a_g_tellers, .ref a_g_listeners, .ref a_g_witnesses, .ref a_g_claims])), (a_g_squares, .inl (cy 1, 5, .inl g_squares_f))] sz)) 0 0 (va_A [(a_h, .inr (10, [.ref a_g, .ref a_df, .ref a_im, .ref a_pn, .ref a_w, .ref a_pa, .int h_bads, .int h_nos, .int h_fulls])), (a_g, .inr (3, [.int g_wide, .int g_high, .int g_drown, .int g_wind, .long g_hedges, .long g_fountains, .int g_people, .int g_tellings, .int g_reports, .ref a_g_kinds, .ref a_g_squares, .ref a_g_voices, .ref a_g_tellers, .ref a_g_listeners, .ref a_g_witnesses, .ref a_g_claims])), (a_g_squares, .inl (cy 1, 5, .inl g_squares_f))] sz) := by
  refine Met.ofW (cc := cX10_move) (maxL := 4) (ret := (some .int)) (by decide) rfl ?_
  intro p e s m args below meth c s₁ B hml hv
  obtain ⟨rfl, hsz, hP, hKA, hD0⟩ := hv
  have hx := B.exec
  have hb := B.bytes
  have hr := B.returns
  have hts := atoms_spec (ws := wsX10_move) B.pre
  have hown : s.vm.findClass RX10 = some m.cls := findClass_of_methodNamed B.named
  have hlocks := B.notSynchronized
  subst hsz
  have hK := hKA.1
  have hD := hD0.self (sz := s.heap.size)
  generalize hAe : va_A [(a_h, .inr (10, [.ref a_g, .ref a_df, .ref a_im, .ref a_pn, .ref a_w, .ref a_pa, .int h_bads, .int h_nos, .int h_fulls])), (a_g, .inr (3, [.int g_wide, .int g_high, .int g_drown, .int g_wind, .long g_hedges, .long g_fountains, .int g_people, .int g_tellings, .int g_reports, .ref a_g_kinds, .ref a_g_squares, .ref a_g_voices, .ref a_g_tellers, .ref a_g_listeners, .ref a_g_witnesses, .ref a_g_claims])), (a_g_squares, .inl (cy 1, 5, .inl g_squares_f))] s.heap.size = A at hD ⊢
  have hA : ∀ q : Nat, s.heap.size ≤ q → A q := fun q h => by rw [← hAe]; exact Or.inr h
  have hS : va_S A s.heap s.heap [] := va_S.rf
  have hP : va_P D vwCl [(a_h, .inr (10, [.ref a_g, .ref a_df, .ref a_im, .ref a_pn, .ref a_w, .ref a_pa, .int h_bads, .int h_nos, .int h_fulls])), (a_g, .inr (3, [.int g_wide, .int g_high, .int g_drown, .int g_wind, .long g_hedges, .long g_fountains, .int g_people, .int g_tellings, .int g_reports, .ref a_g_kinds, .ref a_g_squares, .ref a_g_voices, .ref a_g_tellers, .ref a_g_listeners, .ref a_g_witnesses, .ref a_g_claims])), (a_g_squares, .inl (cy 1, 5, .inl g_squares_f))] s.heap := hP
  have hl := lv_entry ([.ref a_h, .int px, .int py]) (n := 4) (Nat.le_of_ble_eq_true rfl)
  rw [lg_entry_eq]
  generalize (lg_sl ([.ref a_h, .int px, .int py]) ++ List.replicate (4 - (lg_sl ([.ref a_h, .int px, .int py])).length) Slot.unset).toArray = ls at hl ⊢
  have hl : lv_has ls 4 [(0, .ref a_h), (1, .int px), (2, .int py)] := hl
  refine qW (fun QF hQF => ?_)
  have z0_ := hts (.fieldLink RX10 10 "HeardSeen" "now" "LHeardSeen$Garden;") (by decide +kernel)
  have zi10_ : ∀ w ∈ u_ws RX10 TX10 9, w ∈ wsX10_move := by decide +kernel
  refine lv_aload_n hx hb dX10_move_0 rfl (lv_at hl 0 rfl) ?_
  refine va_get (D := D) (ci := 10) (v := .ref a_g) (C := RX10) (T := TX10) (N := 9) hx hb hts zi10_ hown hK hP 0 rfl rfl 0 (by decide) z0_ (fun _ h9 => h9) rfl dX10_move_1 ?_
  refine lv_iload_n hx hb dX10_move_4 rfl (lv_at hl 1 rfl) ?_
  refine rd_i (va_runV (As := [.int px]) (rest := []) ⟨hx, hb, hml, hown, hts⟩ (n_X3_isPerson l D cy a_g g_wide g_high g_drown g_wind g_hedges g_fountains g_people g_tellings g_reports a_g_kinds a_g_squares a_g_voices a_g_tellers a_g_listeners a_g_witnesses a_g_claims px _ ) (cwV 1 hts gX10_move_X3_isPerson rfl rfl rfl (by decide +kernel) ⟨Nat.le_of_ble_eq_true rfl, Nat.le_of_ble_eq_true rfl⟩) (pV (ci := 3) (k := 0) hKA (hP.sub (ws' := [(a_g, .inr (3, [.int g_wide, .int g_high, .int g_drown, .int g_wind, .long g_hedges, .long g_fountains, .int g_people, .int g_tellings, .int g_reports, .ref a_g_kinds, .ref a_g_squares, .ref a_g_voices, .ref a_g_tellers, .ref a_g_listeners, .ref a_g_witnesses, .ref a_g_claims]))]) [1] rfl) (hD.sub (ws' := [(a_g, .inr (3, [.int g_wide, .int g_high, .int g_drown, .int g_wind, .long g_hedges, .long g_fountains, .int g_people, .int g_tellings, .int g_reports, .ref a_g_kinds, .ref a_g_squares, .ref a_g_voices, .ref a_g_tellers, .ref a_g_listeners, .ref a_g_witnesses, .ref a_g_claims]))]) [1] (by decide) rfl) rfl rfl) rfl rfl hl.1 rfl (lv_room (Nat.le_of_ble_eq_true rfl)) dX10_move_5 ⟨Nat.le_of_ble_eq_true rfl, Nat.le_of_ble_eq_true rfl⟩) hP hS hA (fun r1 H locs hwr1 hP hS => ?_)
  have hwr1 : (r1 = 1 ∧ (0 ≤ px ∧ px < g_people ∧ px < 5)) ∨ (r1 = 0 ∧ True) := hwr1
  refine lv_if_eq (tgt := 22) hx hb dX10_move_8 (by decide) (fun c2 => ?_) (fun c2 => ?_)
  · skip
    refine lv_aload_n hx hb dX10_move_22 rfl (lv_at hl 0 rfl) ?_
    refine lv_bipush (v := (-10)) hx hb dX10_move_23 (by decide) ?_
    refine wr_i (wr := [(a_g, .inr (3, [.int g_wide, .int g_high, .int g_drown, .int g_wind, .long g_hedges, .long g_fountains, .int g_people, .int g_tellings, .int g_reports, .ref a_g_kinds, .ref a_g_squares, .ref a_g_voices, .ref a_g_tellers, .ref a_g_listeners, .ref a_g_witnesses, .ref a_g_claims])), (a_g_squares, .inl (cy 1, 5, .inl g_squares_f))]) (va_runV (As := [.int (-10)]) (rest := []) ⟨hx, hb, hml, hown, hts⟩ (n_X10_refuseBad l D cy a_h a_g a_df a_im a_pn a_w a_pa h_bads h_nos h_fulls (-10) _ ) (cwV 1 hts gX10_move_X10_refuseBad rfl rfl rfl (by decide +kernel) ⟨Nat.le_of_ble_eq_true rfl, Nat.le_of_ble_eq_true rfl⟩) (pV (ci := 10) (k := 0) hKA (hP.sub (ws' := [(a_h, .inr (10, [.ref a_g, .ref a_df, .ref a_im, .ref a_pn, .ref a_w, .ref a_pa, .int h_bads, .int h_nos, .int h_fulls]))]) [0] rfl) (hD.sub (ws' := [(a_h, .inr (10, [.ref a_g, .ref a_df, .ref a_im, .ref a_pn, .ref a_w, .ref a_pa, .int h_bads, .int h_nos, .int h_fulls]))]) [0] (by decide) rfl) rfl rfl) rfl rfl hl.1 rfl (lv_room (Nat.le_of_ble_eq_true rfl)) dX10_move_25 ⟨Nat.le_of_ble_eq_true rfl, Nat.le_of_ble_eq_true rfl⟩) hP hD hS hA [0] [1, 2] rfl rfl (by decide +kernel) (by decide +kernel) (fun r3 ur3 H locs hwr3 hP hD hS => ?_)
    obtain ⟨z4, rfl⟩ : ∃ z, z = ur3 := ⟨_, rfl⟩
    have hP : va_P D vwCl [(a_g, .inr (3, [.int g_wide, .int g_high, .int g_drown, .int g_wind, .long g_hedges, .long g_fountains, .int g_people, .int g_tellings, .int g_reports, .ref a_g_kinds, .ref a_g_squares, .ref a_g_voices, .ref a_g_tellers, .ref a_g_listeners, .ref a_g_witnesses, .ref a_g_claims])), (a_g_squares, .inl (cy 1, 5, .inl g_squares_f)), (a_h, .inr (10, [.ref a_g, .ref a_df, .ref a_im, .ref a_pn, .ref a_w, .ref a_pa, .int z4, .int h_nos, .int h_fulls]))] H := hP
    have hD : va_D A [(a_g, .inr (3, [.int g_wide, .int g_high, .int g_drown, .int g_wind, .long g_hedges, .long g_fountains, .int g_people, .int g_tellings, .int g_reports, .ref a_g_kinds, .ref a_g_squares, .ref a_g_voices, .ref a_g_tellers, .ref a_g_listeners, .ref a_g_witnesses, .ref a_g_claims])), (a_g_squares, .inl (cy 1, 5, .inl g_squares_f)), (a_h, .inr (10, [.ref a_g, .ref a_df, .ref a_im, .ref a_pn, .ref a_w, .ref a_pa, .int z4, .int h_nos, .int h_fulls]))] := hD
    have hwr3 : r3 = (-10) := hwr3
    subst hwr3
    subst hQF
    have hP9 := hP.sub (ws' := [(a_h, .inr (10, [.ref a_g, .ref a_df, .ref a_im, .ref a_pn, .ref a_w, .ref a_pa, .int z4, .int h_nos, .int h_fulls])), (a_g, .inr (3, [.int g_wide, .int g_high, .int g_drown, .int g_wind, .long g_hedges, .long g_fountains, .int g_people, .int g_tellings, .int g_reports, .ref a_g_kinds, .ref a_g_squares, .ref a_g_voices, .ref a_g_tellers, .ref a_g_listeners, .ref a_g_witnesses, .ref a_g_claims])), (a_g_squares, .inl (cy 1, 5, .inl g_squares_f))]) [2, 0, 1] rfl
    have hD9 := hD.sub (ws' := [(a_h, .inr (10, [.ref a_g, .ref a_df, .ref a_im, .ref a_pn, .ref a_w, .ref a_pa, .int z4, .int h_nos, .int h_fulls])), (a_g, .inr (3, [.int g_wide, .int g_high, .int g_drown, .int g_wind, .long g_hedges, .long g_fountains, .int g_people, .int g_tellings, .int g_reports, .ref a_g_kinds, .ref a_g_squares, .ref a_g_voices, .ref a_g_tellers, .ref a_g_listeners, .ref a_g_witnesses, .ref a_g_claims])), (a_g_squares, .inl (cy 1, 5, .inl g_squares_f))]) [2, 0, 1] (by decide) rfl
    exact W.iret (v := (-10)) hx hb hr (fun t ht hW => ⟨⟨(-10), (z4, h_nos, g_squares_f), rfl, trivial, by rw [ht]; exact hP9, hD9⟩, hS.F ht⟩) hS.2.2 dX10_move_28
  · skip
    obtain ⟨hp5, hp6, hp7⟩ := z_b1 hwr1 c2
    refine lv_aload_n hx hb dX10_move_11 rfl (lv_at hl 0 rfl) ?_
    refine va_get (D := D) (ci := 10) (v := .ref a_g) (C := RX10) (T := TX10) (N := 9) hx hb hts zi10_ hown hK hP 0 rfl rfl 0 (by decide) z0_ (fun _ h9 => h9) rfl dX10_move_12 ?_
    refine lv_iload_n hx hb dX10_move_15 rfl (lv_at hl 2 rfl) ?_
    refine rd_i (va_runV (As := [.int py]) (rest := []) ⟨hx, hb, hml, hown, hts⟩ (n_X3_isSquare l D cy a_g g_wide g_high g_drown g_wind g_hedges g_fountains g_people g_tellings g_reports a_g_kinds a_g_squares a_g_voices a_g_tellers a_g_listeners a_g_witnesses a_g_claims py _ ) (cwV 1 hts gX10_move_X3_isSquare rfl rfl rfl (by decide +kernel) ⟨Nat.le_of_ble_eq_true rfl, Nat.le_of_ble_eq_true rfl⟩) (pV (ci := 3) (k := 0) hKA (hP.sub (ws' := [(a_g, .inr (3, [.int g_wide, .int g_high, .int g_drown, .int g_wind, .long g_hedges, .long g_fountains, .int g_people, .int g_tellings, .int g_reports, .ref a_g_kinds, .ref a_g_squares, .ref a_g_voices, .ref a_g_tellers, .ref a_g_listeners, .ref a_g_witnesses, .ref a_g_claims]))]) [1] rfl) (hD.sub (ws' := [(a_g, .inr (3, [.int g_wide, .int g_high, .int g_drown, .int g_wind, .long g_hedges, .long g_fountains, .int g_people, .int g_tellings, .int g_reports, .ref a_g_kinds, .ref a_g_squares, .ref a_g_voices, .ref a_g_tellers, .ref a_g_listeners, .ref a_g_witnesses, .ref a_g_claims]))]) [1] (by decide) rfl) rfl rfl) rfl rfl hl.1 rfl (lv_room (Nat.le_of_ble_eq_true rfl)) dX10_move_16 ⟨Nat.le_of_ble_eq_true rfl, Nat.le_of_ble_eq_true rfl⟩) hP hS hA (fun r8 H locs hwr8 hP hS => ?_)
    have hwr8 : (r8 = 1 ∧ True) ∨ (r8 = 0 ∧ True) := hwr8
    refine lv_if_ne (tgt := 29) hx hb dX10_move_19 (by decide) (fun c9 => ?_) (fun c9 => ?_)
    · skip
      refine lv_aload_n hx hb dX10_move_29 rfl (lv_at hl 0 rfl) ?_
      refine va_get (D := D) (ci := 10) (v := .ref a_g) (C := RX10) (T := TX10) (N := 9) hx hb hts zi10_ hown hK hP 0 rfl rfl 0 (by decide) z0_ (fun _ h9 => h9) rfl dX10_move_30 ?_
      refine lv_iload_n hx hb dX10_move_33 rfl (lv_at hl 1 rfl) ?_
      refine rd_i (va_runV (As := [.int px]) (rest := []) ⟨hx, hb, hml, hown, hts⟩ (n_X3_squareOf l D cy a_g g_wide g_high g_drown g_wind g_hedges g_fountains g_people g_tellings g_reports a_g_kinds a_g_squares a_g_voices a_g_tellers a_g_listeners a_g_witnesses a_g_claims g_squares_f px _ ) (cwV 1 hts gX10_move_X3_squareOf rfl rfl rfl (by decide +kernel) ⟨Nat.le_of_ble_eq_true rfl, Nat.le_of_ble_eq_true rfl⟩) (pV (ci := 3) (k := 0) hKA (hP.sub (ws' := [(a_g, .inr (3, [.int g_wide, .int g_high, .int g_drown, .int g_wind, .long g_hedges, .long g_fountains, .int g_people, .int g_tellings, .int g_reports, .ref a_g_kinds, .ref a_g_squares, .ref a_g_voices, .ref a_g_tellers, .ref a_g_listeners, .ref a_g_witnesses, .ref a_g_claims])), (a_g_squares, .inl (cy 1, 5, .inl g_squares_f))]) [1, 2] rfl) (hD.sub (ws' := [(a_g, .inr (3, [.int g_wide, .int g_high, .int g_drown, .int g_wind, .long g_hedges, .long g_fountains, .int g_people, .int g_tellings, .int g_reports, .ref a_g_kinds, .ref a_g_squares, .ref a_g_voices, .ref a_g_tellers, .ref a_g_listeners, .ref a_g_witnesses, .ref a_g_claims])), (a_g_squares, .inl (cy 1, 5, .inl g_squares_f))]) [1, 2] (by decide) rfl) rfl rfl) rfl rfl hl.1 rfl (lv_room (Nat.le_of_ble_eq_true rfl)) dX10_move_34 ⟨Nat.le_of_ble_eq_true rfl, Nat.le_of_ble_eq_true rfl⟩) hP hS hA (fun r10 H locs hwr10 hP hS => ?_)
      refine lv_istore_n (lv' := [(3, .int r10), (0, .ref a_h), (1, .int px), (2, .int py)]) hx hb dX10_move_37 rfl hl (by decide) rfl (fun ls hl => ?_)
      refine lv_iload_n hx hb dX10_move_38 rfl (lv_at hl 3 rfl) ?_
      refine lv_iload_n hx hb dX10_move_39 rfl (lv_at hl 0 rfl) ?_
      refine lv_icmp_eq (tgt := 61) hx hb dX10_move_40 (by decide) (fun c11 => ?_) (fun c11 => ?_)
      · skip
        refine lv_aload_n hx hb dX10_move_61 rfl (lv_at hl 1 rfl) ?_
        refine va_get (D := D) (ci := 10) (v := .ref a_g) (C := RX10) (T := TX10) (N := 9) hx hb hts zi10_ hown hK hP 0 rfl rfl 0 (by decide) z0_ (fun _ h9 => h9) rfl dX10_move_62 ?_
        refine lv_iload_n hx hb dX10_move_65 rfl (lv_at hl 2 rfl) ?_
        refine lv_iload_n hx hb dX10_move_66 rfl (lv_at hl 3 rfl) ?_
        refine wr_v (wr := [(a_h, .inr (10, [.ref a_g, .ref a_df, .ref a_im, .ref a_pn, .ref a_w, .ref a_pa, .int h_bads, .int h_nos, .int h_fulls]))]) (va_runV (As := [.int px, .int py]) (rest := []) ⟨hx, hb, hml, hown, hts⟩ (n_X3_stand l D cy a_g g_wide g_high g_drown g_wind g_hedges g_fountains g_people g_tellings g_reports a_g_kinds a_g_squares a_g_voices a_g_tellers a_g_listeners a_g_witnesses a_g_claims g_squares_f px py _ ) (cwV 2 hts gX10_move_X3_stand rfl rfl rfl (by decide +kernel) ⟨Nat.le_of_ble_eq_true rfl, Nat.le_of_ble_eq_true rfl⟩) (pV (ci := 3) (k := 0) hKA (hP.sub (ws' := [(a_g, .inr (3, [.int g_wide, .int g_high, .int g_drown, .int g_wind, .long g_hedges, .long g_fountains, .int g_people, .int g_tellings, .int g_reports, .ref a_g_kinds, .ref a_g_squares, .ref a_g_voices, .ref a_g_tellers, .ref a_g_listeners, .ref a_g_witnesses, .ref a_g_claims])), (a_g_squares, .inl (cy 1, 5, .inl g_squares_f))]) [1, 2] rfl) (hD.sub (ws' := [(a_g, .inr (3, [.int g_wide, .int g_high, .int g_drown, .int g_wind, .long g_hedges, .long g_fountains, .int g_people, .int g_tellings, .int g_reports, .ref a_g_kinds, .ref a_g_squares, .ref a_g_voices, .ref a_g_tellers, .ref a_g_listeners, .ref a_g_witnesses, .ref a_g_claims])), (a_g_squares, .inl (cy 1, 5, .inl g_squares_f))]) [1, 2] (by decide) rfl) rfl rfl) rfl rfl hl.1 rfl (lv_room (Nat.le_of_ble_eq_true rfl)) dX10_move_67 ⟨Nat.le_of_ble_eq_true rfl, Nat.le_of_ble_eq_true rfl⟩) hP hD hS hA [1, 2] [0] rfl rfl (by decide +kernel) (by decide +kernel) (fun ur12 H locs hwr12 hP hD hS => ?_)
        obtain ⟨z13, rfl⟩ : ∃ z, z = ur12 := ⟨_, rfl⟩
        have hP : va_P D vwCl [(a_h, .inr (10, [.ref a_g, .ref a_df, .ref a_im, .ref a_pn, .ref a_w, .ref a_pa, .int h_bads, .int h_nos, .int h_fulls])), (a_g, .inr (3, [.int g_wide, .int g_high, .int g_drown, .int g_wind, .long g_hedges, .long g_fountains, .int g_people, .int g_tellings, .int g_reports, .ref a_g_kinds, .ref a_g_squares, .ref a_g_voices, .ref a_g_tellers, .ref a_g_listeners, .ref a_g_witnesses, .ref a_g_claims])), (a_g_squares, .inl (cy 1, 5, .inl z13))] H := hP
        have hD : va_D A [(a_h, .inr (10, [.ref a_g, .ref a_df, .ref a_im, .ref a_pn, .ref a_w, .ref a_pa, .int h_bads, .int h_nos, .int h_fulls])), (a_g, .inr (3, [.int g_wide, .int g_high, .int g_drown, .int g_wind, .long g_hedges, .long g_fountains, .int g_people, .int g_tellings, .int g_reports, .ref a_g_kinds, .ref a_g_squares, .ref a_g_voices, .ref a_g_tellers, .ref a_g_listeners, .ref a_g_witnesses, .ref a_g_claims])), (a_g_squares, .inl (cy 1, 5, .inl z13))] := hD
        refine lv_iload_n hx hb dX10_move_70 rfl (lv_at hl 0 rfl) ?_
        subst hQF
        have hP9 := hP
        have hD9 := hD
        exact W.iret (v := r10) hx hb hr (fun t ht hW => ⟨⟨r10, (h_bads, h_nos, z13), rfl, trivial, by rw [ht]; exact hP9, hD9⟩, hS.F ht⟩) hS.2.2 dX10_move_71
      · skip
        refine lv_aload_n hx hb dX10_move_43 rfl (lv_at hl 1 rfl) ?_
        refine va_get (D := D) (ci := 10) (v := .ref a_g) (C := RX10) (T := TX10) (N := 9) hx hb hts zi10_ hown hK hP 0 rfl rfl 0 (by decide) z0_ (fun _ h9 => h9) rfl dX10_move_44 ?_
        refine lv_iload_n hx hb dX10_move_47 rfl (lv_at hl 3 rfl) ?_
        refine rd_i (va_runV (As := [.int py]) (rest := []) ⟨hx, hb, hml, hown, hts⟩ (n_X3_isFree l D cy a_g g_wide g_high g_drown g_wind g_hedges g_fountains g_people g_tellings g_reports a_g_kinds a_g_squares a_g_voices a_g_tellers a_g_listeners a_g_witnesses a_g_claims g_squares_f py _ ) (cwV 1 hts gX10_move_X3_isFree rfl rfl rfl (by decide +kernel) ⟨Nat.le_of_ble_eq_true rfl, Nat.le_of_ble_eq_true rfl⟩) (pV (ci := 3) (k := 0) hKA (hP.sub (ws' := [(a_g, .inr (3, [.int g_wide, .int g_high, .int g_drown, .int g_wind, .long g_hedges, .long g_fountains, .int g_people, .int g_tellings, .int g_reports, .ref a_g_kinds, .ref a_g_squares, .ref a_g_voices, .ref a_g_tellers, .ref a_g_listeners, .ref a_g_witnesses, .ref a_g_claims])), (a_g_squares, .inl (cy 1, 5, .inl g_squares_f))]) [1, 2] rfl) (hD.sub (ws' := [(a_g, .inr (3, [.int g_wide, .int g_high, .int g_drown, .int g_wind, .long g_hedges, .long g_fountains, .int g_people, .int g_tellings, .int g_reports, .ref a_g_kinds, .ref a_g_squares, .ref a_g_voices, .ref a_g_tellers, .ref a_g_listeners, .ref a_g_witnesses, .ref a_g_claims])), (a_g_squares, .inl (cy 1, 5, .inl g_squares_f))]) [1, 2] (by decide) rfl) rfl rfl) rfl rfl hl.1 rfl (lv_room (Nat.le_of_ble_eq_true rfl)) dX10_move_48 ⟨Nat.le_of_ble_eq_true rfl, Nat.le_of_ble_eq_true rfl⟩) hP hS hA (fun r14 H locs hwr14 hP hS => ?_)
        have hwr14 : (r14 = 1 ∧ True) ∨ (r14 = 0 ∧ True) := hwr14
        refine lv_if_ne (tgt := 61) hx hb dX10_move_51 (by decide) (fun c15 => ?_) (fun c15 => ?_)
        · skip
          refine lv_aload_n hx hb dX10_move_61 rfl (lv_at hl 1 rfl) ?_
          refine va_get (D := D) (ci := 10) (v := .ref a_g) (C := RX10) (T := TX10) (N := 9) hx hb hts zi10_ hown hK hP 0 rfl rfl 0 (by decide) z0_ (fun _ h9 => h9) rfl dX10_move_62 ?_
          refine lv_iload_n hx hb dX10_move_65 rfl (lv_at hl 2 rfl) ?_
          refine lv_iload_n hx hb dX10_move_66 rfl (lv_at hl 3 rfl) ?_
          refine wr_v (wr := [(a_h, .inr (10, [.ref a_g, .ref a_df, .ref a_im, .ref a_pn, .ref a_w, .ref a_pa, .int h_bads, .int h_nos, .int h_fulls]))]) (va_runV (As := [.int px, .int py]) (rest := []) ⟨hx, hb, hml, hown, hts⟩ (n_X3_stand l D cy a_g g_wide g_high g_drown g_wind g_hedges g_fountains g_people g_tellings g_reports a_g_kinds a_g_squares a_g_voices a_g_tellers a_g_listeners a_g_witnesses a_g_claims g_squares_f px py _ ) (cwV 2 hts gX10_move_X3_stand rfl rfl rfl (by decide +kernel) ⟨Nat.le_of_ble_eq_true rfl, Nat.le_of_ble_eq_true rfl⟩) (pV (ci := 3) (k := 0) hKA (hP.sub (ws' := [(a_g, .inr (3, [.int g_wide, .int g_high, .int g_drown, .int g_wind, .long g_hedges, .long g_fountains, .int g_people, .int g_tellings, .int g_reports, .ref a_g_kinds, .ref a_g_squares, .ref a_g_voices, .ref a_g_tellers, .ref a_g_listeners, .ref a_g_witnesses, .ref a_g_claims])), (a_g_squares, .inl (cy 1, 5, .inl g_squares_f))]) [1, 2] rfl) (hD.sub (ws' := [(a_g, .inr (3, [.int g_wide, .int g_high, .int g_drown, .int g_wind, .long g_hedges, .long g_fountains, .int g_people, .int g_tellings, .int g_reports, .ref a_g_kinds, .ref a_g_squares, .ref a_g_voices, .ref a_g_tellers, .ref a_g_listeners, .ref a_g_witnesses, .ref a_g_claims])), (a_g_squares, .inl (cy 1, 5, .inl g_squares_f))]) [1, 2] (by decide) rfl) rfl rfl) rfl rfl hl.1 rfl (lv_room (Nat.le_of_ble_eq_true rfl)) dX10_move_67 ⟨Nat.le_of_ble_eq_true rfl, Nat.le_of_ble_eq_true rfl⟩) hP hD hS hA [1, 2] [0] rfl rfl (by decide +kernel) (by decide +kernel) (fun ur16 H locs hwr16 hP hD hS => ?_)
          obtain ⟨z17, rfl⟩ : ∃ z, z = ur16 := ⟨_, rfl⟩
          have hP : va_P D vwCl [(a_h, .inr (10, [.ref a_g, .ref a_df, .ref a_im, .ref a_pn, .ref a_w, .ref a_pa, .int h_bads, .int h_nos, .int h_fulls])), (a_g, .inr (3, [.int g_wide, .int g_high, .int g_drown, .int g_wind, .long g_hedges, .long g_fountains, .int g_people, .int g_tellings, .int g_reports, .ref a_g_kinds, .ref a_g_squares, .ref a_g_voices, .ref a_g_tellers, .ref a_g_listeners, .ref a_g_witnesses, .ref a_g_claims])), (a_g_squares, .inl (cy 1, 5, .inl z17))] H := hP
          have hD : va_D A [(a_h, .inr (10, [.ref a_g, .ref a_df, .ref a_im, .ref a_pn, .ref a_w, .ref a_pa, .int h_bads, .int h_nos, .int h_fulls])), (a_g, .inr (3, [.int g_wide, .int g_high, .int g_drown, .int g_wind, .long g_hedges, .long g_fountains, .int g_people, .int g_tellings, .int g_reports, .ref a_g_kinds, .ref a_g_squares, .ref a_g_voices, .ref a_g_tellers, .ref a_g_listeners, .ref a_g_witnesses, .ref a_g_claims])), (a_g_squares, .inl (cy 1, 5, .inl z17))] := hD
          refine lv_iload_n hx hb dX10_move_70 rfl (lv_at hl 0 rfl) ?_
          subst hQF
          have hP9 := hP
          have hD9 := hD
          exact W.iret (v := r10) hx hb hr (fun t ht hW => ⟨⟨r10, (h_bads, h_nos, z17), rfl, trivial, by rw [ht]; exact hP9, hD9⟩, hS.F ht⟩) hS.2.2 dX10_move_71
        · skip
          refine lv_aload_n hx hb dX10_move_54 rfl (lv_at hl 1 rfl) ?_
          refine lv_bipush (v := (-20)) hx hb dX10_move_55 (by decide) ?_
          refine wr_i (wr := [(a_g, .inr (3, [.int g_wide, .int g_high, .int g_drown, .int g_wind, .long g_hedges, .long g_fountains, .int g_people, .int g_tellings, .int g_reports, .ref a_g_kinds, .ref a_g_squares, .ref a_g_voices, .ref a_g_tellers, .ref a_g_listeners, .ref a_g_witnesses, .ref a_g_claims])), (a_g_squares, .inl (cy 1, 5, .inl g_squares_f))]) (va_runV (As := [.int (-20)]) (rest := []) ⟨hx, hb, hml, hown, hts⟩ (n_X10_refuseNo l D cy a_h a_g a_df a_im a_pn a_w a_pa h_bads h_nos h_fulls (-20) _ ) (cwV 1 hts gX10_move_X10_refuseNo rfl rfl rfl (by decide +kernel) ⟨Nat.le_of_ble_eq_true rfl, Nat.le_of_ble_eq_true rfl⟩) (pV (ci := 10) (k := 0) hKA (hP.sub (ws' := [(a_h, .inr (10, [.ref a_g, .ref a_df, .ref a_im, .ref a_pn, .ref a_w, .ref a_pa, .int h_bads, .int h_nos, .int h_fulls]))]) [0] rfl) (hD.sub (ws' := [(a_h, .inr (10, [.ref a_g, .ref a_df, .ref a_im, .ref a_pn, .ref a_w, .ref a_pa, .int h_bads, .int h_nos, .int h_fulls]))]) [0] (by decide) rfl) rfl rfl) rfl rfl hl.1 rfl (lv_room (Nat.le_of_ble_eq_true rfl)) dX10_move_57 ⟨Nat.le_of_ble_eq_true rfl, Nat.le_of_ble_eq_true rfl⟩) hP hD hS hA [0] [1, 2] rfl rfl (by decide +kernel) (by decide +kernel) (fun r18 ur18 H locs hwr18 hP hD hS => ?_)
          obtain ⟨z19, rfl⟩ : ∃ z, z = ur18 := ⟨_, rfl⟩
          have hP : va_P D vwCl [(a_g, .inr (3, [.int g_wide, .int g_high, .int g_drown, .int g_wind, .long g_hedges, .long g_fountains, .int g_people, .int g_tellings, .int g_reports, .ref a_g_kinds, .ref a_g_squares, .ref a_g_voices, .ref a_g_tellers, .ref a_g_listeners, .ref a_g_witnesses, .ref a_g_claims])), (a_g_squares, .inl (cy 1, 5, .inl g_squares_f)), (a_h, .inr (10, [.ref a_g, .ref a_df, .ref a_im, .ref a_pn, .ref a_w, .ref a_pa, .int h_bads, .int z19, .int h_fulls]))] H := hP
          have hD : va_D A [(a_g, .inr (3, [.int g_wide, .int g_high, .int g_drown, .int g_wind, .long g_hedges, .long g_fountains, .int g_people, .int g_tellings, .int g_reports, .ref a_g_kinds, .ref a_g_squares, .ref a_g_voices, .ref a_g_tellers, .ref a_g_listeners, .ref a_g_witnesses, .ref a_g_claims])), (a_g_squares, .inl (cy 1, 5, .inl g_squares_f)), (a_h, .inr (10, [.ref a_g, .ref a_df, .ref a_im, .ref a_pn, .ref a_w, .ref a_pa, .int h_bads, .int z19, .int h_fulls]))] := hD
          have hwr18 : r18 = (-20) := hwr18
          subst hwr18
          subst hQF
          have hP9 := hP.sub (ws' := [(a_h, .inr (10, [.ref a_g, .ref a_df, .ref a_im, .ref a_pn, .ref a_w, .ref a_pa, .int h_bads, .int z19, .int h_fulls])), (a_g, .inr (3, [.int g_wide, .int g_high, .int g_drown, .int g_wind, .long g_hedges, .long g_fountains, .int g_people, .int g_tellings, .int g_reports, .ref a_g_kinds, .ref a_g_squares, .ref a_g_voices, .ref a_g_tellers, .ref a_g_listeners, .ref a_g_witnesses, .ref a_g_claims])), (a_g_squares, .inl (cy 1, 5, .inl g_squares_f))]) [2, 0, 1] rfl
          have hD9 := hD.sub (ws' := [(a_h, .inr (10, [.ref a_g, .ref a_df, .ref a_im, .ref a_pn, .ref a_w, .ref a_pa, .int h_bads, .int z19, .int h_fulls])), (a_g, .inr (3, [.int g_wide, .int g_high, .int g_drown, .int g_wind, .long g_hedges, .long g_fountains, .int g_people, .int g_tellings, .int g_reports, .ref a_g_kinds, .ref a_g_squares, .ref a_g_voices, .ref a_g_tellers, .ref a_g_listeners, .ref a_g_witnesses, .ref a_g_claims])), (a_g_squares, .inl (cy 1, 5, .inl g_squares_f))]) [2, 0, 1] (by decide) rfl
          exact W.iret (v := (-20)) hx hb hr (fun t ht hW => ⟨⟨(-20), (h_bads, z19, g_squares_f), rfl, trivial, by rw [ht]; exact hP9, hD9⟩, hS.F ht⟩) hS.2.2 dX10_move_60
    · skip
      refine lv_aload_n hx hb dX10_move_22 rfl (lv_at hl 0 rfl) ?_
      refine lv_bipush (v := (-10)) hx hb dX10_move_23 (by decide) ?_
      refine wr_i (wr := [(a_g, .inr (3, [.int g_wide, .int g_high, .int g_drown, .int g_wind, .long g_hedges, .long g_fountains, .int g_people, .int g_tellings, .int g_reports, .ref a_g_kinds, .ref a_g_squares, .ref a_g_voices, .ref a_g_tellers, .ref a_g_listeners, .ref a_g_witnesses, .ref a_g_claims])), (a_g_squares, .inl (cy 1, 5, .inl g_squares_f))]) (va_runV (As := [.int (-10)]) (rest := []) ⟨hx, hb, hml, hown, hts⟩ (n_X10_refuseBad l D cy a_h a_g a_df a_im a_pn a_w a_pa h_bads h_nos h_fulls (-10) _ ) (cwV 1 hts gX10_move_X10_refuseBad rfl rfl rfl (by decide +kernel) ⟨Nat.le_of_ble_eq_true rfl, Nat.le_of_ble_eq_true rfl⟩) (pV (ci := 10) (k := 0) hKA (hP.sub (ws' := [(a_h, .inr (10, [.ref a_g, .ref a_df, .ref a_im, .ref a_pn, .ref a_w, .ref a_pa, .int h_bads, .int h_nos, .int h_fulls]))]) [0] rfl) (hD.sub (ws' := [(a_h, .inr (10, [.ref a_g, .ref a_df, .ref a_im, .ref a_pn, .ref a_w, .ref a_pa, .int h_bads, .int h_nos, .int h_fulls]))]) [0] (by decide) rfl) rfl rfl) rfl rfl hl.1 rfl (lv_room (Nat.le_of_ble_eq_true rfl)) dX10_move_25 ⟨Nat.le_of_ble_eq_true rfl, Nat.le_of_ble_eq_true rfl⟩) hP hD hS hA [0] [1, 2] rfl rfl (by decide +kernel) (by decide +kernel) (fun r20 ur20 H locs hwr20 hP hD hS => ?_)
      obtain ⟨z21, rfl⟩ : ∃ z, z = ur20 := ⟨_, rfl⟩
      have hP : va_P D vwCl [(a_g, .inr (3, [.int g_wide, .int g_high, .int g_drown, .int g_wind, .long g_hedges, .long g_fountains, .int g_people, .int g_tellings, .int g_reports, .ref a_g_kinds, .ref a_g_squares, .ref a_g_voices, .ref a_g_tellers, .ref a_g_listeners, .ref a_g_witnesses, .ref a_g_claims])), (a_g_squares, .inl (cy 1, 5, .inl g_squares_f)), (a_h, .inr (10, [.ref a_g, .ref a_df, .ref a_im, .ref a_pn, .ref a_w, .ref a_pa, .int z21, .int h_nos, .int h_fulls]))] H := hP
      have hD : va_D A [(a_g, .inr (3, [.int g_wide, .int g_high, .int g_drown, .int g_wind, .long g_hedges, .long g_fountains, .int g_people, .int g_tellings, .int g_reports, .ref a_g_kinds, .ref a_g_squares, .ref a_g_voices, .ref a_g_tellers, .ref a_g_listeners, .ref a_g_witnesses, .ref a_g_claims])), (a_g_squares, .inl (cy 1, 5, .inl g_squares_f)), (a_h, .inr (10, [.ref a_g, .ref a_df, .ref a_im, .ref a_pn, .ref a_w, .ref a_pa, .int z21, .int h_nos, .int h_fulls]))] := hD
      have hwr20 : r20 = (-10) := hwr20
      subst hwr20
      subst hQF
      have hP9 := hP.sub (ws' := [(a_h, .inr (10, [.ref a_g, .ref a_df, .ref a_im, .ref a_pn, .ref a_w, .ref a_pa, .int z21, .int h_nos, .int h_fulls])), (a_g, .inr (3, [.int g_wide, .int g_high, .int g_drown, .int g_wind, .long g_hedges, .long g_fountains, .int g_people, .int g_tellings, .int g_reports, .ref a_g_kinds, .ref a_g_squares, .ref a_g_voices, .ref a_g_tellers, .ref a_g_listeners, .ref a_g_witnesses, .ref a_g_claims])), (a_g_squares, .inl (cy 1, 5, .inl g_squares_f))]) [2, 0, 1] rfl
      have hD9 := hD.sub (ws' := [(a_h, .inr (10, [.ref a_g, .ref a_df, .ref a_im, .ref a_pn, .ref a_w, .ref a_pa, .int z21, .int h_nos, .int h_fulls])), (a_g, .inr (3, [.int g_wide, .int g_high, .int g_drown, .int g_wind, .long g_hedges, .long g_fountains, .int g_people, .int g_tellings, .int g_reports, .ref a_g_kinds, .ref a_g_squares, .ref a_g_voices, .ref a_g_tellers, .ref a_g_listeners, .ref a_g_witnesses, .ref a_g_claims])), (a_g_squares, .inl (cy 1, 5, .inl g_squares_f))]) [2, 0, 1] (by decide) rfl
      exact W.iret (v := (-10)) hx hb hr (fun t ht hW => ⟨⟨(-10), (z21, h_nos, g_squares_f), rfl, trivial, by rw [ht]; exact hP9, hD9⟩, hS.F ht⟩) hS.2.2 dX10_move_28

set_option maxHeartbeats 4000000 in
set_option maxRecDepth 100000 in
theorem n_X10_tell (l : Launch) (D : va_G) (cy : Nat → ClassId) (a_h : Nat) (a_g : Nat) (a_df : Nat) (a_im : Nat) (a_pn : Nat) (a_w : Nat) (a_pa : Nat) (h_bads : Int32) (h_nos : Int32) (h_fulls : Int32) (g_wide : Int32) (g_high : Int32) (g_drown : Int32) (g_wind : Int32) (g_hedges : Int64) (g_fountains : Int64) (g_people : Int32) (g_tellings : Int32) (g_reports : Int32) (a_g_kinds : Nat) (a_g_squares : Nat) (a_g_voices : Nat) (a_g_tellers : Nat) (a_g_listeners : Nat) (a_g_witnesses : Nat) (a_g_claims : Nat) (g_tellers_f : Nat → Int32) (g_listeners_f : Nat → Int32) (px : Int32) (py : Int32) (sz : Nat)  : Met l yX10_tell wsX10_tell ({ frames := 2, cells := 0, slots := 0, locals := 43 }) (va_Pc [.ref a_h, .int px, .int py] (kPre D cy [(a_h, .inr (10, [.ref a_g, .ref a_df, .ref a_im, .ref a_pn, .ref a_w, .ref a_pa, .int h_bads, .int h_nos, .int h_fulls])), (a_g, .inr (3, [.int g_wide, .int g_high, .int g_drown, .int g_wind, .long g_hedges, .long g_fountains, .int g_people, .int g_tellings, .int g_reports, .ref a_g_kinds, .ref a_g_squares, .ref a_g_voices, .ref a_g_tellers, .ref a_g_listeners, .ref a_g_witnesses, .ref a_g_claims])), (a_g_tellers, .inl (cy 1, 6, .inl g_tellers_f)), (a_g_listeners, .inl (cy 1, 6, .inl g_listeners_f))] sz)) (va_Qi (fun (r : Int32) (u : Int32 × Int32 × Int32 × (Nat → Int32) × (Nat → Int32)) => True) (fun (u : Int32 × Int32 × Int32 × (Nat → Int32) × (Nat → Int32)) t => va_P D vwCl ([(a_h, .inr (10, [.ref a_g, .ref a_df, .ref a_im, .ref a_pn, .ref a_w, .ref a_pa, .int u.1, .int h_nos, .int u.2.1])), (a_g, .inr (3, [.int g_wide, .int g_high, .int g_drown, .int g_wind, .long g_hedges, .long g_fountains, .int g_people, .int u.2.2.1, .int g_reports, .ref a_g_kinds, .ref a_g_squares, .ref a_g_voices, .ref a_g_tellers, .ref a_g_listeners, .ref a_g_witnesses, .ref a_g_claims])), (a_g_tellers, .inl (cy 1, 6, .inl u.2.2.2.1)), (a_g_listeners, .inl (cy 1, 6, .inl u.2.2.2.2))]) t.heap ∧ va_D (va_A [(a_h, .inr (10, [.ref a_g, .ref a_df, .ref a_im, .ref a_pn, .ref a_w, .ref a_pa, .int h_bads, .int h_nos, .int h_fulls])), (a_g, .inr (3, [.int g_wide, .int g_high, .int g_drown, .int g_wind, .long g_hedges, .long g_fountains, .int g_people, .int g_tellings, .int g_reports, .ref a_g_kinds, .ref a_g_squares, .ref a_g_voices, .ref a_g_tellers, .ref a_g_listeners, .ref a_g_witnesses, .ref a_g_claims])), (a_g_tellers, .inl (cy 1, 6, .inl g_tellers_f)), (a_g_listeners, .inl (cy 1, 6, .inl g_listeners_f))] sz) ([(a_h, .inr (10, [.ref a_g, .ref a_df, .ref a_im, .ref a_pn, .ref a_w, .ref a_pa, .int u.1, .int h_nos, .int u.2.1])), (a_g, .inr (3, [.int g_wide, .int g_high, .int g_drown, .int g_wind, .long g_hedges, .long g_fountains, .int g_people, .int u.2.2.1, .int g_reports, .ref a_g_kinds, .ref a_g_squares, .ref a_g_voices, .ref a_g_tellers, .ref a_g_listeners, .ref a_g_witnesses, .ref a_g_claims])), (a_g_tellers, .inl (cy 1, 6, .inl u.2.2.2.1)), (a_g_listeners, .inl (cy 1, 6, .inl u.2.2.2.2))])) (va_A [(a_h, .inr (10, [.ref a_g, .ref a_df, .ref a_im, .ref a_pn, .ref a_w, .ref a_pa, .int h_bads, .int h_nos, .int h_fulls])), (a_g, .inr (3, [.int g_wide, .int g_high, .int g_drown, .int g_wind, .long g_hedges, .long g_fountains, .int g_people, .int g_tellings, .int g_reports, .ref a_g_kinds, .ref a_g_squares, .ref a_g_voices, .ref a_g_tellers, .ref a_g_listeners, .ref a_g_witnesses, .ref a_g_claims])), (a_g_tellers, .inl (cy 1, 6, .inl g_tellers_f)), (a_g_listeners, .inl (cy 1, 6, .inl g_listeners_f))] sz)) 0 0 (va_A [(a_h, .inr (10, [.ref a_g, .ref a_df, .ref a_im, .ref a_pn, .ref a_w, .ref a_pa, .int h_bads, .int h_nos, .int h_fulls])), (a_g, .inr (3, [.int g_wide, .int g_high, .int g_drown, .int g_wind, .long g_hedges, .long g_fountains, .int g_people, .int g_tellings, .int g_reports, .ref a_g_kinds, .ref a_g_squares, .ref a_g_voices, .ref a_g_tellers, .ref a_g_listeners, .ref a_g_witnesses, .ref a_g_claims])), (a_g_tellers, .inl (cy 1, 6, .inl g_tellers_f)), (a_g_listeners, .inl (cy 1, 6, .inl g_listeners_f))] sz) := by
  refine Met.ofW (cc := cX10_tell) (maxL := 4) (ret := (some .int)) (by decide) rfl ?_
  intro p e s m args below meth c s₁ B hml hv
  obtain ⟨rfl, hsz, hP, hKA, hD0⟩ := hv
  have hx := B.exec
  have hb := B.bytes
  have hr := B.returns
  have hts := atoms_spec (ws := wsX10_tell) B.pre
  have hown : s.vm.findClass RX10 = some m.cls := findClass_of_methodNamed B.named
  have hlocks := B.notSynchronized
  subst hsz
  have hK := hKA.1
  have hD := hD0.self (sz := s.heap.size)
  generalize hAe : va_A [(a_h, .inr (10, [.ref a_g, .ref a_df, .ref a_im, .ref a_pn, .ref a_w, .ref a_pa, .int h_bads, .int h_nos, .int h_fulls])), (a_g, .inr (3, [.int g_wide, .int g_high, .int g_drown, .int g_wind, .long g_hedges, .long g_fountains, .int g_people, .int g_tellings, .int g_reports, .ref a_g_kinds, .ref a_g_squares, .ref a_g_voices, .ref a_g_tellers, .ref a_g_listeners, .ref a_g_witnesses, .ref a_g_claims])), (a_g_tellers, .inl (cy 1, 6, .inl g_tellers_f)), (a_g_listeners, .inl (cy 1, 6, .inl g_listeners_f))] s.heap.size = A at hD ⊢
  have hA : ∀ q : Nat, s.heap.size ≤ q → A q := fun q h => by rw [← hAe]; exact Or.inr h
  have hS : va_S A s.heap s.heap [] := va_S.rf
  have hP : va_P D vwCl [(a_h, .inr (10, [.ref a_g, .ref a_df, .ref a_im, .ref a_pn, .ref a_w, .ref a_pa, .int h_bads, .int h_nos, .int h_fulls])), (a_g, .inr (3, [.int g_wide, .int g_high, .int g_drown, .int g_wind, .long g_hedges, .long g_fountains, .int g_people, .int g_tellings, .int g_reports, .ref a_g_kinds, .ref a_g_squares, .ref a_g_voices, .ref a_g_tellers, .ref a_g_listeners, .ref a_g_witnesses, .ref a_g_claims])), (a_g_tellers, .inl (cy 1, 6, .inl g_tellers_f)), (a_g_listeners, .inl (cy 1, 6, .inl g_listeners_f))] s.heap := hP
  have hl := lv_entry ([.ref a_h, .int px, .int py]) (n := 4) (Nat.le_of_ble_eq_true rfl)
  rw [lg_entry_eq]
  generalize (lg_sl ([.ref a_h, .int px, .int py]) ++ List.replicate (4 - (lg_sl ([.ref a_h, .int px, .int py])).length) Slot.unset).toArray = ls at hl ⊢
  have hl : lv_has ls 4 [(0, .ref a_h), (1, .int px), (2, .int py)] := hl
  refine qW (fun QF hQF => ?_)
  have z0_ := hts (.fieldLink RX10 10 "HeardSeen" "now" "LHeardSeen$Garden;") (by decide +kernel)
  have zi10_ : ∀ w ∈ u_ws RX10 TX10 9, w ∈ wsX10_tell := by decide +kernel
  refine lv_aload_n hx hb dX10_tell_0 rfl (lv_at hl 0 rfl) ?_
  refine lv_iload_n hx hb dX10_tell_1 rfl (lv_at hl 1 rfl) ?_
  refine lv_iload_n hx hb dX10_tell_2 rfl (lv_at hl 2 rfl) ?_
  refine rd_i (va_runV (As := [.int px, .int py]) (rest := []) ⟨hx, hb, hml, hown, hts⟩ (n_X10_isPairOfTwo l D cy a_h a_g a_df a_im a_pn a_w a_pa h_bads h_nos h_fulls g_wide g_high g_drown g_wind g_hedges g_fountains g_people g_tellings g_reports a_g_kinds a_g_squares a_g_voices a_g_tellers a_g_listeners a_g_witnesses a_g_claims px py _ ) (cwV 2 hts gX10_tell_X10_isPairOfTwo rfl rfl rfl (by decide +kernel) ⟨Nat.le_of_ble_eq_true rfl, Nat.le_of_ble_eq_true rfl⟩) (pV (ci := 10) (k := 0) hKA (hP.sub (ws' := [(a_h, .inr (10, [.ref a_g, .ref a_df, .ref a_im, .ref a_pn, .ref a_w, .ref a_pa, .int h_bads, .int h_nos, .int h_fulls])), (a_g, .inr (3, [.int g_wide, .int g_high, .int g_drown, .int g_wind, .long g_hedges, .long g_fountains, .int g_people, .int g_tellings, .int g_reports, .ref a_g_kinds, .ref a_g_squares, .ref a_g_voices, .ref a_g_tellers, .ref a_g_listeners, .ref a_g_witnesses, .ref a_g_claims]))]) [0, 1] rfl) (hD.sub (ws' := [(a_h, .inr (10, [.ref a_g, .ref a_df, .ref a_im, .ref a_pn, .ref a_w, .ref a_pa, .int h_bads, .int h_nos, .int h_fulls])), (a_g, .inr (3, [.int g_wide, .int g_high, .int g_drown, .int g_wind, .long g_hedges, .long g_fountains, .int g_people, .int g_tellings, .int g_reports, .ref a_g_kinds, .ref a_g_squares, .ref a_g_voices, .ref a_g_tellers, .ref a_g_listeners, .ref a_g_witnesses, .ref a_g_claims]))]) [0, 1] (by decide) rfl) rfl rfl) rfl rfl hl.1 rfl (lv_room (Nat.le_of_ble_eq_true rfl)) dX10_tell_3 ⟨Nat.le_of_ble_eq_true rfl, Nat.le_of_ble_eq_true rfl⟩) hP hS hA (fun r1 H locs hwr1 hP hS => ?_)
  have hwr1 : (r1 = 1 ∧ True) ∨ (r1 = 0 ∧ True) := hwr1
  refine lv_if_ne (tgt := 16) hx hb dX10_tell_6 (by decide) (fun c2 => ?_) (fun c2 => ?_)
  · skip
    refine lv_aload_n hx hb dX10_tell_16 rfl (lv_at hl 0 rfl) ?_
    refine va_get (D := D) (ci := 10) (v := .ref a_g) (C := RX10) (T := TX10) (N := 9) hx hb hts zi10_ hown hK hP 0 rfl rfl 0 (by decide) z0_ (fun _ h9 => h9) rfl dX10_tell_17 ?_
    refine lv_iload_n hx hb dX10_tell_20 rfl (lv_at hl 1 rfl) ?_
    refine lv_iload_n hx hb dX10_tell_21 rfl (lv_at hl 2 rfl) ?_
    refine wr_i (wr := [(a_h, .inr (10, [.ref a_g, .ref a_df, .ref a_im, .ref a_pn, .ref a_w, .ref a_pa, .int h_bads, .int h_nos, .int h_fulls]))]) (va_runV (As := [.int px, .int py]) (rest := []) ⟨hx, hb, hml, hown, hts⟩ (n_X3_addTelling l D cy a_g g_wide g_high g_drown g_wind g_hedges g_fountains g_people g_tellings g_reports a_g_kinds a_g_squares a_g_voices a_g_tellers a_g_listeners a_g_witnesses a_g_claims g_tellers_f g_listeners_f px py _ ) (cwV 2 hts gX10_tell_X3_addTelling rfl rfl rfl (by decide +kernel) ⟨Nat.le_of_ble_eq_true rfl, Nat.le_of_ble_eq_true rfl⟩) (pV (ci := 3) (k := 0) hKA (hP.sub (ws' := [(a_g, .inr (3, [.int g_wide, .int g_high, .int g_drown, .int g_wind, .long g_hedges, .long g_fountains, .int g_people, .int g_tellings, .int g_reports, .ref a_g_kinds, .ref a_g_squares, .ref a_g_voices, .ref a_g_tellers, .ref a_g_listeners, .ref a_g_witnesses, .ref a_g_claims])), (a_g_tellers, .inl (cy 1, 6, .inl g_tellers_f)), (a_g_listeners, .inl (cy 1, 6, .inl g_listeners_f))]) [1, 2, 3] rfl) (hD.sub (ws' := [(a_g, .inr (3, [.int g_wide, .int g_high, .int g_drown, .int g_wind, .long g_hedges, .long g_fountains, .int g_people, .int g_tellings, .int g_reports, .ref a_g_kinds, .ref a_g_squares, .ref a_g_voices, .ref a_g_tellers, .ref a_g_listeners, .ref a_g_witnesses, .ref a_g_claims])), (a_g_tellers, .inl (cy 1, 6, .inl g_tellers_f)), (a_g_listeners, .inl (cy 1, 6, .inl g_listeners_f))]) [1, 2, 3] (by decide) rfl) rfl rfl) rfl rfl hl.1 rfl (lv_room (Nat.le_of_ble_eq_true rfl)) dX10_tell_22 ⟨Nat.le_of_ble_eq_true rfl, Nat.le_of_ble_eq_true rfl⟩) hP hD hS hA [1, 2, 3] [0] rfl rfl (by decide +kernel) (by decide +kernel) (fun r3 ur3 H locs hwr3 hP hD hS => ?_)
    obtain ⟨z4, z5, z6⟩ := ur3
    have hP : va_P D vwCl [(a_h, .inr (10, [.ref a_g, .ref a_df, .ref a_im, .ref a_pn, .ref a_w, .ref a_pa, .int h_bads, .int h_nos, .int h_fulls])), (a_g, .inr (3, [.int g_wide, .int g_high, .int g_drown, .int g_wind, .long g_hedges, .long g_fountains, .int g_people, .int z4, .int g_reports, .ref a_g_kinds, .ref a_g_squares, .ref a_g_voices, .ref a_g_tellers, .ref a_g_listeners, .ref a_g_witnesses, .ref a_g_claims])), (a_g_tellers, .inl (cy 1, 6, .inl z5)), (a_g_listeners, .inl (cy 1, 6, .inl z6))] H := hP
    have hD : va_D A [(a_h, .inr (10, [.ref a_g, .ref a_df, .ref a_im, .ref a_pn, .ref a_w, .ref a_pa, .int h_bads, .int h_nos, .int h_fulls])), (a_g, .inr (3, [.int g_wide, .int g_high, .int g_drown, .int g_wind, .long g_hedges, .long g_fountains, .int g_people, .int z4, .int g_reports, .ref a_g_kinds, .ref a_g_squares, .ref a_g_voices, .ref a_g_tellers, .ref a_g_listeners, .ref a_g_witnesses, .ref a_g_claims])), (a_g_tellers, .inl (cy 1, 6, .inl z5)), (a_g_listeners, .inl (cy 1, 6, .inl z6))] := hD
    refine lv_istore_n (lv' := [(3, .int r3), (0, .ref a_h), (1, .int px), (2, .int py)]) hx hb dX10_tell_25 rfl hl (by decide) rfl (fun ls hl => ?_)
    refine lv_iload_n hx hb dX10_tell_26 rfl (lv_at hl 0 rfl) ?_
    refine lv_iconst (v := (-1)) hx hb dX10_tell_27 (by decide) ?_
    refine lv_icmp_ne (tgt := 38) hx hb dX10_tell_28 (by decide) (fun c7 => ?_) (fun c7 => ?_)
    · skip
      refine lv_iload_n hx hb dX10_tell_38 rfl (lv_at hl 0 rfl) ?_
      subst hQF
      have hP9 := hP
      have hD9 := hD
      exact W.iret (v := r3) hx hb hr (fun t ht hW => ⟨⟨r3, (h_bads, h_fulls, z4, z5, z6), rfl, trivial, by rw [ht]; exact hP9, hD9⟩, hS.F ht⟩) hS.2.2 dX10_tell_39
    · skip
      refine lv_aload_n hx hb dX10_tell_31 rfl (lv_at hl 1 rfl) ?_
      refine wr_i (wr := [(a_g, .inr (3, [.int g_wide, .int g_high, .int g_drown, .int g_wind, .long g_hedges, .long g_fountains, .int g_people, .int z4, .int g_reports, .ref a_g_kinds, .ref a_g_squares, .ref a_g_voices, .ref a_g_tellers, .ref a_g_listeners, .ref a_g_witnesses, .ref a_g_claims])), (a_g_tellers, .inl (cy 1, 6, .inl z5)), (a_g_listeners, .inl (cy 1, 6, .inl z6))]) (va_runV (As := []) (rest := []) ⟨hx, hb, hml, hown, hts⟩ (n_X10_refuseFull l D cy a_h a_g a_df a_im a_pn a_w a_pa h_bads h_nos h_fulls _ ) (cwV 0 hts gX10_tell_X10_refuseFull rfl rfl rfl (by decide +kernel) ⟨Nat.le_of_ble_eq_true rfl, Nat.le_of_ble_eq_true rfl⟩) (pV (ci := 10) (k := 0) hKA (hP.sub (ws' := [(a_h, .inr (10, [.ref a_g, .ref a_df, .ref a_im, .ref a_pn, .ref a_w, .ref a_pa, .int h_bads, .int h_nos, .int h_fulls]))]) [0] rfl) (hD.sub (ws' := [(a_h, .inr (10, [.ref a_g, .ref a_df, .ref a_im, .ref a_pn, .ref a_w, .ref a_pa, .int h_bads, .int h_nos, .int h_fulls]))]) [0] (by decide) rfl) rfl rfl) rfl rfl hl.1 rfl (lv_room (Nat.le_of_ble_eq_true rfl)) dX10_tell_32 ⟨Nat.le_of_ble_eq_true rfl, Nat.le_of_ble_eq_true rfl⟩) hP hD hS hA [0] [1, 2, 3] rfl rfl (by decide +kernel) (by decide +kernel) (fun r8 ur8 H locs hwr8 hP hD hS => ?_)
      obtain ⟨z9, rfl⟩ : ∃ z, z = ur8 := ⟨_, rfl⟩
      have hP : va_P D vwCl [(a_g, .inr (3, [.int g_wide, .int g_high, .int g_drown, .int g_wind, .long g_hedges, .long g_fountains, .int g_people, .int z4, .int g_reports, .ref a_g_kinds, .ref a_g_squares, .ref a_g_voices, .ref a_g_tellers, .ref a_g_listeners, .ref a_g_witnesses, .ref a_g_claims])), (a_g_tellers, .inl (cy 1, 6, .inl z5)), (a_g_listeners, .inl (cy 1, 6, .inl z6)), (a_h, .inr (10, [.ref a_g, .ref a_df, .ref a_im, .ref a_pn, .ref a_w, .ref a_pa, .int h_bads, .int h_nos, .int z9]))] H := hP
      have hD : va_D A [(a_g, .inr (3, [.int g_wide, .int g_high, .int g_drown, .int g_wind, .long g_hedges, .long g_fountains, .int g_people, .int z4, .int g_reports, .ref a_g_kinds, .ref a_g_squares, .ref a_g_voices, .ref a_g_tellers, .ref a_g_listeners, .ref a_g_witnesses, .ref a_g_claims])), (a_g_tellers, .inl (cy 1, 6, .inl z5)), (a_g_listeners, .inl (cy 1, 6, .inl z6)), (a_h, .inr (10, [.ref a_g, .ref a_df, .ref a_im, .ref a_pn, .ref a_w, .ref a_pa, .int h_bads, .int h_nos, .int z9]))] := hD
      have hwr8 : r8 = -4 := hwr8
      subst hwr8
      refine lv_goto (tgt := 39) hx hb dX10_tell_35 (by decide) ?_
      subst hQF
      have hP9 := hP.sub (ws' := [(a_h, .inr (10, [.ref a_g, .ref a_df, .ref a_im, .ref a_pn, .ref a_w, .ref a_pa, .int h_bads, .int h_nos, .int z9])), (a_g, .inr (3, [.int g_wide, .int g_high, .int g_drown, .int g_wind, .long g_hedges, .long g_fountains, .int g_people, .int z4, .int g_reports, .ref a_g_kinds, .ref a_g_squares, .ref a_g_voices, .ref a_g_tellers, .ref a_g_listeners, .ref a_g_witnesses, .ref a_g_claims])), (a_g_tellers, .inl (cy 1, 6, .inl z5)), (a_g_listeners, .inl (cy 1, 6, .inl z6))]) [3, 0, 1, 2] rfl
      have hD9 := hD.sub (ws' := [(a_h, .inr (10, [.ref a_g, .ref a_df, .ref a_im, .ref a_pn, .ref a_w, .ref a_pa, .int h_bads, .int h_nos, .int z9])), (a_g, .inr (3, [.int g_wide, .int g_high, .int g_drown, .int g_wind, .long g_hedges, .long g_fountains, .int g_people, .int z4, .int g_reports, .ref a_g_kinds, .ref a_g_squares, .ref a_g_voices, .ref a_g_tellers, .ref a_g_listeners, .ref a_g_witnesses, .ref a_g_claims])), (a_g_tellers, .inl (cy 1, 6, .inl z5)), (a_g_listeners, .inl (cy 1, 6, .inl z6))]) [3, 0, 1, 2] (by decide) rfl
      exact W.iret (v := (-4)) hx hb hr (fun t ht hW => ⟨⟨(-4), (h_bads, z9, z4, z5, z6), rfl, trivial, by rw [ht]; exact hP9, hD9⟩, hS.F ht⟩) hS.2.2 dX10_tell_39
  · skip
    refine lv_aload_n hx hb dX10_tell_9 rfl (lv_at hl 0 rfl) ?_
    refine lv_bipush (v := (-2)) hx hb dX10_tell_10 (by decide) ?_
    refine wr_i (wr := [(a_g, .inr (3, [.int g_wide, .int g_high, .int g_drown, .int g_wind, .long g_hedges, .long g_fountains, .int g_people, .int g_tellings, .int g_reports, .ref a_g_kinds, .ref a_g_squares, .ref a_g_voices, .ref a_g_tellers, .ref a_g_listeners, .ref a_g_witnesses, .ref a_g_claims])), (a_g_tellers, .inl (cy 1, 6, .inl g_tellers_f)), (a_g_listeners, .inl (cy 1, 6, .inl g_listeners_f))]) (va_runV (As := [.int (-2)]) (rest := []) ⟨hx, hb, hml, hown, hts⟩ (n_X10_refuseBad l D cy a_h a_g a_df a_im a_pn a_w a_pa h_bads h_nos h_fulls (-2) _ ) (cwV 1 hts gX10_tell_X10_refuseBad rfl rfl rfl (by decide +kernel) ⟨Nat.le_of_ble_eq_true rfl, Nat.le_of_ble_eq_true rfl⟩) (pV (ci := 10) (k := 0) hKA (hP.sub (ws' := [(a_h, .inr (10, [.ref a_g, .ref a_df, .ref a_im, .ref a_pn, .ref a_w, .ref a_pa, .int h_bads, .int h_nos, .int h_fulls]))]) [0] rfl) (hD.sub (ws' := [(a_h, .inr (10, [.ref a_g, .ref a_df, .ref a_im, .ref a_pn, .ref a_w, .ref a_pa, .int h_bads, .int h_nos, .int h_fulls]))]) [0] (by decide) rfl) rfl rfl) rfl rfl hl.1 rfl (lv_room (Nat.le_of_ble_eq_true rfl)) dX10_tell_12 ⟨Nat.le_of_ble_eq_true rfl, Nat.le_of_ble_eq_true rfl⟩) hP hD hS hA [0] [1, 2, 3] rfl rfl (by decide +kernel) (by decide +kernel) (fun r10 ur10 H locs hwr10 hP hD hS => ?_)
    obtain ⟨z11, rfl⟩ : ∃ z, z = ur10 := ⟨_, rfl⟩
    have hP : va_P D vwCl [(a_g, .inr (3, [.int g_wide, .int g_high, .int g_drown, .int g_wind, .long g_hedges, .long g_fountains, .int g_people, .int g_tellings, .int g_reports, .ref a_g_kinds, .ref a_g_squares, .ref a_g_voices, .ref a_g_tellers, .ref a_g_listeners, .ref a_g_witnesses, .ref a_g_claims])), (a_g_tellers, .inl (cy 1, 6, .inl g_tellers_f)), (a_g_listeners, .inl (cy 1, 6, .inl g_listeners_f)), (a_h, .inr (10, [.ref a_g, .ref a_df, .ref a_im, .ref a_pn, .ref a_w, .ref a_pa, .int z11, .int h_nos, .int h_fulls]))] H := hP
    have hD : va_D A [(a_g, .inr (3, [.int g_wide, .int g_high, .int g_drown, .int g_wind, .long g_hedges, .long g_fountains, .int g_people, .int g_tellings, .int g_reports, .ref a_g_kinds, .ref a_g_squares, .ref a_g_voices, .ref a_g_tellers, .ref a_g_listeners, .ref a_g_witnesses, .ref a_g_claims])), (a_g_tellers, .inl (cy 1, 6, .inl g_tellers_f)), (a_g_listeners, .inl (cy 1, 6, .inl g_listeners_f)), (a_h, .inr (10, [.ref a_g, .ref a_df, .ref a_im, .ref a_pn, .ref a_w, .ref a_pa, .int z11, .int h_nos, .int h_fulls]))] := hD
    have hwr10 : r10 = (-2) := hwr10
    subst hwr10
    subst hQF
    have hP9 := hP.sub (ws' := [(a_h, .inr (10, [.ref a_g, .ref a_df, .ref a_im, .ref a_pn, .ref a_w, .ref a_pa, .int z11, .int h_nos, .int h_fulls])), (a_g, .inr (3, [.int g_wide, .int g_high, .int g_drown, .int g_wind, .long g_hedges, .long g_fountains, .int g_people, .int g_tellings, .int g_reports, .ref a_g_kinds, .ref a_g_squares, .ref a_g_voices, .ref a_g_tellers, .ref a_g_listeners, .ref a_g_witnesses, .ref a_g_claims])), (a_g_tellers, .inl (cy 1, 6, .inl g_tellers_f)), (a_g_listeners, .inl (cy 1, 6, .inl g_listeners_f))]) [3, 0, 1, 2] rfl
    have hD9 := hD.sub (ws' := [(a_h, .inr (10, [.ref a_g, .ref a_df, .ref a_im, .ref a_pn, .ref a_w, .ref a_pa, .int z11, .int h_nos, .int h_fulls])), (a_g, .inr (3, [.int g_wide, .int g_high, .int g_drown, .int g_wind, .long g_hedges, .long g_fountains, .int g_people, .int g_tellings, .int g_reports, .ref a_g_kinds, .ref a_g_squares, .ref a_g_voices, .ref a_g_tellers, .ref a_g_listeners, .ref a_g_witnesses, .ref a_g_claims])), (a_g_tellers, .inl (cy 1, 6, .inl g_tellers_f)), (a_g_listeners, .inl (cy 1, 6, .inl g_listeners_f))]) [3, 0, 1, 2] (by decide) rfl
    exact W.iret (v := (-2)) hx hb hr (fun t ht hW => ⟨⟨(-2), (z11, h_fulls, g_tellings, g_tellers_f, g_listeners_f), rfl, trivial, by rw [ht]; exact hP9, hD9⟩, hS.F ht⟩) hS.2.2 dX10_tell_15

set_option maxHeartbeats 4000000 in
set_option maxRecDepth 100000 in
theorem n_X10_report (l : Launch) (D : va_G) (cy : Nat → ClassId) (a_h : Nat) (a_g : Nat) (a_df : Nat) (a_im : Nat) (a_pn : Nat) (a_w : Nat) (a_pa : Nat) (h_bads : Int32) (h_nos : Int32) (h_fulls : Int32) (g_wide : Int32) (g_high : Int32) (g_drown : Int32) (g_wind : Int32) (g_hedges : Int64) (g_fountains : Int64) (g_people : Int32) (g_tellings : Int32) (g_reports : Int32) (a_g_kinds : Nat) (a_g_squares : Nat) (a_g_voices : Nat) (a_g_tellers : Nat) (a_g_listeners : Nat) (a_g_witnesses : Nat) (a_g_claims : Nat) (g_witnesses_f : Nat → Int32) (g_claims_f : Nat → Int32) (px : Int32) (py : Int32) (sz : Nat)  : Met l yX10_report wsX10_report ({ frames := 1, cells := 0, slots := 0, locals := 22 }) (va_Pc [.ref a_h, .int px, .int py] (kPre D cy [(a_h, .inr (10, [.ref a_g, .ref a_df, .ref a_im, .ref a_pn, .ref a_w, .ref a_pa, .int h_bads, .int h_nos, .int h_fulls])), (a_g, .inr (3, [.int g_wide, .int g_high, .int g_drown, .int g_wind, .long g_hedges, .long g_fountains, .int g_people, .int g_tellings, .int g_reports, .ref a_g_kinds, .ref a_g_squares, .ref a_g_voices, .ref a_g_tellers, .ref a_g_listeners, .ref a_g_witnesses, .ref a_g_claims])), (a_g_witnesses, .inl (cy 1, 8, .inl g_witnesses_f)), (a_g_claims, .inl (cy 1, 8, .inl g_claims_f))] sz)) (va_Qi (fun (r : Int32) (u : Int32 × Int32 × Int32 × (Nat → Int32) × (Nat → Int32)) => True) (fun (u : Int32 × Int32 × Int32 × (Nat → Int32) × (Nat → Int32)) t => va_P D vwCl ([(a_h, .inr (10, [.ref a_g, .ref a_df, .ref a_im, .ref a_pn, .ref a_w, .ref a_pa, .int u.1, .int h_nos, .int u.2.1])), (a_g, .inr (3, [.int g_wide, .int g_high, .int g_drown, .int g_wind, .long g_hedges, .long g_fountains, .int g_people, .int g_tellings, .int u.2.2.1, .ref a_g_kinds, .ref a_g_squares, .ref a_g_voices, .ref a_g_tellers, .ref a_g_listeners, .ref a_g_witnesses, .ref a_g_claims])), (a_g_witnesses, .inl (cy 1, 8, .inl u.2.2.2.1)), (a_g_claims, .inl (cy 1, 8, .inl u.2.2.2.2))]) t.heap ∧ va_D (va_A [(a_h, .inr (10, [.ref a_g, .ref a_df, .ref a_im, .ref a_pn, .ref a_w, .ref a_pa, .int h_bads, .int h_nos, .int h_fulls])), (a_g, .inr (3, [.int g_wide, .int g_high, .int g_drown, .int g_wind, .long g_hedges, .long g_fountains, .int g_people, .int g_tellings, .int g_reports, .ref a_g_kinds, .ref a_g_squares, .ref a_g_voices, .ref a_g_tellers, .ref a_g_listeners, .ref a_g_witnesses, .ref a_g_claims])), (a_g_witnesses, .inl (cy 1, 8, .inl g_witnesses_f)), (a_g_claims, .inl (cy 1, 8, .inl g_claims_f))] sz) ([(a_h, .inr (10, [.ref a_g, .ref a_df, .ref a_im, .ref a_pn, .ref a_w, .ref a_pa, .int u.1, .int h_nos, .int u.2.1])), (a_g, .inr (3, [.int g_wide, .int g_high, .int g_drown, .int g_wind, .long g_hedges, .long g_fountains, .int g_people, .int g_tellings, .int u.2.2.1, .ref a_g_kinds, .ref a_g_squares, .ref a_g_voices, .ref a_g_tellers, .ref a_g_listeners, .ref a_g_witnesses, .ref a_g_claims])), (a_g_witnesses, .inl (cy 1, 8, .inl u.2.2.2.1)), (a_g_claims, .inl (cy 1, 8, .inl u.2.2.2.2))])) (va_A [(a_h, .inr (10, [.ref a_g, .ref a_df, .ref a_im, .ref a_pn, .ref a_w, .ref a_pa, .int h_bads, .int h_nos, .int h_fulls])), (a_g, .inr (3, [.int g_wide, .int g_high, .int g_drown, .int g_wind, .long g_hedges, .long g_fountains, .int g_people, .int g_tellings, .int g_reports, .ref a_g_kinds, .ref a_g_squares, .ref a_g_voices, .ref a_g_tellers, .ref a_g_listeners, .ref a_g_witnesses, .ref a_g_claims])), (a_g_witnesses, .inl (cy 1, 8, .inl g_witnesses_f)), (a_g_claims, .inl (cy 1, 8, .inl g_claims_f))] sz)) 0 0 (va_A [(a_h, .inr (10, [.ref a_g, .ref a_df, .ref a_im, .ref a_pn, .ref a_w, .ref a_pa, .int h_bads, .int h_nos, .int h_fulls])), (a_g, .inr (3, [.int g_wide, .int g_high, .int g_drown, .int g_wind, .long g_hedges, .long g_fountains, .int g_people, .int g_tellings, .int g_reports, .ref a_g_kinds, .ref a_g_squares, .ref a_g_voices, .ref a_g_tellers, .ref a_g_listeners, .ref a_g_witnesses, .ref a_g_claims])), (a_g_witnesses, .inl (cy 1, 8, .inl g_witnesses_f)), (a_g_claims, .inl (cy 1, 8, .inl g_claims_f))] sz) := by
  refine Met.ofW (cc := cX10_report) (maxL := 4) (ret := (some .int)) (by decide) rfl ?_
  intro p e s m args below meth c s₁ B hml hv
  obtain ⟨rfl, hsz, hP, hKA, hD0⟩ := hv
  have hx := B.exec
  have hb := B.bytes
  have hr := B.returns
  have hts := atoms_spec (ws := wsX10_report) B.pre
  have hown : s.vm.findClass RX10 = some m.cls := findClass_of_methodNamed B.named
  have hlocks := B.notSynchronized
  subst hsz
  have hK := hKA.1
  have hD := hD0.self (sz := s.heap.size)
  generalize hAe : va_A [(a_h, .inr (10, [.ref a_g, .ref a_df, .ref a_im, .ref a_pn, .ref a_w, .ref a_pa, .int h_bads, .int h_nos, .int h_fulls])), (a_g, .inr (3, [.int g_wide, .int g_high, .int g_drown, .int g_wind, .long g_hedges, .long g_fountains, .int g_people, .int g_tellings, .int g_reports, .ref a_g_kinds, .ref a_g_squares, .ref a_g_voices, .ref a_g_tellers, .ref a_g_listeners, .ref a_g_witnesses, .ref a_g_claims])), (a_g_witnesses, .inl (cy 1, 8, .inl g_witnesses_f)), (a_g_claims, .inl (cy 1, 8, .inl g_claims_f))] s.heap.size = A at hD ⊢
  have hA : ∀ q : Nat, s.heap.size ≤ q → A q := fun q h => by rw [← hAe]; exact Or.inr h
  have hS : va_S A s.heap s.heap [] := va_S.rf
  have hP : va_P D vwCl [(a_h, .inr (10, [.ref a_g, .ref a_df, .ref a_im, .ref a_pn, .ref a_w, .ref a_pa, .int h_bads, .int h_nos, .int h_fulls])), (a_g, .inr (3, [.int g_wide, .int g_high, .int g_drown, .int g_wind, .long g_hedges, .long g_fountains, .int g_people, .int g_tellings, .int g_reports, .ref a_g_kinds, .ref a_g_squares, .ref a_g_voices, .ref a_g_tellers, .ref a_g_listeners, .ref a_g_witnesses, .ref a_g_claims])), (a_g_witnesses, .inl (cy 1, 8, .inl g_witnesses_f)), (a_g_claims, .inl (cy 1, 8, .inl g_claims_f))] s.heap := hP
  have hl := lv_entry ([.ref a_h, .int px, .int py]) (n := 4) (Nat.le_of_ble_eq_true rfl)
  rw [lg_entry_eq]
  generalize (lg_sl ([.ref a_h, .int px, .int py]) ++ List.replicate (4 - (lg_sl ([.ref a_h, .int px, .int py])).length) Slot.unset).toArray = ls at hl ⊢
  have hl : lv_has ls 4 [(0, .ref a_h), (1, .int px), (2, .int py)] := hl
  refine qW (fun QF hQF => ?_)
  have z0_ := hts (.fieldLink RX10 10 "HeardSeen" "now" "LHeardSeen$Garden;") (by decide +kernel)
  have zi10_ : ∀ w ∈ u_ws RX10 TX10 9, w ∈ wsX10_report := by decide +kernel
  refine lv_aload_n hx hb dX10_report_0 rfl (lv_at hl 0 rfl) ?_
  refine va_get (D := D) (ci := 10) (v := .ref a_g) (C := RX10) (T := TX10) (N := 9) hx hb hts zi10_ hown hK hP 0 rfl rfl 0 (by decide) z0_ (fun _ h9 => h9) rfl dX10_report_1 ?_
  refine lv_iload_n hx hb dX10_report_4 rfl (lv_at hl 1 rfl) ?_
  refine rd_i (va_runV (As := [.int px]) (rest := []) ⟨hx, hb, hml, hown, hts⟩ (n_X3_isPerson l D cy a_g g_wide g_high g_drown g_wind g_hedges g_fountains g_people g_tellings g_reports a_g_kinds a_g_squares a_g_voices a_g_tellers a_g_listeners a_g_witnesses a_g_claims px _ ) (cwV 1 hts gX10_report_X3_isPerson rfl rfl rfl (by decide +kernel) ⟨Nat.le_of_ble_eq_true rfl, Nat.le_of_ble_eq_true rfl⟩) (pV (ci := 3) (k := 0) hKA (hP.sub (ws' := [(a_g, .inr (3, [.int g_wide, .int g_high, .int g_drown, .int g_wind, .long g_hedges, .long g_fountains, .int g_people, .int g_tellings, .int g_reports, .ref a_g_kinds, .ref a_g_squares, .ref a_g_voices, .ref a_g_tellers, .ref a_g_listeners, .ref a_g_witnesses, .ref a_g_claims]))]) [1] rfl) (hD.sub (ws' := [(a_g, .inr (3, [.int g_wide, .int g_high, .int g_drown, .int g_wind, .long g_hedges, .long g_fountains, .int g_people, .int g_tellings, .int g_reports, .ref a_g_kinds, .ref a_g_squares, .ref a_g_voices, .ref a_g_tellers, .ref a_g_listeners, .ref a_g_witnesses, .ref a_g_claims]))]) [1] (by decide) rfl) rfl rfl) rfl rfl hl.1 rfl (lv_room (Nat.le_of_ble_eq_true rfl)) dX10_report_5 ⟨Nat.le_of_ble_eq_true rfl, Nat.le_of_ble_eq_true rfl⟩) hP hS hA (fun r1 H locs hwr1 hP hS => ?_)
  have hwr1 : (r1 = 1 ∧ (0 ≤ px ∧ px < g_people ∧ px < 5)) ∨ (r1 = 0 ∧ True) := hwr1
  refine lv_if_eq (tgt := 20) hx hb dX10_report_8 (by decide) (fun c2 => ?_) (fun c2 => ?_)
  · skip
    refine lv_aload_n hx hb dX10_report_20 rfl (lv_at hl 0 rfl) ?_
    refine lv_bipush (v := (-2)) hx hb dX10_report_21 (by decide) ?_
    refine wr_i (wr := [(a_g, .inr (3, [.int g_wide, .int g_high, .int g_drown, .int g_wind, .long g_hedges, .long g_fountains, .int g_people, .int g_tellings, .int g_reports, .ref a_g_kinds, .ref a_g_squares, .ref a_g_voices, .ref a_g_tellers, .ref a_g_listeners, .ref a_g_witnesses, .ref a_g_claims])), (a_g_witnesses, .inl (cy 1, 8, .inl g_witnesses_f)), (a_g_claims, .inl (cy 1, 8, .inl g_claims_f))]) (va_runV (As := [.int (-2)]) (rest := []) ⟨hx, hb, hml, hown, hts⟩ (n_X10_refuseBad l D cy a_h a_g a_df a_im a_pn a_w a_pa h_bads h_nos h_fulls (-2) _ ) (cwV 1 hts gX10_report_X10_refuseBad rfl rfl rfl (by decide +kernel) ⟨Nat.le_of_ble_eq_true rfl, Nat.le_of_ble_eq_true rfl⟩) (pV (ci := 10) (k := 0) hKA (hP.sub (ws' := [(a_h, .inr (10, [.ref a_g, .ref a_df, .ref a_im, .ref a_pn, .ref a_w, .ref a_pa, .int h_bads, .int h_nos, .int h_fulls]))]) [0] rfl) (hD.sub (ws' := [(a_h, .inr (10, [.ref a_g, .ref a_df, .ref a_im, .ref a_pn, .ref a_w, .ref a_pa, .int h_bads, .int h_nos, .int h_fulls]))]) [0] (by decide) rfl) rfl rfl) rfl rfl hl.1 rfl (lv_room (Nat.le_of_ble_eq_true rfl)) dX10_report_23 ⟨Nat.le_of_ble_eq_true rfl, Nat.le_of_ble_eq_true rfl⟩) hP hD hS hA [0] [1, 2, 3] rfl rfl (by decide +kernel) (by decide +kernel) (fun r3 ur3 H locs hwr3 hP hD hS => ?_)
    obtain ⟨z4, rfl⟩ : ∃ z, z = ur3 := ⟨_, rfl⟩
    have hP : va_P D vwCl [(a_g, .inr (3, [.int g_wide, .int g_high, .int g_drown, .int g_wind, .long g_hedges, .long g_fountains, .int g_people, .int g_tellings, .int g_reports, .ref a_g_kinds, .ref a_g_squares, .ref a_g_voices, .ref a_g_tellers, .ref a_g_listeners, .ref a_g_witnesses, .ref a_g_claims])), (a_g_witnesses, .inl (cy 1, 8, .inl g_witnesses_f)), (a_g_claims, .inl (cy 1, 8, .inl g_claims_f)), (a_h, .inr (10, [.ref a_g, .ref a_df, .ref a_im, .ref a_pn, .ref a_w, .ref a_pa, .int z4, .int h_nos, .int h_fulls]))] H := hP
    have hD : va_D A [(a_g, .inr (3, [.int g_wide, .int g_high, .int g_drown, .int g_wind, .long g_hedges, .long g_fountains, .int g_people, .int g_tellings, .int g_reports, .ref a_g_kinds, .ref a_g_squares, .ref a_g_voices, .ref a_g_tellers, .ref a_g_listeners, .ref a_g_witnesses, .ref a_g_claims])), (a_g_witnesses, .inl (cy 1, 8, .inl g_witnesses_f)), (a_g_claims, .inl (cy 1, 8, .inl g_claims_f)), (a_h, .inr (10, [.ref a_g, .ref a_df, .ref a_im, .ref a_pn, .ref a_w, .ref a_pa, .int z4, .int h_nos, .int h_fulls]))] := hD
    have hwr3 : r3 = (-2) := hwr3
    subst hwr3
    subst hQF
    have hP9 := hP.sub (ws' := [(a_h, .inr (10, [.ref a_g, .ref a_df, .ref a_im, .ref a_pn, .ref a_w, .ref a_pa, .int z4, .int h_nos, .int h_fulls])), (a_g, .inr (3, [.int g_wide, .int g_high, .int g_drown, .int g_wind, .long g_hedges, .long g_fountains, .int g_people, .int g_tellings, .int g_reports, .ref a_g_kinds, .ref a_g_squares, .ref a_g_voices, .ref a_g_tellers, .ref a_g_listeners, .ref a_g_witnesses, .ref a_g_claims])), (a_g_witnesses, .inl (cy 1, 8, .inl g_witnesses_f)), (a_g_claims, .inl (cy 1, 8, .inl g_claims_f))]) [3, 0, 1, 2] rfl
    have hD9 := hD.sub (ws' := [(a_h, .inr (10, [.ref a_g, .ref a_df, .ref a_im, .ref a_pn, .ref a_w, .ref a_pa, .int z4, .int h_nos, .int h_fulls])), (a_g, .inr (3, [.int g_wide, .int g_high, .int g_drown, .int g_wind, .long g_hedges, .long g_fountains, .int g_people, .int g_tellings, .int g_reports, .ref a_g_kinds, .ref a_g_squares, .ref a_g_voices, .ref a_g_tellers, .ref a_g_listeners, .ref a_g_witnesses, .ref a_g_claims])), (a_g_witnesses, .inl (cy 1, 8, .inl g_witnesses_f)), (a_g_claims, .inl (cy 1, 8, .inl g_claims_f))]) [3, 0, 1, 2] (by decide) rfl
    exact W.iret (v := (-2)) hx hb hr (fun t ht hW => ⟨⟨(-2), (z4, h_fulls, g_reports, g_witnesses_f, g_claims_f), rfl, trivial, by rw [ht]; exact hP9, hD9⟩, hS.F ht⟩) hS.2.2 dX10_report_26
  · skip
    obtain ⟨hp5, hp6, hp7⟩ := z_b1 hwr1 c2
    refine lv_iload_n hx hb dX10_report_11 rfl (lv_at hl 2 rfl) ?_
    refine lv_iconst (v := 0) hx hb dX10_report_12 (by decide) ?_
    refine lv_iconst (v := 3) hx hb dX10_report_13 (by decide) ?_
    refine rd_i (va_runS (As := [.int py, .int 0, .int 3]) (rest := []) ⟨hx, hb, hml, hown, hts⟩ (n_X10_isWithin l D cy py (0) (3) _ ) (va_cwS 3 hts gX10_report_X10_isWithin rfl rfl rfl (by decide +kernel) ⟨Nat.le_of_ble_eq_true rfl, Nat.le_of_ble_eq_true rfl⟩) (pS hKA pE (dE (A := A))) rfl rfl hl.1 rfl (lv_room (Nat.le_of_ble_eq_true rfl)) dX10_report_14 ⟨Nat.le_of_ble_eq_true rfl, Nat.le_of_ble_eq_true rfl⟩) hP hS hA (fun r8 H locs hwr8 hP hS => ?_)
    have hwr8 : (r8 = 1 ∧ ((0) ≤ py ∧ py ≤ (3))) ∨ (r8 = 0 ∧ (¬ ((0) ≤ py ∧ py ≤ (3)))) := hwr8
    refine lv_if_ne (tgt := 27) hx hb dX10_report_17 (by decide) (fun c9 => ?_) (fun c9 => ?_)
    · skip
      obtain ⟨hp10, hp11⟩ := z_b1 hwr8 c9
      refine lv_aload_n hx hb dX10_report_27 rfl (lv_at hl 0 rfl) ?_
      refine va_get (D := D) (ci := 10) (v := .ref a_g) (C := RX10) (T := TX10) (N := 9) hx hb hts zi10_ hown hK hP 0 rfl rfl 0 (by decide) z0_ (fun _ h9 => h9) rfl dX10_report_28 ?_
      refine lv_iload_n hx hb dX10_report_31 rfl (lv_at hl 1 rfl) ?_
      refine lv_iload_n hx hb dX10_report_32 rfl (lv_at hl 2 rfl) ?_
      refine wr_i (wr := [(a_h, .inr (10, [.ref a_g, .ref a_df, .ref a_im, .ref a_pn, .ref a_w, .ref a_pa, .int h_bads, .int h_nos, .int h_fulls]))]) (va_runV (As := [.int px, .int py]) (rest := []) ⟨hx, hb, hml, hown, hts⟩ (n_X3_addReport l D cy a_g g_wide g_high g_drown g_wind g_hedges g_fountains g_people g_tellings g_reports a_g_kinds a_g_squares a_g_voices a_g_tellers a_g_listeners a_g_witnesses a_g_claims g_witnesses_f g_claims_f px py _ ) (cwV 2 hts gX10_report_X3_addReport rfl rfl rfl (by decide +kernel) ⟨Nat.le_of_ble_eq_true rfl, Nat.le_of_ble_eq_true rfl⟩) (pV (ci := 3) (k := 0) hKA (hP.sub (ws' := [(a_g, .inr (3, [.int g_wide, .int g_high, .int g_drown, .int g_wind, .long g_hedges, .long g_fountains, .int g_people, .int g_tellings, .int g_reports, .ref a_g_kinds, .ref a_g_squares, .ref a_g_voices, .ref a_g_tellers, .ref a_g_listeners, .ref a_g_witnesses, .ref a_g_claims])), (a_g_witnesses, .inl (cy 1, 8, .inl g_witnesses_f)), (a_g_claims, .inl (cy 1, 8, .inl g_claims_f))]) [1, 2, 3] rfl) (hD.sub (ws' := [(a_g, .inr (3, [.int g_wide, .int g_high, .int g_drown, .int g_wind, .long g_hedges, .long g_fountains, .int g_people, .int g_tellings, .int g_reports, .ref a_g_kinds, .ref a_g_squares, .ref a_g_voices, .ref a_g_tellers, .ref a_g_listeners, .ref a_g_witnesses, .ref a_g_claims])), (a_g_witnesses, .inl (cy 1, 8, .inl g_witnesses_f)), (a_g_claims, .inl (cy 1, 8, .inl g_claims_f))]) [1, 2, 3] (by decide) rfl) rfl rfl) rfl rfl hl.1 rfl (lv_room (Nat.le_of_ble_eq_true rfl)) dX10_report_33 ⟨Nat.le_of_ble_eq_true rfl, Nat.le_of_ble_eq_true rfl⟩) hP hD hS hA [1, 2, 3] [0] rfl rfl (by decide +kernel) (by decide +kernel) (fun r12 ur12 H locs hwr12 hP hD hS => ?_)
      obtain ⟨z13, z14, z15⟩ := ur12
      have hP : va_P D vwCl [(a_h, .inr (10, [.ref a_g, .ref a_df, .ref a_im, .ref a_pn, .ref a_w, .ref a_pa, .int h_bads, .int h_nos, .int h_fulls])), (a_g, .inr (3, [.int g_wide, .int g_high, .int g_drown, .int g_wind, .long g_hedges, .long g_fountains, .int g_people, .int g_tellings, .int z13, .ref a_g_kinds, .ref a_g_squares, .ref a_g_voices, .ref a_g_tellers, .ref a_g_listeners, .ref a_g_witnesses, .ref a_g_claims])), (a_g_witnesses, .inl (cy 1, 8, .inl z14)), (a_g_claims, .inl (cy 1, 8, .inl z15))] H := hP
      have hD : va_D A [(a_h, .inr (10, [.ref a_g, .ref a_df, .ref a_im, .ref a_pn, .ref a_w, .ref a_pa, .int h_bads, .int h_nos, .int h_fulls])), (a_g, .inr (3, [.int g_wide, .int g_high, .int g_drown, .int g_wind, .long g_hedges, .long g_fountains, .int g_people, .int g_tellings, .int z13, .ref a_g_kinds, .ref a_g_squares, .ref a_g_voices, .ref a_g_tellers, .ref a_g_listeners, .ref a_g_witnesses, .ref a_g_claims])), (a_g_witnesses, .inl (cy 1, 8, .inl z14)), (a_g_claims, .inl (cy 1, 8, .inl z15))] := hD
      refine lv_istore_n (lv' := [(3, .int r12), (0, .ref a_h), (1, .int px), (2, .int py)]) hx hb dX10_report_36 rfl hl (by decide) rfl (fun ls hl => ?_)
      refine lv_iload_n hx hb dX10_report_37 rfl (lv_at hl 0 rfl) ?_
      refine lv_iconst (v := (-1)) hx hb dX10_report_38 (by decide) ?_
      refine lv_icmp_ne (tgt := 49) hx hb dX10_report_39 (by decide) (fun c16 => ?_) (fun c16 => ?_)
      · skip
        refine lv_iload_n hx hb dX10_report_49 rfl (lv_at hl 0 rfl) ?_
        subst hQF
        have hP9 := hP
        have hD9 := hD
        exact W.iret (v := r12) hx hb hr (fun t ht hW => ⟨⟨r12, (h_bads, h_fulls, z13, z14, z15), rfl, trivial, by rw [ht]; exact hP9, hD9⟩, hS.F ht⟩) hS.2.2 dX10_report_50
      · skip
        refine lv_aload_n hx hb dX10_report_42 rfl (lv_at hl 1 rfl) ?_
        refine wr_i (wr := [(a_g, .inr (3, [.int g_wide, .int g_high, .int g_drown, .int g_wind, .long g_hedges, .long g_fountains, .int g_people, .int g_tellings, .int z13, .ref a_g_kinds, .ref a_g_squares, .ref a_g_voices, .ref a_g_tellers, .ref a_g_listeners, .ref a_g_witnesses, .ref a_g_claims])), (a_g_witnesses, .inl (cy 1, 8, .inl z14)), (a_g_claims, .inl (cy 1, 8, .inl z15))]) (va_runV (As := []) (rest := []) ⟨hx, hb, hml, hown, hts⟩ (n_X10_refuseFull l D cy a_h a_g a_df a_im a_pn a_w a_pa h_bads h_nos h_fulls _ ) (cwV 0 hts gX10_report_X10_refuseFull rfl rfl rfl (by decide +kernel) ⟨Nat.le_of_ble_eq_true rfl, Nat.le_of_ble_eq_true rfl⟩) (pV (ci := 10) (k := 0) hKA (hP.sub (ws' := [(a_h, .inr (10, [.ref a_g, .ref a_df, .ref a_im, .ref a_pn, .ref a_w, .ref a_pa, .int h_bads, .int h_nos, .int h_fulls]))]) [0] rfl) (hD.sub (ws' := [(a_h, .inr (10, [.ref a_g, .ref a_df, .ref a_im, .ref a_pn, .ref a_w, .ref a_pa, .int h_bads, .int h_nos, .int h_fulls]))]) [0] (by decide) rfl) rfl rfl) rfl rfl hl.1 rfl (lv_room (Nat.le_of_ble_eq_true rfl)) dX10_report_43 ⟨Nat.le_of_ble_eq_true rfl, Nat.le_of_ble_eq_true rfl⟩) hP hD hS hA [0] [1, 2, 3] rfl rfl (by decide +kernel) (by decide +kernel) (fun r17 ur17 H locs hwr17 hP hD hS => ?_)
        obtain ⟨z18, rfl⟩ : ∃ z, z = ur17 := ⟨_, rfl⟩
        have hP : va_P D vwCl [(a_g, .inr (3, [.int g_wide, .int g_high, .int g_drown, .int g_wind, .long g_hedges, .long g_fountains, .int g_people, .int g_tellings, .int z13, .ref a_g_kinds, .ref a_g_squares, .ref a_g_voices, .ref a_g_tellers, .ref a_g_listeners, .ref a_g_witnesses, .ref a_g_claims])), (a_g_witnesses, .inl (cy 1, 8, .inl z14)), (a_g_claims, .inl (cy 1, 8, .inl z15)), (a_h, .inr (10, [.ref a_g, .ref a_df, .ref a_im, .ref a_pn, .ref a_w, .ref a_pa, .int h_bads, .int h_nos, .int z18]))] H := hP
        have hD : va_D A [(a_g, .inr (3, [.int g_wide, .int g_high, .int g_drown, .int g_wind, .long g_hedges, .long g_fountains, .int g_people, .int g_tellings, .int z13, .ref a_g_kinds, .ref a_g_squares, .ref a_g_voices, .ref a_g_tellers, .ref a_g_listeners, .ref a_g_witnesses, .ref a_g_claims])), (a_g_witnesses, .inl (cy 1, 8, .inl z14)), (a_g_claims, .inl (cy 1, 8, .inl z15)), (a_h, .inr (10, [.ref a_g, .ref a_df, .ref a_im, .ref a_pn, .ref a_w, .ref a_pa, .int h_bads, .int h_nos, .int z18]))] := hD
        have hwr17 : r17 = -4 := hwr17
        subst hwr17
        refine lv_goto (tgt := 50) hx hb dX10_report_46 (by decide) ?_
        subst hQF
        have hP9 := hP.sub (ws' := [(a_h, .inr (10, [.ref a_g, .ref a_df, .ref a_im, .ref a_pn, .ref a_w, .ref a_pa, .int h_bads, .int h_nos, .int z18])), (a_g, .inr (3, [.int g_wide, .int g_high, .int g_drown, .int g_wind, .long g_hedges, .long g_fountains, .int g_people, .int g_tellings, .int z13, .ref a_g_kinds, .ref a_g_squares, .ref a_g_voices, .ref a_g_tellers, .ref a_g_listeners, .ref a_g_witnesses, .ref a_g_claims])), (a_g_witnesses, .inl (cy 1, 8, .inl z14)), (a_g_claims, .inl (cy 1, 8, .inl z15))]) [3, 0, 1, 2] rfl
        have hD9 := hD.sub (ws' := [(a_h, .inr (10, [.ref a_g, .ref a_df, .ref a_im, .ref a_pn, .ref a_w, .ref a_pa, .int h_bads, .int h_nos, .int z18])), (a_g, .inr (3, [.int g_wide, .int g_high, .int g_drown, .int g_wind, .long g_hedges, .long g_fountains, .int g_people, .int g_tellings, .int z13, .ref a_g_kinds, .ref a_g_squares, .ref a_g_voices, .ref a_g_tellers, .ref a_g_listeners, .ref a_g_witnesses, .ref a_g_claims])), (a_g_witnesses, .inl (cy 1, 8, .inl z14)), (a_g_claims, .inl (cy 1, 8, .inl z15))]) [3, 0, 1, 2] (by decide) rfl
        exact W.iret (v := (-4)) hx hb hr (fun t ht hW => ⟨⟨(-4), (h_bads, z18, z13, z14, z15), rfl, trivial, by rw [ht]; exact hP9, hD9⟩, hS.F ht⟩) hS.2.2 dX10_report_50
    · skip
      have hq19 := z_b0 hwr8 c9
      refine lv_aload_n hx hb dX10_report_20 rfl (lv_at hl 0 rfl) ?_
      refine lv_bipush (v := (-2)) hx hb dX10_report_21 (by decide) ?_
      refine wr_i (wr := [(a_g, .inr (3, [.int g_wide, .int g_high, .int g_drown, .int g_wind, .long g_hedges, .long g_fountains, .int g_people, .int g_tellings, .int g_reports, .ref a_g_kinds, .ref a_g_squares, .ref a_g_voices, .ref a_g_tellers, .ref a_g_listeners, .ref a_g_witnesses, .ref a_g_claims])), (a_g_witnesses, .inl (cy 1, 8, .inl g_witnesses_f)), (a_g_claims, .inl (cy 1, 8, .inl g_claims_f))]) (va_runV (As := [.int (-2)]) (rest := []) ⟨hx, hb, hml, hown, hts⟩ (n_X10_refuseBad l D cy a_h a_g a_df a_im a_pn a_w a_pa h_bads h_nos h_fulls (-2) _ ) (cwV 1 hts gX10_report_X10_refuseBad rfl rfl rfl (by decide +kernel) ⟨Nat.le_of_ble_eq_true rfl, Nat.le_of_ble_eq_true rfl⟩) (pV (ci := 10) (k := 0) hKA (hP.sub (ws' := [(a_h, .inr (10, [.ref a_g, .ref a_df, .ref a_im, .ref a_pn, .ref a_w, .ref a_pa, .int h_bads, .int h_nos, .int h_fulls]))]) [0] rfl) (hD.sub (ws' := [(a_h, .inr (10, [.ref a_g, .ref a_df, .ref a_im, .ref a_pn, .ref a_w, .ref a_pa, .int h_bads, .int h_nos, .int h_fulls]))]) [0] (by decide) rfl) rfl rfl) rfl rfl hl.1 rfl (lv_room (Nat.le_of_ble_eq_true rfl)) dX10_report_23 ⟨Nat.le_of_ble_eq_true rfl, Nat.le_of_ble_eq_true rfl⟩) hP hD hS hA [0] [1, 2, 3] rfl rfl (by decide +kernel) (by decide +kernel) (fun r20 ur20 H locs hwr20 hP hD hS => ?_)
      obtain ⟨z21, rfl⟩ : ∃ z, z = ur20 := ⟨_, rfl⟩
      have hP : va_P D vwCl [(a_g, .inr (3, [.int g_wide, .int g_high, .int g_drown, .int g_wind, .long g_hedges, .long g_fountains, .int g_people, .int g_tellings, .int g_reports, .ref a_g_kinds, .ref a_g_squares, .ref a_g_voices, .ref a_g_tellers, .ref a_g_listeners, .ref a_g_witnesses, .ref a_g_claims])), (a_g_witnesses, .inl (cy 1, 8, .inl g_witnesses_f)), (a_g_claims, .inl (cy 1, 8, .inl g_claims_f)), (a_h, .inr (10, [.ref a_g, .ref a_df, .ref a_im, .ref a_pn, .ref a_w, .ref a_pa, .int z21, .int h_nos, .int h_fulls]))] H := hP
      have hD : va_D A [(a_g, .inr (3, [.int g_wide, .int g_high, .int g_drown, .int g_wind, .long g_hedges, .long g_fountains, .int g_people, .int g_tellings, .int g_reports, .ref a_g_kinds, .ref a_g_squares, .ref a_g_voices, .ref a_g_tellers, .ref a_g_listeners, .ref a_g_witnesses, .ref a_g_claims])), (a_g_witnesses, .inl (cy 1, 8, .inl g_witnesses_f)), (a_g_claims, .inl (cy 1, 8, .inl g_claims_f)), (a_h, .inr (10, [.ref a_g, .ref a_df, .ref a_im, .ref a_pn, .ref a_w, .ref a_pa, .int z21, .int h_nos, .int h_fulls]))] := hD
      have hwr20 : r20 = (-2) := hwr20
      subst hwr20
      subst hQF
      have hP9 := hP.sub (ws' := [(a_h, .inr (10, [.ref a_g, .ref a_df, .ref a_im, .ref a_pn, .ref a_w, .ref a_pa, .int z21, .int h_nos, .int h_fulls])), (a_g, .inr (3, [.int g_wide, .int g_high, .int g_drown, .int g_wind, .long g_hedges, .long g_fountains, .int g_people, .int g_tellings, .int g_reports, .ref a_g_kinds, .ref a_g_squares, .ref a_g_voices, .ref a_g_tellers, .ref a_g_listeners, .ref a_g_witnesses, .ref a_g_claims])), (a_g_witnesses, .inl (cy 1, 8, .inl g_witnesses_f)), (a_g_claims, .inl (cy 1, 8, .inl g_claims_f))]) [3, 0, 1, 2] rfl
      have hD9 := hD.sub (ws' := [(a_h, .inr (10, [.ref a_g, .ref a_df, .ref a_im, .ref a_pn, .ref a_w, .ref a_pa, .int z21, .int h_nos, .int h_fulls])), (a_g, .inr (3, [.int g_wide, .int g_high, .int g_drown, .int g_wind, .long g_hedges, .long g_fountains, .int g_people, .int g_tellings, .int g_reports, .ref a_g_kinds, .ref a_g_squares, .ref a_g_voices, .ref a_g_tellers, .ref a_g_listeners, .ref a_g_witnesses, .ref a_g_claims])), (a_g_witnesses, .inl (cy 1, 8, .inl g_witnesses_f)), (a_g_claims, .inl (cy 1, 8, .inl g_claims_f))]) [3, 0, 1, 2] (by decide) rfl
      exact W.iret (v := (-2)) hx hb hr (fun t ht hW => ⟨⟨(-2), (z21, h_fulls, g_reports, g_witnesses_f, g_claims_f), rfl, trivial, by rw [ht]; exact hP9, hD9⟩, hS.F ht⟩) hS.2.2 dX10_report_26

set_option maxHeartbeats 4000000 in
set_option maxRecDepth 100000 in
theorem n_X10_clears (l : Launch) (D : va_G) (cy : Nat → ClassId) (a_h : Nat) (a_g : Nat) (a_df : Nat) (a_im : Nat) (a_pn : Nat) (a_w : Nat) (a_pa : Nat) (h_bads : Int32) (h_nos : Int32) (h_fulls : Int32) (g_wide : Int32) (g_high : Int32) (g_drown : Int32) (g_wind : Int32) (g_hedges : Int64) (g_fountains : Int64) (g_people : Int32) (g_tellings : Int32) (g_reports : Int32) (a_g_kinds : Nat) (a_g_squares : Nat) (a_g_voices : Nat) (a_g_tellers : Nat) (a_g_listeners : Nat) (a_g_witnesses : Nat) (a_g_claims : Nat) (px : Int32) (sz : Nat)  : Met l yX10_clears wsX10_clears ({ frames := 1, cells := 0, slots := 0, locals := 21 }) (va_Pc [.ref a_h, .int px] (kPre D cy [(a_h, .inr (10, [.ref a_g, .ref a_df, .ref a_im, .ref a_pn, .ref a_w, .ref a_pa, .int h_bads, .int h_nos, .int h_fulls])), (a_g, .inr (3, [.int g_wide, .int g_high, .int g_drown, .int g_wind, .long g_hedges, .long g_fountains, .int g_people, .int g_tellings, .int g_reports, .ref a_g_kinds, .ref a_g_squares, .ref a_g_voices, .ref a_g_tellers, .ref a_g_listeners, .ref a_g_witnesses, .ref a_g_claims]))] sz)) (va_Qi (fun (r : Int32) (u : Int32 × Int32 × Int32) => True) (fun (u : Int32 × Int32 × Int32) t => va_P D vwCl ([(a_h, .inr (10, [.ref a_g, .ref a_df, .ref a_im, .ref a_pn, .ref a_w, .ref a_pa, .int u.1, .int h_nos, .int h_fulls])), (a_g, .inr (3, [.int g_wide, .int g_high, .int g_drown, .int g_wind, .long g_hedges, .long g_fountains, .int g_people, .int u.2.1, .int u.2.2, .ref a_g_kinds, .ref a_g_squares, .ref a_g_voices, .ref a_g_tellers, .ref a_g_listeners, .ref a_g_witnesses, .ref a_g_claims]))]) t.heap ∧ va_D (va_A [(a_h, .inr (10, [.ref a_g, .ref a_df, .ref a_im, .ref a_pn, .ref a_w, .ref a_pa, .int h_bads, .int h_nos, .int h_fulls])), (a_g, .inr (3, [.int g_wide, .int g_high, .int g_drown, .int g_wind, .long g_hedges, .long g_fountains, .int g_people, .int g_tellings, .int g_reports, .ref a_g_kinds, .ref a_g_squares, .ref a_g_voices, .ref a_g_tellers, .ref a_g_listeners, .ref a_g_witnesses, .ref a_g_claims]))] sz) ([(a_h, .inr (10, [.ref a_g, .ref a_df, .ref a_im, .ref a_pn, .ref a_w, .ref a_pa, .int u.1, .int h_nos, .int h_fulls])), (a_g, .inr (3, [.int g_wide, .int g_high, .int g_drown, .int g_wind, .long g_hedges, .long g_fountains, .int g_people, .int u.2.1, .int u.2.2, .ref a_g_kinds, .ref a_g_squares, .ref a_g_voices, .ref a_g_tellers, .ref a_g_listeners, .ref a_g_witnesses, .ref a_g_claims]))])) (va_A [(a_h, .inr (10, [.ref a_g, .ref a_df, .ref a_im, .ref a_pn, .ref a_w, .ref a_pa, .int h_bads, .int h_nos, .int h_fulls])), (a_g, .inr (3, [.int g_wide, .int g_high, .int g_drown, .int g_wind, .long g_hedges, .long g_fountains, .int g_people, .int g_tellings, .int g_reports, .ref a_g_kinds, .ref a_g_squares, .ref a_g_voices, .ref a_g_tellers, .ref a_g_listeners, .ref a_g_witnesses, .ref a_g_claims]))] sz)) 0 0 (va_A [(a_h, .inr (10, [.ref a_g, .ref a_df, .ref a_im, .ref a_pn, .ref a_w, .ref a_pa, .int h_bads, .int h_nos, .int h_fulls])), (a_g, .inr (3, [.int g_wide, .int g_high, .int g_drown, .int g_wind, .long g_hedges, .long g_fountains, .int g_people, .int g_tellings, .int g_reports, .ref a_g_kinds, .ref a_g_squares, .ref a_g_voices, .ref a_g_tellers, .ref a_g_listeners, .ref a_g_witnesses, .ref a_g_claims]))] sz) := by
  refine Met.ofW (cc := cX10_clears) (maxL := 3) (ret := (some .int)) (by decide) rfl ?_
  intro p e s m args below meth c s₁ B hml hv
  obtain ⟨rfl, hsz, hP, hKA, hD0⟩ := hv
  have hx := B.exec
  have hb := B.bytes
  have hr := B.returns
  have hts := atoms_spec (ws := wsX10_clears) B.pre
  have hown : s.vm.findClass RX10 = some m.cls := findClass_of_methodNamed B.named
  have hlocks := B.notSynchronized
  subst hsz
  have hK := hKA.1
  have hD := hD0.self (sz := s.heap.size)
  generalize hAe : va_A [(a_h, .inr (10, [.ref a_g, .ref a_df, .ref a_im, .ref a_pn, .ref a_w, .ref a_pa, .int h_bads, .int h_nos, .int h_fulls])), (a_g, .inr (3, [.int g_wide, .int g_high, .int g_drown, .int g_wind, .long g_hedges, .long g_fountains, .int g_people, .int g_tellings, .int g_reports, .ref a_g_kinds, .ref a_g_squares, .ref a_g_voices, .ref a_g_tellers, .ref a_g_listeners, .ref a_g_witnesses, .ref a_g_claims]))] s.heap.size = A at hD ⊢
  have hA : ∀ q : Nat, s.heap.size ≤ q → A q := fun q h => by rw [← hAe]; exact Or.inr h
  have hS : va_S A s.heap s.heap [] := va_S.rf
  have hP : va_P D vwCl [(a_h, .inr (10, [.ref a_g, .ref a_df, .ref a_im, .ref a_pn, .ref a_w, .ref a_pa, .int h_bads, .int h_nos, .int h_fulls])), (a_g, .inr (3, [.int g_wide, .int g_high, .int g_drown, .int g_wind, .long g_hedges, .long g_fountains, .int g_people, .int g_tellings, .int g_reports, .ref a_g_kinds, .ref a_g_squares, .ref a_g_voices, .ref a_g_tellers, .ref a_g_listeners, .ref a_g_witnesses, .ref a_g_claims]))] s.heap := hP
  have hl := lv_entry ([.ref a_h, .int px]) (n := 3) (Nat.le_of_ble_eq_true rfl)
  rw [lg_entry_eq]
  generalize (lg_sl ([.ref a_h, .int px]) ++ List.replicate (3 - (lg_sl ([.ref a_h, .int px])).length) Slot.unset).toArray = ls at hl ⊢
  have hl : lv_has ls 3 [(0, .ref a_h), (1, .int px)] := hl
  refine qW (fun QF hQF => ?_)
  have z0_ := hts (.fieldLink RX10 10 "HeardSeen" "now" "LHeardSeen$Garden;") (by decide +kernel)
  have zi10_ : ∀ w ∈ u_ws RX10 TX10 9, w ∈ wsX10_clears := by decide +kernel
  have z2_ := hts (.fieldLink RX10 120 "HeardSeen$Garden" "reports" "I") (by decide +kernel)
  have zi3_ : ∀ w ∈ u_ws RX3 TX3 16, w ∈ wsX10_clears := by decide +kernel
  have z4_ := hts (.fieldLink RX10 117 "HeardSeen$Garden" "tellings" "I") (by decide +kernel)
  refine lv_iload_n hx hb dX10_clears_0 rfl (lv_at hl 1 rfl) ?_
  refine lv_if_ne (tgt := 22) hx hb dX10_clears_1 (by decide) (fun c1 => ?_) (fun c1 => ?_)
  · skip
    refine lv_iload_n hx hb dX10_clears_22 rfl (lv_at hl 1 rfl) ?_
    refine lv_iconst (v := 1) hx hb dX10_clears_23 (by decide) ?_
    refine lv_icmp_ne (tgt := 45) hx hb dX10_clears_24 (by decide) (fun c2 => ?_) (fun c2 => ?_)
    · skip
      refine lv_aload_n hx hb dX10_clears_45 rfl (lv_at hl 0 rfl) ?_
      refine lv_bipush (v := (-2)) hx hb dX10_clears_46 (by decide) ?_
      refine wr_i (wr := [(a_g, .inr (3, [.int g_wide, .int g_high, .int g_drown, .int g_wind, .long g_hedges, .long g_fountains, .int g_people, .int g_tellings, .int g_reports, .ref a_g_kinds, .ref a_g_squares, .ref a_g_voices, .ref a_g_tellers, .ref a_g_listeners, .ref a_g_witnesses, .ref a_g_claims]))]) (va_runV (As := [.int (-2)]) (rest := []) ⟨hx, hb, hml, hown, hts⟩ (n_X10_refuseBad l D cy a_h a_g a_df a_im a_pn a_w a_pa h_bads h_nos h_fulls (-2) _ ) (cwV 1 hts gX10_clears_X10_refuseBad rfl rfl rfl (by decide +kernel) ⟨Nat.le_of_ble_eq_true rfl, Nat.le_of_ble_eq_true rfl⟩) (pV (ci := 10) (k := 0) hKA (hP.sub (ws' := [(a_h, .inr (10, [.ref a_g, .ref a_df, .ref a_im, .ref a_pn, .ref a_w, .ref a_pa, .int h_bads, .int h_nos, .int h_fulls]))]) [0] rfl) (hD.sub (ws' := [(a_h, .inr (10, [.ref a_g, .ref a_df, .ref a_im, .ref a_pn, .ref a_w, .ref a_pa, .int h_bads, .int h_nos, .int h_fulls]))]) [0] (by decide) rfl) rfl rfl) rfl rfl hl.1 rfl (lv_room (Nat.le_of_ble_eq_true rfl)) dX10_clears_48 ⟨Nat.le_of_ble_eq_true rfl, Nat.le_of_ble_eq_true rfl⟩) hP hD hS hA [0] [1] rfl rfl (by decide +kernel) (by decide +kernel) (fun r3 ur3 H locs hwr3 hP hD hS => ?_)
      obtain ⟨z4, rfl⟩ : ∃ z, z = ur3 := ⟨_, rfl⟩
      have hP : va_P D vwCl [(a_g, .inr (3, [.int g_wide, .int g_high, .int g_drown, .int g_wind, .long g_hedges, .long g_fountains, .int g_people, .int g_tellings, .int g_reports, .ref a_g_kinds, .ref a_g_squares, .ref a_g_voices, .ref a_g_tellers, .ref a_g_listeners, .ref a_g_witnesses, .ref a_g_claims])), (a_h, .inr (10, [.ref a_g, .ref a_df, .ref a_im, .ref a_pn, .ref a_w, .ref a_pa, .int z4, .int h_nos, .int h_fulls]))] H := hP
      have hD : va_D A [(a_g, .inr (3, [.int g_wide, .int g_high, .int g_drown, .int g_wind, .long g_hedges, .long g_fountains, .int g_people, .int g_tellings, .int g_reports, .ref a_g_kinds, .ref a_g_squares, .ref a_g_voices, .ref a_g_tellers, .ref a_g_listeners, .ref a_g_witnesses, .ref a_g_claims])), (a_h, .inr (10, [.ref a_g, .ref a_df, .ref a_im, .ref a_pn, .ref a_w, .ref a_pa, .int z4, .int h_nos, .int h_fulls]))] := hD
      have hwr3 : r3 = (-2) := hwr3
      subst hwr3
      subst hQF
      have hP9 := hP.sub (ws' := [(a_h, .inr (10, [.ref a_g, .ref a_df, .ref a_im, .ref a_pn, .ref a_w, .ref a_pa, .int z4, .int h_nos, .int h_fulls])), (a_g, .inr (3, [.int g_wide, .int g_high, .int g_drown, .int g_wind, .long g_hedges, .long g_fountains, .int g_people, .int g_tellings, .int g_reports, .ref a_g_kinds, .ref a_g_squares, .ref a_g_voices, .ref a_g_tellers, .ref a_g_listeners, .ref a_g_witnesses, .ref a_g_claims]))]) [1, 0] rfl
      have hD9 := hD.sub (ws' := [(a_h, .inr (10, [.ref a_g, .ref a_df, .ref a_im, .ref a_pn, .ref a_w, .ref a_pa, .int z4, .int h_nos, .int h_fulls])), (a_g, .inr (3, [.int g_wide, .int g_high, .int g_drown, .int g_wind, .long g_hedges, .long g_fountains, .int g_people, .int g_tellings, .int g_reports, .ref a_g_kinds, .ref a_g_squares, .ref a_g_voices, .ref a_g_tellers, .ref a_g_listeners, .ref a_g_witnesses, .ref a_g_claims]))]) [1, 0] (by decide) rfl
      exact W.iret (v := (-2)) hx hb hr (fun t ht hW => ⟨⟨(-2), (z4, g_tellings, g_reports), rfl, trivial, by rw [ht]; exact hP9, hD9⟩, hS.F ht⟩) hS.2.2 dX10_clears_51
    · skip
      refine lv_aload_n hx hb dX10_clears_27 rfl (lv_at hl 0 rfl) ?_
      refine va_get (D := D) (ci := 10) (v := .ref a_g) (C := RX10) (T := TX10) (N := 9) hx hb hts zi10_ hown hK hP 0 rfl rfl 0 (by decide) z0_ (fun _ h9 => h9) rfl dX10_clears_28 ?_
      refine va_get (D := D) (ci := 3) (v := .int g_reports) (C := RX3) (T := TX3) (N := 16) hx hb hts zi3_ hown hK hP 1 rfl rfl 8 (by decide) z2_ (fun _ h9 => h9) rfl dX10_clears_31 ?_
      refine lv_istore_n (lv' := [(2, .int g_reports), (0, .ref a_h), (1, .int px)]) hx hb dX10_clears_34 rfl hl (by decide) rfl (fun ls hl => ?_)
      refine lv_aload_n hx hb dX10_clears_35 rfl (lv_at hl 1 rfl) ?_
      refine va_get (D := D) (ci := 10) (v := .ref a_g) (C := RX10) (T := TX10) (N := 9) hx hb hts zi10_ hown hK hP 0 rfl rfl 0 (by decide) z0_ (fun _ h9 => h9) rfl dX10_clears_36 ?_
      refine lv_iconst (v := 0) hx hb dX10_clears_39 (by decide) ?_
      refine va_put (D := D) (ci := 3) (v := .int 0) (ty := .int) (C := RX3) (T := TX3) (N := 16) hx hb hts zi3_ tyX3 tyX3_ok nmX3 hown hK hP hD hS 1 rfl rfl 8 (by decide) z2_ (fun _ h9 => h9) rfl (by decide +kernel) rfl rfl (Nat.le_of_ble_eq_true rfl) dX10_clears_40 (fun H locs hP hD hS => ?_)
      have hP : va_P D vwCl [(a_h, .inr (10, [.ref a_g, .ref a_df, .ref a_im, .ref a_pn, .ref a_w, .ref a_pa, .int h_bads, .int h_nos, .int h_fulls])), (a_g, .inr (3, [.int g_wide, .int g_high, .int g_drown, .int g_wind, .long g_hedges, .long g_fountains, .int g_people, .int g_tellings, .int 0, .ref a_g_kinds, .ref a_g_squares, .ref a_g_voices, .ref a_g_tellers, .ref a_g_listeners, .ref a_g_witnesses, .ref a_g_claims]))] H := hP
      have hD : va_D A [(a_h, .inr (10, [.ref a_g, .ref a_df, .ref a_im, .ref a_pn, .ref a_w, .ref a_pa, .int h_bads, .int h_nos, .int h_fulls])), (a_g, .inr (3, [.int g_wide, .int g_high, .int g_drown, .int g_wind, .long g_hedges, .long g_fountains, .int g_people, .int g_tellings, .int 0, .ref a_g_kinds, .ref a_g_squares, .ref a_g_voices, .ref a_g_tellers, .ref a_g_listeners, .ref a_g_witnesses, .ref a_g_claims]))] := hD
      refine lv_iload_n hx hb dX10_clears_43 rfl (lv_at hl 0 rfl) ?_
      subst hQF
      have hP9 := hP
      have hD9 := hD
      exact W.iret (v := g_reports) hx hb hr (fun t ht hW => ⟨⟨g_reports, (h_bads, g_tellings, 0), rfl, trivial, by rw [ht]; exact hP9, hD9⟩, hS.F ht⟩) hS.2.2 dX10_clears_44
  · skip
    refine lv_aload_n hx hb dX10_clears_4 rfl (lv_at hl 0 rfl) ?_
    refine va_get (D := D) (ci := 10) (v := .ref a_g) (C := RX10) (T := TX10) (N := 9) hx hb hts zi10_ hown hK hP 0 rfl rfl 0 (by decide) z0_ (fun _ h9 => h9) rfl dX10_clears_5 ?_
    refine va_get (D := D) (ci := 3) (v := .int g_tellings) (C := RX3) (T := TX3) (N := 16) hx hb hts zi3_ hown hK hP 1 rfl rfl 7 (by decide) z4_ (fun _ h9 => h9) rfl dX10_clears_8 ?_
    refine lv_istore_n (lv' := [(2, .int g_tellings), (0, .ref a_h), (1, .int px)]) hx hb dX10_clears_11 rfl hl (by decide) rfl (fun ls hl => ?_)
    refine lv_aload_n hx hb dX10_clears_12 rfl (lv_at hl 1 rfl) ?_
    refine va_get (D := D) (ci := 10) (v := .ref a_g) (C := RX10) (T := TX10) (N := 9) hx hb hts zi10_ hown hK hP 0 rfl rfl 0 (by decide) z0_ (fun _ h9 => h9) rfl dX10_clears_13 ?_
    refine lv_iconst (v := 0) hx hb dX10_clears_16 (by decide) ?_
    refine va_put (D := D) (ci := 3) (v := .int 0) (ty := .int) (C := RX3) (T := TX3) (N := 16) hx hb hts zi3_ tyX3 tyX3_ok nmX3 hown hK hP hD hS 1 rfl rfl 7 (by decide) z4_ (fun _ h9 => h9) rfl (by decide +kernel) rfl rfl (Nat.le_of_ble_eq_true rfl) dX10_clears_17 (fun H locs hP hD hS => ?_)
    have hP : va_P D vwCl [(a_h, .inr (10, [.ref a_g, .ref a_df, .ref a_im, .ref a_pn, .ref a_w, .ref a_pa, .int h_bads, .int h_nos, .int h_fulls])), (a_g, .inr (3, [.int g_wide, .int g_high, .int g_drown, .int g_wind, .long g_hedges, .long g_fountains, .int g_people, .int 0, .int g_reports, .ref a_g_kinds, .ref a_g_squares, .ref a_g_voices, .ref a_g_tellers, .ref a_g_listeners, .ref a_g_witnesses, .ref a_g_claims]))] H := hP
    have hD : va_D A [(a_h, .inr (10, [.ref a_g, .ref a_df, .ref a_im, .ref a_pn, .ref a_w, .ref a_pa, .int h_bads, .int h_nos, .int h_fulls])), (a_g, .inr (3, [.int g_wide, .int g_high, .int g_drown, .int g_wind, .long g_hedges, .long g_fountains, .int g_people, .int 0, .int g_reports, .ref a_g_kinds, .ref a_g_squares, .ref a_g_voices, .ref a_g_tellers, .ref a_g_listeners, .ref a_g_witnesses, .ref a_g_claims]))] := hD
    refine lv_iload_n hx hb dX10_clears_20 rfl (lv_at hl 0 rfl) ?_
    subst hQF
    have hP9 := hP
    have hD9 := hD
    exact W.iret (v := g_tellings) hx hb hr (fun t ht hW => ⟨⟨g_tellings, (h_bads, 0, g_reports), rfl, trivial, by rw [ht]; exact hP9, hD9⟩, hS.F ht⟩) hS.2.2 dX10_clears_21
